/-! what is asked of hours to come: the class's Outlook -/
def cntP (P : Nat → Bool) : Nat → Nat
  | 0 => 0
  | k + 1 => cntP P k + if P k then 1 else 0
def fstP (P : Nat → Bool) (v : Nat → Nat) : Nat → Int32
  | 0 => -2
  | k + 1 => if P k then (if cntP P k = 0 then nI (v k) else fstP P v k) else fstP P v k
theorem cntP_y {P : Nat → Bool} {k : Nat} (h : P k = true) : cntP P (k + 1) = cntP P k + 1 := by rw [cntP, if_pos h]
theorem cntP_n {P : Nat → Bool} {k : Nat} (h : P k = false) : cntP P (k + 1) = cntP P k := by rw [cntP, h]; rfl
theorem fstP_y {P : Nat → Bool} {v : Nat → Nat} {k : Nat} (h : P k = true) : fstP P v (k + 1) = if cntP P k = 0 then nI (v k) else fstP P v k := by rw [fstP, if_pos h]
theorem fstP_n {P : Nat → Bool} {v : Nat → Nat} {k : Nat} (h : P k = false) : fstP P v (k + 1) = fstP P v k := by rw [fstP, h]; rfl
theorem cntP_le (P : Nat → Bool) : ∀ k, cntP P k ≤ k
  | 0 => Nat.le_refl _
  | k + 1 => by rw [cntP]; have := cntP_le P k; split <;> omega
theorem pop_bit : ∀ k, k < 10 → ∀ x, x < 2 ^ k → pop 10 (x + 2 ^ k) = pop 10 x + 1 := by decide +kernel
theorem pop_bts (P : Nat → Bool) : ∀ n, n ≤ 10 → popc (bts P n) = cntP P n
  | 0, _ => show pop 10 0 = 0 by decide
  | k + 1, h => by
    have ih := pop_bts P k (by omega)
    rw [bts, cntP, ← ih]
    by_cases hp : P k
    · rw [if_pos hp, if_pos hp]
      exact pop_bit k (by omega) _ (bts_lt P k)
    · rw [if_neg hp, if_neg hp]; rfl
def onW (n : Nat) (b : Nat → Nat) : Nat := popc (bts (fun q => decide (b (7 + q) ≠ 0)) n)
def fO (I I' : pI) : Prop := ∀ a, a ≠ 11 → a ≠ 19 → ¬ (41 ≤ a ∧ a ≤ 50) → I' a = I a
theorem fO.trans {I I' I2 : pI} (h1 : fO I I') (h2 : fO I' I2) : fO I I2 := fun a q1 q2 q3 => by rw [h2 a q1 q2 q3, h1 a q1 q2 q3]
def lI (k : Nat) : Int64 := (nI k).toInt64
set_option maxRecDepth 100000 in
set_option maxHeartbeats 2000000 in
theorem x_ownerBehind {d n N : Nat} {pc b : Nat → Nat} {E : (Nat → Int32) → Nat} {I : pI} {J : pJ} (hM : XM I 1 n pc b) (hW : WF n pc b) (hE : XE I 9 E) (hN : N ≤ 99) : PC SX (d + 7) yX3_ownerBehind cX3_ownerBehind 3 (some .int) [.ref 40, .int (nI N)] (I) (J) (RX) (fun r' I' J' R' => r' = some (.int (nI (hrs n pc E N b 29))) ∧ XN I' J' [lI (cdn n pc E b N), lI (onW n (hrs n pc E N b))] ∧ fO I I' ∧ R' = RX) := by
  refine PC.of [some (.ref 40), some (.int (nI N)), none] rfl rfl (Nat.le_of_ble_eq_true rfl) ?_
  refine pw_aload_n 1 rfl dX3_ownerBehind_0 rfl ?_
  refine pw_getR 4 rfl dX3_ownerBehind_1 fX3_12 (by first | rfl | assumption | exact rowS hh | exact mtS hm | exact ruS hr | exact mtA1 hm | exact mtA2 hm | exact mtA3 hm | exact mtA4 hm | exact mtA5 hm | exact mtA6 hm | exact mtA7 hm | exact ruA1 hr | exact ruA2 hr | exact ruA3 hr) rfl (by first | rfl | assumption | exact mtR0 hm | exact mtR1 hm | exact mtR2 hm | exact mtR3 hm | exact mtR4 hm | exact mtR5 hm | exact mtR6 hm | exact ruR0 hr | exact ruR1 hr | exact ruR3 hr) ?_
  refine pw_aload_n 5 rfl dX3_ownerBehind_4 rfl ?_
  refine pw_getR 8 rfl dX3_ownerBehind_5 fX3_25 (by first | rfl | assumption | exact rowS hh | exact mtS hm | exact ruS hr | exact mtA1 hm | exact mtA2 hm | exact mtA3 hm | exact mtA4 hm | exact mtA5 hm | exact mtA6 hm | exact mtA7 hm | exact ruA1 hr | exact ruA2 hr | exact ruA3 hr) rfl (by first | rfl | assumption | exact mtR0 hm | exact mtR1 hm | exact mtR2 hm | exact mtR3 hm | exact mtR4 hm | exact mtR5 hm | exact mtR6 hm | exact ruR0 hr | exact ruR1 hr | exact ruR3 hr) ?_
  refine pw_callV (as := [_]) 11 rfl dX3_ownerBehind_8 mX3_36 vX1_copyFrom (x_copyFrom (d := d) (Or.inl rfl) hM) (by first | rfl | assumption | exact rowS hh | exact mtS hm | exact ruS hr | exact mtA1 hm | exact mtA2 hm | exact mtA3 hm | exact mtA4 hm | exact mtA5 hm | exact mtA6 hm | exact mtA7 hm | exact ruA1 hr | exact ruA2 hr | exact ruA3 hr) rfl (by decide) ⟨rfl, by decide, by decide, show (parseMethodDescriptor yX1_copyFrom.desc).map (fun d => d.parameters.length) = some 1 by decide +kernel⟩ (by omega) (by decide) (Nat.le_of_ble_eq_true rfl) rfl (fun r8 I8 J8 R8 c8 => ?_)
  obtain ⟨rfl, a1, a2, a3, rfl, rfl⟩ := c8; have e8 := XE_fr hE (a3 9 (by omega)) (a3 10 (by omega))
  refine pw_aload_n 12 rfl dX3_ownerBehind_11 rfl ?_
  refine pw_getR 15 rfl dX3_ownerBehind_12 fX3_12 (by first | rfl | assumption | exact rowS hh | exact mtS hm | exact ruS hr | exact mtA1 hm | exact mtA2 hm | exact mtA3 hm | exact mtA4 hm | exact mtA5 hm | exact mtA6 hm | exact mtA7 hm | exact ruA1 hr | exact ruA2 hr | exact ruA3 hr) rfl (by first | rfl | assumption | exact mtR0 hm | exact mtR1 hm | exact mtR2 hm | exact mtR3 hm | exact mtR4 hm | exact mtR5 hm | exact mtR6 hm | exact ruR0 hr | exact ruR1 hr | exact ruR3 hr) ?_
  refine pw_aload_n 16 rfl dX3_ownerBehind_15 rfl ?_
  refine pw_getR 19 rfl dX3_ownerBehind_16 fX3_28 (by first | rfl | assumption | exact rowS hh | exact mtS hm | exact ruS hr | exact mtA1 hm | exact mtA2 hm | exact mtA3 hm | exact mtA4 hm | exact mtA5 hm | exact mtA6 hm | exact mtA7 hm | exact ruA1 hr | exact ruA2 hr | exact ruA3 hr) rfl (by first | rfl | assumption | exact mtR0 hm | exact mtR1 hm | exact mtR2 hm | exact mtR3 hm | exact mtR4 hm | exact mtR5 hm | exact mtR6 hm | exact ruR0 hr | exact ruR1 hr | exact ruR3 hr) ?_
  refine pw_iload_n 20 rfl dX3_ownerBehind_19 rfl ?_
  refine pw_callV (as := [_, _]) 23 rfl dX3_ownerBehind_20 mX3_40 vX1_passHours (x_passHours (d := d) (Or.inr (Or.inl rfl)) (Or.inl rfl) a1 hW e8 (by omega)) (by first | rfl | assumption | exact rowS hh | exact mtS hm | exact ruS hr | exact mtA1 hm | exact mtA2 hm | exact mtA3 hm | exact mtA4 hm | exact mtA5 hm | exact mtA6 hm | exact mtA7 hm | exact ruA1 hr | exact ruA2 hr | exact ruA3 hr) rfl (by decide) ⟨rfl, by decide, by decide, show (parseMethodDescriptor yX1_passHours.desc).map (fun d => d.parameters.length) = some 2 by decide +kernel⟩ (by omega) (by decide) (Nat.le_of_ble_eq_true rfl) rfl (fun r20 I20 J20 R20 c20 => ?_)
  obtain ⟨rfl, b1, b2, b3, rfl, rfl⟩ := c20
  refine pw_istore_n 24 rfl dX3_ownerBehind_23 (by decide) ?_
  refine pw_aload_n 25 rfl dX3_ownerBehind_24 rfl ?_
  refine pw_getR 28 rfl dX3_ownerBehind_25 fX3_32 (by first | rfl | assumption | exact rowS hh | exact mtS hm | exact ruS hr | exact mtA1 hm | exact mtA2 hm | exact mtA3 hm | exact mtA4 hm | exact mtA5 hm | exact mtA6 hm | exact mtA7 hm | exact ruA1 hr | exact ruA2 hr | exact ruA3 hr) rfl (by first | rfl | assumption | exact mtR0 hm | exact mtR1 hm | exact mtR2 hm | exact mtR3 hm | exact mtR4 hm | exact mtR5 hm | exact mtR6 hm | exact ruR0 hr | exact ruR1 hr | exact ruR3 hr) ?_
  refine pw_iload_n 29 rfl dX3_ownerBehind_28 rfl ?_
  refine pw_i2l 30 rfl dX3_ownerBehind_29 ?_
  refine pw_aload_n 31 rfl dX3_ownerBehind_30 rfl ?_
  refine pw_getR 34 rfl dX3_ownerBehind_31 fX3_12 (by first | rfl | assumption | exact rowS hh | exact mtS hm | exact ruS hr | exact mtA1 hm | exact mtA2 hm | exact mtA3 hm | exact mtA4 hm | exact mtA5 hm | exact mtA6 hm | exact mtA7 hm | exact ruA1 hr | exact ruA2 hr | exact ruA3 hr) rfl (by first | rfl | assumption | exact mtR0 hm | exact mtR1 hm | exact mtR2 hm | exact mtR3 hm | exact mtR4 hm | exact mtR5 hm | exact mtR6 hm | exact ruR0 hr | exact ruR1 hr | exact ruR3 hr) ?_
  refine pw_callVP (as := []) 37 rfl dX3_ownerBehind_34 mX3_44 vX1_howManyOnWay (x_howManyOnWay (d := d) (Or.inr (Or.inl rfl)) b1 (WF_hrs E hW N)) (by first | rfl | assumption | exact rowS hh | exact mtS hm | exact ruS hr | exact mtA1 hm | exact mtA2 hm | exact mtA3 hm | exact mtA4 hm | exact mtA5 hm | exact mtA6 hm | exact mtA7 hm | exact ruA1 hr | exact ruA2 hr | exact ruA3 hr) rfl (by decide) ⟨rfl, by decide, by decide, show (parseMethodDescriptor yX1_howManyOnWay.desc).map (fun d => d.parameters.length) = some 0 by decide +kernel⟩ (by omega) (by decide) (Nat.le_of_ble_eq_true rfl) rfl ?_
  refine pw_i2l 38 rfl dX3_ownerBehind_37 ?_
  refine pw_callV (as := [_, _]) 41 rfl dX3_ownerBehind_38 mX3_48 vX2_tellTwo (x_tellTwo (d := d) _ _) (by first | rfl | assumption | exact rowS hh | exact mtS hm | exact ruS hr | exact mtA1 hm | exact mtA2 hm | exact mtA3 hm | exact mtA4 hm | exact mtA5 hm | exact mtA6 hm | exact mtA7 hm | exact ruA1 hr | exact ruA2 hr | exact ruA3 hr) rfl (by decide) ⟨rfl, by decide, by decide, show (parseMethodDescriptor yX2_tellTwo.desc).map (fun d => d.parameters.length) = some 2 by decide +kernel⟩ (by omega) (by decide) (Nat.le_of_ble_eq_true rfl) rfl (fun r38 I38 J38 R38 c38 => ?_)
  obtain ⟨rfl, n1, n2, rfl⟩ := c38
  rotate_left
  refine pw_aload_n 42 rfl dX3_ownerBehind_41 rfl ?_
  refine pw_getR 45 rfl dX3_ownerBehind_42 fX3_12 (by first | rfl | assumption | exact rowS hh | exact mtS hm | exact ruS hr | exact mtA1 hm | exact mtA2 hm | exact mtA3 hm | exact mtA4 hm | exact mtA5 hm | exact mtA6 hm | exact mtA7 hm | exact ruA1 hr | exact ruA2 hr | exact ruA3 hr) rfl (by first | rfl | assumption | exact mtR0 hm | exact mtR1 hm | exact mtR2 hm | exact mtR3 hm | exact mtR4 hm | exact mtR5 hm | exact mtR6 hm | exact ruR0 hr | exact ruR1 hr | exact ruR3 hr) ?_
  refine pw_getI 48 rfl dX3_ownerBehind_45 fX3_54 (by first | rfl | assumption | exact rowS hh | exact mtS hm | exact ruS hr | exact mtA1 hm | exact mtA2 hm | exact mtA3 hm | exact mtA4 hm | exact mtA5 hm | exact mtA6 hm | exact mtA7 hm | exact ruA1 hr | exact ruA2 hr | exact ruA3 hr) rfl ?_
  refine pw_iret dX3_ownerBehind_48 rfl ?_
  rotate_left
  refine ⟨?_, n1, fun a h1 h2 h3 => by rw [n2 a h2, b3 a h1 (by omega), a3 a (by omega)], rfl⟩
  rw [n2 43 (by omega), b1.2.2.2.1]
set_option maxRecDepth 100000 in
set_option maxHeartbeats 2000000 in
theorem x_firstOwned {d n q : Nat} {pc b : Nat → Nat} {E : (Nat → Int32) → Nat} {I : pI} {J : pJ} {rw : List Int64} (hM : XM I 1 n pc b) (hW : WF n pc b) (hE : XE I 9 E) (hq : q < 7) (hN : XN I J rw) : PC SX (d + 6) yX3_firstOwned cX3_firstOwned 5 (some .int) [.ref 40, .int (nI q)] (I) (J) (RX) (fun r' I' J' R' => r' = some (.int (fstP (fun k => decide (hrs n pc E k b 29 = q)) id 100)) ∧ XN I' J' (if cntP (fun k => decide (hrs n pc E k b 29 = q)) 100 = 0 then rw else [lI (cntP (fun k => decide (hrs n pc E k b 29 = q)) 100)]) ∧ fO I I' ∧ R' = RX) := by
  refine PC.of [some (.ref 40), some (.int (nI q)), none, none, none] rfl rfl (Nat.le_of_ble_eq_true rfl) ?_
  refine pw_aload_n 1 rfl dX3_firstOwned_0 rfl ?_
  refine pw_getR 4 rfl dX3_firstOwned_1 fX3_12 (by first | rfl | assumption | exact rowS hh | exact mtS hm | exact ruS hr | exact mtA1 hm | exact mtA2 hm | exact mtA3 hm | exact mtA4 hm | exact mtA5 hm | exact mtA6 hm | exact mtA7 hm | exact ruA1 hr | exact ruA2 hr | exact ruA3 hr) rfl (by first | rfl | assumption | exact mtR0 hm | exact mtR1 hm | exact mtR2 hm | exact mtR3 hm | exact mtR4 hm | exact mtR5 hm | exact mtR6 hm | exact ruR0 hr | exact ruR1 hr | exact ruR3 hr) ?_
  refine pw_aload_n 5 rfl dX3_firstOwned_4 rfl ?_
  refine pw_getR 8 rfl dX3_firstOwned_5 fX3_25 (by first | rfl | assumption | exact rowS hh | exact mtS hm | exact ruS hr | exact mtA1 hm | exact mtA2 hm | exact mtA3 hm | exact mtA4 hm | exact mtA5 hm | exact mtA6 hm | exact mtA7 hm | exact ruA1 hr | exact ruA2 hr | exact ruA3 hr) rfl (by first | rfl | assumption | exact mtR0 hm | exact mtR1 hm | exact mtR2 hm | exact mtR3 hm | exact mtR4 hm | exact mtR5 hm | exact mtR6 hm | exact ruR0 hr | exact ruR1 hr | exact ruR3 hr) ?_
  refine pw_callV (as := [_]) 11 rfl dX3_firstOwned_8 mX3_36 vX1_copyFrom (x_copyFrom (d := d) (Or.inl rfl) hM) (by first | rfl | assumption | exact rowS hh | exact mtS hm | exact ruS hr | exact mtA1 hm | exact mtA2 hm | exact mtA3 hm | exact mtA4 hm | exact mtA5 hm | exact mtA6 hm | exact mtA7 hm | exact ruA1 hr | exact ruA2 hr | exact ruA3 hr) rfl (by decide) ⟨rfl, by decide, by decide, show (parseMethodDescriptor yX1_copyFrom.desc).map (fun d => d.parameters.length) = some 1 by decide +kernel⟩ (by omega) (by decide) (Nat.le_of_ble_eq_true rfl) rfl (fun r8 I8 J8 R8 c8 => ?_)
  obtain ⟨rfl, a1, a2, a3, rfl, rfl⟩ := c8; have e8 := XE_fr hE (a3 9 (by omega)) (a3 10 (by omega))
  refine pw_bipush (v := -2) 13 rfl dX3_firstOwned_11 rfl ?_
  refine pw_istore_n 14 rfl dX3_firstOwned_13 (by decide) ?_
  refine pw_iconst (v := nI 0) 15 rfl dX3_firstOwned_14 rfl ?_
  refine pw_istore_n 16 rfl dX3_firstOwned_15 (by decide) ?_
  refine pw_iconst (v := nI 0) 17 rfl dX3_firstOwned_16 rfl ?_
  refine pw_istore 19 rfl dX3_firstOwned_17 (by decide) ?_
  rotate_left
  have L := nat_loop 100 (fun t => ∀ (I' : pI), XM I' 43 n pc (hrs n pc E (t - 1) b) → XE I' 9 E → (∀ a, a ≠ 11 → ¬ (43 ≤ a ∧ a ≤ 50) → I' a = I a) → PW SX yX3_firstOwned.cls cX3_firstOwned 5 (d + 6) 19 [some (.ref 40), some (.int (nI q)), some (.int (fstP (fun k => decide (hrs n pc E k b 29 = q)) id t)), some (.int (nI (cntP (fun k => decide (hrs n pc E k b 29 = q)) t))), some (.int (nI t))] [] (I') (J) (RX) (rX cX3_firstOwned (some .int) (fun r' I' J' R' => r' = some (.int (fstP (fun k => decide (hrs n pc E k b 29 = q)) id 100)) ∧ XN I' J' (if cntP (fun k => decide (hrs n pc E k b 29 = q)) 100 = 0 then rw else [lI (cntP (fun k => decide (hrs n pc E k b 29 = q)) 100)]) ∧ fO I I' ∧ R' = RX))) ?_ ?_
  · exact L _ a1 e8 (fun a h1 h2 => a3 a h2)
  · intro I' g1 g2 g3
    have hN' : XN I' J rw := XN_fr hN (g3 19 (by omega) (by omega))
    have hc := cntP_le (fun k => decide (hrs n pc E k b 29 = q)) 100
    by_cases h0 : cntP (fun k => decide (hrs n pc E k b 29 = q)) 100 = 0
    · rw [if_pos h0]
      refine pw_iload 21 rfl dX3_firstOwned_19 rfl ?_
      refine pw_bipush (v := nI 99) 23 rfl dX3_firstOwned_21 rfl ?_
      refine pw_icmp_gt (tgt := 73) 26 rfl dX3_firstOwned_23 rfl (fun h23 => ?_) (fun h23 => absurd (by (simp (disch := omega) only [nI_leI, nI_ltI, nI_eq, show (0 : Int32) = nI 0 from rfl, not_true_eq_false, not_false_eq_true] <;> omega)) h23)
      refine pw_iload_n 74 rfl dX3_firstOwned_73 rfl ?_
      refine pw_if_le (tgt := 86) 77 rfl dX3_firstOwned_74 rfl (fun h74 => ?_) (fun h74 => absurd (by rw [h0]; decide) h74)
      refine pw_iload_n 87 rfl dX3_firstOwned_86 rfl ?_
      refine pw_iret dX3_firstOwned_87 rfl ?_
      rotate_left
      exact ⟨rfl, hN', fun a h1 h2 h3 => g3 a h1 (by omega), rfl⟩
    · rw [if_neg h0]
      refine pw_iload 21 rfl dX3_firstOwned_19 rfl ?_
      refine pw_bipush (v := nI 99) 23 rfl dX3_firstOwned_21 rfl ?_
      refine pw_icmp_gt (tgt := 73) 26 rfl dX3_firstOwned_23 rfl (fun h23 => ?_) (fun h23 => absurd (by (simp (disch := omega) only [nI_leI, nI_ltI, nI_eq, show (0 : Int32) = nI 0 from rfl, not_true_eq_false, not_false_eq_true] <;> omega)) h23)
      refine pw_iload_n 74 rfl dX3_firstOwned_73 rfl ?_
      refine pw_if_le (tgt := 86) 77 rfl dX3_firstOwned_74 rfl (fun h74 => absurd h74 (nI_nle (by omega) (by omega))) (fun h74 => ?_)
      refine pw_aload_n 78 rfl dX3_firstOwned_77 rfl ?_
      refine pw_getR 81 rfl dX3_firstOwned_78 fX3_32 (by first | rfl | assumption | exact rowS hh | exact mtS hm | exact ruS hr | exact mtA1 hm | exact mtA2 hm | exact mtA3 hm | exact mtA4 hm | exact mtA5 hm | exact mtA6 hm | exact mtA7 hm | exact ruA1 hr | exact ruA2 hr | exact ruA3 hr) rfl (by first | rfl | assumption | exact mtR0 hm | exact mtR1 hm | exact mtR2 hm | exact mtR3 hm | exact mtR4 hm | exact mtR5 hm | exact mtR6 hm | exact ruR0 hr | exact ruR1 hr | exact ruR3 hr) ?_
      refine pw_iload_n 82 rfl dX3_firstOwned_81 rfl ?_
      refine pw_i2l 83 rfl dX3_firstOwned_82 ?_
      refine pw_callV (as := [_]) 86 rfl dX3_firstOwned_83 mX3_62 vX2_tellOne (x_tellOne (d := d) _) (by first | rfl | assumption | exact rowS hh | exact mtS hm | exact ruS hr | exact mtA1 hm | exact mtA2 hm | exact mtA3 hm | exact mtA4 hm | exact mtA5 hm | exact mtA6 hm | exact mtA7 hm | exact ruA1 hr | exact ruA2 hr | exact ruA3 hr) rfl (by decide) ⟨rfl, by decide, by decide, show (parseMethodDescriptor yX2_tellOne.desc).map (fun d => d.parameters.length) = some 1 by decide +kernel⟩ (by omega) (by decide) (Nat.le_of_ble_eq_true rfl) rfl (fun r83 I83 J83 R83 c83 => ?_)
      obtain ⟨rfl, n1, n2, rfl⟩ := c83
      rotate_left
      refine pw_iload_n 87 rfl dX3_firstOwned_86 rfl ?_
      refine pw_iret dX3_firstOwned_87 rfl ?_
      rotate_left
      exact ⟨rfl, n1, fun a h1 h2 h3 => by rw [n2 a h2, g3 a h1 (by omega)], rfl⟩
  · intro t ht ih I' g1 g2 g3
    have hWt := WF_hrs E hW t
    have hc := cntP_le (fun k => decide (hrs n pc E k b 29 = q)) t
    have tail : ∀ (I' : pI), XM I' 43 n pc (hrs n pc E t b) → XE I' 9 E → (∀ a, a ≠ 11 → ¬ (43 ≤ a ∧ a ≤ 50) → I' a = I a) → PW SX yX3_firstOwned.cls cX3_firstOwned 5 (d + 6) 42 [some (.ref 40), some (.int (nI q)), some (.int (fstP (fun k => decide (hrs n pc E k b 29 = q)) id t)), some (.int (nI (cntP (fun k => decide (hrs n pc E k b 29 = q)) t))), some (.int (nI t))] [] (I') (J) (RX) (rX cX3_firstOwned (some .int) (fun r' I' J' R' => r' = some (.int (fstP (fun k => decide (hrs n pc E k b 29 = q)) id 100)) ∧ XN I' J' (if cntP (fun k => decide (hrs n pc E k b 29 = q)) 100 = 0 then rw else [lI (cntP (fun k => decide (hrs n pc E k b 29 = q)) 100)]) ∧ fO I I' ∧ R' = RX)) := by
      intro I' g1 g2 g3
      have ih' := ih I' g1 g2 g3
      have hO := hWt.2.2.1
      have h7 := hW.1
      by_cases hp : hrs n pc E t b 29 = q
      · rw [fstP_y (decide_eq_true hp), cntP_y (decide_eq_true hp)] at ih'
        by_cases h0 : cntP (fun k => decide (hrs n pc E k b 29 = q)) t = 0
        · rw [if_pos h0] at ih'
          refine pw_aload_n 43 rfl dX3_firstOwned_42 rfl ?_
          refine pw_getR 46 rfl dX3_firstOwned_43 fX3_12 (by first | rfl | assumption | exact rowS hh | exact mtS hm | exact ruS hr | exact mtA1 hm | exact mtA2 hm | exact mtA3 hm | exact mtA4 hm | exact mtA5 hm | exact mtA6 hm | exact mtA7 hm | exact ruA1 hr | exact ruA2 hr | exact ruA3 hr) rfl (by first | rfl | assumption | exact mtR0 hm | exact mtR1 hm | exact mtR2 hm | exact mtR3 hm | exact mtR4 hm | exact mtR5 hm | exact mtR6 hm | exact ruR0 hr | exact ruR1 hr | exact ruR3 hr) ?_
          refine pw_getI 49 rfl dX3_firstOwned_46 fX3_54 (by first | rfl | assumption | exact rowS hh | exact mtS hm | exact ruS hr | exact mtA1 hm | exact mtA2 hm | exact mtA3 hm | exact mtA4 hm | exact mtA5 hm | exact mtA6 hm | exact mtA7 hm | exact ruA1 hr | exact ruA2 hr | exact ruA3 hr) rfl ?_
          refine pw_iload_n 50 rfl dX3_firstOwned_49 rfl ?_
          refine pw_icmp_ne (tgt := 67) 53 rfl dX3_firstOwned_50 rfl (fun h50 => absurd (by rw [g1.2.2.2.1, hp]) h50) (fun h50 => ?_)
          refine pw_iload_n 54 rfl dX3_firstOwned_53 rfl ?_
          refine pw_if_ne (tgt := 62) 57 rfl dX3_firstOwned_54 rfl (fun h54 => absurd (by rw [h0]; rfl) h54) (fun h54 => ?_)
          refine pw_iload 59 rfl dX3_firstOwned_57 rfl ?_
          refine pw_goto (tgt := 63) dX3_firstOwned_59 rfl ?_
          refine pw_istore_n 64 rfl dX3_firstOwned_63 (by decide) ?_
          refine pw_iincN 67 rfl dX3_firstOwned_64 (by decide) rfl ?_
          refine pw_iincN 70 rfl dX3_firstOwned_67 (by decide) rfl ?_
          refine pw_goto (tgt := 19) dX3_firstOwned_70 rfl ?_
          rotate_left
          exact ih'
        · rw [if_neg h0] at ih'
          refine pw_aload_n 43 rfl dX3_firstOwned_42 rfl ?_
          refine pw_getR 46 rfl dX3_firstOwned_43 fX3_12 (by first | rfl | assumption | exact rowS hh | exact mtS hm | exact ruS hr | exact mtA1 hm | exact mtA2 hm | exact mtA3 hm | exact mtA4 hm | exact mtA5 hm | exact mtA6 hm | exact mtA7 hm | exact ruA1 hr | exact ruA2 hr | exact ruA3 hr) rfl (by first | rfl | assumption | exact mtR0 hm | exact mtR1 hm | exact mtR2 hm | exact mtR3 hm | exact mtR4 hm | exact mtR5 hm | exact mtR6 hm | exact ruR0 hr | exact ruR1 hr | exact ruR3 hr) ?_
          refine pw_getI 49 rfl dX3_firstOwned_46 fX3_54 (by first | rfl | assumption | exact rowS hh | exact mtS hm | exact ruS hr | exact mtA1 hm | exact mtA2 hm | exact mtA3 hm | exact mtA4 hm | exact mtA5 hm | exact mtA6 hm | exact mtA7 hm | exact ruA1 hr | exact ruA2 hr | exact ruA3 hr) rfl ?_
          refine pw_iload_n 50 rfl dX3_firstOwned_49 rfl ?_
          refine pw_icmp_ne (tgt := 67) 53 rfl dX3_firstOwned_50 rfl (fun h50 => absurd (by rw [g1.2.2.2.1, hp]) h50) (fun h50 => ?_)
          refine pw_iload_n 54 rfl dX3_firstOwned_53 rfl ?_
          refine pw_if_ne (tgt := 62) 57 rfl dX3_firstOwned_54 rfl (fun h54 => ?_) (fun h54 => absurd h54 (nI_ne0 (by omega) (by omega)))
          refine pw_iload_n 63 rfl dX3_firstOwned_62 rfl ?_
          refine pw_istore_n 64 rfl dX3_firstOwned_63 (by decide) ?_
          refine pw_iincN 67 rfl dX3_firstOwned_64 (by decide) rfl ?_
          refine pw_iincN 70 rfl dX3_firstOwned_67 (by decide) rfl ?_
          refine pw_goto (tgt := 19) dX3_firstOwned_70 rfl ?_
          rotate_left
          exact ih'
      · rw [fstP_n (decide_eq_false hp), cntP_n (decide_eq_false hp)] at ih'
        refine pw_aload_n 43 rfl dX3_firstOwned_42 rfl ?_
        refine pw_getR 46 rfl dX3_firstOwned_43 fX3_12 (by first | rfl | assumption | exact rowS hh | exact mtS hm | exact ruS hr | exact mtA1 hm | exact mtA2 hm | exact mtA3 hm | exact mtA4 hm | exact mtA5 hm | exact mtA6 hm | exact mtA7 hm | exact ruA1 hr | exact ruA2 hr | exact ruA3 hr) rfl (by first | rfl | assumption | exact mtR0 hm | exact mtR1 hm | exact mtR2 hm | exact mtR3 hm | exact mtR4 hm | exact mtR5 hm | exact mtR6 hm | exact ruR0 hr | exact ruR1 hr | exact ruR3 hr) ?_
        refine pw_getI 49 rfl dX3_firstOwned_46 fX3_54 (by first | rfl | assumption | exact rowS hh | exact mtS hm | exact ruS hr | exact mtA1 hm | exact mtA2 hm | exact mtA3 hm | exact mtA4 hm | exact mtA5 hm | exact mtA6 hm | exact mtA7 hm | exact ruA1 hr | exact ruA2 hr | exact ruA3 hr) rfl ?_
        refine pw_iload_n 50 rfl dX3_firstOwned_49 rfl ?_
        refine pw_icmp_ne (tgt := 67) 53 rfl dX3_firstOwned_50 rfl (fun h50 => ?_) (fun h50 => absurd h50 (by rw [g1.2.2.2.1, nI_eq (by omega) (by omega)]; exact hp))
        refine pw_iincN 70 rfl dX3_firstOwned_67 (by decide) rfl ?_
        refine pw_goto (tgt := 19) dX3_firstOwned_70 rfl ?_
        rotate_left
        exact ih'
    by_cases h0 : t = 0
    · subst h0
      refine pw_iload 21 rfl dX3_firstOwned_19 rfl ?_
      refine pw_bipush (v := nI 99) 23 rfl dX3_firstOwned_21 rfl ?_
      refine pw_icmp_gt (tgt := 73) 26 rfl dX3_firstOwned_23 rfl (fun h23 => absurd h23 (by (simp (disch := omega) only [nI_leI, nI_ltI, nI_eq, show (0 : Int32) = nI 0 from rfl, not_true_eq_false, not_false_eq_true] <;> omega))) (fun h23 => ?_)
      refine pw_iload 28 rfl dX3_firstOwned_26 rfl ?_
      refine pw_if_le (tgt := 42) 31 rfl dX3_firstOwned_28 rfl (fun h28 => ?_) (fun h28 => absurd (by decide) h28)
      rotate_left
      exact tail I' g1 g2 g3
    · refine pw_iload 21 rfl dX3_firstOwned_19 rfl ?_
      refine pw_bipush (v := nI 99) 23 rfl dX3_firstOwned_21 rfl ?_
      refine pw_icmp_gt (tgt := 73) 26 rfl dX3_firstOwned_23 rfl (fun h23 => absurd h23 (by (simp (disch := omega) only [nI_leI, nI_ltI, nI_eq, show (0 : Int32) = nI 0 from rfl, not_true_eq_false, not_false_eq_true] <;> omega))) (fun h23 => ?_)
      refine pw_iload 28 rfl dX3_firstOwned_26 rfl ?_
      refine pw_if_le (tgt := 42) 31 rfl dX3_firstOwned_28 rfl (fun h28 => absurd h28 (nI_nle (by omega) (by omega))) (fun h28 => ?_)
      refine pw_aload_n 32 rfl dX3_firstOwned_31 rfl ?_
      refine pw_getR 35 rfl dX3_firstOwned_32 fX3_12 (by first | rfl | assumption | exact rowS hh | exact mtS hm | exact ruS hr | exact mtA1 hm | exact mtA2 hm | exact mtA3 hm | exact mtA4 hm | exact mtA5 hm | exact mtA6 hm | exact mtA7 hm | exact ruA1 hr | exact ruA2 hr | exact ruA3 hr) rfl (by first | rfl | assumption | exact mtR0 hm | exact mtR1 hm | exact mtR2 hm | exact mtR3 hm | exact mtR4 hm | exact mtR5 hm | exact mtR6 hm | exact ruR0 hr | exact ruR1 hr | exact ruR3 hr) ?_
      refine pw_aload_n 36 rfl dX3_firstOwned_35 rfl ?_
      refine pw_getR 39 rfl dX3_firstOwned_36 fX3_28 (by first | rfl | assumption | exact rowS hh | exact mtS hm | exact ruS hr | exact mtA1 hm | exact mtA2 hm | exact mtA3 hm | exact mtA4 hm | exact mtA5 hm | exact mtA6 hm | exact mtA7 hm | exact ruA1 hr | exact ruA2 hr | exact ruA3 hr) rfl (by first | rfl | assumption | exact mtR0 hm | exact mtR1 hm | exact mtR2 hm | exact mtR3 hm | exact mtR4 hm | exact mtR5 hm | exact mtR6 hm | exact ruR0 hr | exact ruR1 hr | exact ruR3 hr) ?_
      refine pw_callV (as := [_]) 42 rfl dX3_firstOwned_39 mX3_58 vX1_passHour (x_hour (d := d) (Or.inr (Or.inl rfl)) (Or.inl rfl) g1 (WF_hrs E hW _) g2) (by first | rfl | assumption | exact rowS hh | exact mtS hm | exact ruS hr | exact mtA1 hm | exact mtA2 hm | exact mtA3 hm | exact mtA4 hm | exact mtA5 hm | exact mtA6 hm | exact mtA7 hm | exact ruA1 hr | exact ruA2 hr | exact ruA3 hr) rfl (by decide) ⟨rfl, by decide, by decide, show (parseMethodDescriptor yX1_passHour.desc).map (fun d => d.parameters.length) = some 1 by decide +kernel⟩ (by omega) (by decide) (Nat.le_of_ble_eq_true rfl) rfl (fun r39 I39 J39 R39 c39 => ?_)
      obtain ⟨rfl, b1, b2, b3, b4, b5, rfl, rfl⟩ := c39
      rotate_left
      refine tail _ ?_ b2 (fun a h1 h2 => by rw [b5 a h1 (by omega), g3 a h1 h2])
      have : hrs n pc E t b = hr n pc E (hrs n pc E (t - 1) b) := by
        obtain ⟨t', rfl⟩ : ∃ t', t = t' + 1 := ⟨t - 1, by omega⟩
        rfl
      rw [this]
      exact b1
set_option maxRecDepth 100000 in
set_option maxHeartbeats 2000000 in
theorem x_firstEmpty {d n : Nat} {pc b : Nat → Nat} {E : (Nat → Int32) → Nat} {I : pI} {J : pJ} {rw : List Int64} (hM : XM I 1 n pc b) (hW : WF n pc b) (hE : XE I 9 E) (hN : XN I J rw) : PC SX (d + 6) yX3_firstEmpty cX3_firstEmpty 2 (some .int) [.ref 40] (I) (J) (RX) (fun r' I' J' R' => ((∃ t, t < 100 ∧ (∀ k, k < t → bts (fun q => decide (hrs n pc E k b (7 + q) ≠ 0)) n ≠ 0) ∧ bts (fun q => decide (hrs n pc E t b (7 + q) ≠ 0)) n = 0 ∧ r' = some (.int (nI t)) ∧ XN I' J' [lI (hrs n pc E t b 29)]) ∨ ((∀ k, k < 100 → bts (fun q => decide (hrs n pc E k b (7 + q) ≠ 0)) n ≠ 0) ∧ r' = some (.int (-2)) ∧ XN I' J' rw)) ∧ fO I I' ∧ R' = RX) := by
  refine PC.of [some (.ref 40), none] rfl rfl (Nat.le_of_ble_eq_true rfl) ?_
  refine pw_aload_n 1 rfl dX3_firstEmpty_0 rfl ?_
  refine pw_getR 4 rfl dX3_firstEmpty_1 fX3_12 (by first | rfl | assumption | exact rowS hh | exact mtS hm | exact ruS hr | exact mtA1 hm | exact mtA2 hm | exact mtA3 hm | exact mtA4 hm | exact mtA5 hm | exact mtA6 hm | exact mtA7 hm | exact ruA1 hr | exact ruA2 hr | exact ruA3 hr) rfl (by first | rfl | assumption | exact mtR0 hm | exact mtR1 hm | exact mtR2 hm | exact mtR3 hm | exact mtR4 hm | exact mtR5 hm | exact mtR6 hm | exact ruR0 hr | exact ruR1 hr | exact ruR3 hr) ?_
  refine pw_aload_n 5 rfl dX3_firstEmpty_4 rfl ?_
  refine pw_getR 8 rfl dX3_firstEmpty_5 fX3_25 (by first | rfl | assumption | exact rowS hh | exact mtS hm | exact ruS hr | exact mtA1 hm | exact mtA2 hm | exact mtA3 hm | exact mtA4 hm | exact mtA5 hm | exact mtA6 hm | exact mtA7 hm | exact ruA1 hr | exact ruA2 hr | exact ruA3 hr) rfl (by first | rfl | assumption | exact mtR0 hm | exact mtR1 hm | exact mtR2 hm | exact mtR3 hm | exact mtR4 hm | exact mtR5 hm | exact mtR6 hm | exact ruR0 hr | exact ruR1 hr | exact ruR3 hr) ?_
  refine pw_callV (as := [_]) 11 rfl dX3_firstEmpty_8 mX3_36 vX1_copyFrom (x_copyFrom (d := d) (Or.inl rfl) hM) (by first | rfl | assumption | exact rowS hh | exact mtS hm | exact ruS hr | exact mtA1 hm | exact mtA2 hm | exact mtA3 hm | exact mtA4 hm | exact mtA5 hm | exact mtA6 hm | exact mtA7 hm | exact ruA1 hr | exact ruA2 hr | exact ruA3 hr) rfl (by decide) ⟨rfl, by decide, by decide, show (parseMethodDescriptor yX1_copyFrom.desc).map (fun d => d.parameters.length) = some 1 by decide +kernel⟩ (by omega) (by decide) (Nat.le_of_ble_eq_true rfl) rfl (fun r8 I8 J8 R8 c8 => ?_)
  obtain ⟨rfl, a1, a2, a3, rfl, rfl⟩ := c8; have e8 := XE_fr hE (a3 9 (by omega)) (a3 10 (by omega))
  refine pw_iconst (v := nI 0) 12 rfl dX3_firstEmpty_11 rfl ?_
  refine pw_istore_n 13 rfl dX3_firstEmpty_12 (by decide) ?_
  rotate_left
  have L := nat_loop 100 (fun t => ∀ (I' : pI), XM I' 43 n pc (hrs n pc E (t - 1) b) → XE I' 9 E → (∀ a, a ≠ 11 → ¬ (43 ≤ a ∧ a ≤ 50) → I' a = I a) → (∀ k, k < t → bts (fun q => decide (hrs n pc E k b (7 + q) ≠ 0)) n ≠ 0) → PW SX yX3_firstEmpty.cls cX3_firstEmpty 2 (d + 6) 13 [some (.ref 40), some (.int (nI t))] [] (I') (J) (RX) (rX cX3_firstEmpty (some .int) (fun r' I' J' R' => ((∃ t, t < 100 ∧ (∀ k, k < t → bts (fun q => decide (hrs n pc E k b (7 + q) ≠ 0)) n ≠ 0) ∧ bts (fun q => decide (hrs n pc E t b (7 + q) ≠ 0)) n = 0 ∧ r' = some (.int (nI t)) ∧ XN I' J' [lI (hrs n pc E t b 29)]) ∨ ((∀ k, k < 100 → bts (fun q => decide (hrs n pc E k b (7 + q) ≠ 0)) n ≠ 0) ∧ r' = some (.int (-2)) ∧ XN I' J' rw)) ∧ fO I I' ∧ R' = RX))) ?_ ?_
  · exact L _ a1 e8 (fun a h1 h2 => a3 a h2) (fun k hk => by omega)
  · intro I' g1 g2 g3 g4
    refine pw_iload_n 14 rfl dX3_firstEmpty_13 rfl ?_
    refine pw_bipush (v := nI 99) 16 rfl dX3_firstEmpty_14 rfl ?_
    refine pw_icmp_gt (tgt := 67) 19 rfl dX3_firstEmpty_16 rfl (fun h16 => ?_) (fun h16 => absurd (by (simp (disch := omega) only [nI_leI, nI_ltI, nI_eq, show (0 : Int32) = nI 0 from rfl, not_true_eq_false, not_false_eq_true] <;> omega)) h16)
    refine pw_bipush (v := -2) 69 rfl dX3_firstEmpty_67 rfl ?_
    refine pw_iret dX3_firstEmpty_69 rfl ?_
    rotate_left
    exact ⟨Or.inr ⟨g4, rfl, XN_fr hN (g3 19 (by omega) (by omega))⟩, fun a h1 h2 h3 => g3 a h1 (by omega), rfl⟩
  · intro t ht ih I' g1 g2 g3 g4
    have hWt := WF_hrs E hW t
    have hlt : bts (fun q => decide (hrs n pc E t b (7 + q) ≠ 0)) n < 1024 := Nat.lt_of_lt_of_le (bts_lt _ n) (Nat.le_trans (Nat.pow_le_pow_right (by decide) hW.1) (by decide))
    have tail : ∀ (I' : pI), XM I' 43 n pc (hrs n pc E t b) → XE I' 9 E → (∀ a, a ≠ 11 → ¬ (43 ≤ a ∧ a ≤ 50) → I' a = I a) → PW SX yX3_firstEmpty.cls cX3_firstEmpty 2 (d + 6) 34 [some (.ref 40), some (.int (nI t))] [] (I') (J) (RX) (rX cX3_firstEmpty (some .int) (fun r' I' J' R' => ((∃ t, t < 100 ∧ (∀ k, k < t → bts (fun q => decide (hrs n pc E k b (7 + q) ≠ 0)) n ≠ 0) ∧ bts (fun q => decide (hrs n pc E t b (7 + q) ≠ 0)) n = 0 ∧ r' = some (.int (nI t)) ∧ XN I' J' [lI (hrs n pc E t b 29)]) ∨ ((∀ k, k < 100 → bts (fun q => decide (hrs n pc E k b (7 + q) ≠ 0)) n ≠ 0) ∧ r' = some (.int (-2)) ∧ XN I' J' rw)) ∧ fO I I' ∧ R' = RX)) := by
      intro I' g1 g2 g3
      by_cases h0 : bts (fun q => decide (hrs n pc E t b (7 + q) ≠ 0)) n = 0
      · refine pw_aload_n 35 rfl dX3_firstEmpty_34 rfl ?_
        refine pw_getR 38 rfl dX3_firstEmpty_35 fX3_12 (by first | rfl | assumption | exact rowS hh | exact mtS hm | exact ruS hr | exact mtA1 hm | exact mtA2 hm | exact mtA3 hm | exact mtA4 hm | exact mtA5 hm | exact mtA6 hm | exact mtA7 hm | exact ruA1 hr | exact ruA2 hr | exact ruA3 hr) rfl (by first | rfl | assumption | exact mtR0 hm | exact mtR1 hm | exact mtR2 hm | exact mtR3 hm | exact mtR4 hm | exact mtR5 hm | exact mtR6 hm | exact ruR0 hr | exact ruR1 hr | exact ruR3 hr) ?_
        refine pw_callVP (as := []) 41 rfl dX3_firstEmpty_38 mX3_89 vX1_bitsOnWay (x_bitsOnWay (d := d) (Or.inr (Or.inl rfl)) g1 hWt) (by first | rfl | assumption | exact rowS hh | exact mtS hm | exact ruS hr | exact mtA1 hm | exact mtA2 hm | exact mtA3 hm | exact mtA4 hm | exact mtA5 hm | exact mtA6 hm | exact mtA7 hm | exact ruA1 hr | exact ruA2 hr | exact ruA3 hr) rfl (by decide) ⟨rfl, by decide, by decide, show (parseMethodDescriptor yX1_bitsOnWay.desc).map (fun d => d.parameters.length) = some 0 by decide +kernel⟩ (by omega) (by decide) (Nat.le_of_ble_eq_true rfl) rfl ?_
        refine pw_if_ne (tgt := 61) 44 rfl dX3_firstEmpty_41 rfl (fun h41 => absurd (by rw [h0]; rfl) h41) (fun h41 => ?_)
        refine pw_aload_n 45 rfl dX3_firstEmpty_44 rfl ?_
        refine pw_getR 48 rfl dX3_firstEmpty_45 fX3_32 (by first | rfl | assumption | exact rowS hh | exact mtS hm | exact ruS hr | exact mtA1 hm | exact mtA2 hm | exact mtA3 hm | exact mtA4 hm | exact mtA5 hm | exact mtA6 hm | exact mtA7 hm | exact ruA1 hr | exact ruA2 hr | exact ruA3 hr) rfl (by first | rfl | assumption | exact mtR0 hm | exact mtR1 hm | exact mtR2 hm | exact mtR3 hm | exact mtR4 hm | exact mtR5 hm | exact mtR6 hm | exact ruR0 hr | exact ruR1 hr | exact ruR3 hr) ?_
        refine pw_aload_n 49 rfl dX3_firstEmpty_48 rfl ?_
        refine pw_getR 52 rfl dX3_firstEmpty_49 fX3_12 (by first | rfl | assumption | exact rowS hh | exact mtS hm | exact ruS hr | exact mtA1 hm | exact mtA2 hm | exact mtA3 hm | exact mtA4 hm | exact mtA5 hm | exact mtA6 hm | exact mtA7 hm | exact ruA1 hr | exact ruA2 hr | exact ruA3 hr) rfl (by first | rfl | assumption | exact mtR0 hm | exact mtR1 hm | exact mtR2 hm | exact mtR3 hm | exact mtR4 hm | exact mtR5 hm | exact mtR6 hm | exact ruR0 hr | exact ruR1 hr | exact ruR3 hr) ?_
        refine pw_getI 55 rfl dX3_firstEmpty_52 fX3_54 (by first | rfl | assumption | exact rowS hh | exact mtS hm | exact ruS hr | exact mtA1 hm | exact mtA2 hm | exact mtA3 hm | exact mtA4 hm | exact mtA5 hm | exact mtA6 hm | exact mtA7 hm | exact ruA1 hr | exact ruA2 hr | exact ruA3 hr) rfl ?_
        refine pw_i2l 56 rfl dX3_firstEmpty_55 ?_
        refine pw_callV (as := [_]) 59 rfl dX3_firstEmpty_56 mX3_62 vX2_tellOne (x_tellOne (d := d) _) (by first | rfl | assumption | exact rowS hh | exact mtS hm | exact ruS hr | exact mtA1 hm | exact mtA2 hm | exact mtA3 hm | exact mtA4 hm | exact mtA5 hm | exact mtA6 hm | exact mtA7 hm | exact ruA1 hr | exact ruA2 hr | exact ruA3 hr) rfl (by decide) ⟨rfl, by decide, by decide, show (parseMethodDescriptor yX2_tellOne.desc).map (fun d => d.parameters.length) = some 1 by decide +kernel⟩ (by omega) (by decide) (Nat.le_of_ble_eq_true rfl) rfl (fun r56 I56 J56 R56 c56 => ?_)
        obtain ⟨rfl, n1, n2, rfl⟩ := c56
        rotate_left
        refine pw_iload_n 60 rfl dX3_firstEmpty_59 rfl ?_
        refine pw_iret dX3_firstEmpty_60 rfl ?_
        rotate_left
        rw [g1.2.2.2.1] at n1
        exact ⟨Or.inl ⟨t, ht, g4, h0, rfl, n1⟩, fun a h1 h2 h3 => by rw [n2 a h2, g3 a h1 (by omega)], rfl⟩
      · refine pw_aload_n 35 rfl dX3_firstEmpty_34 rfl ?_
        refine pw_getR 38 rfl dX3_firstEmpty_35 fX3_12 (by first | rfl | assumption | exact rowS hh | exact mtS hm | exact ruS hr | exact mtA1 hm | exact mtA2 hm | exact mtA3 hm | exact mtA4 hm | exact mtA5 hm | exact mtA6 hm | exact mtA7 hm | exact ruA1 hr | exact ruA2 hr | exact ruA3 hr) rfl (by first | rfl | assumption | exact mtR0 hm | exact mtR1 hm | exact mtR2 hm | exact mtR3 hm | exact mtR4 hm | exact mtR5 hm | exact mtR6 hm | exact ruR0 hr | exact ruR1 hr | exact ruR3 hr) ?_
        refine pw_callVP (as := []) 41 rfl dX3_firstEmpty_38 mX3_89 vX1_bitsOnWay (x_bitsOnWay (d := d) (Or.inr (Or.inl rfl)) g1 hWt) (by first | rfl | assumption | exact rowS hh | exact mtS hm | exact ruS hr | exact mtA1 hm | exact mtA2 hm | exact mtA3 hm | exact mtA4 hm | exact mtA5 hm | exact mtA6 hm | exact mtA7 hm | exact ruA1 hr | exact ruA2 hr | exact ruA3 hr) rfl (by decide) ⟨rfl, by decide, by decide, show (parseMethodDescriptor yX1_bitsOnWay.desc).map (fun d => d.parameters.length) = some 0 by decide +kernel⟩ (by omega) (by decide) (Nat.le_of_ble_eq_true rfl) rfl ?_
        refine pw_if_ne (tgt := 61) 44 rfl dX3_firstEmpty_41 rfl (fun h41 => ?_) (fun h41 => absurd h41 (nI_ne0 (by omega) (by omega)))
        refine pw_iincN 64 rfl dX3_firstEmpty_61 (by decide) rfl ?_
        refine pw_goto (tgt := 13) dX3_firstEmpty_64 rfl ?_
        rotate_left
        exact ih I' g1 g2 g3 (fun k hk => by
          by_cases e : k = t
          · rw [e]; exact h0
          · exact g4 k (by omega))
    by_cases h0 : t = 0
    · subst h0
      refine pw_iload_n 14 rfl dX3_firstEmpty_13 rfl ?_
      refine pw_bipush (v := nI 99) 16 rfl dX3_firstEmpty_14 rfl ?_
      refine pw_icmp_gt (tgt := 67) 19 rfl dX3_firstEmpty_16 rfl (fun h16 => absurd h16 (by (simp (disch := omega) only [nI_leI, nI_ltI, nI_eq, show (0 : Int32) = nI 0 from rfl, not_true_eq_false, not_false_eq_true] <;> omega))) (fun h16 => ?_)
      refine pw_iload_n 20 rfl dX3_firstEmpty_19 rfl ?_
      refine pw_if_le (tgt := 34) 23 rfl dX3_firstEmpty_20 rfl (fun h20 => ?_) (fun h20 => absurd (by decide) h20)
      rotate_left
      exact tail I' g1 g2 g3
    · refine pw_iload_n 14 rfl dX3_firstEmpty_13 rfl ?_
      refine pw_bipush (v := nI 99) 16 rfl dX3_firstEmpty_14 rfl ?_
      refine pw_icmp_gt (tgt := 67) 19 rfl dX3_firstEmpty_16 rfl (fun h16 => absurd h16 (by (simp (disch := omega) only [nI_leI, nI_ltI, nI_eq, show (0 : Int32) = nI 0 from rfl, not_true_eq_false, not_false_eq_true] <;> omega))) (fun h16 => ?_)
      refine pw_iload_n 20 rfl dX3_firstEmpty_19 rfl ?_
      refine pw_if_le (tgt := 34) 23 rfl dX3_firstEmpty_20 rfl (fun h20 => absurd h20 (nI_nle (by omega) (by omega))) (fun h20 => ?_)
      refine pw_aload_n 24 rfl dX3_firstEmpty_23 rfl ?_
      refine pw_getR 27 rfl dX3_firstEmpty_24 fX3_12 (by first | rfl | assumption | exact rowS hh | exact mtS hm | exact ruS hr | exact mtA1 hm | exact mtA2 hm | exact mtA3 hm | exact mtA4 hm | exact mtA5 hm | exact mtA6 hm | exact mtA7 hm | exact ruA1 hr | exact ruA2 hr | exact ruA3 hr) rfl (by first | rfl | assumption | exact mtR0 hm | exact mtR1 hm | exact mtR2 hm | exact mtR3 hm | exact mtR4 hm | exact mtR5 hm | exact mtR6 hm | exact ruR0 hr | exact ruR1 hr | exact ruR3 hr) ?_
      refine pw_aload_n 28 rfl dX3_firstEmpty_27 rfl ?_
      refine pw_getR 31 rfl dX3_firstEmpty_28 fX3_28 (by first | rfl | assumption | exact rowS hh | exact mtS hm | exact ruS hr | exact mtA1 hm | exact mtA2 hm | exact mtA3 hm | exact mtA4 hm | exact mtA5 hm | exact mtA6 hm | exact mtA7 hm | exact ruA1 hr | exact ruA2 hr | exact ruA3 hr) rfl (by first | rfl | assumption | exact mtR0 hm | exact mtR1 hm | exact mtR2 hm | exact mtR3 hm | exact mtR4 hm | exact mtR5 hm | exact mtR6 hm | exact ruR0 hr | exact ruR1 hr | exact ruR3 hr) ?_
      refine pw_callV (as := [_]) 34 rfl dX3_firstEmpty_31 mX3_58 vX1_passHour (x_hour (d := d) (Or.inr (Or.inl rfl)) (Or.inl rfl) g1 (WF_hrs E hW _) g2) (by first | rfl | assumption | exact rowS hh | exact mtS hm | exact ruS hr | exact mtA1 hm | exact mtA2 hm | exact mtA3 hm | exact mtA4 hm | exact mtA5 hm | exact mtA6 hm | exact mtA7 hm | exact ruA1 hr | exact ruA2 hr | exact ruA3 hr) rfl (by decide) ⟨rfl, by decide, by decide, show (parseMethodDescriptor yX1_passHour.desc).map (fun d => d.parameters.length) = some 1 by decide +kernel⟩ (by omega) (by decide) (Nat.le_of_ble_eq_true rfl) rfl (fun r31 I31 J31 R31 c31 => ?_)
      obtain ⟨rfl, b1, b2, b3, b4, b5, rfl, rfl⟩ := c31
      rotate_left
      refine tail _ ?_ b2 (fun a h1 h2 => by rw [b5 a h1 (by omega), g3 a h1 h2])
      have : hrs n pc E t b = hr n pc E (hrs n pc E (t - 1) b) := by
        obtain ⟨t', rfl⟩ : ∃ t', t = t' + 1 := ⟨t - 1, by omega⟩
        rfl
      rw [this]
      exact b1
