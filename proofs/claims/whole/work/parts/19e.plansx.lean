/-! the class's Plans -/
def fP (I I' : pI) : Prop := ∀ a, a ≠ 11 → a ≠ 19 → ¬ (52 ≤ a ∧ a ≤ 59) → I' a = I a
theorem hrs_add (n : Nat) (pc : Nat → Nat) (E : (Nat → Int32) → Nat) (b : Nat → Nat) (t : Nat) : ∀ j, hrs n pc E (t + j) b = hrs n pc E j (hrs n pc E t b)
  | 0 => rfl
  | j + 1 => by
    show hr n pc E (hrs n pc E (t + j) b) = hr n pc E (hrs n pc E j (hrs n pc E t b))
    rw [hrs_add n pc E b t j]
theorem bts_0 {P : Nat → Bool} : ∀ {n}, bts P n = 0 → ∀ k, k < n → P k = false
  | 0, _, k, hk => by omega
  | n + 1, h, k, hk => by
    rw [bts] at h
    have h1 : bts P n = 0 := by omega
    by_cases e : k = n
    · subst e
      cases hp : P k with
      | false => rfl
      | true =>
        rw [if_pos hp] at h
        have := Nat.two_pow_pos k
        omega
    · exact bts_0 h1 k (by omega)
theorem hO_still {n : Nat} {s b : Nat → Nat} (h : ∀ q, q < n → b (7 + q) = 0) : ∀ k, k ≤ n → hO s b k = b 29
  | 0, _ => rfl
  | k + 1, hk => by
    have hv : hV s b k = 0 := by rw [hV, if_neg (fun z => by have := h k (by omega); omega)]; exact h k (by omega)
    have hc : hC s b k = false := by rw [hC, decide_eq_false_iff_not]; exact fun z => by omega
    rw [hO, hc]
    exact hO_still h k (by omega)
theorem still {n : Nat} {pc b : Nat → Nat} (E : (Nat → Int32) → Nat) (h7 : n ≤ 7) (h : ∀ q, q < n → b (7 + q) = 0) : ∀ k, hrs n pc E k b 29 = b 29 ∧ ∀ q, q < n → hrs n pc E k b (7 + q) = 0
  | 0 => ⟨rfl, h⟩
  | k + 1 => by
    obtain ⟨i1, i2⟩ := still E h7 h k
    refine ⟨?_, fun q hq => ?_⟩
    · rw [← i1]
      exact hO_still i2 n (Nat.le_refl n)
    · show hrow n _ _ (7 + q) = 0
      rw [hrow_w (by omega), if_pos hq]
      have hv : hV (sts n pc (hrs n pc E k b) E) (hrs n pc E k b) q = 0 := by rw [hV, if_neg (fun z => by have := i2 q hq; omega)]; exact i2 q hq
      have hc : hC (sts n pc (hrs n pc E k b) E) (hrs n pc E k b) q = false := by rw [hC, decide_eq_false_iff_not]; exact fun z => by omega
      rw [hY, hc]
      exact hv
theorem x_hour52 {d n : Nat} {pc b : Nat → Nat} {E : (Nat → Int32) → Nat} {I : pI} {J : pJ} {t : Nat} (hM : XM I 52 n pc (hrs n pc E t b)) (hW : WF n pc b) (hE : XE I 9 E) : PC SX (d + 5) yX1_passHour cX1_passHour 4 none [.ref 52, .ref 9] I J RX (fun r' I' J' R' => r' = none ∧ XM I' 52 n pc (hrs n pc E (t + 1) b) ∧ XE I' 9 E ∧ I' 52 12 = nI (dnb n pc E (hrs n pc E t b)) ∧ (∀ q, q < n → I' 59 q = nI (dist (hrs n pc E (t + 1) b q) (hrs n pc E t b q))) ∧ (∀ a, a ≠ 11 → ¬ (52 ≤ a ∧ a ≤ 59) → I' a = I a) ∧ J = J' ∧ R' = RX) :=
  x_hour (d := d) (Or.inr (Or.inr rfl)) (Or.inl rfl) hM (WF_hrs E hW t) hE
set_option maxRecDepth 100000 in
set_option maxHeartbeats 2000000 in
theorem x_hoursOwned {d n N q : Nat} {pc b : Nat → Nat} {E : (Nat → Int32) → Nat} {I : pI} {J : pJ} (hM : XM I 52 n pc b) (hW : WF n pc b) (hE : XE I 9 E) (hN : N ≤ 99) (hq : q < 7) : PC SX (d + 6) yX5_hoursOwned cX5_hoursOwned 5 (some .int) [.ref 51, .int (nI q), .int (nI N)] (I) (J) (RX) (fun r' I' J' R' => r' = some (.int (nI (cntP (fun t => decide (hrs n pc E (t + 1) b 29 = q)) N))) ∧ XE I' 9 E ∧ (∀ a, a ≠ 11 → ¬ (52 ≤ a ∧ a ≤ 59) → I' a = I a) ∧ J = J' ∧ R' = RX) := by
  refine PC.of [some (.ref 51), some (.int (nI q)), some (.int (nI N)), none, none] rfl rfl (Nat.le_of_ble_eq_true rfl) ?_
  refine pw_iconst (v := nI 0) 1 rfl dX5_hoursOwned_0 rfl ?_
  refine pw_istore_n 2 rfl dX5_hoursOwned_1 (by decide) ?_
  refine pw_iconst (v := nI 1) 3 rfl dX5_hoursOwned_2 rfl ?_
  refine pw_istore 5 rfl dX5_hoursOwned_3 (by decide) ?_
  rotate_left
  have L := nat_loop N (fun t => ∀ (I' : pI), XM I' 52 n pc (hrs n pc E t b) → XE I' 9 E → (∀ a, a ≠ 11 → ¬ (52 ≤ a ∧ a ≤ 59) → I' a = I a) → PW SX yX5_hoursOwned.cls cX5_hoursOwned 5 (d + 6) 5 [some (.ref 51), some (.int (nI q)), some (.int (nI N)), some (.int (nI (cntP (fun t => decide (hrs n pc E (t + 1) b 29 = q)) t))), some (.int (nI (t + 1)))] [] (I') (J) (RX) (rX cX5_hoursOwned (some .int) (fun r' I' J' R' => r' = some (.int (nI (cntP (fun t => decide (hrs n pc E (t + 1) b 29 = q)) N))) ∧ XE I' 9 E ∧ (∀ a, a ≠ 11 → ¬ (52 ≤ a ∧ a ≤ 59) → I' a = I a) ∧ J = J' ∧ R' = RX))) ?_ ?_
  · exact L I hM hE (fun _ _ _ => rfl)
  · intro I' g1 g2 g3
    refine pw_iload 7 rfl dX5_hoursOwned_5 rfl ?_
    refine pw_iload_n 8 rfl dX5_hoursOwned_7 rfl ?_
    refine pw_icmp_gt (tgt := 42) 11 rfl dX5_hoursOwned_8 rfl (fun h8 => ?_) (fun h8 => absurd (by (simp (disch := omega) only [nI_leI, nI_ltI, nI_eq, show (0 : Int32) = nI 0 from rfl, not_true_eq_false, not_false_eq_true] <;> omega)) h8)
    refine pw_iload_n 43 rfl dX5_hoursOwned_42 rfl ?_
    refine pw_iret dX5_hoursOwned_43 rfl ?_
    rotate_left
    exact ⟨rfl, g2, g3, rfl, rfl⟩
  · intro t ht ih I' g1 g2 g3
    have w := (WF_hrs E hW (t + 1)).2.2.1
    have h7 := hW.1
    refine pw_iload 7 rfl dX5_hoursOwned_5 rfl ?_
    refine pw_iload_n 8 rfl dX5_hoursOwned_7 rfl ?_
    refine pw_icmp_gt (tgt := 42) 11 rfl dX5_hoursOwned_8 rfl (fun h8 => absurd h8 (by (simp (disch := omega) only [nI_leI, nI_ltI, nI_eq, show (0 : Int32) = nI 0 from rfl, not_true_eq_false, not_false_eq_true] <;> omega))) (fun h8 => ?_)
    refine pw_aload_n 12 rfl dX5_hoursOwned_11 rfl ?_
    refine pw_getR 15 rfl dX5_hoursOwned_12 fX5_12 (by first | rfl | assumption | exact rowS hh | exact mtS hm | exact ruS hr | exact mtA1 hm | exact mtA2 hm | exact mtA3 hm | exact mtA4 hm | exact mtA5 hm | exact mtA6 hm | exact mtA7 hm | exact ruA1 hr | exact ruA2 hr | exact ruA3 hr) rfl (by first | rfl | assumption | exact mtR0 hm | exact mtR1 hm | exact mtR2 hm | exact mtR3 hm | exact mtR4 hm | exact mtR5 hm | exact mtR6 hm | exact ruR0 hr | exact ruR1 hr | exact ruR3 hr) ?_
    refine pw_aload_n 16 rfl dX5_hoursOwned_15 rfl ?_
    refine pw_getR 19 rfl dX5_hoursOwned_16 fX5_25 (by first | rfl | assumption | exact rowS hh | exact mtS hm | exact ruS hr | exact mtA1 hm | exact mtA2 hm | exact mtA3 hm | exact mtA4 hm | exact mtA5 hm | exact mtA6 hm | exact mtA7 hm | exact ruA1 hr | exact ruA2 hr | exact ruA3 hr) rfl (by first | rfl | assumption | exact mtR0 hm | exact mtR1 hm | exact mtR2 hm | exact mtR3 hm | exact mtR4 hm | exact mtR5 hm | exact mtR6 hm | exact ruR0 hr | exact ruR1 hr | exact ruR3 hr) ?_
    refine pw_callV (as := [_]) 22 rfl dX5_hoursOwned_19 mX5_33 vX1_passHour (x_hour52 (d := d) g1 hW g2) (by first | rfl | assumption | exact rowS hh | exact mtS hm | exact ruS hr | exact mtA1 hm | exact mtA2 hm | exact mtA3 hm | exact mtA4 hm | exact mtA5 hm | exact mtA6 hm | exact mtA7 hm | exact ruA1 hr | exact ruA2 hr | exact ruA3 hr) rfl (by decide) ⟨rfl, by decide, by decide, show (parseMethodDescriptor yX1_passHour.desc).map (fun d => d.parameters.length) = some 1 by decide +kernel⟩ (by omega) (by decide) (Nat.le_of_ble_eq_true rfl) rfl (fun r19 I19 J19 R19 c19 => ?_)
    obtain ⟨rfl, b1, b2, b3, b4, b5, rfl, rfl⟩ := c19
    rotate_left
    have ih' := ih I19 b1 b2 (fun a h1 h2 => by rw [b5 a h1 h2, g3 a h1 h2])
    by_cases hp : hrs n pc E (t + 1) b 29 = q
    · rw [cntP_y (P := fun t => decide (hrs n pc E (t + 1) b 29 = q)) (decide_eq_true hp)] at ih'
      refine pw_aload_n 23 rfl dX5_hoursOwned_22 rfl ?_
      refine pw_getR 26 rfl dX5_hoursOwned_23 fX5_12 (by first | rfl | assumption | exact rowS hh | exact mtS hm | exact ruS hr | exact mtA1 hm | exact mtA2 hm | exact mtA3 hm | exact mtA4 hm | exact mtA5 hm | exact mtA6 hm | exact mtA7 hm | exact ruA1 hr | exact ruA2 hr | exact ruA3 hr) rfl (by first | rfl | assumption | exact mtR0 hm | exact mtR1 hm | exact mtR2 hm | exact mtR3 hm | exact mtR4 hm | exact mtR5 hm | exact mtR6 hm | exact ruR0 hr | exact ruR1 hr | exact ruR3 hr) ?_
      refine pw_getI 29 rfl dX5_hoursOwned_26 fX5_37 (by first | rfl | assumption | exact rowS hh | exact mtS hm | exact ruS hr | exact mtA1 hm | exact mtA2 hm | exact mtA3 hm | exact mtA4 hm | exact mtA5 hm | exact mtA6 hm | exact mtA7 hm | exact ruA1 hr | exact ruA2 hr | exact ruA3 hr) rfl ?_
      refine pw_iload_n 30 rfl dX5_hoursOwned_29 rfl ?_
      refine pw_icmp_ne (tgt := 36) 33 rfl dX5_hoursOwned_30 rfl (fun h30 => absurd (by rw [b1.2.2.2.1, hp]) h30) (fun h30 => ?_)
      refine pw_iincN 36 rfl dX5_hoursOwned_33 (by decide) rfl ?_
      refine pw_iincN 39 rfl dX5_hoursOwned_36 (by decide) rfl ?_
      refine pw_goto (tgt := 5) dX5_hoursOwned_39 rfl ?_
      rotate_left
      exact ih'
    · rw [cntP_n (P := fun t => decide (hrs n pc E (t + 1) b 29 = q)) (decide_eq_false hp)] at ih'
      refine pw_aload_n 23 rfl dX5_hoursOwned_22 rfl ?_
      refine pw_getR 26 rfl dX5_hoursOwned_23 fX5_12 (by first | rfl | assumption | exact rowS hh | exact mtS hm | exact ruS hr | exact mtA1 hm | exact mtA2 hm | exact mtA3 hm | exact mtA4 hm | exact mtA5 hm | exact mtA6 hm | exact mtA7 hm | exact ruA1 hr | exact ruA2 hr | exact ruA3 hr) rfl (by first | rfl | assumption | exact mtR0 hm | exact mtR1 hm | exact mtR2 hm | exact mtR3 hm | exact mtR4 hm | exact mtR5 hm | exact mtR6 hm | exact ruR0 hr | exact ruR1 hr | exact ruR3 hr) ?_
      refine pw_getI 29 rfl dX5_hoursOwned_26 fX5_37 (by first | rfl | assumption | exact rowS hh | exact mtS hm | exact ruS hr | exact mtA1 hm | exact mtA2 hm | exact mtA3 hm | exact mtA4 hm | exact mtA5 hm | exact mtA6 hm | exact mtA7 hm | exact ruA1 hr | exact ruA2 hr | exact ruA3 hr) rfl ?_
      refine pw_iload_n 30 rfl dX5_hoursOwned_29 rfl ?_
      refine pw_icmp_ne (tgt := 36) 33 rfl dX5_hoursOwned_30 rfl (fun h30 => ?_) (fun h30 => absurd h30 (by rw [b1.2.2.2.1, nI_eq (by omega) (by omega)]; exact hp))
      refine pw_iincN 39 rfl dX5_hoursOwned_36 (by decide) rfl ?_
      refine pw_goto (tgt := 5) dX5_hoursOwned_39 rfl ?_
      rotate_left
      exact ih'
set_option maxRecDepth 100000 in
set_option maxHeartbeats 2000000 in
theorem x_ownerIn {d n N : Nat} {pc b : Nat → Nat} {E : (Nat → Int32) → Nat} {I : pI} {J : pJ} (hM : XM I 52 n pc b) (hW : WF n pc b) (hE : XE I 9 E) (hN : N ≤ 99) : PC SX (d + 6) yX5_ownerIn cX5_ownerIn 3 (some .int) [.ref 51, .int (nI N)] (I) (J) (RX) (fun r' I' J' R' => r' = some (.int (nI (hrs n pc E N b 29))) ∧ XE I' 9 E ∧ (∀ a, a ≠ 11 → ¬ (52 ≤ a ∧ a ≤ 59) → I' a = I a) ∧ J = J' ∧ R' = RX) := by
  refine PC.of [some (.ref 51), some (.int (nI N)), none] rfl rfl (Nat.le_of_ble_eq_true rfl) ?_
  have h7 := hW.1
  refine pw_iconst (v := nI 0) 1 rfl dX5_ownerIn_0 rfl ?_
  refine pw_istore_n 2 rfl dX5_ownerIn_1 (by decide) ?_
  rotate_left
  have L := nat_loop N (fun t => ∀ (I' : pI), XM I' 52 n pc (hrs n pc E t b) → XE I' 9 E → (∀ a, a ≠ 11 → ¬ (52 ≤ a ∧ a ≤ 59) → I' a = I a) → PW SX yX5_ownerIn.cls cX5_ownerIn 3 (d + 6) 2 [some (.ref 51), some (.int (nI N)), some (.int (nI t))] [] (I') (J) (RX) (rX cX5_ownerIn (some .int) (fun r' I' J' R' => r' = some (.int (nI (hrs n pc E N b 29))) ∧ XE I' 9 E ∧ (∀ a, a ≠ 11 → ¬ (52 ≤ a ∧ a ≤ 59) → I' a = I a) ∧ J = J' ∧ R' = RX))) ?_ ?_
  · exact L I hM hE (fun _ _ _ => rfl)
  · intro I' g1 g2 g3
    refine pw_iload_n 3 rfl dX5_ownerIn_2 rfl ?_
    refine pw_iload_n 4 rfl dX5_ownerIn_3 rfl ?_
    refine pw_icmp_ge (tgt := 34) 7 rfl dX5_ownerIn_4 rfl (fun h4 => ?_) (fun h4 => absurd (by (simp (disch := omega) only [nI_leI, nI_ltI, nI_eq, show (0 : Int32) = nI 0 from rfl, not_true_eq_false, not_false_eq_true] <;> omega)) h4)
    refine pw_aload_n 35 rfl dX5_ownerIn_34 rfl ?_
    refine pw_getR 38 rfl dX5_ownerIn_35 fX5_12 (by first | rfl | assumption | exact rowS hh | exact mtS hm | exact ruS hr | exact mtA1 hm | exact mtA2 hm | exact mtA3 hm | exact mtA4 hm | exact mtA5 hm | exact mtA6 hm | exact mtA7 hm | exact ruA1 hr | exact ruA2 hr | exact ruA3 hr) rfl (by first | rfl | assumption | exact mtR0 hm | exact mtR1 hm | exact mtR2 hm | exact mtR3 hm | exact mtR4 hm | exact mtR5 hm | exact mtR6 hm | exact ruR0 hr | exact ruR1 hr | exact ruR3 hr) ?_
    refine pw_getI 41 rfl dX5_ownerIn_38 fX5_37 (by first | rfl | assumption | exact rowS hh | exact mtS hm | exact ruS hr | exact mtA1 hm | exact mtA2 hm | exact mtA3 hm | exact mtA4 hm | exact mtA5 hm | exact mtA6 hm | exact mtA7 hm | exact ruA1 hr | exact ruA2 hr | exact ruA3 hr) rfl ?_
    rotate_left
    rw [g1.2.2.2.1]
    refine pw_iret dX5_ownerIn_41 rfl ?_
    rotate_left
    exact ⟨rfl, g2, g3, rfl, rfl⟩
  · intro t ht ih I' g1 g2 g3
    have hWt := WF_hrs E hW t
    have hlt := bts_1024 (fun q => decide (hrs n pc E t b (7 + q) ≠ 0)) h7
    by_cases h0 : bts (fun q => decide (hrs n pc E t b (7 + q) ≠ 0)) n = 0
    · refine pw_iload_n 3 rfl dX5_ownerIn_2 rfl ?_
      refine pw_iload_n 4 rfl dX5_ownerIn_3 rfl ?_
      refine pw_icmp_ge (tgt := 34) 7 rfl dX5_ownerIn_4 rfl (fun h4 => absurd h4 (by (simp (disch := omega) only [nI_leI, nI_ltI, nI_eq, show (0 : Int32) = nI 0 from rfl, not_true_eq_false, not_false_eq_true] <;> omega))) (fun h4 => ?_)
      refine pw_aload_n 8 rfl dX5_ownerIn_7 rfl ?_
      refine pw_getR 11 rfl dX5_ownerIn_8 fX5_12 (by first | rfl | assumption | exact rowS hh | exact mtS hm | exact ruS hr | exact mtA1 hm | exact mtA2 hm | exact mtA3 hm | exact mtA4 hm | exact mtA5 hm | exact mtA6 hm | exact mtA7 hm | exact ruA1 hr | exact ruA2 hr | exact ruA3 hr) rfl (by first | rfl | assumption | exact mtR0 hm | exact mtR1 hm | exact mtR2 hm | exact mtR3 hm | exact mtR4 hm | exact mtR5 hm | exact mtR6 hm | exact ruR0 hr | exact ruR1 hr | exact ruR3 hr) ?_
      refine pw_callVP (as := []) 14 rfl dX5_ownerIn_11 mX5_40 vX1_bitsOnWay (x_bitsOnWay (d := d) (Or.inr (Or.inr rfl)) g1 hWt) (by first | rfl | assumption | exact rowS hh | exact mtS hm | exact ruS hr | exact mtA1 hm | exact mtA2 hm | exact mtA3 hm | exact mtA4 hm | exact mtA5 hm | exact mtA6 hm | exact mtA7 hm | exact ruA1 hr | exact ruA2 hr | exact ruA3 hr) rfl (by decide) ⟨rfl, by decide, by decide, show (parseMethodDescriptor yX1_bitsOnWay.desc).map (fun d => d.parameters.length) = some 0 by decide +kernel⟩ (by omega) (by decide) (Nat.le_of_ble_eq_true rfl) rfl ?_
      refine pw_if_eq (tgt := 34) 17 rfl dX5_ownerIn_14 rfl (fun h14 => ?_) (fun h14 => absurd (by rw [h0]; rfl) h14)
      refine pw_aload_n 35 rfl dX5_ownerIn_34 rfl ?_
      refine pw_getR 38 rfl dX5_ownerIn_35 fX5_12 (by first | rfl | assumption | exact rowS hh | exact mtS hm | exact ruS hr | exact mtA1 hm | exact mtA2 hm | exact mtA3 hm | exact mtA4 hm | exact mtA5 hm | exact mtA6 hm | exact mtA7 hm | exact ruA1 hr | exact ruA2 hr | exact ruA3 hr) rfl (by first | rfl | assumption | exact mtR0 hm | exact mtR1 hm | exact mtR2 hm | exact mtR3 hm | exact mtR4 hm | exact mtR5 hm | exact mtR6 hm | exact ruR0 hr | exact ruR1 hr | exact ruR3 hr) ?_
      refine pw_getI 41 rfl dX5_ownerIn_38 fX5_37 (by first | rfl | assumption | exact rowS hh | exact mtS hm | exact ruS hr | exact mtA1 hm | exact mtA2 hm | exact mtA3 hm | exact mtA4 hm | exact mtA5 hm | exact mtA6 hm | exact mtA7 hm | exact ruA1 hr | exact ruA2 hr | exact ruA3 hr) rfl ?_
      rotate_left
      rw [g1.2.2.2.1]
      refine pw_iret dX5_ownerIn_41 rfl ?_
      rotate_left
      refine ⟨?_, g2, g3, rfl, rfl⟩
      have hst := (still (pc := pc) E h7 (fun q hq => by
        have := bts_0 h0 q hq
        simpa using this) (N - t)).1
      rw [← hrs_add, show t + (N - t) = N by omega] at hst
      rw [hst]
    · refine pw_iload_n 3 rfl dX5_ownerIn_2 rfl ?_
      refine pw_iload_n 4 rfl dX5_ownerIn_3 rfl ?_
      refine pw_icmp_ge (tgt := 34) 7 rfl dX5_ownerIn_4 rfl (fun h4 => absurd h4 (by (simp (disch := omega) only [nI_leI, nI_ltI, nI_eq, show (0 : Int32) = nI 0 from rfl, not_true_eq_false, not_false_eq_true] <;> omega))) (fun h4 => ?_)
      refine pw_aload_n 8 rfl dX5_ownerIn_7 rfl ?_
      refine pw_getR 11 rfl dX5_ownerIn_8 fX5_12 (by first | rfl | assumption | exact rowS hh | exact mtS hm | exact ruS hr | exact mtA1 hm | exact mtA2 hm | exact mtA3 hm | exact mtA4 hm | exact mtA5 hm | exact mtA6 hm | exact mtA7 hm | exact ruA1 hr | exact ruA2 hr | exact ruA3 hr) rfl (by first | rfl | assumption | exact mtR0 hm | exact mtR1 hm | exact mtR2 hm | exact mtR3 hm | exact mtR4 hm | exact mtR5 hm | exact mtR6 hm | exact ruR0 hr | exact ruR1 hr | exact ruR3 hr) ?_
      refine pw_callVP (as := []) 14 rfl dX5_ownerIn_11 mX5_40 vX1_bitsOnWay (x_bitsOnWay (d := d) (Or.inr (Or.inr rfl)) g1 hWt) (by first | rfl | assumption | exact rowS hh | exact mtS hm | exact ruS hr | exact mtA1 hm | exact mtA2 hm | exact mtA3 hm | exact mtA4 hm | exact mtA5 hm | exact mtA6 hm | exact mtA7 hm | exact ruA1 hr | exact ruA2 hr | exact ruA3 hr) rfl (by decide) ⟨rfl, by decide, by decide, show (parseMethodDescriptor yX1_bitsOnWay.desc).map (fun d => d.parameters.length) = some 0 by decide +kernel⟩ (by omega) (by decide) (Nat.le_of_ble_eq_true rfl) rfl ?_
      refine pw_if_eq (tgt := 34) 17 rfl dX5_ownerIn_14 rfl (fun h14 => absurd h14 (nI_ne0 (by omega) (by omega))) (fun h14 => ?_)
      refine pw_aload_n 18 rfl dX5_ownerIn_17 rfl ?_
      refine pw_getR 21 rfl dX5_ownerIn_18 fX5_12 (by first | rfl | assumption | exact rowS hh | exact mtS hm | exact ruS hr | exact mtA1 hm | exact mtA2 hm | exact mtA3 hm | exact mtA4 hm | exact mtA5 hm | exact mtA6 hm | exact mtA7 hm | exact ruA1 hr | exact ruA2 hr | exact ruA3 hr) rfl (by first | rfl | assumption | exact mtR0 hm | exact mtR1 hm | exact mtR2 hm | exact mtR3 hm | exact mtR4 hm | exact mtR5 hm | exact mtR6 hm | exact ruR0 hr | exact ruR1 hr | exact ruR3 hr) ?_
      refine pw_aload_n 22 rfl dX5_ownerIn_21 rfl ?_
      refine pw_getR 25 rfl dX5_ownerIn_22 fX5_25 (by first | rfl | assumption | exact rowS hh | exact mtS hm | exact ruS hr | exact mtA1 hm | exact mtA2 hm | exact mtA3 hm | exact mtA4 hm | exact mtA5 hm | exact mtA6 hm | exact mtA7 hm | exact ruA1 hr | exact ruA2 hr | exact ruA3 hr) rfl (by first | rfl | assumption | exact mtR0 hm | exact mtR1 hm | exact mtR2 hm | exact mtR3 hm | exact mtR4 hm | exact mtR5 hm | exact mtR6 hm | exact ruR0 hr | exact ruR1 hr | exact ruR3 hr) ?_
      refine pw_callV (as := [_]) 28 rfl dX5_ownerIn_25 mX5_33 vX1_passHour (x_hour52 (d := d) g1 hW g2) (by first | rfl | assumption | exact rowS hh | exact mtS hm | exact ruS hr | exact mtA1 hm | exact mtA2 hm | exact mtA3 hm | exact mtA4 hm | exact mtA5 hm | exact mtA6 hm | exact mtA7 hm | exact ruA1 hr | exact ruA2 hr | exact ruA3 hr) rfl (by decide) ⟨rfl, by decide, by decide, show (parseMethodDescriptor yX1_passHour.desc).map (fun d => d.parameters.length) = some 1 by decide +kernel⟩ (by omega) (by decide) (Nat.le_of_ble_eq_true rfl) rfl (fun r25 I25 J25 R25 c25 => ?_)
      obtain ⟨rfl, b1, b2, b3, b4, b5, rfl, rfl⟩ := c25
      refine pw_iincN 31 rfl dX5_ownerIn_28 (by decide) rfl ?_
      refine pw_goto (tgt := 2) dX5_ownerIn_31 rfl ?_
      rotate_left
      exact ih I25 b1 b2 (fun a h1 h2 => by rw [b5 a h1 h2, g3 a h1 h2])
/-- the first greatest of o from lo on; how great, and where -/
def pkM (o : Nat → Nat) : Nat → Int32
  | 0 => -1
  | j + 1 => if pkM o j < nI (o j) then nI (o j) else pkM o j
def pkB (o : Nat → Nat) (v : Nat → Nat) (z : Int32) : Nat → Int32
  | 0 => z
  | j + 1 => if pkM o j < nI (o j) then nI (v j) else pkB o v z j
/-- the row as the class now has it, for what is asked -/
def WN (n : Nat) (pc b : Nat → Nat) : Prop := WF n pc b ∧ WZ n b ∧ ∀ k, k < 7 → b (14 + k) ≤ 99
set_option maxRecDepth 100000 in
set_option maxHeartbeats 2000000 in
theorem x_bestTop {d n N q : Nat} {pc b : Nat → Nat} {E : (Nat → Int32) → Nat} {I : pI} {J : pJ} (hM : XM I 1 n pc b) (hW : WN n pc b) (hE : XE I 9 E) (hN : N ≤ 60) (hq : q < 7) : PC SX (d + 7) yX5_bestTop cX5_bestTop 8 (some .int) [.ref 51, .int (nI q), .int (nI N)] (I) (J) (RX) (fun r' I' J' R' => r' = some (.int (pkB (fun j => cntP (fun t => decide (hrs n pc E (t + 1) (bu b 28 (max 2 (mxf b n) + j)) 29 = q)) N) (fun j => max 2 (mxf b n) + j) (-1) (10 - max 2 (mxf b n)))) ∧ XN I' J' [(pkM (fun j => cntP (fun t => decide (hrs n pc E (t + 1) (bu b 28 (max 2 (mxf b n) + j)) 29 = q)) N) (10 - max 2 (mxf b n))).toInt64, lI (cntP (fun t => decide (hrs n pc E (t + 1) (bu b 28 (b 28)) 29 = q)) N)] ∧ fP I I' ∧ R' = RX) := by
  refine PC.of [some (.ref 51), some (.int (nI q)), some (.int (nI N)), none, none, none, none, none] rfl rfl (Nat.le_of_ble_eq_true rfl) ?_
  obtain ⟨hWF, hZ, hU⟩ := hW
  have h7 := hWF.1
  have ht := hWF.2.1
  have hx : mxf b n ≤ b 28 := mxf_le (fun j hj => (hWF.2.2.2.2 j (by omega)).2.1)
  generalize hlo : max 2 (mxf b n) = lo
  generalize hAs : cntP (fun t => decide (hrs n pc E (t + 1) (bu b 28 (b 28)) 29 = q)) N = as0
  have hlo2 : 2 ≤ lo := by rw [← hlo]; exact Nat.le_max_left _ _
  have hlom : mxf b n ≤ lo := by rw [← hlo]; exact Nat.le_max_right _ _
  have hlot : lo ≤ b 28 := by rw [← hlo]; exact Nat.max_le.mpr ⟨ht.1, hx⟩
  have hlo9 : lo ≤ 9 := by omega
  refine pw_iconst (v := -1) 1 rfl dX5_bestTop_0 rfl ?_
  refine pw_istore_n 2 rfl dX5_bestTop_1 (by decide) ?_
  refine pw_iconst (v := -1) 3 rfl dX5_bestTop_2 rfl ?_
  refine pw_istore 5 rfl dX5_bestTop_3 (by decide) ?_
  refine pw_iconst (v := nI 0) 6 rfl dX5_bestTop_5 rfl ?_
  refine pw_istore 8 rfl dX5_bestTop_6 (by decide) ?_
  refine pw_iconst (v := nI 2) 9 rfl dX5_bestTop_8 rfl ?_
  refine pw_aload_n 10 rfl dX5_bestTop_9 rfl ?_
  refine pw_getR 13 rfl dX5_bestTop_10 fX5_22 (by first | rfl | assumption | exact rowS hh | exact mtS hm | exact ruS hr | exact mtA1 hm | exact mtA2 hm | exact mtA3 hm | exact mtA4 hm | exact mtA5 hm | exact mtA6 hm | exact mtA7 hm | exact ruA1 hr | exact ruA2 hr | exact ruA3 hr) rfl (by first | rfl | assumption | exact mtR0 hm | exact mtR1 hm | exact mtR2 hm | exact mtR3 hm | exact mtR4 hm | exact mtR5 hm | exact mtR6 hm | exact ruR0 hr | exact ruR1 hr | exact ruR3 hr) ?_
  refine pw_callVP (as := []) 16 rfl dX5_bestTop_13 mX5_44 vX1_highest (x_highest (d := d) (Or.inl rfl) hM hWF) (by first | rfl | assumption | exact rowS hh | exact mtS hm | exact ruS hr | exact mtA1 hm | exact mtA2 hm | exact mtA3 hm | exact mtA4 hm | exact mtA5 hm | exact mtA6 hm | exact mtA7 hm | exact ruA1 hr | exact ruA2 hr | exact ruA3 hr) rfl (by decide) ⟨rfl, by decide, by decide, show (parseMethodDescriptor yX1_highest.desc).map (fun d => d.parameters.length) = some 0 by decide +kernel⟩ (by omega) (by decide) (Nat.le_of_ble_eq_true rfl) rfl ?_
  refine pw_mmax 19 rfl dX5_bestTop_16 mX5_47 (Nat.le_of_ble_eq_true rfl) ?_
  rotate_left
  rw [nI_max (by decide) (by omega), hlo]
  refine pw_istore 21 rfl dX5_bestTop_19 (by decide) ?_
  rotate_left
  have L := nat_loop (10 - lo) (fun j => ∀ (I' : pI) (x7 : Option Value), XE I' 9 E → (∀ a, a ≠ 11 → ¬ (52 ≤ a ∧ a ≤ 59) → I' a = I a) → PW SX yX5_bestTop.cls cX5_bestTop 8 (d + 7) 21 [some (.ref 51), some (.int (nI q)), some (.int (nI N)), some (.int (pkB (fun j => cntP (fun t => decide (hrs n pc E (t + 1) (bu b 28 (lo + j)) 29 = q)) N) (fun j => lo + j) (-1) j)), some (.int (pkM (fun j => cntP (fun t => decide (hrs n pc E (t + 1) (bu b 28 (lo + j)) 29 = q)) N) j)), some (.int (nI (if b 28 < lo + j then as0 else 0))), some (.int (nI (lo + j))), x7] [] I' J RX (rX cX5_bestTop (some .int) (fun r' I' J' R' => r' = some (.int (pkB (fun j => cntP (fun t => decide (hrs n pc E (t + 1) (bu b 28 (lo + j)) 29 = q)) N) (fun j => lo + j) (-1) (10 - lo))) ∧ XN I' J' [(pkM (fun j => cntP (fun t => decide (hrs n pc E (t + 1) (bu b 28 (lo + j)) 29 = q)) N) (10 - lo)).toInt64, lI (as0)] ∧ fP I I' ∧ R' = RX))) ?_ ?_
  · have := L I none hE (fun _ _ _ => rfl)
    rw [if_neg (by omega)] at this
    exact this
  · intro I' x7 g1 g2
    rw [show lo + (10 - lo) = 10 by omega, if_pos (by omega)]
    refine pw_iload 23 rfl dX5_bestTop_21 rfl ?_
    refine pw_bipush (v := nI 9) 25 rfl dX5_bestTop_23 rfl ?_
    refine pw_icmp_gt (tgt := 97) 28 rfl dX5_bestTop_25 rfl (fun h25 => ?_) (fun h25 => absurd (by (simp (disch := omega) only [nI_leI, nI_ltI, nI_eq, show (0 : Int32) = nI 0 from rfl, not_true_eq_false, not_false_eq_true] <;> omega)) h25)
    refine pw_aload_n 98 rfl dX5_bestTop_97 rfl ?_
    refine pw_getR 101 rfl dX5_bestTop_98 fX5_29 (by first | rfl | assumption | exact rowS hh | exact mtS hm | exact ruS hr | exact mtA1 hm | exact mtA2 hm | exact mtA3 hm | exact mtA4 hm | exact mtA5 hm | exact mtA6 hm | exact mtA7 hm | exact ruA1 hr | exact ruA2 hr | exact ruA3 hr) rfl (by first | rfl | assumption | exact mtR0 hm | exact mtR1 hm | exact mtR2 hm | exact mtR3 hm | exact mtR4 hm | exact mtR5 hm | exact mtR6 hm | exact ruR0 hr | exact ruR1 hr | exact ruR3 hr) ?_
    refine pw_iload 103 rfl dX5_bestTop_101 rfl ?_
    refine pw_i2l 104 rfl dX5_bestTop_103 ?_
    refine pw_iload 106 rfl dX5_bestTop_104 rfl ?_
    refine pw_i2l 107 rfl dX5_bestTop_106 ?_
    refine pw_callV (as := [_, _]) 110 rfl dX5_bestTop_107 mX5_63 vX2_tellTwo (x_tellTwo (d := d) _ _) (by first | rfl | assumption | exact rowS hh | exact mtS hm | exact ruS hr | exact mtA1 hm | exact mtA2 hm | exact mtA3 hm | exact mtA4 hm | exact mtA5 hm | exact mtA6 hm | exact mtA7 hm | exact ruA1 hr | exact ruA2 hr | exact ruA3 hr) rfl (by decide) ⟨rfl, by decide, by decide, show (parseMethodDescriptor yX2_tellTwo.desc).map (fun d => d.parameters.length) = some 2 by decide +kernel⟩ (by omega) (by decide) (Nat.le_of_ble_eq_true rfl) rfl (fun r107 I107 J107 R107 c107 => ?_)
    obtain ⟨rfl, n1, n2, rfl⟩ := c107
    rotate_left
    refine pw_iload_n 111 rfl dX5_bestTop_110 rfl ?_
    refine pw_iret dX5_bestTop_111 rfl ?_
    rotate_left
    exact ⟨rfl, n1, fun a h1 h2 h3 => by rw [n2 a h2, g2 a h1 h3], rfl⟩
  · intro j hj ih I' x7 g1 g2
    have hM' : XM I' 1 n pc b := XM_fr hM (fun a h1 h2 => g2 a (by omega) (by omega))
    have hWv : WF n pc (bu b 28 (lo + j)) := WF_top hWF hZ (by omega) (by omega) (by omega)
    have hcl := cntP_le (fun t => decide (hrs n pc E (t + 1) (bu b 28 (lo + j)) 29 = q)) N
    refine pw_iload 23 rfl dX5_bestTop_21 rfl ?_
    refine pw_bipush (v := nI 9) 25 rfl dX5_bestTop_23 rfl ?_
    refine pw_icmp_gt (tgt := 97) 28 rfl dX5_bestTop_25 rfl (fun h25 => absurd h25 (by (simp (disch := omega) only [nI_leI, nI_ltI, nI_eq, show (0 : Int32) = nI 0 from rfl, not_true_eq_false, not_false_eq_true] <;> omega))) (fun h25 => ?_)
    refine pw_aload_n 29 rfl dX5_bestTop_28 rfl ?_
    refine pw_getR 32 rfl dX5_bestTop_29 fX5_12 (by first | rfl | assumption | exact rowS hh | exact mtS hm | exact ruS hr | exact mtA1 hm | exact mtA2 hm | exact mtA3 hm | exact mtA4 hm | exact mtA5 hm | exact mtA6 hm | exact mtA7 hm | exact ruA1 hr | exact ruA2 hr | exact ruA3 hr) rfl (by first | rfl | assumption | exact mtR0 hm | exact mtR1 hm | exact mtR2 hm | exact mtR3 hm | exact mtR4 hm | exact mtR5 hm | exact mtR6 hm | exact ruR0 hr | exact ruR1 hr | exact ruR3 hr) ?_
    refine pw_aload_n 33 rfl dX5_bestTop_32 rfl ?_
    refine pw_getR 36 rfl dX5_bestTop_33 fX5_22 (by first | rfl | assumption | exact rowS hh | exact mtS hm | exact ruS hr | exact mtA1 hm | exact mtA2 hm | exact mtA3 hm | exact mtA4 hm | exact mtA5 hm | exact mtA6 hm | exact mtA7 hm | exact ruA1 hr | exact ruA2 hr | exact ruA3 hr) rfl (by first | rfl | assumption | exact mtR0 hm | exact mtR1 hm | exact mtR2 hm | exact mtR3 hm | exact mtR4 hm | exact mtR5 hm | exact mtR6 hm | exact ruR0 hr | exact ruR1 hr | exact ruR3 hr) ?_
    refine pw_callV (as := [_]) 39 rfl dX5_bestTop_36 mX5_53 vX1_copyFrom (x_copyFrom (d := d) (Or.inr rfl) hM') (by first | rfl | assumption | exact rowS hh | exact mtS hm | exact ruS hr | exact mtA1 hm | exact mtA2 hm | exact mtA3 hm | exact mtA4 hm | exact mtA5 hm | exact mtA6 hm | exact mtA7 hm | exact ruA1 hr | exact ruA2 hr | exact ruA3 hr) rfl (by decide) ⟨rfl, by decide, by decide, show (parseMethodDescriptor yX1_copyFrom.desc).map (fun d => d.parameters.length) = some 1 by decide +kernel⟩ (by omega) (by decide) (Nat.le_of_ble_eq_true rfl) rfl (fun r36 I36 J36 R36 c36 => ?_)
    obtain ⟨rfl, a1, a2, a3, rfl, rfl⟩ := c36; have e8 := XE_fr g1 (a3 9 (by omega)) (a3 10 (by omega))
    refine pw_aload_n 40 rfl dX5_bestTop_39 rfl ?_
    refine pw_getR 43 rfl dX5_bestTop_40 fX5_12 (by first | rfl | assumption | exact rowS hh | exact mtS hm | exact ruS hr | exact mtA1 hm | exact mtA2 hm | exact mtA3 hm | exact mtA4 hm | exact mtA5 hm | exact mtA6 hm | exact mtA7 hm | exact ruA1 hr | exact ruA2 hr | exact ruA3 hr) rfl (by first | rfl | assumption | exact mtR0 hm | exact mtR1 hm | exact mtR2 hm | exact mtR3 hm | exact mtR4 hm | exact mtR5 hm | exact mtR6 hm | exact ruR0 hr | exact ruR1 hr | exact ruR3 hr) ?_
    refine pw_iload 45 rfl dX5_bestTop_43 rfl ?_
    refine pw_putI 48 rfl dX5_bestTop_45 fX5_57 w1_8 (by first | rfl | assumption | exact rowS hh | exact mtS hm | exact ruS hr | exact mtA1 hm | exact mtA2 hm | exact mtA3 hm | exact mtA4 hm | exact mtA5 hm | exact mtA6 hm | exact mtA7 hm | exact ruA1 hr | exact ruA2 hr | exact ruA3 hr) rfl rfl rfl ?_
    refine pw_aload_n 49 rfl dX5_bestTop_48 rfl ?_
    refine pw_iload_n 50 rfl dX5_bestTop_49 rfl ?_
    refine pw_iload_n 51 rfl dX5_bestTop_50 rfl ?_
    refine pw_callV (as := [_, _]) 54 rfl dX5_bestTop_51 mX5_60 vX5_hoursOwned (x_hoursOwned (d := d) (XM_top (v := lo + j) a1) hWv (XE_fr e8 (by rw [uI, if_neg (by omega)]) (by rw [uI, if_neg (by omega)])) (by omega) hq) (by first | rfl | assumption | exact rowS hh | exact mtS hm | exact ruS hr | exact mtA1 hm | exact mtA2 hm | exact mtA3 hm | exact mtA4 hm | exact mtA5 hm | exact mtA6 hm | exact mtA7 hm | exact ruA1 hr | exact ruA2 hr | exact ruA3 hr) rfl (by decide) ⟨rfl, by decide, by decide, show (parseMethodDescriptor yX5_hoursOwned.desc).map (fun d => d.parameters.length) = some 2 by decide +kernel⟩ (by omega) (by decide) (Nat.le_of_ble_eq_true rfl) rfl (fun r51 I51 J51 R51 c51 => ?_)
    obtain ⟨rfl, b1, b2, rfl, rfl⟩ := c51
    rotate_left
    have i8 : I51 1 8 = nI (b 28) := by rw [b2 1 (by omega) (by omega), uI, if_neg (by omega), a3 1 (by omega)]; exact hM'.2.2.1
    have ih' := fun x7 => ih I51 x7 b1 (fun a h1 h2 => by rw [b2 a h1 h2, uI, if_neg (by omega), a3 a (by omega), g2 a h1 h2])
    rw [show lo + (j + 1) = lo + j + 1 from rfl] at ih'
    rw [pkM, pkB] at ih'
    by_cases hc : pkM (fun j => cntP (fun t => decide (hrs n pc E (t + 1) (bu b 28 (lo + j)) 29 = q)) N) j < nI (cntP (fun t => decide (hrs n pc E (t + 1) (bu b 28 (lo + j)) 29 = q)) N)
    · rw [if_pos hc, if_pos hc] at ih'
      by_cases e : lo + j = b 28
      · rw [if_pos (by omega)] at ih'
        refine pw_istore 56 rfl dX5_bestTop_54 (by decide) ?_
        refine pw_iload 58 rfl dX5_bestTop_56 rfl ?_
        refine pw_iload 60 rfl dX5_bestTop_58 rfl ?_
        refine pw_icmp_le (tgt := 70) 63 rfl dX5_bestTop_60 rfl (fun h60 => absurd h60 (by rw [Int32.le_iff_toInt_le]; rw [Int32.lt_iff_toInt_lt] at hc; omega)) (fun h60 => ?_)
        refine pw_iload 65 rfl dX5_bestTop_63 rfl ?_
        refine pw_istore 67 rfl dX5_bestTop_65 (by decide) ?_
        refine pw_iload 69 rfl dX5_bestTop_67 rfl ?_
        refine pw_istore_n 70 rfl dX5_bestTop_69 (by decide) ?_
        refine pw_iload 72 rfl dX5_bestTop_70 rfl ?_
        refine pw_aload_n 73 rfl dX5_bestTop_72 rfl ?_
        refine pw_getR 76 rfl dX5_bestTop_73 fX5_22 (by first | rfl | assumption | exact rowS hh | exact mtS hm | exact ruS hr | exact mtA1 hm | exact mtA2 hm | exact mtA3 hm | exact mtA4 hm | exact mtA5 hm | exact mtA6 hm | exact mtA7 hm | exact ruA1 hr | exact ruA2 hr | exact ruA3 hr) rfl (by first | rfl | assumption | exact mtR0 hm | exact mtR1 hm | exact mtR2 hm | exact mtR3 hm | exact mtR4 hm | exact mtR5 hm | exact mtR6 hm | exact ruR0 hr | exact ruR1 hr | exact ruR3 hr) ?_
        refine pw_getI 79 rfl dX5_bestTop_76 fX5_57 (by first | rfl | assumption | exact rowS hh | exact mtS hm | exact ruS hr | exact mtA1 hm | exact mtA2 hm | exact mtA3 hm | exact mtA4 hm | exact mtA5 hm | exact mtA6 hm | exact mtA7 hm | exact ruA1 hr | exact ruA2 hr | exact ruA3 hr) rfl ?_
        refine pw_icmp_ne (tgt := 87) 82 rfl dX5_bestTop_79 rfl (fun h79 => absurd (by rw [i8, e]) h79) (fun h79 => ?_)
        refine pw_iload 84 rfl dX5_bestTop_82 rfl ?_
        refine pw_goto (tgt := 89) dX5_bestTop_84 rfl ?_
        refine pw_istore 91 rfl dX5_bestTop_89 (by decide) ?_
        refine pw_iincN 94 rfl dX5_bestTop_91 (by decide) rfl ?_
        refine pw_goto (tgt := 21) dX5_bestTop_94 rfl ?_
        rotate_left
        have ea : as0 = cntP (fun t => decide (hrs n pc E (t + 1) (bu b 28 (lo + j)) 29 = q)) N := by rw [← hAs, e]
        rw [← ea]
        try rw [← ea] at ih'
        exact ih' _
      · rw [show (if b 28 < lo + j + 1 then as0 else 0) = (if b 28 < lo + j then as0 else 0) from by by_cases z : b 28 < lo + j; rw [if_pos z, if_pos (by omega)]; rw [if_neg z, if_neg (by omega)]] at ih'
        refine pw_istore 56 rfl dX5_bestTop_54 (by decide) ?_
        refine pw_iload 58 rfl dX5_bestTop_56 rfl ?_
        refine pw_iload 60 rfl dX5_bestTop_58 rfl ?_
        refine pw_icmp_le (tgt := 70) 63 rfl dX5_bestTop_60 rfl (fun h60 => absurd h60 (by rw [Int32.le_iff_toInt_le]; rw [Int32.lt_iff_toInt_lt] at hc; omega)) (fun h60 => ?_)
        refine pw_iload 65 rfl dX5_bestTop_63 rfl ?_
        refine pw_istore 67 rfl dX5_bestTop_65 (by decide) ?_
        refine pw_iload 69 rfl dX5_bestTop_67 rfl ?_
        refine pw_istore_n 70 rfl dX5_bestTop_69 (by decide) ?_
        refine pw_iload 72 rfl dX5_bestTop_70 rfl ?_
        refine pw_aload_n 73 rfl dX5_bestTop_72 rfl ?_
        refine pw_getR 76 rfl dX5_bestTop_73 fX5_22 (by first | rfl | assumption | exact rowS hh | exact mtS hm | exact ruS hr | exact mtA1 hm | exact mtA2 hm | exact mtA3 hm | exact mtA4 hm | exact mtA5 hm | exact mtA6 hm | exact mtA7 hm | exact ruA1 hr | exact ruA2 hr | exact ruA3 hr) rfl (by first | rfl | assumption | exact mtR0 hm | exact mtR1 hm | exact mtR2 hm | exact mtR3 hm | exact mtR4 hm | exact mtR5 hm | exact mtR6 hm | exact ruR0 hr | exact ruR1 hr | exact ruR3 hr) ?_
        refine pw_getI 79 rfl dX5_bestTop_76 fX5_57 (by first | rfl | assumption | exact rowS hh | exact mtS hm | exact ruS hr | exact mtA1 hm | exact mtA2 hm | exact mtA3 hm | exact mtA4 hm | exact mtA5 hm | exact mtA6 hm | exact mtA7 hm | exact ruA1 hr | exact ruA2 hr | exact ruA3 hr) rfl ?_
        refine pw_icmp_ne (tgt := 87) 82 rfl dX5_bestTop_79 rfl (fun h79 => ?_) (fun h79 => absurd h79 (by rw [i8, nI_eq (by omega) (by omega)]; exact e))
        refine pw_iload 89 rfl dX5_bestTop_87 rfl ?_
        refine pw_istore 91 rfl dX5_bestTop_89 (by decide) ?_
        refine pw_iincN 94 rfl dX5_bestTop_91 (by decide) rfl ?_
        refine pw_goto (tgt := 21) dX5_bestTop_94 rfl ?_
        rotate_left
        exact ih' _
    · rw [if_neg hc, if_neg hc] at ih'
      by_cases e : lo + j = b 28
      · rw [if_pos (by omega)] at ih'
        refine pw_istore 56 rfl dX5_bestTop_54 (by decide) ?_
        refine pw_iload 58 rfl dX5_bestTop_56 rfl ?_
        refine pw_iload 60 rfl dX5_bestTop_58 rfl ?_
        refine pw_icmp_le (tgt := 70) 63 rfl dX5_bestTop_60 rfl (fun h60 => ?_) (fun h60 => absurd (by rw [Int32.le_iff_toInt_le]; rw [Int32.lt_iff_toInt_lt] at hc; omega) h60)
        refine pw_iload 72 rfl dX5_bestTop_70 rfl ?_
        refine pw_aload_n 73 rfl dX5_bestTop_72 rfl ?_
        refine pw_getR 76 rfl dX5_bestTop_73 fX5_22 (by first | rfl | assumption | exact rowS hh | exact mtS hm | exact ruS hr | exact mtA1 hm | exact mtA2 hm | exact mtA3 hm | exact mtA4 hm | exact mtA5 hm | exact mtA6 hm | exact mtA7 hm | exact ruA1 hr | exact ruA2 hr | exact ruA3 hr) rfl (by first | rfl | assumption | exact mtR0 hm | exact mtR1 hm | exact mtR2 hm | exact mtR3 hm | exact mtR4 hm | exact mtR5 hm | exact mtR6 hm | exact ruR0 hr | exact ruR1 hr | exact ruR3 hr) ?_
        refine pw_getI 79 rfl dX5_bestTop_76 fX5_57 (by first | rfl | assumption | exact rowS hh | exact mtS hm | exact ruS hr | exact mtA1 hm | exact mtA2 hm | exact mtA3 hm | exact mtA4 hm | exact mtA5 hm | exact mtA6 hm | exact mtA7 hm | exact ruA1 hr | exact ruA2 hr | exact ruA3 hr) rfl ?_
        refine pw_icmp_ne (tgt := 87) 82 rfl dX5_bestTop_79 rfl (fun h79 => absurd (by rw [i8, e]) h79) (fun h79 => ?_)
        refine pw_iload 84 rfl dX5_bestTop_82 rfl ?_
        refine pw_goto (tgt := 89) dX5_bestTop_84 rfl ?_
        refine pw_istore 91 rfl dX5_bestTop_89 (by decide) ?_
        refine pw_iincN 94 rfl dX5_bestTop_91 (by decide) rfl ?_
        refine pw_goto (tgt := 21) dX5_bestTop_94 rfl ?_
        rotate_left
        have ea : as0 = cntP (fun t => decide (hrs n pc E (t + 1) (bu b 28 (lo + j)) 29 = q)) N := by rw [← hAs, e]
        rw [← ea]
        try rw [← ea] at ih'
        exact ih' _
      · rw [show (if b 28 < lo + j + 1 then as0 else 0) = (if b 28 < lo + j then as0 else 0) from by by_cases z : b 28 < lo + j; rw [if_pos z, if_pos (by omega)]; rw [if_neg z, if_neg (by omega)]] at ih'
        refine pw_istore 56 rfl dX5_bestTop_54 (by decide) ?_
        refine pw_iload 58 rfl dX5_bestTop_56 rfl ?_
        refine pw_iload 60 rfl dX5_bestTop_58 rfl ?_
        refine pw_icmp_le (tgt := 70) 63 rfl dX5_bestTop_60 rfl (fun h60 => ?_) (fun h60 => absurd (by rw [Int32.le_iff_toInt_le]; rw [Int32.lt_iff_toInt_lt] at hc; omega) h60)
        refine pw_iload 72 rfl dX5_bestTop_70 rfl ?_
        refine pw_aload_n 73 rfl dX5_bestTop_72 rfl ?_
        refine pw_getR 76 rfl dX5_bestTop_73 fX5_22 (by first | rfl | assumption | exact rowS hh | exact mtS hm | exact ruS hr | exact mtA1 hm | exact mtA2 hm | exact mtA3 hm | exact mtA4 hm | exact mtA5 hm | exact mtA6 hm | exact mtA7 hm | exact ruA1 hr | exact ruA2 hr | exact ruA3 hr) rfl (by first | rfl | assumption | exact mtR0 hm | exact mtR1 hm | exact mtR2 hm | exact mtR3 hm | exact mtR4 hm | exact mtR5 hm | exact mtR6 hm | exact ruR0 hr | exact ruR1 hr | exact ruR3 hr) ?_
        refine pw_getI 79 rfl dX5_bestTop_76 fX5_57 (by first | rfl | assumption | exact rowS hh | exact mtS hm | exact ruS hr | exact mtA1 hm | exact mtA2 hm | exact mtA3 hm | exact mtA4 hm | exact mtA5 hm | exact mtA6 hm | exact mtA7 hm | exact ruA1 hr | exact ruA2 hr | exact ruA3 hr) rfl ?_
        refine pw_icmp_ne (tgt := 87) 82 rfl dX5_bestTop_79 rfl (fun h79 => ?_) (fun h79 => absurd h79 (by rw [i8, nI_eq (by omega) (by omega)]; exact e))
        refine pw_iload 89 rfl dX5_bestTop_87 rfl ?_
        refine pw_istore 91 rfl dX5_bestTop_89 (by decide) ?_
        refine pw_iincN 94 rfl dX5_bestTop_91 (by decide) rfl ?_
        refine pw_goto (tgt := 21) dX5_bestTop_94 rfl ?_
        rotate_left
        exact ih' _

set_option maxRecDepth 100000 in
set_option maxHeartbeats 2000000 in
theorem x_fewestToWait {d n N q : Nat} {pc b : Nat → Nat} {E : (Nat → Int32) → Nat} {I : pI} {J : pJ} {rw : List Int64} (hM : XM I 1 n pc b) (hW : WN n pc b) (hE : XE I 9 E) (hN : N ≤ 60) (hq : q < n) (hR : XN I J rw) : PC SX (d + 7) yX5_fewestToWait cX5_fewestToWait 6 (some .int) [.ref 51, .int (nI q), .int (nI N)] (I) (J) (RX) (fun r' I' J' R' => r' = some (.int (fstP (fun w => decide (hrs n pc E N (bu b (14 + q) (b (14 + q) + w)) 29 = q)) id 31)) ∧ XN I' J' (if cntP (fun w => decide (hrs n pc E N (bu b (14 + q) (b (14 + q) + w)) 29 = q)) 31 = 0 then rw else [lI (cntP (fun w => decide (hrs n pc E N (bu b (14 + q) (b (14 + q) + w)) 29 = q)) 31)]) ∧ fP I I' ∧ R' = RX) := by
  refine PC.of [some (.ref 51), some (.int (nI q)), some (.int (nI N)), none, none, none] rfl rfl (Nat.le_of_ble_eq_true rfl) ?_
  obtain ⟨hWF, hZ, hU⟩ := hW
  have h7 := hWF.1
  have hu := hU q (by omega)
  refine pw_bipush (v := -2) 2 rfl dX5_fewestToWait_0 rfl ?_
  refine pw_istore_n 3 rfl dX5_fewestToWait_2 (by decide) ?_
  refine pw_iconst (v := nI 0) 4 rfl dX5_fewestToWait_3 rfl ?_
  refine pw_istore 6 rfl dX5_fewestToWait_4 (by decide) ?_
  refine pw_iconst (v := nI 0) 7 rfl dX5_fewestToWait_6 rfl ?_
  refine pw_istore 9 rfl dX5_fewestToWait_7 (by decide) ?_
  rotate_left
  have L := nat_loop 31 (fun w => ∀ (I' : pI), XE I' 9 E → (∀ a, a ≠ 11 → ¬ (52 ≤ a ∧ a ≤ 59) → I' a = I a) → PW SX yX5_fewestToWait.cls cX5_fewestToWait 6 (d + 7) 9 [some (.ref 51), some (.int (nI q)), some (.int (nI N)), some (.int (fstP (fun w => decide (hrs n pc E N (bu b (14 + q) (b (14 + q) + w)) 29 = q)) id w)), some (.int (nI (cntP (fun w => decide (hrs n pc E N (bu b (14 + q) (b (14 + q) + w)) 29 = q)) w))), some (.int (nI w))] [] (I') (J) (RX) (rX cX5_fewestToWait (some .int) (fun r' I' J' R' => r' = some (.int (fstP (fun w => decide (hrs n pc E N (bu b (14 + q) (b (14 + q) + w)) 29 = q)) id 31)) ∧ XN I' J' (if cntP (fun w => decide (hrs n pc E N (bu b (14 + q) (b (14 + q) + w)) 29 = q)) 31 = 0 then rw else [lI (cntP (fun w => decide (hrs n pc E N (bu b (14 + q) (b (14 + q) + w)) 29 = q)) 31)]) ∧ fP I I' ∧ R' = RX))) ?_ ?_
  · exact L I hE (fun _ _ _ => rfl)
  · intro I' g1 g2
    have hR' : XN I' J rw := XN_fr hR (g2 19 (by omega) (by omega))
    have hc := cntP_le (fun w => decide (hrs n pc E N (bu b (14 + q) (b (14 + q) + w)) 29 = q)) 31
    by_cases h0 : cntP (fun w => decide (hrs n pc E N (bu b (14 + q) (b (14 + q) + w)) 29 = q)) 31 = 0
    · rw [if_pos h0]
      refine pw_iload 11 rfl dX5_fewestToWait_9 rfl ?_
      refine pw_bipush (v := nI 30) 13 rfl dX5_fewestToWait_11 rfl ?_
      refine pw_icmp_gt (tgt := 82) 16 rfl dX5_fewestToWait_13 rfl (fun h13 => ?_) (fun h13 => absurd (by (simp (disch := omega) only [nI_leI, nI_ltI, nI_eq, show (0 : Int32) = nI 0 from rfl, not_true_eq_false, not_false_eq_true] <;> omega)) h13)
      refine pw_iload 84 rfl dX5_fewestToWait_82 rfl ?_
      refine pw_if_le (tgt := 97) 87 rfl dX5_fewestToWait_84 rfl (fun h84 => ?_) (fun h84 => absurd (by rw [h0]; decide) h84)
      refine pw_iload_n 98 rfl dX5_fewestToWait_97 rfl ?_
      refine pw_iret dX5_fewestToWait_98 rfl ?_
      rotate_left
      exact ⟨rfl, hR', fun a h1 h2 h3 => g2 a h1 h3, rfl⟩
    · rw [if_neg h0]
      refine pw_iload 11 rfl dX5_fewestToWait_9 rfl ?_
      refine pw_bipush (v := nI 30) 13 rfl dX5_fewestToWait_11 rfl ?_
      refine pw_icmp_gt (tgt := 82) 16 rfl dX5_fewestToWait_13 rfl (fun h13 => ?_) (fun h13 => absurd (by (simp (disch := omega) only [nI_leI, nI_ltI, nI_eq, show (0 : Int32) = nI 0 from rfl, not_true_eq_false, not_false_eq_true] <;> omega)) h13)
      refine pw_iload 84 rfl dX5_fewestToWait_82 rfl ?_
      refine pw_if_le (tgt := 97) 87 rfl dX5_fewestToWait_84 rfl (fun h84 => absurd h84 (nI_nle (by omega) (by omega))) (fun h84 => ?_)
      refine pw_aload_n 88 rfl dX5_fewestToWait_87 rfl ?_
      refine pw_getR 91 rfl dX5_fewestToWait_88 fX5_29 (by first | rfl | assumption | exact rowS hh | exact mtS hm | exact ruS hr | exact mtA1 hm | exact mtA2 hm | exact mtA3 hm | exact mtA4 hm | exact mtA5 hm | exact mtA6 hm | exact mtA7 hm | exact ruA1 hr | exact ruA2 hr | exact ruA3 hr) rfl (by first | rfl | assumption | exact mtR0 hm | exact mtR1 hm | exact mtR2 hm | exact mtR3 hm | exact mtR4 hm | exact mtR5 hm | exact mtR6 hm | exact ruR0 hr | exact ruR1 hr | exact ruR3 hr) ?_
      refine pw_iload 93 rfl dX5_fewestToWait_91 rfl ?_
      refine pw_i2l 94 rfl dX5_fewestToWait_93 ?_
      refine pw_callV (as := [_]) 97 rfl dX5_fewestToWait_94 mX5_81 vX2_tellOne (x_tellOne (d := d) _) (by first | rfl | assumption | exact rowS hh | exact mtS hm | exact ruS hr | exact mtA1 hm | exact mtA2 hm | exact mtA3 hm | exact mtA4 hm | exact mtA5 hm | exact mtA6 hm | exact mtA7 hm | exact ruA1 hr | exact ruA2 hr | exact ruA3 hr) rfl (by decide) ⟨rfl, by decide, by decide, show (parseMethodDescriptor yX2_tellOne.desc).map (fun d => d.parameters.length) = some 1 by decide +kernel⟩ (by omega) (by decide) (Nat.le_of_ble_eq_true rfl) rfl (fun r94 I94 J94 R94 c94 => ?_)
      obtain ⟨rfl, n1, n2, rfl⟩ := c94
      rotate_left
      refine pw_iload_n 98 rfl dX5_fewestToWait_97 rfl ?_
      refine pw_iret dX5_fewestToWait_98 rfl ?_
      rotate_left
      exact ⟨rfl, n1, fun a h1 h2 h3 => by rw [n2 a h2, g2 a h1 h3], rfl⟩
  · intro w hw ih I' g1 g2
    have hM' : XM I' 1 n pc b := XM_fr hM (fun a h1 h2 => g2 a (by omega) (by omega))
    have hWw : WF n pc (bu b (14 + q) (b (14 + q) + w)) := WF_bu hWF (by omega)
    have hc := cntP_le (fun w => decide (hrs n pc E N (bu b (14 + q) (b (14 + q) + w)) 29 = q)) w
    refine pw_iload 11 rfl dX5_fewestToWait_9 rfl ?_
    refine pw_bipush (v := nI 30) 13 rfl dX5_fewestToWait_11 rfl ?_
    refine pw_icmp_gt (tgt := 82) 16 rfl dX5_fewestToWait_13 rfl (fun h13 => absurd h13 (by (simp (disch := omega) only [nI_leI, nI_ltI, nI_eq, show (0 : Int32) = nI 0 from rfl, not_true_eq_false, not_false_eq_true] <;> omega))) (fun h13 => ?_)
    refine pw_aload_n 17 rfl dX5_fewestToWait_16 rfl ?_
    refine pw_getR 20 rfl dX5_fewestToWait_17 fX5_12 (by first | rfl | assumption | exact rowS hh | exact mtS hm | exact ruS hr | exact mtA1 hm | exact mtA2 hm | exact mtA3 hm | exact mtA4 hm | exact mtA5 hm | exact mtA6 hm | exact mtA7 hm | exact ruA1 hr | exact ruA2 hr | exact ruA3 hr) rfl (by first | rfl | assumption | exact mtR0 hm | exact mtR1 hm | exact mtR2 hm | exact mtR3 hm | exact mtR4 hm | exact mtR5 hm | exact mtR6 hm | exact ruR0 hr | exact ruR1 hr | exact ruR3 hr) ?_
    refine pw_aload_n 21 rfl dX5_fewestToWait_20 rfl ?_
    refine pw_getR 24 rfl dX5_fewestToWait_21 fX5_22 (by first | rfl | assumption | exact rowS hh | exact mtS hm | exact ruS hr | exact mtA1 hm | exact mtA2 hm | exact mtA3 hm | exact mtA4 hm | exact mtA5 hm | exact mtA6 hm | exact mtA7 hm | exact ruA1 hr | exact ruA2 hr | exact ruA3 hr) rfl (by first | rfl | assumption | exact mtR0 hm | exact mtR1 hm | exact mtR2 hm | exact mtR3 hm | exact mtR4 hm | exact mtR5 hm | exact mtR6 hm | exact ruR0 hr | exact ruR1 hr | exact ruR3 hr) ?_
    refine pw_callV (as := [_]) 27 rfl dX5_fewestToWait_24 mX5_53 vX1_copyFrom (x_copyFrom (d := d) (Or.inr rfl) hM') (by first | rfl | assumption | exact rowS hh | exact mtS hm | exact ruS hr | exact mtA1 hm | exact mtA2 hm | exact mtA3 hm | exact mtA4 hm | exact mtA5 hm | exact mtA6 hm | exact mtA7 hm | exact ruA1 hr | exact ruA2 hr | exact ruA3 hr) rfl (by decide) ⟨rfl, by decide, by decide, show (parseMethodDescriptor yX1_copyFrom.desc).map (fun d => d.parameters.length) = some 1 by decide +kernel⟩ (by omega) (by decide) (Nat.le_of_ble_eq_true rfl) rfl (fun r24 I24 J24 R24 c24 => ?_)
    obtain ⟨rfl, a1, a2, a3, rfl, rfl⟩ := c24; have e8 := XE_fr g1 (a3 9 (by omega)) (a3 10 (by omega))
    refine pw_aload_n 28 rfl dX5_fewestToWait_27 rfl ?_
    refine pw_getR 31 rfl dX5_fewestToWait_28 fX5_12 (by first | rfl | assumption | exact rowS hh | exact mtS hm | exact ruS hr | exact mtA1 hm | exact mtA2 hm | exact mtA3 hm | exact mtA4 hm | exact mtA5 hm | exact mtA6 hm | exact mtA7 hm | exact ruA1 hr | exact ruA2 hr | exact ruA3 hr) rfl (by first | rfl | assumption | exact mtR0 hm | exact mtR1 hm | exact mtR2 hm | exact mtR3 hm | exact mtR4 hm | exact mtR5 hm | exact mtR6 hm | exact ruR0 hr | exact ruR1 hr | exact ruR3 hr) ?_
    refine pw_iload_n 32 rfl dX5_fewestToWait_31 rfl ?_
    refine pw_callVP (as := [_]) 35 rfl dX5_fewestToWait_32 mX5_69 vX1_has (x_has (d := d) (Or.inr (Or.inr rfl)) a1.2.1 h7 _) (by first | rfl | assumption | exact rowS hh | exact mtS hm | exact ruS hr | exact mtA1 hm | exact mtA2 hm | exact mtA3 hm | exact mtA4 hm | exact mtA5 hm | exact mtA6 hm | exact mtA7 hm | exact ruA1 hr | exact ruA2 hr | exact ruA3 hr) rfl (by decide) ⟨rfl, by decide, by decide, show (parseMethodDescriptor yX1_has.desc).map (fun d => d.parameters.length) = some 1 by decide +kernel⟩ (by omega) (by decide) (Nat.le_of_ble_eq_true rfl) rfl ?_
    refine pw_if_eq (tgt := 52) 38 rfl dX5_fewestToWait_35 rfl (fun h35 => absurd h35 (by rw [hasV_y hq h7]; decide)) (fun h35 => ?_)
    refine pw_aload_n 39 rfl dX5_fewestToWait_38 rfl ?_
    refine pw_getR 42 rfl dX5_fewestToWait_39 fX5_12 (by first | rfl | assumption | exact rowS hh | exact mtS hm | exact ruS hr | exact mtA1 hm | exact mtA2 hm | exact mtA3 hm | exact mtA4 hm | exact mtA5 hm | exact mtA6 hm | exact mtA7 hm | exact ruA1 hr | exact ruA2 hr | exact ruA3 hr) rfl (by first | rfl | assumption | exact mtR0 hm | exact mtR1 hm | exact mtR2 hm | exact mtR3 hm | exact mtR4 hm | exact mtR5 hm | exact mtR6 hm | exact ruR0 hr | exact ruR1 hr | exact ruR3 hr) ?_
    refine pw_getR 45 rfl dX5_fewestToWait_42 fX5_73 (by first | rfl | assumption | exact rowS hh | exact mtS hm | exact ruS hr | exact mtA1 hm | exact mtA2 hm | exact mtA3 hm | exact mtA4 hm | exact mtA5 hm | exact mtA6 hm | exact mtA7 hm | exact ruA1 hr | exact ruA2 hr | exact ruA3 hr) rfl (by first | rfl | assumption | exact mtR0 hm | exact mtR1 hm | exact mtR2 hm | exact mtR3 hm | exact mtR4 hm | exact mtR5 hm | exact mtR6 hm | exact ruR0 hr | exact ruR1 hr | exact ruR3 hr) ?_
    refine pw_iload_n 46 rfl dX5_fewestToWait_45 rfl ?_
    refine pw_dup2 47 rfl dX5_fewestToWait_46 rfl rfl ?_
    refine pw_ialdN 48 rfl dX5_fewestToWait_47 (by first | rfl | assumption | exact rowS hh | exact mtS hm | exact ruS hr | exact mtA1 hm | exact mtA2 hm | exact mtA3 hm | exact mtA4 hm | exact mtA5 hm | exact mtA6 hm | exact mtA7 hm | exact ruA1 hr | exact ruA2 hr | exact ruA3 hr) (by omega) (by decide) ?_
    refine pw_iload 50 rfl dX5_fewestToWait_48 rfl ?_
    rotate_left
    rw [(a1.2.2.2.2.2.2 q (by omega)).2.2.2.1]
    first | refine pw_iaddN 51 rfl dX5_fewestToWait_50 ?_ | refine pw_iadd 51 rfl dX5_fewestToWait_50 ?_
    refine pw_iastN 52 rfl dX5_fewestToWait_51 (by first | rfl | assumption | exact rowS hh | exact mtS hm | exact ruS hr | exact mtA1 hm | exact mtA2 hm | exact mtA3 hm | exact mtA4 hm | exact mtA5 hm | exact mtA6 hm | exact mtA7 hm | exact ruA1 hr | exact ruA2 hr | exact ruA3 hr) (by omega) (by decide) ?_
    refine pw_aload_n 53 rfl dX5_fewestToWait_52 rfl ?_
    refine pw_iload_n 54 rfl dX5_fewestToWait_53 rfl ?_
    refine pw_callV (as := [_]) 57 rfl dX5_fewestToWait_54 mX5_77 vX5_ownerIn (x_ownerIn (d := d) (XM_wait (v := b (14 + q) + w) a1 (by omega)) hWw (XE_fr e8 (by rw [uI, if_neg (by omega)]) (by rw [uI, if_neg (by omega)])) (by omega)) (by first | rfl | assumption | exact rowS hh | exact mtS hm | exact ruS hr | exact mtA1 hm | exact mtA2 hm | exact mtA3 hm | exact mtA4 hm | exact mtA5 hm | exact mtA6 hm | exact mtA7 hm | exact ruA1 hr | exact ruA2 hr | exact ruA3 hr) rfl (by decide) ⟨rfl, by decide, by decide, show (parseMethodDescriptor yX5_ownerIn.desc).map (fun d => d.parameters.length) = some 1 by decide +kernel⟩ (by omega) (by decide) (Nat.le_of_ble_eq_true rfl) rfl (fun r54 I54 J54 R54 c54 => ?_)
    obtain ⟨rfl, b1, b2, rfl, rfl⟩ := c54
    rotate_left
    have hOw := (WF_hrs E hWw N).2.2.1
    have ih' := ih I54 b1 (fun a h1 h2 => by rw [b2 a h1 h2, uI, if_neg (by omega), a3 a (by omega), g2 a h1 h2])
    by_cases hp : hrs n pc E N (bu b (14 + q) (b (14 + q) + w)) 29 = q
    · rw [fstP_y (P := fun w => decide (hrs n pc E N (bu b (14 + q) (b (14 + q) + w)) 29 = q)) (decide_eq_true hp), cntP_y (P := fun w => decide (hrs n pc E N (bu b (14 + q) (b (14 + q) + w)) 29 = q)) (decide_eq_true hp)] at ih'
      by_cases h0 : cntP (fun w => decide (hrs n pc E N (bu b (14 + q) (b (14 + q) + w)) 29 = q)) w = 0
      · rw [if_pos h0] at ih'
        refine pw_iload_n 58 rfl dX5_fewestToWait_57 rfl ?_
        refine pw_icmp_ne (tgt := 76) 61 rfl dX5_fewestToWait_58 rfl (fun h58 => absurd (by rw [hp]) h58) (fun h58 => ?_)
        refine pw_iload 63 rfl dX5_fewestToWait_61 rfl ?_
        refine pw_if_ne (tgt := 71) 66 rfl dX5_fewestToWait_63 rfl (fun h63 => absurd (by rw [h0]; rfl) h63) (fun h63 => ?_)
        refine pw_iload 68 rfl dX5_fewestToWait_66 rfl ?_
        refine pw_goto (tgt := 72) dX5_fewestToWait_68 rfl ?_
        refine pw_istore_n 73 rfl dX5_fewestToWait_72 (by decide) ?_
        refine pw_iincN 76 rfl dX5_fewestToWait_73 (by decide) rfl ?_
        refine pw_iincN 79 rfl dX5_fewestToWait_76 (by decide) rfl ?_
        refine pw_goto (tgt := 9) dX5_fewestToWait_79 rfl ?_
        rotate_left
        exact ih'
      · rw [if_neg h0] at ih'
        refine pw_iload_n 58 rfl dX5_fewestToWait_57 rfl ?_
        refine pw_icmp_ne (tgt := 76) 61 rfl dX5_fewestToWait_58 rfl (fun h58 => absurd (by rw [hp]) h58) (fun h58 => ?_)
        refine pw_iload 63 rfl dX5_fewestToWait_61 rfl ?_
        refine pw_if_ne (tgt := 71) 66 rfl dX5_fewestToWait_63 rfl (fun h63 => ?_) (fun h63 => absurd h63 (nI_ne0 (by omega) (by omega)))
        refine pw_iload_n 72 rfl dX5_fewestToWait_71 rfl ?_
        refine pw_istore_n 73 rfl dX5_fewestToWait_72 (by decide) ?_
        refine pw_iincN 76 rfl dX5_fewestToWait_73 (by decide) rfl ?_
        refine pw_iincN 79 rfl dX5_fewestToWait_76 (by decide) rfl ?_
        refine pw_goto (tgt := 9) dX5_fewestToWait_79 rfl ?_
        rotate_left
        exact ih'
    · rw [fstP_n (P := fun w => decide (hrs n pc E N (bu b (14 + q) (b (14 + q) + w)) 29 = q)) (decide_eq_false hp), cntP_n (P := fun w => decide (hrs n pc E N (bu b (14 + q) (b (14 + q) + w)) 29 = q)) (decide_eq_false hp)] at ih'
      refine pw_iload_n 58 rfl dX5_fewestToWait_57 rfl ?_
      refine pw_icmp_ne (tgt := 76) 61 rfl dX5_fewestToWait_58 rfl (fun h58 => ?_) (fun h58 => absurd h58 (by rw [nI_eq (by omega) (by omega)]; exact hp))
      refine pw_iincN 79 rfl dX5_fewestToWait_76 (by decide) rfl ?_
      refine pw_goto (tgt := 9) dX5_fewestToWait_79 rfl ?_
      rotate_left
      exact ih'
