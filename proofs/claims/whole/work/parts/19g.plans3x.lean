theorem sub_iff : ∀ o, o < 128 → ∀ s, s < 128 → (nI s &&& (nI o ^^^ (-1)) = 0 ↔ s &&& o = s) := by decide +kernel
/-- a set without q -/
def cl (x q : Nat) : Nat := if x.testBit q then x - 2 ^ q else x
theorem cl_V : ∀ q, q < 7 → ∀ x, x < 128 → nI x &&& (nI 1 <<< (nI q &&& 31) ^^^ (-1)) = nI (cl x q) := by decide +kernel
theorem cl_7 : ∀ q, q < 7 → ∀ x, x < 128 → cl x q < 127 := by decide +kernel
theorem pop_7 : ∀ x, x < 128 → popc x ≤ 7 ∧ (popc x = 7 → x = 127) := by decide +kernel
theorem free_V : ∀ n, n ≤ 7 → ∀ x, x < 2 ^ n → nI (2 ^ n - 1) &&& (nI x ^^^ (-1)) = nI (2 ^ n - 1 - x) := by decide +kernel
def stI (b : Nat → Nat) (s i : Nat) : Nat → Nat := fun k => if 14 ≤ k ∧ k < 14 + i ∧ s.testBit (k - 14) = true then b k + 99 else b k
/-- those of s stay -/
def stay (b : Nat → Nat) (s : Nat) : Nat → Nat := stI b s 7
theorem stI_succ (b : Nat → Nat) (s i : Nat) : bu (stI b s i) (14 + i) (b (14 + i) + if s.testBit i then 99 else 0) = stI b s (i + 1) := by
  funext k
  unfold bu stI
  by_cases e : k = 14 + i
  · subst e
    rw [if_pos rfl, show 14 + i - 14 = i by omega]
    by_cases h : s.testBit i = true
    · rw [if_pos h, if_pos ⟨by omega, by omega, h⟩]
    · rw [if_neg h, if_neg (fun z => h z.2.2)]; rfl
  · rw [if_neg e]
    by_cases h : 14 ≤ k ∧ k < 14 + i ∧ s.testBit (k - 14) = true
    · rw [if_pos h, if_pos ⟨h.1, by omega, h.2.2⟩]
    · rw [if_neg h, if_neg (fun z => h ⟨z.1, by omega, z.2.2⟩)]
theorem WF_stay {n : Nat} {pc b : Nat → Nat} (h : WN n pc b) (s : Nat) : WF n pc (stay b s) := by
  obtain ⟨⟨h7, ht, ho, hd, hB⟩, hz, hU⟩ := h
  have e : ∀ k, ¬ (14 ≤ k ∧ k < 21) → stay b s k = b k := fun k hk => if_neg (fun z => hk ⟨z.1, z.2.1⟩)
  refine ⟨h7, by rw [e 28 (by omega)]; exact ht, by rw [e 29 (by omega)]; exact ho, by rw [e 31 (by omega)]; exact hd, fun k hk => ?_⟩
  have hb := hB k hk
  have hu := hU k hk
  rw [e k (by omega), e 28 (by omega), e (7 + k) (by omega), e (21 + k) (by omega)]
  refine ⟨hb.1, hb.2.1, hb.2.2.1, ?_, hb.2.2.2.2⟩
  unfold stay stI
  split <;> omega
set_option maxRecDepth 100000 in
set_option maxHeartbeats 2000000 in
theorem x_letStay {d n s : Nat} {pc b : Nat → Nat} {I : pI} {J : pJ} (hM : XM I 1 n pc b) (hW : WN n pc b) (hs : s < 128) : PC SX (d + 1) yX5_letStay cX5_letStay 3 none [.ref 51, .int (nI s)] (I) (J) (RX) (fun r' I' J' R' => r' = none ∧ XM I' 52 n pc (stay b s) ∧ fM 52 I I' ∧ J = J' ∧ R' = RX) := by
  refine PC.of [some (.ref 51), some (.int (nI s)), none] rfl rfl (Nat.le_of_ble_eq_true rfl) ?_
  have hU := hW.2.2
  refine pw_aload_n 1 rfl dX5_letStay_0 rfl ?_
  refine pw_getR 4 rfl dX5_letStay_1 fX5_12 (by first | rfl | assumption | exact rowS hh | exact mtS hm | exact ruS hr | exact mtA1 hm | exact mtA2 hm | exact mtA3 hm | exact mtA4 hm | exact mtA5 hm | exact mtA6 hm | exact mtA7 hm | exact ruA1 hr | exact ruA2 hr | exact ruA3 hr) rfl (by first | rfl | assumption | exact mtR0 hm | exact mtR1 hm | exact mtR2 hm | exact mtR3 hm | exact mtR4 hm | exact mtR5 hm | exact mtR6 hm | exact ruR0 hr | exact ruR1 hr | exact ruR3 hr) ?_
  refine pw_aload_n 5 rfl dX5_letStay_4 rfl ?_
  refine pw_getR 8 rfl dX5_letStay_5 fX5_22 (by first | rfl | assumption | exact rowS hh | exact mtS hm | exact ruS hr | exact mtA1 hm | exact mtA2 hm | exact mtA3 hm | exact mtA4 hm | exact mtA5 hm | exact mtA6 hm | exact mtA7 hm | exact ruA1 hr | exact ruA2 hr | exact ruA3 hr) rfl (by first | rfl | assumption | exact mtR0 hm | exact mtR1 hm | exact mtR2 hm | exact mtR3 hm | exact mtR4 hm | exact mtR5 hm | exact mtR6 hm | exact ruR0 hr | exact ruR1 hr | exact ruR3 hr) ?_
  refine pw_callV (as := [_]) 11 rfl dX5_letStay_8 mX5_53 vX1_copyFrom (x_copyFrom (d := d) (Or.inr rfl) hM) (by first | rfl | assumption | exact rowS hh | exact mtS hm | exact ruS hr | exact mtA1 hm | exact mtA2 hm | exact mtA3 hm | exact mtA4 hm | exact mtA5 hm | exact mtA6 hm | exact mtA7 hm | exact ruA1 hr | exact ruA2 hr | exact ruA3 hr) rfl (by decide) ⟨rfl, by decide, by decide, show (parseMethodDescriptor yX1_copyFrom.desc).map (fun d => d.parameters.length) = some 1 by decide +kernel⟩ (by omega) (by decide) (Nat.le_of_ble_eq_true rfl) rfl (fun r8 I8 J8 R8 c8 => ?_)
  obtain ⟨rfl, a1, a2, a3, rfl, rfl⟩ := c8
  refine pw_iconst (v := nI 0) 12 rfl dX5_letStay_11 rfl ?_
  refine pw_istore_n 13 rfl dX5_letStay_12 (by decide) ?_
  rotate_left
  have L := nat_loop 7 (fun i => ∀ (I' : pI), XM I' 52 n pc (stI b s i) → fM 52 I I' → PW SX yX5_letStay.cls cX5_letStay 3 (d + 1) 13 [some (.ref 51), some (.int (nI s)), some (.int (nI i))] [] (I') (J) (RX) (rX cX5_letStay none (fun r' I' J' R' => r' = none ∧ XM I' 52 n pc (stay b s) ∧ fM 52 I I' ∧ J = J' ∧ R' = RX))) ?_ ?_
  · refine L _ ?_ a3
    rw [show stI b s 0 = b from funext fun k => if_neg (fun z => by omega)]
    exact a1
  · intro I' g1 g2
    refine pw_iload_n 14 rfl dX5_letStay_13 rfl ?_
    refine pw_bipush (v := nI 7) 16 rfl dX5_letStay_14 rfl ?_
    refine pw_icmp_ge (tgt := 52) 19 rfl dX5_letStay_16 rfl (fun h16 => ?_) (fun h16 => absurd (by (simp (disch := omega) only [nI_leI, nI_ltI, nI_eq, show (0 : Int32) = nI 0 from rfl, not_true_eq_false, not_false_eq_true] <;> omega)) h16)
    refine pw_vret dX5_letStay_52 ?_
    rotate_left
    exact ⟨rfl, g1, g2, rfl, rfl⟩
  · intro i hi ih I' g1 g2
    have ew : I' 56 i = nI (b (14 + i)) := by
      rw [(g1.2.2.2.2.2.2 i (by omega)).2.2.2.1]
      rw [show stI b s i (14 + i) = b (14 + i) from if_neg (fun z => by omega)]
    have st := fun (v : Nat) (h : b (14 + i) + (if s.testBit i then 99 else 0) = v) => ih (uI I' 56 i (nI v)) (by
      rw [← stI_succ, h]; exact XM_wait g1 hi) (fun a ha => by rw [uI, if_neg (by omega), g2 a ha])
    cases hp : s.testBit i with
    | true =>
      refine pw_iload_n 14 rfl dX5_letStay_13 rfl ?_
      refine pw_bipush (v := nI 7) 16 rfl dX5_letStay_14 rfl ?_
      refine pw_icmp_ge (tgt := 52) 19 rfl dX5_letStay_16 rfl (fun h16 => absurd h16 (by (simp (disch := omega) only [nI_leI, nI_ltI, nI_eq, show (0 : Int32) = nI 0 from rfl, not_true_eq_false, not_false_eq_true] <;> omega))) (fun h16 => ?_)
      refine pw_aload_n 20 rfl dX5_letStay_19 rfl ?_
      refine pw_getR 23 rfl dX5_letStay_20 fX5_12 (by first | rfl | assumption | exact rowS hh | exact mtS hm | exact ruS hr | exact mtA1 hm | exact mtA2 hm | exact mtA3 hm | exact mtA4 hm | exact mtA5 hm | exact mtA6 hm | exact mtA7 hm | exact ruA1 hr | exact ruA2 hr | exact ruA3 hr) rfl (by first | rfl | assumption | exact mtR0 hm | exact mtR1 hm | exact mtR2 hm | exact mtR3 hm | exact mtR4 hm | exact mtR5 hm | exact mtR6 hm | exact ruR0 hr | exact ruR1 hr | exact ruR3 hr) ?_
      refine pw_getR 26 rfl dX5_letStay_23 fX5_73 (by first | rfl | assumption | exact rowS hh | exact mtS hm | exact ruS hr | exact mtA1 hm | exact mtA2 hm | exact mtA3 hm | exact mtA4 hm | exact mtA5 hm | exact mtA6 hm | exact mtA7 hm | exact ruA1 hr | exact ruA2 hr | exact ruA3 hr) rfl (by first | rfl | assumption | exact mtR0 hm | exact mtR1 hm | exact mtR2 hm | exact mtR3 hm | exact mtR4 hm | exact mtR5 hm | exact mtR6 hm | exact ruR0 hr | exact ruR1 hr | exact ruR3 hr) ?_
      refine pw_iload_n 27 rfl dX5_letStay_26 rfl ?_
      refine pw_dup2 28 rfl dX5_letStay_27 rfl rfl ?_
      refine pw_ialdN 29 rfl dX5_letStay_28 (by first | rfl | assumption | exact rowS hh | exact mtS hm | exact ruS hr | exact mtA1 hm | exact mtA2 hm | exact mtA3 hm | exact mtA4 hm | exact mtA5 hm | exact mtA6 hm | exact mtA7 hm | exact ruA1 hr | exact ruA2 hr | exact ruA3 hr) (by omega) (by decide) ?_
      refine pw_iload_n 30 rfl dX5_letStay_29 rfl ?_
      refine pw_iload_n 31 rfl dX5_letStay_30 rfl ?_
      refine pw_ishr 32 rfl dX5_letStay_31 ?_
      refine pw_iconst (v := nI 1) 33 rfl dX5_letStay_32 rfl ?_
      refine pw_iand 34 rfl dX5_letStay_33 ?_
      refine pw_iconst (v := nI 1) 35 rfl dX5_letStay_34 rfl ?_
      refine pw_icmp_ne (tgt := 43) 38 rfl dX5_letStay_35 rfl (fun h35 => absurd (bit_y (by omega) (by omega) hp) h35) (fun h35 => ?_)
      refine pw_bipush (v := nI 99) 40 rfl dX5_letStay_38 rfl ?_
      refine pw_goto (tgt := 44) dX5_letStay_40 rfl ?_
      rotate_left
      rw [ew]
      first | refine pw_iaddN 45 rfl dX5_letStay_44 ?_ | refine pw_iadd 45 rfl dX5_letStay_44 ?_
      refine pw_iastN 46 rfl dX5_letStay_45 (by first | rfl | assumption | exact rowS hh | exact mtS hm | exact ruS hr | exact mtA1 hm | exact mtA2 hm | exact mtA3 hm | exact mtA4 hm | exact mtA5 hm | exact mtA6 hm | exact mtA7 hm | exact ruA1 hr | exact ruA2 hr | exact ruA3 hr) (by omega) (by decide) ?_
      refine pw_iincN 49 rfl dX5_letStay_46 (by decide) rfl ?_
      refine pw_goto (tgt := 13) dX5_letStay_49 rfl ?_
      rotate_left
      exact st _ (by rw [if_pos hp])
    | false =>
      refine pw_iload_n 14 rfl dX5_letStay_13 rfl ?_
      refine pw_bipush (v := nI 7) 16 rfl dX5_letStay_14 rfl ?_
      refine pw_icmp_ge (tgt := 52) 19 rfl dX5_letStay_16 rfl (fun h16 => absurd h16 (by (simp (disch := omega) only [nI_leI, nI_ltI, nI_eq, show (0 : Int32) = nI 0 from rfl, not_true_eq_false, not_false_eq_true] <;> omega))) (fun h16 => ?_)
      refine pw_aload_n 20 rfl dX5_letStay_19 rfl ?_
      refine pw_getR 23 rfl dX5_letStay_20 fX5_12 (by first | rfl | assumption | exact rowS hh | exact mtS hm | exact ruS hr | exact mtA1 hm | exact mtA2 hm | exact mtA3 hm | exact mtA4 hm | exact mtA5 hm | exact mtA6 hm | exact mtA7 hm | exact ruA1 hr | exact ruA2 hr | exact ruA3 hr) rfl (by first | rfl | assumption | exact mtR0 hm | exact mtR1 hm | exact mtR2 hm | exact mtR3 hm | exact mtR4 hm | exact mtR5 hm | exact mtR6 hm | exact ruR0 hr | exact ruR1 hr | exact ruR3 hr) ?_
      refine pw_getR 26 rfl dX5_letStay_23 fX5_73 (by first | rfl | assumption | exact rowS hh | exact mtS hm | exact ruS hr | exact mtA1 hm | exact mtA2 hm | exact mtA3 hm | exact mtA4 hm | exact mtA5 hm | exact mtA6 hm | exact mtA7 hm | exact ruA1 hr | exact ruA2 hr | exact ruA3 hr) rfl (by first | rfl | assumption | exact mtR0 hm | exact mtR1 hm | exact mtR2 hm | exact mtR3 hm | exact mtR4 hm | exact mtR5 hm | exact mtR6 hm | exact ruR0 hr | exact ruR1 hr | exact ruR3 hr) ?_
      refine pw_iload_n 27 rfl dX5_letStay_26 rfl ?_
      refine pw_dup2 28 rfl dX5_letStay_27 rfl rfl ?_
      refine pw_ialdN 29 rfl dX5_letStay_28 (by first | rfl | assumption | exact rowS hh | exact mtS hm | exact ruS hr | exact mtA1 hm | exact mtA2 hm | exact mtA3 hm | exact mtA4 hm | exact mtA5 hm | exact mtA6 hm | exact mtA7 hm | exact ruA1 hr | exact ruA2 hr | exact ruA3 hr) (by omega) (by decide) ?_
      refine pw_iload_n 30 rfl dX5_letStay_29 rfl ?_
      refine pw_iload_n 31 rfl dX5_letStay_30 rfl ?_
      refine pw_ishr 32 rfl dX5_letStay_31 ?_
      refine pw_iconst (v := nI 1) 33 rfl dX5_letStay_32 rfl ?_
      refine pw_iand 34 rfl dX5_letStay_33 ?_
      refine pw_iconst (v := nI 1) 35 rfl dX5_letStay_34 rfl ?_
      refine pw_icmp_ne (tgt := 43) 38 rfl dX5_letStay_35 rfl (fun h35 => ?_) (fun h35 => absurd h35 (bit_n (by omega) (by omega) hp))
      refine pw_iconst (v := nI 0) 44 rfl dX5_letStay_43 rfl ?_
      rotate_left
      rw [ew]
      first | refine pw_iaddN 45 rfl dX5_letStay_44 ?_ | refine pw_iadd 45 rfl dX5_letStay_44 ?_
      refine pw_iastN 46 rfl dX5_letStay_45 (by first | rfl | assumption | exact rowS hh | exact mtS hm | exact ruS hr | exact mtA1 hm | exact mtA2 hm | exact mtA3 hm | exact mtA4 hm | exact mtA5 hm | exact mtA6 hm | exact mtA7 hm | exact ruA1 hr | exact ruA2 hr | exact ruA3 hr) (by omega) (by decide) ?_
      refine pw_iincN 49 rfl dX5_letStay_46 (by decide) rfl ?_
      refine pw_goto (tgt := 13) dX5_letStay_49 rfl ?_
      rotate_left
      exact st _ (by rw [if_neg (by rw [hp]; decide)])
/-- what the fewest are told as -/
def fewP (o : Option Nat) (rw : List Int64) (r' : Option Value) (I' : pI) (J' : pJ) : Prop := match o with
  | none => r' = some (.int (-2)) ∧ XN I' J' rw
  | some s => r' = some (.int (nI (popc s))) ∧ XN I' J' [lI s]
set_option maxRecDepth 100000 in
set_option maxHeartbeats 2000000 in
theorem x_fewestToStay {d n N q : Nat} {pc b : Nat → Nat} {E : (Nat → Int32) → Nat} {I : pI} {J : pJ} {rw : List Int64} (hM : XM I 1 n pc b) (hW : WN n pc b) (hE : XE I 9 E) (hN : N ≤ 60) (hq : q < n) (hR : XN I J rw) : PC SX (d + 7) yX5_fewestToStay cX5_fewestToStay 6 (some .int) [.ref 51, .int (nI q), .int (nI N)] (I) (J) (RX) (fun r' I' J' R' => fewP (few (fun s => decide (s &&& cl (bts (fun q => decide (b (7 + q) ≠ 0)) n) q = s) && decide (hrs n pc E N (stay b s) 29 = q)) (cl (bts (fun q => decide (b (7 + q) ≠ 0)) n) q + 1)) rw r' I' J' ∧ fP I I' ∧ R' = RX) := by
  refine PC.of [some (.ref 51), some (.int (nI q)), some (.int (nI N)), none, none, none] rfl rfl (Nat.le_of_ble_eq_true rfl) ?_
  have hWF := hW.1
  have h7 := hWF.1
  have hx : bts (fun q => decide (b (7 + q) ≠ 0)) n < 128 := Nat.lt_of_lt_of_le (bts_lt _ n) (Nat.le_trans (Nat.pow_le_pow_right (by decide) h7) (by decide))
  have ho := cl_7 q (by omega) _ hx
  refine pw_aload_n 1 rfl dX5_fewestToStay_0 rfl ?_
  refine pw_getR 4 rfl dX5_fewestToStay_1 fX5_22 (by first | rfl | assumption | exact rowS hh | exact mtS hm | exact ruS hr | exact mtA1 hm | exact mtA2 hm | exact mtA3 hm | exact mtA4 hm | exact mtA5 hm | exact mtA6 hm | exact mtA7 hm | exact ruA1 hr | exact ruA2 hr | exact ruA3 hr) rfl (by first | rfl | assumption | exact mtR0 hm | exact mtR1 hm | exact mtR2 hm | exact mtR3 hm | exact mtR4 hm | exact mtR5 hm | exact mtR6 hm | exact ruR0 hr | exact ruR1 hr | exact ruR3 hr) ?_
  refine pw_callVP (as := []) 7 rfl dX5_fewestToStay_4 mX5_40 vX1_bitsOnWay (x_bitsOnWay (d := d) (Or.inl rfl) hM hWF) (by first | rfl | assumption | exact rowS hh | exact mtS hm | exact ruS hr | exact mtA1 hm | exact mtA2 hm | exact mtA3 hm | exact mtA4 hm | exact mtA5 hm | exact mtA6 hm | exact mtA7 hm | exact ruA1 hr | exact ruA2 hr | exact ruA3 hr) rfl (by decide) ⟨rfl, by decide, by decide, show (parseMethodDescriptor yX1_bitsOnWay.desc).map (fun d => d.parameters.length) = some 0 by decide +kernel⟩ (by omega) (by decide) (Nat.le_of_ble_eq_true rfl) rfl ?_
  refine pw_iconst (v := nI 1) 8 rfl dX5_fewestToStay_7 rfl ?_
  refine pw_iload_n 9 rfl dX5_fewestToStay_8 rfl ?_
  refine pw_ishl 10 rfl dX5_fewestToStay_9 ?_
  refine pw_iconst (v := -1) 11 rfl dX5_fewestToStay_10 rfl ?_
  refine pw_ixor 12 rfl dX5_fewestToStay_11 ?_
  refine pw_iand 13 rfl dX5_fewestToStay_12 ?_
  rotate_left
  rw [cl_V q (by omega) _ hx]
  generalize hoo : cl (bts (fun q => decide (b (7 + q) ≠ 0)) n) q = o at ho ⊢
  refine pw_istore_n 14 rfl dX5_fewestToStay_13 (by decide) ?_
  refine pw_iconst (v := nI 0) 15 rfl dX5_fewestToStay_14 rfl ?_
  refine pw_istore 17 rfl dX5_fewestToStay_15 (by decide) ?_
  rotate_left
  have L := nat_loop 7 (fun m => ∀ (I' : pI) (x5 : Option Value), XE I' 9 E → (∀ a, a ≠ 11 → ¬ (52 ≤ a ∧ a ≤ 59) → I' a = I a) → (∀ s, s < o + 1 → (decide (s &&& o = s) && decide (hrs n pc E N (stay b s) 29 = q)) = true → m ≤ popc s) → PW SX yX5_fewestToStay.cls cX5_fewestToStay 6 (d + 7) 17 [some (.ref 51), some (.int (nI q)), some (.int (nI N)), some (.int (nI o)), some (.int (nI m)), x5] [] I' J RX (rX cX5_fewestToStay (some .int) (fun r' I' J' R' => fewP (few (fun s => decide (s &&& o = s) && decide (hrs n pc E N (stay b s) 29 = q)) (o + 1)) rw r' I' J' ∧ fP I I' ∧ R' = RX))) ?_ ?_
  · exact L I none hE (fun _ _ _ => rfl) (fun _ _ _ => Nat.zero_le _)
  · intro I' x5 g1 g2 g3
    rw [few_none (fun s hs => by
      cases hc : (decide (s &&& o = s) && decide (hrs n pc E N (stay b s) 29 = q)) with
      | false => rfl
      | true =>
        exfalso
        have h1 := g3 s hs hc
        have h2 := pop_7 s (by omega)
        have h3 := h2.2 (by omega)
        omega)]
    refine pw_iload 19 rfl dX5_fewestToStay_17 rfl ?_
    refine pw_bipush (v := nI 7) 21 rfl dX5_fewestToStay_19 rfl ?_
    refine pw_icmp_ge (tgt := 95) 24 rfl dX5_fewestToStay_21 rfl (fun h21 => ?_) (fun h21 => absurd (by (simp (disch := omega) only [nI_leI, nI_ltI, nI_eq, show (0 : Int32) = nI 0 from rfl, not_true_eq_false, not_false_eq_true] <;> omega)) h21)
    refine pw_bipush (v := -2) 97 rfl dX5_fewestToStay_95 rfl ?_
    refine pw_iret dX5_fewestToStay_97 rfl ?_
    rotate_left
    exact ⟨⟨rfl, XN_fr hR (g2 19 (by omega) (by omega))⟩, fun a h1 h2 h3 => g2 a h1 h3, rfl⟩
  · intro m hm ih I' x5 g1 g2 g3
    refine pw_iload 19 rfl dX5_fewestToStay_17 rfl ?_
    refine pw_bipush (v := nI 7) 21 rfl dX5_fewestToStay_19 rfl ?_
    refine pw_icmp_ge (tgt := 95) 24 rfl dX5_fewestToStay_21 rfl (fun h21 => absurd h21 (by (simp (disch := omega) only [nI_leI, nI_ltI, nI_eq, show (0 : Int32) = nI 0 from rfl, not_true_eq_false, not_false_eq_true] <;> omega))) (fun h21 => ?_)
    refine pw_iconst (v := nI 0) 25 rfl dX5_fewestToStay_24 rfl ?_
    refine pw_istore 27 rfl dX5_fewestToStay_25 (by decide) ?_
    rotate_left
    have L2 := nat_loop (o + 1) (fun s => ∀ (I' : pI), XE I' 9 E → (∀ a, a ≠ 11 → ¬ (52 ≤ a ∧ a ≤ 59) → I' a = I a) → (∀ s', s' < s → (decide (s' &&& o = s') && decide (hrs n pc E N (stay b s') 29 = q)) = true → m + 1 ≤ popc s') → PW SX yX5_fewestToStay.cls cX5_fewestToStay 6 (d + 7) 27 [some (.ref 51), some (.int (nI q)), some (.int (nI N)), some (.int (nI o)), some (.int (nI m)), some (.int (nI s))] [] I' J RX (rX cX5_fewestToStay (some .int) (fun r' I' J' R' => fewP (few (fun s => decide (s &&& o = s) && decide (hrs n pc E N (stay b s) 29 = q)) (o + 1)) rw r' I' J' ∧ fP I I' ∧ R' = RX))) ?_ ?_
    · exact L2 I' g1 g2 (fun s' h => by omega)
    · intro I2 p1 p2 p3
      refine pw_iload 29 rfl dX5_fewestToStay_27 rfl ?_
      refine pw_iload_n 30 rfl dX5_fewestToStay_29 rfl ?_
      refine pw_icmp_gt (tgt := 89) 33 rfl dX5_fewestToStay_30 rfl (fun h30 => ?_) (fun h30 => absurd (by (simp (disch := omega) only [nI_leI, nI_ltI, nI_eq, show (0 : Int32) = nI 0 from rfl, not_true_eq_false, not_false_eq_true] <;> omega)) h30)
      refine pw_iincN 92 rfl dX5_fewestToStay_89 (by decide) rfl ?_
      refine pw_goto (tgt := 17) dX5_fewestToStay_92 rfl ?_
      rotate_left
      exact ih I2 _ p1 p2 p3
    · intro s hs ih2 I2 p1 p2 p3
      have hM2 : XM I2 1 n pc b := XM_fr hM (fun a h1 h2 => p2 a (by omega) (by omega))
      have skip : ∀ (I3 : pI), XE I3 9 E → (∀ a, a ≠ 11 → ¬ (52 ≤ a ∧ a ≤ 59) → I3 a = I a) → ((decide (s &&& o = s) && decide (hrs n pc E N (stay b s) 29 = q)) = true → m + 1 ≤ popc s) → PW SX yX5_fewestToStay.cls cX5_fewestToStay 6 (d + 7) 83 [some (.ref 51), some (.int (nI q)), some (.int (nI N)), some (.int (nI o)), some (.int (nI m)), some (.int (nI s))] [] I3 J RX (rX cX5_fewestToStay (some .int) (fun r' I' J' R' => fewP (few (fun s => decide (s &&& o = s) && decide (hrs n pc E N (stay b s) 29 = q)) (o + 1)) rw r' I' J' ∧ fP I I' ∧ R' = RX)) := by
        intro I3 q1 q2 q3
        refine pw_iincN 86 rfl dX5_fewestToStay_83 (by decide) rfl ?_
        refine pw_goto (tgt := 27) dX5_fewestToStay_86 rfl ?_
        rotate_left
        exact ih2 I3 q1 q2 (fun s' h1 h2 => by
          by_cases e : s' = s
          · rw [e] at h2 ⊢; exact q3 h2
          · exact p3 s' (by omega) h2)
      by_cases hv : s &&& o = s
      · by_cases hpc : popc s = m
        · refine pw_iload 29 rfl dX5_fewestToStay_27 rfl ?_
          refine pw_iload_n 30 rfl dX5_fewestToStay_29 rfl ?_
          refine pw_icmp_gt (tgt := 89) 33 rfl dX5_fewestToStay_30 rfl (fun h30 => absurd h30 (by (simp (disch := omega) only [nI_leI, nI_ltI, nI_eq, show (0 : Int32) = nI 0 from rfl, not_true_eq_false, not_false_eq_true] <;> omega))) (fun h30 => ?_)
          refine pw_iload 35 rfl dX5_fewestToStay_33 rfl ?_
          refine pw_iload_n 36 rfl dX5_fewestToStay_35 rfl ?_
          refine pw_iconst (v := -1) 37 rfl dX5_fewestToStay_36 rfl ?_
          refine pw_ixor 38 rfl dX5_fewestToStay_37 ?_
          refine pw_iand 39 rfl dX5_fewestToStay_38 ?_
          refine pw_if_ne (tgt := 83) 42 rfl dX5_fewestToStay_39 rfl (fun h39 => absurd ((sub_iff o (by omega) s (by omega)).mpr hv) h39) (fun h39 => ?_)
          refine pw_iload 44 rfl dX5_fewestToStay_42 rfl ?_
          rotate_left
          refine pw_callSP (as := [_]) 47 rfl dX5_fewestToStay_44 mX5_85 sJ6_bitCount_0f7a4 (x_bitCount (d := d) _) ⟨rfl, by decide, by decide, show (parseMethodDescriptor yJ6_bitCount_0f7a4.desc).map (fun d => d.parameters.length) = some 1 by decide +kernel⟩ (by omega) (by decide) (Nat.le_of_ble_eq_true rfl) rfl ?_
          rotate_left
          rw [bc_pop s (by omega), show pop 10 s = m from hpc]
          refine pw_iload 49 rfl dX5_fewestToStay_47 rfl ?_
          refine pw_icmp_eq (tgt := 55) 52 rfl dX5_fewestToStay_49 rfl (fun h49 => ?_) (fun h49 => absurd rfl h49)
          refine pw_aload_n 56 rfl dX5_fewestToStay_55 rfl ?_
          refine pw_iload 58 rfl dX5_fewestToStay_56 rfl ?_
          refine pw_callV (as := [_]) 61 rfl dX5_fewestToStay_58 mX5_90 vX5_letStay (x_letStay (d := d) hM2 hW (by omega)) (by first | rfl | assumption | exact rowS hh | exact mtS hm | exact ruS hr | exact mtA1 hm | exact mtA2 hm | exact mtA3 hm | exact mtA4 hm | exact mtA5 hm | exact mtA6 hm | exact mtA7 hm | exact ruA1 hr | exact ruA2 hr | exact ruA3 hr) rfl (by decide) ⟨rfl, by decide, by decide, show (parseMethodDescriptor yX5_letStay.desc).map (fun d => d.parameters.length) = some 1 by decide +kernel⟩ (by omega) (by decide) (Nat.le_of_ble_eq_true rfl) rfl (fun r58 I58 J58 R58 c58 => ?_)
          obtain ⟨rfl, s1, s2, rfl, rfl⟩ := c58
          refine pw_aload_n 62 rfl dX5_fewestToStay_61 rfl ?_
          refine pw_iload_n 63 rfl dX5_fewestToStay_62 rfl ?_
          refine pw_callV (as := [_]) 66 rfl dX5_fewestToStay_63 mX5_77 vX5_ownerIn (x_ownerIn (d := d) s1 (WF_stay hW s) (XE_fr p1 (s2 9 (by omega)) (s2 10 (by omega))) (by omega)) (by first | rfl | assumption | exact rowS hh | exact mtS hm | exact ruS hr | exact mtA1 hm | exact mtA2 hm | exact mtA3 hm | exact mtA4 hm | exact mtA5 hm | exact mtA6 hm | exact mtA7 hm | exact ruA1 hr | exact ruA2 hr | exact ruA3 hr) rfl (by decide) ⟨rfl, by decide, by decide, show (parseMethodDescriptor yX5_ownerIn.desc).map (fun d => d.parameters.length) = some 1 by decide +kernel⟩ (by omega) (by decide) (Nat.le_of_ble_eq_true rfl) rfl (fun r63 I63 J63 R63 c63 => ?_)
          obtain ⟨rfl, b1, b2, rfl, rfl⟩ := c63
          rotate_left
          have hOw := (WF_hrs E (WF_stay hW s) N).2.2.1
          have fr3 : ∀ a, a ≠ 11 → ¬ (52 ≤ a ∧ a ≤ 59) → I63 a = I a := fun a h1 h2 => by rw [b2 a h1 h2, s2 a (by omega), p2 a h1 h2]
          by_cases hp : hrs n pc E N (stay b s) 29 = q
          · rw [few_some (s := s) hs (by rw [decide_eq_true hv, decide_eq_true hp]; rfl) (fun s' h1 h2 => by
              have h3 := g3 s' h1 h2
              by_cases e : s' < s
              · have := p3 s' e h2
                exact Or.inl (by omega)
              · by_cases e2 : popc s' = m
                · exact Or.inr ⟨by omega, by omega⟩
                · exact Or.inl (by omega))]
            refine pw_iload_n 67 rfl dX5_fewestToStay_66 rfl ?_
            refine pw_icmp_ne (tgt := 83) 70 rfl dX5_fewestToStay_67 rfl (fun h67 => absurd (by rw [hp]) h67) (fun h67 => ?_)
            refine pw_aload_n 71 rfl dX5_fewestToStay_70 rfl ?_
            refine pw_getR 74 rfl dX5_fewestToStay_71 fX5_29 (by first | rfl | assumption | exact rowS hh | exact mtS hm | exact ruS hr | exact mtA1 hm | exact mtA2 hm | exact mtA3 hm | exact mtA4 hm | exact mtA5 hm | exact mtA6 hm | exact mtA7 hm | exact ruA1 hr | exact ruA2 hr | exact ruA3 hr) rfl (by first | rfl | assumption | exact mtR0 hm | exact mtR1 hm | exact mtR2 hm | exact mtR3 hm | exact mtR4 hm | exact mtR5 hm | exact mtR6 hm | exact ruR0 hr | exact ruR1 hr | exact ruR3 hr) ?_
            refine pw_iload 76 rfl dX5_fewestToStay_74 rfl ?_
            refine pw_i2l 77 rfl dX5_fewestToStay_76 ?_
            refine pw_callV (as := [_]) 80 rfl dX5_fewestToStay_77 mX5_81 vX2_tellOne (x_tellOne (d := d) _) (by first | rfl | assumption | exact rowS hh | exact mtS hm | exact ruS hr | exact mtA1 hm | exact mtA2 hm | exact mtA3 hm | exact mtA4 hm | exact mtA5 hm | exact mtA6 hm | exact mtA7 hm | exact ruA1 hr | exact ruA2 hr | exact ruA3 hr) rfl (by decide) ⟨rfl, by decide, by decide, show (parseMethodDescriptor yX2_tellOne.desc).map (fun d => d.parameters.length) = some 1 by decide +kernel⟩ (by omega) (by decide) (Nat.le_of_ble_eq_true rfl) rfl (fun r77 I77 J77 R77 c77 => ?_)
            obtain ⟨rfl, n1, n2, rfl⟩ := c77
            rotate_left
            refine pw_iload 82 rfl dX5_fewestToStay_80 rfl ?_
            refine pw_iret dX5_fewestToStay_82 rfl ?_
            rotate_left
            rw [← hpc]
            exact ⟨⟨rfl, n1⟩, fun a h1 h2 h3 => by rw [n2 a h2, fr3 a h1 h3], rfl⟩
          · refine pw_iload_n 67 rfl dX5_fewestToStay_66 rfl ?_
            refine pw_icmp_ne (tgt := 83) 70 rfl dX5_fewestToStay_67 rfl (fun h67 => ?_) (fun h67 => absurd h67 (by rw [nI_eq (by omega) (by omega)]; exact hp))
            rotate_left
            exact skip I63 b1 fr3 (fun z => by rw [decide_eq_false hp, Bool.and_false] at z; cases z)
        · refine pw_iload 29 rfl dX5_fewestToStay_27 rfl ?_
          refine pw_iload_n 30 rfl dX5_fewestToStay_29 rfl ?_
          refine pw_icmp_gt (tgt := 89) 33 rfl dX5_fewestToStay_30 rfl (fun h30 => absurd h30 (by (simp (disch := omega) only [nI_leI, nI_ltI, nI_eq, show (0 : Int32) = nI 0 from rfl, not_true_eq_false, not_false_eq_true] <;> omega))) (fun h30 => ?_)
          refine pw_iload 35 rfl dX5_fewestToStay_33 rfl ?_
          refine pw_iload_n 36 rfl dX5_fewestToStay_35 rfl ?_
          refine pw_iconst (v := -1) 37 rfl dX5_fewestToStay_36 rfl ?_
          refine pw_ixor 38 rfl dX5_fewestToStay_37 ?_
          refine pw_iand 39 rfl dX5_fewestToStay_38 ?_
          refine pw_if_ne (tgt := 83) 42 rfl dX5_fewestToStay_39 rfl (fun h39 => absurd ((sub_iff o (by omega) s (by omega)).mpr hv) h39) (fun h39 => ?_)
          refine pw_iload 44 rfl dX5_fewestToStay_42 rfl ?_
          rotate_left
          refine pw_callSP (as := [_]) 47 rfl dX5_fewestToStay_44 mX5_85 sJ6_bitCount_0f7a4 (x_bitCount (d := d) _) ⟨rfl, by decide, by decide, show (parseMethodDescriptor yJ6_bitCount_0f7a4.desc).map (fun d => d.parameters.length) = some 1 by decide +kernel⟩ (by omega) (by decide) (Nat.le_of_ble_eq_true rfl) rfl ?_
          rotate_left
          rw [bc_pop s (by omega)]
          have hp7 := pop_le 10 s
          refine pw_iload 49 rfl dX5_fewestToStay_47 rfl ?_
          refine pw_icmp_eq (tgt := 55) 52 rfl dX5_fewestToStay_49 rfl (fun h49 => absurd h49 (by rw [nI_eq (by omega) (by omega)]; exact hpc)) (fun h49 => ?_)
          refine pw_goto (tgt := 83) dX5_fewestToStay_52 rfl ?_
          rotate_left
          exact skip I2 p1 p2 (fun z => by have := g3 s hs z; omega)
      · refine pw_iload 29 rfl dX5_fewestToStay_27 rfl ?_
        refine pw_iload_n 30 rfl dX5_fewestToStay_29 rfl ?_
        refine pw_icmp_gt (tgt := 89) 33 rfl dX5_fewestToStay_30 rfl (fun h30 => absurd h30 (by (simp (disch := omega) only [nI_leI, nI_ltI, nI_eq, show (0 : Int32) = nI 0 from rfl, not_true_eq_false, not_false_eq_true] <;> omega))) (fun h30 => ?_)
        refine pw_iload 35 rfl dX5_fewestToStay_33 rfl ?_
        refine pw_iload_n 36 rfl dX5_fewestToStay_35 rfl ?_
        refine pw_iconst (v := -1) 37 rfl dX5_fewestToStay_36 rfl ?_
        refine pw_ixor 38 rfl dX5_fewestToStay_37 ?_
        refine pw_iand 39 rfl dX5_fewestToStay_38 ?_
        refine pw_if_ne (tgt := 83) 42 rfl dX5_fewestToStay_39 rfl (fun h39 => ?_) (fun h39 => absurd h39 (fun z => hv ((sub_iff o (by omega) s (by omega)).mp z)))
        rotate_left
        exact skip I2 p1 p2 (fun z => by rw [decide_eq_false hv, Bool.false_and] at z; cases z)
