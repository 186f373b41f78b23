def stW (b : Nat → Nat) (s i : Nat) : Nat → Nat := fun k => if 7 ≤ k ∧ k < 7 + i ∧ s.testBit (k - 7) = true then 1 else b k
/-- those of s have set out -/
def setb (b : Nat → Nat) (s : Nat) : Nat → Nat := stW b s 7
theorem stW_y {b : Nat → Nat} {s i : Nat} (h : s.testBit i = true) : bu (stW b s i) (7 + i) 1 = stW b s (i + 1) := by
  funext k
  unfold bu stW
  by_cases e : k = 7 + i
  · subst e
    rw [if_pos rfl, show 7 + i - 7 = i by omega, if_pos ⟨by omega, by omega, h⟩]
  · rw [if_neg e]
    by_cases h : 7 ≤ k ∧ k < 7 + i ∧ s.testBit (k - 7) = true
    · rw [if_pos h, if_pos ⟨h.1, by omega, h.2.2⟩]
    · rw [if_neg h, if_neg (fun z => h ⟨z.1, by omega, z.2.2⟩)]
theorem stW_n {b : Nat → Nat} {s i : Nat} (h : s.testBit i = false) : stW b s i = stW b s (i + 1) := by
  funext k
  unfold stW
  by_cases e : k = 7 + i
  · subst e
    rw [if_neg (fun z => by omega), if_neg (fun z => by rw [show 7 + i - 7 = i by omega, h] at z; cases z.2.2)]
  · by_cases h : 7 ≤ k ∧ k < 7 + i ∧ s.testBit (k - 7) = true
    · rw [if_pos h, if_pos ⟨h.1, by omega, h.2.2⟩]
    · rw [if_neg h, if_neg (fun z => h ⟨z.1, by omega, z.2.2⟩)]
theorem WF_stW {n : Nat} {pc b : Nat → Nat} (h : WF n pc b) (s i : Nat) (hi : i ≤ 7) : WF n pc (stW b s i) := by
  obtain ⟨h7, ht, ho, hd, hB⟩ := h
  have e : ∀ k, ¬ (7 ≤ k ∧ k < 14) → stW b s i k = b k := fun k hk => if_neg (fun z => hk ⟨z.1, by omega⟩)
  refine ⟨h7, by rw [e 28 (by omega)]; exact ht, by rw [e 29 (by omega)]; exact ho, by rw [e 31 (by omega)]; exact hd, fun k hk => ?_⟩
  have hb := hB k hk
  rw [e k (by omega), e 28 (by omega), e (14 + k) (by omega), e (21 + k) (by omega)]
  refine ⟨hb.1, hb.2.1, ?_, hb.2.2.2⟩
  unfold stW
  split <;> omega
set_option maxRecDepth 100000 in
set_option maxHeartbeats 2000000 in
theorem x_letSetOut {d n s : Nat} {pc b : Nat → Nat} {I : pI} {J : pJ} (hM : XM I 1 n pc b) (hW : WF n pc b) (hs : s < 128) (hf : ∀ i, i < 7 → s.testBit i = true → i < n ∧ b (7 + i) = 0) : PC SX (d + 3) yX5_letSetOut cX5_letSetOut 3 none [.ref 51, .int (nI s)] (I) (J) (RX) (fun r' I' J' R' => r' = none ∧ XM I' 52 n pc (setb b s) ∧ fM 52 I I' ∧ J = J' ∧ R' = RX) := by
  refine PC.of [some (.ref 51), some (.int (nI s)), none] rfl rfl (Nat.le_of_ble_eq_true rfl) ?_
  refine pw_aload_n 1 rfl dX5_letSetOut_0 rfl ?_
  refine pw_getR 4 rfl dX5_letSetOut_1 fX5_12 (by first | rfl | assumption | exact rowS hh | exact mtS hm | exact ruS hr | exact mtA1 hm | exact mtA2 hm | exact mtA3 hm | exact mtA4 hm | exact mtA5 hm | exact mtA6 hm | exact mtA7 hm | exact ruA1 hr | exact ruA2 hr | exact ruA3 hr) rfl (by first | rfl | assumption | exact mtR0 hm | exact mtR1 hm | exact mtR2 hm | exact mtR3 hm | exact mtR4 hm | exact mtR5 hm | exact mtR6 hm | exact ruR0 hr | exact ruR1 hr | exact ruR3 hr) ?_
  refine pw_aload_n 5 rfl dX5_letSetOut_4 rfl ?_
  refine pw_getR 8 rfl dX5_letSetOut_5 fX5_22 (by first | rfl | assumption | exact rowS hh | exact mtS hm | exact ruS hr | exact mtA1 hm | exact mtA2 hm | exact mtA3 hm | exact mtA4 hm | exact mtA5 hm | exact mtA6 hm | exact mtA7 hm | exact ruA1 hr | exact ruA2 hr | exact ruA3 hr) rfl (by first | rfl | assumption | exact mtR0 hm | exact mtR1 hm | exact mtR2 hm | exact mtR3 hm | exact mtR4 hm | exact mtR5 hm | exact mtR6 hm | exact ruR0 hr | exact ruR1 hr | exact ruR3 hr) ?_
  refine pw_callV (as := [_]) 11 rfl dX5_letSetOut_8 mX5_53 vX1_copyFrom (x_copyFrom (d := d) (Or.inr rfl) hM) (by first | rfl | assumption | exact rowS hh | exact mtS hm | exact ruS hr | exact mtA1 hm | exact mtA2 hm | exact mtA3 hm | exact mtA4 hm | exact mtA5 hm | exact mtA6 hm | exact mtA7 hm | exact ruA1 hr | exact ruA2 hr | exact ruA3 hr) rfl (by decide) ⟨rfl, by decide, by decide, show (parseMethodDescriptor yX1_copyFrom.desc).map (fun d => d.parameters.length) = some 1 by decide +kernel⟩ (by omega) (by decide) (Nat.le_of_ble_eq_true rfl) rfl (fun r8 I8 J8 R8 c8 => ?_)
  obtain ⟨rfl, a1, a2, a3, rfl, rfl⟩ := c8
  refine pw_iconst (v := nI 0) 12 rfl dX5_letSetOut_11 rfl ?_
  refine pw_istore_n 13 rfl dX5_letSetOut_12 (by decide) ?_
  rotate_left
  have L := nat_loop 7 (fun i => ∀ (I' : pI), XM I' 52 n pc (stW b s i) → fM 52 I I' → PW SX yX5_letSetOut.cls cX5_letSetOut 3 (d + 3) 13 [some (.ref 51), some (.int (nI s)), some (.int (nI i))] [] (I') (J) (RX) (rX cX5_letSetOut none (fun r' I' J' R' => r' = none ∧ XM I' 52 n pc (setb b s) ∧ fM 52 I I' ∧ J = J' ∧ R' = RX))) ?_ ?_
  · refine L _ ?_ a3
    rw [show stW b s 0 = b from funext fun k => if_neg (fun z => by omega)]
    exact a1
  · intro I' g1 g2
    refine pw_iload_n 14 rfl dX5_letSetOut_13 rfl ?_
    refine pw_bipush (v := nI 7) 16 rfl dX5_letSetOut_14 rfl ?_
    refine pw_icmp_ge (tgt := 43) 19 rfl dX5_letSetOut_16 rfl (fun h16 => ?_) (fun h16 => absurd (by (simp (disch := omega) only [nI_leI, nI_ltI, nI_eq, show (0 : Int32) = nI 0 from rfl, not_true_eq_false, not_false_eq_true] <;> omega)) h16)
    refine pw_vret dX5_letSetOut_43 ?_
    rotate_left
    exact ⟨rfl, g1, g2, rfl, rfl⟩
  · intro i hi ih I' g1 g2
    cases hp : s.testBit i with
    | true =>
      obtain ⟨hin, hb0⟩ := hf i hi hp
      refine pw_iload_n 14 rfl dX5_letSetOut_13 rfl ?_
      refine pw_bipush (v := nI 7) 16 rfl dX5_letSetOut_14 rfl ?_
      refine pw_icmp_ge (tgt := 43) 19 rfl dX5_letSetOut_16 rfl (fun h16 => absurd h16 (by (simp (disch := omega) only [nI_leI, nI_ltI, nI_eq, show (0 : Int32) = nI 0 from rfl, not_true_eq_false, not_false_eq_true] <;> omega))) (fun h16 => ?_)
      refine pw_iload_n 20 rfl dX5_letSetOut_19 rfl ?_
      refine pw_iload_n 21 rfl dX5_letSetOut_20 rfl ?_
      refine pw_ishr 22 rfl dX5_letSetOut_21 ?_
      refine pw_iconst (v := nI 1) 23 rfl dX5_letSetOut_22 rfl ?_
      refine pw_iand 24 rfl dX5_letSetOut_23 ?_
      refine pw_iconst (v := nI 1) 25 rfl dX5_letSetOut_24 rfl ?_
      refine pw_icmp_ne (tgt := 37) 28 rfl dX5_letSetOut_25 rfl (fun h25 => absurd (bit_y (by omega) (by omega) hp) h25) (fun h25 => ?_)
      refine pw_aload_n 29 rfl dX5_letSetOut_28 rfl ?_
      refine pw_getR 32 rfl dX5_letSetOut_29 fX5_12 (by first | rfl | assumption | exact rowS hh | exact mtS hm | exact ruS hr | exact mtA1 hm | exact mtA2 hm | exact mtA3 hm | exact mtA4 hm | exact mtA5 hm | exact mtA6 hm | exact mtA7 hm | exact ruA1 hr | exact ruA2 hr | exact ruA3 hr) rfl (by first | rfl | assumption | exact mtR0 hm | exact mtR1 hm | exact mtR2 hm | exact mtR3 hm | exact mtR4 hm | exact mtR5 hm | exact mtR6 hm | exact ruR0 hr | exact ruR1 hr | exact ruR3 hr) ?_
      refine pw_iload_n 33 rfl dX5_letSetOut_32 rfl ?_
      refine pw_callV (as := [_]) 36 rfl dX5_letSetOut_33 mX5_100 vX1_setOut (x_setOut (d := d) (Or.inr (Or.inr rfl)) g1 (WF_stW hW s i (by omega)) _) (by first | rfl | assumption | exact rowS hh | exact mtS hm | exact ruS hr | exact mtA1 hm | exact mtA2 hm | exact mtA3 hm | exact mtA4 hm | exact mtA5 hm | exact mtA6 hm | exact mtA7 hm | exact ruA1 hr | exact ruA2 hr | exact ruA3 hr) rfl (by decide) ⟨rfl, by decide, by decide, show (parseMethodDescriptor yX1_setOut.desc).map (fun d => d.parameters.length) = some 1 by decide +kernel⟩ (by omega) (by decide) (Nat.le_of_ble_eq_true rfl) rfl (fun r33 I33 J33 R33 c33 => ?_)
      obtain ⟨rfl, s1, s2, s3, rfl, rfl⟩ := c33
      refine pw_pop 37 rfl dX5_letSetOut_36 rfl ?_
      refine pw_iincN 40 rfl dX5_letSetOut_37 (by decide) rfl ?_
      refine pw_goto (tgt := 13) dX5_letSetOut_40 rfl ?_
      rotate_left
      refine ih I33 ?_ (fun a ha => by rw [s3 a ha, g2 a ha])
      rw [aSet_q (qOf_y hin hW.1), if_pos (by rw [show stW b s i (7 + i) = b (7 + i) from if_neg (fun z => by omega)]; exact hb0)] at s1
      rw [← stW_y hp]
      exact s1
    | false =>
      refine pw_iload_n 14 rfl dX5_letSetOut_13 rfl ?_
      refine pw_bipush (v := nI 7) 16 rfl dX5_letSetOut_14 rfl ?_
      refine pw_icmp_ge (tgt := 43) 19 rfl dX5_letSetOut_16 rfl (fun h16 => absurd h16 (by (simp (disch := omega) only [nI_leI, nI_ltI, nI_eq, show (0 : Int32) = nI 0 from rfl, not_true_eq_false, not_false_eq_true] <;> omega))) (fun h16 => ?_)
      refine pw_iload_n 20 rfl dX5_letSetOut_19 rfl ?_
      refine pw_iload_n 21 rfl dX5_letSetOut_20 rfl ?_
      refine pw_ishr 22 rfl dX5_letSetOut_21 ?_
      refine pw_iconst (v := nI 1) 23 rfl dX5_letSetOut_22 rfl ?_
      refine pw_iand 24 rfl dX5_letSetOut_23 ?_
      refine pw_iconst (v := nI 1) 25 rfl dX5_letSetOut_24 rfl ?_
      refine pw_icmp_ne (tgt := 37) 28 rfl dX5_letSetOut_25 rfl (fun h25 => ?_) (fun h25 => absurd h25 (bit_n (by omega) (by omega) hp))
      refine pw_iincN 40 rfl dX5_letSetOut_37 (by decide) rfl ?_
      refine pw_goto (tgt := 13) dX5_letSetOut_40 rfl ?_
      rotate_left
      exact ih I' (by rw [← stW_n hp]; exact g1) g2
set_option maxRecDepth 100000 in
set_option maxHeartbeats 2000000 in
theorem x_allBits {m d n : Nat} (hm : isMt m) {I : pI} {J : pJ} (hn : I m 7 = nI n) (h7 : n ≤ 7) : PC SX (d) yX1_allBits cX1_allBits 1 (some .int) [.ref m] (I) (J) (RX) (pPu (.int (nI (2 ^ n - 1))) I J RX) := by
  refine PC.of [some (.ref m)] rfl rfl (Nat.le_of_ble_eq_true rfl) ?_
  have hp : 2 ^ n ≤ 2 ^ 7 := Nat.pow_le_pow_right (by decide) h7
  have hp1 := Nat.two_pow_pos n
  refine pw_aload_n 1 rfl dX1_allBits_0 rfl ?_
  refine pw_getI 4 rfl dX1_allBits_1 fX1_33 (by first | rfl | assumption | exact rowS hh | exact mtS hm | exact ruS hr | exact mtA1 hm | exact mtA2 hm | exact mtA3 hm | exact mtA4 hm | exact mtA5 hm | exact mtA6 hm | exact mtA7 hm | exact ruA1 hr | exact ruA2 hr | exact ruA3 hr) rfl ?_
  refine pw_if_lt (tgt := 27) 7 rfl dX1_allBits_4 rfl (fun h4 => absurd h4 (by rw [hn]; exact nI_pos (by omega))) (fun h4 => ?_)
  refine pw_aload_n 8 rfl dX1_allBits_7 rfl ?_
  refine pw_getI 11 rfl dX1_allBits_8 fX1_33 (by first | rfl | assumption | exact rowS hh | exact mtS hm | exact ruS hr | exact mtA1 hm | exact mtA2 hm | exact mtA3 hm | exact mtA4 hm | exact mtA5 hm | exact mtA6 hm | exact mtA7 hm | exact ruA1 hr | exact ruA2 hr | exact ruA3 hr) rfl ?_
  refine pw_bipush (v := nI 7) 13 rfl dX1_allBits_11 rfl ?_
  refine pw_icmp_gt (tgt := 27) 16 rfl dX1_allBits_13 rfl (fun h13 => absurd h13 (by rw [hn]; (simp (disch := omega) only [nI_leI, nI_ltI, nI_eq, show (0 : Int32) = nI 0 from rfl, not_true_eq_false, not_false_eq_true] <;> omega))) (fun h13 => ?_)
  refine pw_iconst (v := nI 1) 17 rfl dX1_allBits_16 rfl ?_
  refine pw_aload_n 18 rfl dX1_allBits_17 rfl ?_
  refine pw_getI 21 rfl dX1_allBits_18 fX1_33 (by first | rfl | assumption | exact rowS hh | exact mtS hm | exact ruS hr | exact mtA1 hm | exact mtA2 hm | exact mtA3 hm | exact mtA4 hm | exact mtA5 hm | exact mtA6 hm | exact mtA7 hm | exact ruA1 hr | exact ruA2 hr | exact ruA3 hr) rfl ?_
  refine pw_ishl 22 rfl dX1_allBits_21 ?_
  rotate_left
  rw [hn, nI_shl (by omega)]
  refine pw_iconst (v := nI 1) 23 rfl dX1_allBits_22 rfl ?_
  refine pw_isubN 24 rfl dX1_allBits_23 (by omega) ?_
  refine pw_goto (tgt := 28) dX1_allBits_24 rfl ?_
  refine pw_iret dX1_allBits_28 rfl ?_
  rotate_left
  exact ⟨rfl, rfl, rfl, rfl⟩
/-- who has no way -/
def frees (n : Nat) (b : Nat → Nat) : Nat := 2 ^ n - 1 - bts (fun q => decide (b (7 + q) ≠ 0)) n
theorem frees_bit {n s : Nat} {b : Nat → Nat} (hs : s &&& frees n b = s) {i : Nat} (hi : s.testBit i = true) : i < n ∧ b (7 + i) = 0 := by
  have h1 : (s &&& frees n b).testBit i = true := by rw [hs]; exact hi
  rw [Nat.testBit_and, hi, Bool.true_and] at h1
  have hlt := bts_lt (fun q => decide (b (7 + q) ≠ 0)) n
  rw [frees, show 2 ^ n - 1 - bts (fun q => decide (b (7 + q) ≠ 0)) n = 2 ^ n - (bts (fun q => decide (b (7 + q) ≠ 0)) n + 1) by omega, Nat.testBit_two_pow_sub_succ hlt, bts_bit] at h1
  have h2 : i < n := by
    by_cases h : i < n
    · exact h
    · simp [h] at h1
  refine ⟨h2, ?_⟩
  simp [h2] at h1
  exact h1
set_option maxRecDepth 100000 in
set_option maxHeartbeats 2000000 in
theorem x_fewestToSetOut {d n N q : Nat} {pc b : Nat → Nat} {E : (Nat → Int32) → Nat} {I : pI} {J : pJ} {rw : List Int64} (hM : XM I 1 n pc b) (hW : WF n pc b) (hE : XE I 9 E) (hN : N ≤ 60) (hq : q < n) (hR : XN I J rw) : PC SX (d + 7) yX5_fewestToSetOut cX5_fewestToSetOut 6 (some .int) [.ref 51, .int (nI q), .int (nI N)] (I) (J) (RX) (fun r' I' J' R' => fewP (few (fun s => decide (s &&& frees n b = s) && decide (hrs n pc E N (setb b s) 29 ≠ q)) (frees n b + 1)) rw r' I' J' ∧ fP I I' ∧ R' = RX) := by
  refine PC.of [some (.ref 51), some (.int (nI q)), some (.int (nI N)), none, none, none] rfl rfl (Nat.le_of_ble_eq_true rfl) ?_
  have h7 := hW.1
  have hlt := bts_lt (fun q => decide (b (7 + q) ≠ 0)) n
  have hp : 2 ^ n ≤ 2 ^ 7 := Nat.pow_le_pow_right (by decide) h7
  have hfb : ∀ s, s &&& frees n b = s → ∀ i, i < 7 → s.testBit i = true → i < n ∧ b (7 + i) = 0 := fun s hs i _ hi => frees_bit hs hi
  refine pw_aload_n 1 rfl dX5_fewestToSetOut_0 rfl ?_
  refine pw_getR 4 rfl dX5_fewestToSetOut_1 fX5_22 (by first | rfl | assumption | exact rowS hh | exact mtS hm | exact ruS hr | exact mtA1 hm | exact mtA2 hm | exact mtA3 hm | exact mtA4 hm | exact mtA5 hm | exact mtA6 hm | exact mtA7 hm | exact ruA1 hr | exact ruA2 hr | exact ruA3 hr) rfl (by first | rfl | assumption | exact mtR0 hm | exact mtR1 hm | exact mtR2 hm | exact mtR3 hm | exact mtR4 hm | exact mtR5 hm | exact mtR6 hm | exact ruR0 hr | exact ruR1 hr | exact ruR3 hr) ?_
  refine pw_callVP (as := []) 7 rfl dX5_fewestToSetOut_4 mX5_103 vX1_allBits (x_allBits (d := d) (Or.inl rfl) hM.2.1 h7) (by first | rfl | assumption | exact rowS hh | exact mtS hm | exact ruS hr | exact mtA1 hm | exact mtA2 hm | exact mtA3 hm | exact mtA4 hm | exact mtA5 hm | exact mtA6 hm | exact mtA7 hm | exact ruA1 hr | exact ruA2 hr | exact ruA3 hr) rfl (by decide) ⟨rfl, by decide, by decide, show (parseMethodDescriptor yX1_allBits.desc).map (fun d => d.parameters.length) = some 0 by decide +kernel⟩ (by omega) (by decide) (Nat.le_of_ble_eq_true rfl) rfl ?_
  refine pw_aload_n 8 rfl dX5_fewestToSetOut_7 rfl ?_
  refine pw_getR 11 rfl dX5_fewestToSetOut_8 fX5_22 (by first | rfl | assumption | exact rowS hh | exact mtS hm | exact ruS hr | exact mtA1 hm | exact mtA2 hm | exact mtA3 hm | exact mtA4 hm | exact mtA5 hm | exact mtA6 hm | exact mtA7 hm | exact ruA1 hr | exact ruA2 hr | exact ruA3 hr) rfl (by first | rfl | assumption | exact mtR0 hm | exact mtR1 hm | exact mtR2 hm | exact mtR3 hm | exact mtR4 hm | exact mtR5 hm | exact mtR6 hm | exact ruR0 hr | exact ruR1 hr | exact ruR3 hr) ?_
  refine pw_callVP (as := []) 14 rfl dX5_fewestToSetOut_11 mX5_40 vX1_bitsOnWay (x_bitsOnWay (d := d) (Or.inl rfl) hM hW) (by first | rfl | assumption | exact rowS hh | exact mtS hm | exact ruS hr | exact mtA1 hm | exact mtA2 hm | exact mtA3 hm | exact mtA4 hm | exact mtA5 hm | exact mtA6 hm | exact mtA7 hm | exact ruA1 hr | exact ruA2 hr | exact ruA3 hr) rfl (by decide) ⟨rfl, by decide, by decide, show (parseMethodDescriptor yX1_bitsOnWay.desc).map (fun d => d.parameters.length) = some 0 by decide +kernel⟩ (by omega) (by decide) (Nat.le_of_ble_eq_true rfl) rfl ?_
  refine pw_iconst (v := -1) 15 rfl dX5_fewestToSetOut_14 rfl ?_
  refine pw_ixor 16 rfl dX5_fewestToSetOut_15 ?_
  refine pw_iand 17 rfl dX5_fewestToSetOut_16 ?_
  rotate_left
  rw [free_V n h7 _ hlt, show 2 ^ n - 1 - bts (fun q => decide (b (7 + q) ≠ 0)) n = frees n b from rfl]
  have ho : frees n b < 128 := by unfold frees; omega
  generalize hoo : frees n b = o at ho hfb ⊢
  refine pw_istore_n 18 rfl dX5_fewestToSetOut_17 (by decide) ?_
  refine pw_iconst (v := nI 0) 19 rfl dX5_fewestToSetOut_18 rfl ?_
  refine pw_istore 21 rfl dX5_fewestToSetOut_19 (by decide) ?_
  rotate_left
  have L := nat_loop 8 (fun m => ∀ (I' : pI) (x5 : Option Value), XE I' 9 E → (∀ a, a ≠ 11 → ¬ (52 ≤ a ∧ a ≤ 59) → I' a = I a) → (∀ s, s < o + 1 → (decide (s &&& o = s) && decide (hrs n pc E N (setb b s) 29 ≠ q)) = true → m ≤ popc s) → PW SX yX5_fewestToSetOut.cls cX5_fewestToSetOut 6 (d + 7) 21 [some (.ref 51), some (.int (nI q)), some (.int (nI N)), some (.int (nI o)), some (.int (nI m)), x5] [] I' J RX (rX cX5_fewestToSetOut (some .int) (fun r' I' J' R' => fewP (few (fun s => decide (s &&& o = s) && decide (hrs n pc E N (setb b s) 29 ≠ q)) (o + 1)) rw r' I' J' ∧ fP I I' ∧ R' = RX))) ?_ ?_
  · exact L I none hE (fun _ _ _ => rfl) (fun _ _ _ => Nat.zero_le _)
  · intro I' x5 g1 g2 g3
    rw [few_none (fun s hs => by
      cases hc : (decide (s &&& o = s) && decide (hrs n pc E N (setb b s) 29 ≠ q)) with
      | false => rfl
      | true =>
        exfalso
        have h1 := g3 s hs hc
        have h2 := pop_7 s (by omega)
        omega)]
    refine pw_iload 23 rfl dX5_fewestToSetOut_21 rfl ?_
    refine pw_bipush (v := nI 7) 25 rfl dX5_fewestToSetOut_23 rfl ?_
    refine pw_icmp_gt (tgt := 99) 28 rfl dX5_fewestToSetOut_25 rfl (fun h25 => ?_) (fun h25 => absurd (by (simp (disch := omega) only [nI_leI, nI_ltI, nI_eq, show (0 : Int32) = nI 0 from rfl, not_true_eq_false, not_false_eq_true] <;> omega)) h25)
    refine pw_bipush (v := -2) 101 rfl dX5_fewestToSetOut_99 rfl ?_
    refine pw_iret dX5_fewestToSetOut_101 rfl ?_
    rotate_left
    exact ⟨⟨rfl, XN_fr hR (g2 19 (by omega) (by omega))⟩, fun a h1 h2 h3 => g2 a h1 h3, rfl⟩
  · intro m hm ih I' x5 g1 g2 g3
    refine pw_iload 23 rfl dX5_fewestToSetOut_21 rfl ?_
    refine pw_bipush (v := nI 7) 25 rfl dX5_fewestToSetOut_23 rfl ?_
    refine pw_icmp_gt (tgt := 99) 28 rfl dX5_fewestToSetOut_25 rfl (fun h25 => absurd h25 (by (simp (disch := omega) only [nI_leI, nI_ltI, nI_eq, show (0 : Int32) = nI 0 from rfl, not_true_eq_false, not_false_eq_true] <;> omega))) (fun h25 => ?_)
    refine pw_iconst (v := nI 0) 29 rfl dX5_fewestToSetOut_28 rfl ?_
    refine pw_istore 31 rfl dX5_fewestToSetOut_29 (by decide) ?_
    rotate_left
    have L2 := nat_loop (o + 1) (fun s => ∀ (I' : pI), XE I' 9 E → (∀ a, a ≠ 11 → ¬ (52 ≤ a ∧ a ≤ 59) → I' a = I a) → (∀ s', s' < s → (decide (s' &&& o = s') && decide (hrs n pc E N (setb b s') 29 ≠ q)) = true → m + 1 ≤ popc s') → PW SX yX5_fewestToSetOut.cls cX5_fewestToSetOut 6 (d + 7) 31 [some (.ref 51), some (.int (nI q)), some (.int (nI N)), some (.int (nI o)), some (.int (nI m)), some (.int (nI s))] [] I' J RX (rX cX5_fewestToSetOut (some .int) (fun r' I' J' R' => fewP (few (fun s => decide (s &&& o = s) && decide (hrs n pc E N (setb b s) 29 ≠ q)) (o + 1)) rw r' I' J' ∧ fP I I' ∧ R' = RX))) ?_ ?_
    · exact L2 I' g1 g2 (fun s' h => by omega)
    · intro I2 p1 p2 p3
      refine pw_iload 33 rfl dX5_fewestToSetOut_31 rfl ?_
      refine pw_iload_n 34 rfl dX5_fewestToSetOut_33 rfl ?_
      refine pw_icmp_gt (tgt := 93) 37 rfl dX5_fewestToSetOut_34 rfl (fun h34 => ?_) (fun h34 => absurd (by (simp (disch := omega) only [nI_leI, nI_ltI, nI_eq, show (0 : Int32) = nI 0 from rfl, not_true_eq_false, not_false_eq_true] <;> omega)) h34)
      refine pw_iincN 96 rfl dX5_fewestToSetOut_93 (by decide) rfl ?_
      refine pw_goto (tgt := 21) dX5_fewestToSetOut_96 rfl ?_
      rotate_left
      exact ih I2 _ p1 p2 p3
    · intro s hs ih2 I2 p1 p2 p3
      have hM2 : XM I2 1 n pc b := XM_fr hM (fun a h1 h2 => p2 a (by omega) (by omega))
      have skip : ∀ (I3 : pI), XE I3 9 E → (∀ a, a ≠ 11 → ¬ (52 ≤ a ∧ a ≤ 59) → I3 a = I a) → ((decide (s &&& o = s) && decide (hrs n pc E N (setb b s) 29 ≠ q)) = true → m + 1 ≤ popc s) → PW SX yX5_fewestToSetOut.cls cX5_fewestToSetOut 6 (d + 7) 87 [some (.ref 51), some (.int (nI q)), some (.int (nI N)), some (.int (nI o)), some (.int (nI m)), some (.int (nI s))] [] I3 J RX (rX cX5_fewestToSetOut (some .int) (fun r' I' J' R' => fewP (few (fun s => decide (s &&& o = s) && decide (hrs n pc E N (setb b s) 29 ≠ q)) (o + 1)) rw r' I' J' ∧ fP I I' ∧ R' = RX)) := by
        intro I3 q1 q2 q3
        refine pw_iincN 90 rfl dX5_fewestToSetOut_87 (by decide) rfl ?_
        refine pw_goto (tgt := 31) dX5_fewestToSetOut_90 rfl ?_
        rotate_left
        exact ih2 I3 q1 q2 (fun s' h1 h2 => by
          by_cases e : s' = s
          · rw [e] at h2 ⊢; exact q3 h2
          · exact p3 s' (by omega) h2)
      by_cases hv : s &&& o = s
      · by_cases hpc : popc s = m
        · refine pw_iload 33 rfl dX5_fewestToSetOut_31 rfl ?_
          refine pw_iload_n 34 rfl dX5_fewestToSetOut_33 rfl ?_
          refine pw_icmp_gt (tgt := 93) 37 rfl dX5_fewestToSetOut_34 rfl (fun h34 => absurd h34 (by (simp (disch := omega) only [nI_leI, nI_ltI, nI_eq, show (0 : Int32) = nI 0 from rfl, not_true_eq_false, not_false_eq_true] <;> omega))) (fun h34 => ?_)
          refine pw_iload 39 rfl dX5_fewestToSetOut_37 rfl ?_
          refine pw_iload_n 40 rfl dX5_fewestToSetOut_39 rfl ?_
          refine pw_iconst (v := -1) 41 rfl dX5_fewestToSetOut_40 rfl ?_
          refine pw_ixor 42 rfl dX5_fewestToSetOut_41 ?_
          refine pw_iand 43 rfl dX5_fewestToSetOut_42 ?_
          refine pw_if_ne (tgt := 87) 46 rfl dX5_fewestToSetOut_43 rfl (fun h43 => absurd ((sub_iff o (by omega) s (by omega)).mpr hv) h43) (fun h43 => ?_)
          refine pw_iload 48 rfl dX5_fewestToSetOut_46 rfl ?_
          rotate_left
          refine pw_callSP (as := [_]) 51 rfl dX5_fewestToSetOut_48 mX5_85 sJ6_bitCount_0f7a4 (x_bitCount (d := d) _) ⟨rfl, by decide, by decide, show (parseMethodDescriptor yJ6_bitCount_0f7a4.desc).map (fun d => d.parameters.length) = some 1 by decide +kernel⟩ (by omega) (by decide) (Nat.le_of_ble_eq_true rfl) rfl ?_
          rotate_left
          rw [bc_pop s (by omega), show pop 10 s = m from hpc]
          have hWs := WF_stW hW s 7 (by omega)
          refine pw_iload 53 rfl dX5_fewestToSetOut_51 rfl ?_
          refine pw_icmp_eq (tgt := 59) 56 rfl dX5_fewestToSetOut_53 rfl (fun h53 => ?_) (fun h53 => absurd rfl h53)
          refine pw_aload_n 60 rfl dX5_fewestToSetOut_59 rfl ?_
          refine pw_iload 62 rfl dX5_fewestToSetOut_60 rfl ?_
          refine pw_callV (as := [_]) 65 rfl dX5_fewestToSetOut_62 mX5_106 vX5_letSetOut (x_letSetOut (d := d) hM2 hW (by omega) (hfb s hv)) (by first | rfl | assumption | exact rowS hh | exact mtS hm | exact ruS hr | exact mtA1 hm | exact mtA2 hm | exact mtA3 hm | exact mtA4 hm | exact mtA5 hm | exact mtA6 hm | exact mtA7 hm | exact ruA1 hr | exact ruA2 hr | exact ruA3 hr) rfl (by decide) ⟨rfl, by decide, by decide, show (parseMethodDescriptor yX5_letSetOut.desc).map (fun d => d.parameters.length) = some 1 by decide +kernel⟩ (by omega) (by decide) (Nat.le_of_ble_eq_true rfl) rfl (fun r62 I62 J62 R62 c62 => ?_)
          obtain ⟨rfl, s1, s2, rfl, rfl⟩ := c62
          refine pw_aload_n 66 rfl dX5_fewestToSetOut_65 rfl ?_
          refine pw_iload_n 67 rfl dX5_fewestToSetOut_66 rfl ?_
          refine pw_callV (as := [_]) 70 rfl dX5_fewestToSetOut_67 mX5_77 vX5_ownerIn (x_ownerIn (d := d) s1 hWs (XE_fr p1 (s2 9 (by omega)) (s2 10 (by omega))) (by omega)) (by first | rfl | assumption | exact rowS hh | exact mtS hm | exact ruS hr | exact mtA1 hm | exact mtA2 hm | exact mtA3 hm | exact mtA4 hm | exact mtA5 hm | exact mtA6 hm | exact mtA7 hm | exact ruA1 hr | exact ruA2 hr | exact ruA3 hr) rfl (by decide) ⟨rfl, by decide, by decide, show (parseMethodDescriptor yX5_ownerIn.desc).map (fun d => d.parameters.length) = some 1 by decide +kernel⟩ (by omega) (by decide) (Nat.le_of_ble_eq_true rfl) rfl (fun r67 I67 J67 R67 c67 => ?_)
          obtain ⟨rfl, b1, b2, rfl, rfl⟩ := c67
          rotate_left
          have hOw := (WF_hrs E hWs N).2.2.1
          have fr3 : ∀ a, a ≠ 11 → ¬ (52 ≤ a ∧ a ≤ 59) → I67 a = I a := fun a h1 h2 => by rw [b2 a h1 h2, s2 a (by omega), p2 a h1 h2]
          by_cases hp : hrs n pc E N (setb b s) 29 = q
          · refine pw_iload_n 71 rfl dX5_fewestToSetOut_70 rfl ?_
            refine pw_icmp_eq (tgt := 87) 74 rfl dX5_fewestToSetOut_71 rfl (fun h71 => ?_) (fun h71 => absurd (by rw [hp]) h71)
            rotate_left
            exact skip I67 b1 fr3 (fun z => by rw [Bool.and_eq_true] at z; exact absurd hp (of_decide_eq_true z.2))
          · rw [few_some (s := s) hs (by rw [decide_eq_true hv, decide_eq_true hp]; rfl) (fun s' h1 h2 => by
              have h3 := g3 s' h1 h2
              by_cases e : s' < s
              · have := p3 s' e h2
                exact Or.inl (by omega)
              · by_cases e2 : popc s' = m
                · exact Or.inr ⟨by omega, by omega⟩
                · exact Or.inl (by omega))]
            refine pw_iload_n 71 rfl dX5_fewestToSetOut_70 rfl ?_
            refine pw_icmp_eq (tgt := 87) 74 rfl dX5_fewestToSetOut_71 rfl (fun h71 => absurd h71 (by rw [nI_eq (by have h9 : hrs n pc E N (setb b s) 29 < n ∨ hrs n pc E N (setb b s) 29 = 7 := hOw; omega) (by omega)]; exact hp)) (fun h71 => ?_)
            refine pw_aload_n 75 rfl dX5_fewestToSetOut_74 rfl ?_
            refine pw_getR 78 rfl dX5_fewestToSetOut_75 fX5_29 (by first | rfl | assumption | exact rowS hh | exact mtS hm | exact ruS hr | exact mtA1 hm | exact mtA2 hm | exact mtA3 hm | exact mtA4 hm | exact mtA5 hm | exact mtA6 hm | exact mtA7 hm | exact ruA1 hr | exact ruA2 hr | exact ruA3 hr) rfl (by first | rfl | assumption | exact mtR0 hm | exact mtR1 hm | exact mtR2 hm | exact mtR3 hm | exact mtR4 hm | exact mtR5 hm | exact mtR6 hm | exact ruR0 hr | exact ruR1 hr | exact ruR3 hr) ?_
            refine pw_iload 80 rfl dX5_fewestToSetOut_78 rfl ?_
            refine pw_i2l 81 rfl dX5_fewestToSetOut_80 ?_
            refine pw_callV (as := [_]) 84 rfl dX5_fewestToSetOut_81 mX5_81 vX2_tellOne (x_tellOne (d := d) _) (by first | rfl | assumption | exact rowS hh | exact mtS hm | exact ruS hr | exact mtA1 hm | exact mtA2 hm | exact mtA3 hm | exact mtA4 hm | exact mtA5 hm | exact mtA6 hm | exact mtA7 hm | exact ruA1 hr | exact ruA2 hr | exact ruA3 hr) rfl (by decide) ⟨rfl, by decide, by decide, show (parseMethodDescriptor yX2_tellOne.desc).map (fun d => d.parameters.length) = some 1 by decide +kernel⟩ (by omega) (by decide) (Nat.le_of_ble_eq_true rfl) rfl (fun r81 I81 J81 R81 c81 => ?_)
            obtain ⟨rfl, n1, n2, rfl⟩ := c81
            rotate_left
            refine pw_iload 86 rfl dX5_fewestToSetOut_84 rfl ?_
            refine pw_iret dX5_fewestToSetOut_86 rfl ?_
            rotate_left
            rw [← hpc]
            exact ⟨⟨rfl, n1⟩, fun a h1 h2 h3 => by rw [n2 a h2, fr3 a h1 h3], rfl⟩
        · refine pw_iload 33 rfl dX5_fewestToSetOut_31 rfl ?_
          refine pw_iload_n 34 rfl dX5_fewestToSetOut_33 rfl ?_
          refine pw_icmp_gt (tgt := 93) 37 rfl dX5_fewestToSetOut_34 rfl (fun h34 => absurd h34 (by (simp (disch := omega) only [nI_leI, nI_ltI, nI_eq, show (0 : Int32) = nI 0 from rfl, not_true_eq_false, not_false_eq_true] <;> omega))) (fun h34 => ?_)
          refine pw_iload 39 rfl dX5_fewestToSetOut_37 rfl ?_
          refine pw_iload_n 40 rfl dX5_fewestToSetOut_39 rfl ?_
          refine pw_iconst (v := -1) 41 rfl dX5_fewestToSetOut_40 rfl ?_
          refine pw_ixor 42 rfl dX5_fewestToSetOut_41 ?_
          refine pw_iand 43 rfl dX5_fewestToSetOut_42 ?_
          refine pw_if_ne (tgt := 87) 46 rfl dX5_fewestToSetOut_43 rfl (fun h43 => absurd ((sub_iff o (by omega) s (by omega)).mpr hv) h43) (fun h43 => ?_)
          refine pw_iload 48 rfl dX5_fewestToSetOut_46 rfl ?_
          rotate_left
          refine pw_callSP (as := [_]) 51 rfl dX5_fewestToSetOut_48 mX5_85 sJ6_bitCount_0f7a4 (x_bitCount (d := d) _) ⟨rfl, by decide, by decide, show (parseMethodDescriptor yJ6_bitCount_0f7a4.desc).map (fun d => d.parameters.length) = some 1 by decide +kernel⟩ (by omega) (by decide) (Nat.le_of_ble_eq_true rfl) rfl ?_
          rotate_left
          rw [bc_pop s (by omega)]
          have hp7 := pop_le 10 s
          refine pw_iload 53 rfl dX5_fewestToSetOut_51 rfl ?_
          refine pw_icmp_eq (tgt := 59) 56 rfl dX5_fewestToSetOut_53 rfl (fun h53 => absurd h53 (by rw [nI_eq (by omega) (by omega)]; exact hpc)) (fun h53 => ?_)
          refine pw_goto (tgt := 87) dX5_fewestToSetOut_56 rfl ?_
          rotate_left
          exact skip I2 p1 p2 (fun z => by have := g3 s hs z; omega)
      · refine pw_iload 33 rfl dX5_fewestToSetOut_31 rfl ?_
        refine pw_iload_n 34 rfl dX5_fewestToSetOut_33 rfl ?_
        refine pw_icmp_gt (tgt := 93) 37 rfl dX5_fewestToSetOut_34 rfl (fun h34 => absurd h34 (by (simp (disch := omega) only [nI_leI, nI_ltI, nI_eq, show (0 : Int32) = nI 0 from rfl, not_true_eq_false, not_false_eq_true] <;> omega))) (fun h34 => ?_)
        refine pw_iload 39 rfl dX5_fewestToSetOut_37 rfl ?_
        refine pw_iload_n 40 rfl dX5_fewestToSetOut_39 rfl ?_
        refine pw_iconst (v := -1) 41 rfl dX5_fewestToSetOut_40 rfl ?_
        refine pw_ixor 42 rfl dX5_fewestToSetOut_41 ?_
        refine pw_iand 43 rfl dX5_fewestToSetOut_42 ?_
        refine pw_if_ne (tgt := 87) 46 rfl dX5_fewestToSetOut_43 rfl (fun h43 => ?_) (fun h43 => absurd h43 (fun z => hv ((sub_iff o (by omega) s (by omega)).mp z)))
        rotate_left
        exact skip I2 p1 p2 (fun z => by rw [decide_eq_false hv, Bool.false_and] at z; cases z)
