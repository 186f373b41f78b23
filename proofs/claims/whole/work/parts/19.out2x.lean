theorem bitV {x i : Nat} (hx : x < 2147483648) (hi : i < 31) : nI x >>> (nI i &&& 31) &&& nI 1 = nI (x / 2 ^ i % 2) := by
  rw [pk_shrN hx (nI i &&& 31) i (sh_l i (by omega)), pk_andN (Nat.lt_of_le_of_lt (Nat.div_le_self _ _) (by omega)) 1 (by decide)]
theorem bit_y {x i : Nat} (hx : x < 2147483648) (hi : i < 31) (h : x.testBit i = true) : nI x >>> (nI i &&& 31) &&& nI 1 = nI 1 := by
  rw [bitV hx hi]
  rw [Nat.testBit_eq_decide_div_mod_eq, decide_eq_true_eq] at h
  rw [h]
theorem bit_n {x i : Nat} (hx : x < 2147483648) (hi : i < 31) (h : x.testBit i = false) : ¬ nI x >>> (nI i &&& 31) &&& nI 1 = nI 1 := by
  rw [bitV hx hi]
  rw [Nat.testBit_eq_decide_div_mod_eq, decide_eq_false_iff_not] at h
  rw [nI_eq (by omega) (by decide)]
  exact h
theorem bts_1024 (P : Nat → Bool) {n : Nat} (h : n ≤ 7) : bts P n < 1024 := Nat.lt_of_lt_of_le (bts_lt _ n) (Nat.le_trans (Nat.pow_le_pow_right (by decide) h) (by decide))
set_option maxRecDepth 100000 in
set_option maxHeartbeats 2000000 in
theorem x_heightBehind {d n N q : Nat} {pc b : Nat → Nat} {E : (Nat → Int32) → Nat} {I : pI} {J : pJ} (hM : XM I 1 n pc b) (hW : WF n pc b) (hE : XE I 9 E) (hN : N ≤ 99) (hq : q < n) : PC SX (d + 7) yX3_heightBehind cX3_heightBehind 3 (some .int) [.ref 40, .int (nI q), .int (nI N)] (I) (J) (RX) (fun r' I' J' R' => r' = some (.int (nI (hrs n pc E N b q))) ∧ XN I' J' [lI (hrs n pc E N b (7 + q)), lI (hrs n pc E N b (21 + q))] ∧ fO I I' ∧ R' = RX) := by
  refine PC.of [some (.ref 40), some (.int (nI q)), some (.int (nI N))] rfl rfl (Nat.le_of_ble_eq_true rfl) ?_
  have h7 := hW.1
  refine pw_aload_n 1 rfl dX3_heightBehind_0 rfl ?_
  refine pw_getR 4 rfl dX3_heightBehind_1 fX3_25 (by first | rfl | assumption | exact rowS hh | exact mtS hm | exact ruS hr | exact mtA1 hm | exact mtA2 hm | exact mtA3 hm | exact mtA4 hm | exact mtA5 hm | exact mtA6 hm | exact mtA7 hm | exact ruA1 hr | exact ruA2 hr | exact ruA3 hr) rfl (by first | rfl | assumption | exact mtR0 hm | exact mtR1 hm | exact mtR2 hm | exact mtR3 hm | exact mtR4 hm | exact mtR5 hm | exact mtR6 hm | exact ruR0 hr | exact ruR1 hr | exact ruR3 hr) ?_
  refine pw_iload_n 5 rfl dX3_heightBehind_4 rfl ?_
  refine pw_callVP (as := [_]) 8 rfl dX3_heightBehind_5 mX3_69 vX1_has (x_has (d := d) (Or.inl rfl) hM.2.1 h7 _) (by first | rfl | assumption | exact rowS hh | exact mtS hm | exact ruS hr | exact mtA1 hm | exact mtA2 hm | exact mtA3 hm | exact mtA4 hm | exact mtA5 hm | exact mtA6 hm | exact mtA7 hm | exact ruA1 hr | exact ruA2 hr | exact ruA3 hr) rfl (by decide) ⟨rfl, by decide, by decide, show (parseMethodDescriptor yX1_has.desc).map (fun d => d.parameters.length) = some 1 by decide +kernel⟩ (by omega) (by decide) (Nat.le_of_ble_eq_true rfl) rfl ?_
  refine pw_if_ne (tgt := 13) 11 rfl dX3_heightBehind_8 rfl (fun h8 => ?_) (fun h8 => absurd h8 (by rw [hasV_y hq h7]; decide))
  refine pw_aload_n 14 rfl dX3_heightBehind_13 rfl ?_
  refine pw_getR 17 rfl dX3_heightBehind_14 fX3_12 (by first | rfl | assumption | exact rowS hh | exact mtS hm | exact ruS hr | exact mtA1 hm | exact mtA2 hm | exact mtA3 hm | exact mtA4 hm | exact mtA5 hm | exact mtA6 hm | exact mtA7 hm | exact ruA1 hr | exact ruA2 hr | exact ruA3 hr) rfl (by first | rfl | assumption | exact mtR0 hm | exact mtR1 hm | exact mtR2 hm | exact mtR3 hm | exact mtR4 hm | exact mtR5 hm | exact mtR6 hm | exact ruR0 hr | exact ruR1 hr | exact ruR3 hr) ?_
  refine pw_aload_n 18 rfl dX3_heightBehind_17 rfl ?_
  refine pw_getR 21 rfl dX3_heightBehind_18 fX3_25 (by first | rfl | assumption | exact rowS hh | exact mtS hm | exact ruS hr | exact mtA1 hm | exact mtA2 hm | exact mtA3 hm | exact mtA4 hm | exact mtA5 hm | exact mtA6 hm | exact mtA7 hm | exact ruA1 hr | exact ruA2 hr | exact ruA3 hr) rfl (by first | rfl | assumption | exact mtR0 hm | exact mtR1 hm | exact mtR2 hm | exact mtR3 hm | exact mtR4 hm | exact mtR5 hm | exact mtR6 hm | exact ruR0 hr | exact ruR1 hr | exact ruR3 hr) ?_
  refine pw_callV (as := [_]) 24 rfl dX3_heightBehind_21 mX3_36 vX1_copyFrom (x_copyFrom (d := d) (Or.inl rfl) hM) (by first | rfl | assumption | exact rowS hh | exact mtS hm | exact ruS hr | exact mtA1 hm | exact mtA2 hm | exact mtA3 hm | exact mtA4 hm | exact mtA5 hm | exact mtA6 hm | exact mtA7 hm | exact ruA1 hr | exact ruA2 hr | exact ruA3 hr) rfl (by decide) ⟨rfl, by decide, by decide, show (parseMethodDescriptor yX1_copyFrom.desc).map (fun d => d.parameters.length) = some 1 by decide +kernel⟩ (by omega) (by decide) (Nat.le_of_ble_eq_true rfl) rfl (fun r21 I21 J21 R21 c21 => ?_)
  obtain ⟨rfl, a1, a2, a3, rfl, rfl⟩ := c21; have e8 := XE_fr hE (a3 9 (by omega)) (a3 10 (by omega))
  refine pw_aload_n 25 rfl dX3_heightBehind_24 rfl ?_
  refine pw_getR 28 rfl dX3_heightBehind_25 fX3_12 (by first | rfl | assumption | exact rowS hh | exact mtS hm | exact ruS hr | exact mtA1 hm | exact mtA2 hm | exact mtA3 hm | exact mtA4 hm | exact mtA5 hm | exact mtA6 hm | exact mtA7 hm | exact ruA1 hr | exact ruA2 hr | exact ruA3 hr) rfl (by first | rfl | assumption | exact mtR0 hm | exact mtR1 hm | exact mtR2 hm | exact mtR3 hm | exact mtR4 hm | exact mtR5 hm | exact mtR6 hm | exact ruR0 hr | exact ruR1 hr | exact ruR3 hr) ?_
  refine pw_aload_n 29 rfl dX3_heightBehind_28 rfl ?_
  refine pw_getR 32 rfl dX3_heightBehind_29 fX3_28 (by first | rfl | assumption | exact rowS hh | exact mtS hm | exact ruS hr | exact mtA1 hm | exact mtA2 hm | exact mtA3 hm | exact mtA4 hm | exact mtA5 hm | exact mtA6 hm | exact mtA7 hm | exact ruA1 hr | exact ruA2 hr | exact ruA3 hr) rfl (by first | rfl | assumption | exact mtR0 hm | exact mtR1 hm | exact mtR2 hm | exact mtR3 hm | exact mtR4 hm | exact mtR5 hm | exact mtR6 hm | exact ruR0 hr | exact ruR1 hr | exact ruR3 hr) ?_
  refine pw_iload_n 33 rfl dX3_heightBehind_32 rfl ?_
  refine pw_callV (as := [_, _]) 36 rfl dX3_heightBehind_33 mX3_40 vX1_passHours (x_passHours (d := d) (Or.inr (Or.inl rfl)) (Or.inl rfl) a1 hW e8 (by omega)) (by first | rfl | assumption | exact rowS hh | exact mtS hm | exact ruS hr | exact mtA1 hm | exact mtA2 hm | exact mtA3 hm | exact mtA4 hm | exact mtA5 hm | exact mtA6 hm | exact mtA7 hm | exact ruA1 hr | exact ruA2 hr | exact ruA3 hr) rfl (by decide) ⟨rfl, by decide, by decide, show (parseMethodDescriptor yX1_passHours.desc).map (fun d => d.parameters.length) = some 2 by decide +kernel⟩ (by omega) (by decide) (Nat.le_of_ble_eq_true rfl) rfl (fun r33 I33 J33 R33 c33 => ?_)
  obtain ⟨rfl, b1, b2, b3, rfl, rfl⟩ := c33
  refine pw_pop 37 rfl dX3_heightBehind_36 rfl ?_
  refine pw_aload_n 38 rfl dX3_heightBehind_37 rfl ?_
  refine pw_getR 41 rfl dX3_heightBehind_38 fX3_32 (by first | rfl | assumption | exact rowS hh | exact mtS hm | exact ruS hr | exact mtA1 hm | exact mtA2 hm | exact mtA3 hm | exact mtA4 hm | exact mtA5 hm | exact mtA6 hm | exact mtA7 hm | exact ruA1 hr | exact ruA2 hr | exact ruA3 hr) rfl (by first | rfl | assumption | exact mtR0 hm | exact mtR1 hm | exact mtR2 hm | exact mtR3 hm | exact mtR4 hm | exact mtR5 hm | exact mtR6 hm | exact ruR0 hr | exact ruR1 hr | exact ruR3 hr) ?_
  refine pw_aload_n 42 rfl dX3_heightBehind_41 rfl ?_
  refine pw_getR 45 rfl dX3_heightBehind_42 fX3_12 (by first | rfl | assumption | exact rowS hh | exact mtS hm | exact ruS hr | exact mtA1 hm | exact mtA2 hm | exact mtA3 hm | exact mtA4 hm | exact mtA5 hm | exact mtA6 hm | exact mtA7 hm | exact ruA1 hr | exact ruA2 hr | exact ruA3 hr) rfl (by first | rfl | assumption | exact mtR0 hm | exact mtR1 hm | exact mtR2 hm | exact mtR3 hm | exact mtR4 hm | exact mtR5 hm | exact mtR6 hm | exact ruR0 hr | exact ruR1 hr | exact ruR3 hr) ?_
  refine pw_getR 48 rfl dX3_heightBehind_45 fX3_92 (by first | rfl | assumption | exact rowS hh | exact mtS hm | exact ruS hr | exact mtA1 hm | exact mtA2 hm | exact mtA3 hm | exact mtA4 hm | exact mtA5 hm | exact mtA6 hm | exact mtA7 hm | exact ruA1 hr | exact ruA2 hr | exact ruA3 hr) rfl (by first | rfl | assumption | exact mtR0 hm | exact mtR1 hm | exact mtR2 hm | exact mtR3 hm | exact mtR4 hm | exact mtR5 hm | exact mtR6 hm | exact ruR0 hr | exact ruR1 hr | exact ruR3 hr) ?_
  refine pw_iload_n 49 rfl dX3_heightBehind_48 rfl ?_
  refine pw_ialdN 50 rfl dX3_heightBehind_49 (by first | rfl | assumption | exact rowS hh | exact mtS hm | exact ruS hr | exact mtA1 hm | exact mtA2 hm | exact mtA3 hm | exact mtA4 hm | exact mtA5 hm | exact mtA6 hm | exact mtA7 hm | exact ruA1 hr | exact ruA2 hr | exact ruA3 hr) (by omega) (by decide) ?_
  rotate_left
  obtain ⟨v1, v2, v3, v4, v5⟩ := b1.2.2.2.2.2.2 q (by omega)
  rw [v3]
  refine pw_i2l 51 rfl dX3_heightBehind_50 ?_
  refine pw_aload_n 52 rfl dX3_heightBehind_51 rfl ?_
  refine pw_getR 55 rfl dX3_heightBehind_52 fX3_12 (by first | rfl | assumption | exact rowS hh | exact mtS hm | exact ruS hr | exact mtA1 hm | exact mtA2 hm | exact mtA3 hm | exact mtA4 hm | exact mtA5 hm | exact mtA6 hm | exact mtA7 hm | exact ruA1 hr | exact ruA2 hr | exact ruA3 hr) rfl (by first | rfl | assumption | exact mtR0 hm | exact mtR1 hm | exact mtR2 hm | exact mtR3 hm | exact mtR4 hm | exact mtR5 hm | exact mtR6 hm | exact ruR0 hr | exact ruR1 hr | exact ruR3 hr) ?_
  refine pw_getR 58 rfl dX3_heightBehind_55 fX3_95 (by first | rfl | assumption | exact rowS hh | exact mtS hm | exact ruS hr | exact mtA1 hm | exact mtA2 hm | exact mtA3 hm | exact mtA4 hm | exact mtA5 hm | exact mtA6 hm | exact mtA7 hm | exact ruA1 hr | exact ruA2 hr | exact ruA3 hr) rfl (by first | rfl | assumption | exact mtR0 hm | exact mtR1 hm | exact mtR2 hm | exact mtR3 hm | exact mtR4 hm | exact mtR5 hm | exact mtR6 hm | exact ruR0 hr | exact ruR1 hr | exact ruR3 hr) ?_
  refine pw_iload_n 59 rfl dX3_heightBehind_58 rfl ?_
  refine pw_ialdN 60 rfl dX3_heightBehind_59 (by first | rfl | assumption | exact rowS hh | exact mtS hm | exact ruS hr | exact mtA1 hm | exact mtA2 hm | exact mtA3 hm | exact mtA4 hm | exact mtA5 hm | exact mtA6 hm | exact mtA7 hm | exact ruA1 hr | exact ruA2 hr | exact ruA3 hr) (by omega) (by decide) ?_
  rotate_left
  rw [v5]
  refine pw_i2l 61 rfl dX3_heightBehind_60 ?_
  refine pw_callV (as := [_, _]) 64 rfl dX3_heightBehind_61 mX3_48 vX2_tellTwo (x_tellTwo (d := d) _ _) (by first | rfl | assumption | exact rowS hh | exact mtS hm | exact ruS hr | exact mtA1 hm | exact mtA2 hm | exact mtA3 hm | exact mtA4 hm | exact mtA5 hm | exact mtA6 hm | exact mtA7 hm | exact ruA1 hr | exact ruA2 hr | exact ruA3 hr) rfl (by decide) ⟨rfl, by decide, by decide, show (parseMethodDescriptor yX2_tellTwo.desc).map (fun d => d.parameters.length) = some 2 by decide +kernel⟩ (by omega) (by decide) (Nat.le_of_ble_eq_true rfl) rfl (fun r61 I61 J61 R61 c61 => ?_)
  obtain ⟨rfl, n1, n2, rfl⟩ := c61
  refine pw_aload_n 65 rfl dX3_heightBehind_64 rfl ?_
  refine pw_getR 68 rfl dX3_heightBehind_65 fX3_12 (by first | rfl | assumption | exact rowS hh | exact mtS hm | exact ruS hr | exact mtA1 hm | exact mtA2 hm | exact mtA3 hm | exact mtA4 hm | exact mtA5 hm | exact mtA6 hm | exact mtA7 hm | exact ruA1 hr | exact ruA2 hr | exact ruA3 hr) rfl (by first | rfl | assumption | exact mtR0 hm | exact mtR1 hm | exact mtR2 hm | exact mtR3 hm | exact mtR4 hm | exact mtR5 hm | exact mtR6 hm | exact ruR0 hr | exact ruR1 hr | exact ruR3 hr) ?_
  refine pw_getR 71 rfl dX3_heightBehind_68 fX3_98 (by first | rfl | assumption | exact rowS hh | exact mtS hm | exact ruS hr | exact mtA1 hm | exact mtA2 hm | exact mtA3 hm | exact mtA4 hm | exact mtA5 hm | exact mtA6 hm | exact mtA7 hm | exact ruA1 hr | exact ruA2 hr | exact ruA3 hr) rfl (by first | rfl | assumption | exact mtR0 hm | exact mtR1 hm | exact mtR2 hm | exact mtR3 hm | exact mtR4 hm | exact mtR5 hm | exact mtR6 hm | exact ruR0 hr | exact ruR1 hr | exact ruR3 hr) ?_
  refine pw_iload_n 72 rfl dX3_heightBehind_71 rfl ?_
  refine pw_ialdN 73 rfl dX3_heightBehind_72 (by first | rfl | assumption | exact rowS hh | exact mtS hm | exact ruS hr | exact mtA1 hm | exact mtA2 hm | exact mtA3 hm | exact mtA4 hm | exact mtA5 hm | exact mtA6 hm | exact mtA7 hm | exact ruA1 hr | exact ruA2 hr | exact ruA3 hr) (by omega) (by decide) ?_
  refine pw_iret dX3_heightBehind_73 rfl ?_
  rotate_left
  refine ⟨?_, n1, fun a h1 h2 h3 => by rw [n2 a h2, b3 a h1 (by omega), a3 a (by omega)], rfl⟩
  rw [n2 45 (by omega), v2]
set_option maxRecDepth 100000 in
set_option maxHeartbeats 2000000 in
theorem x_clearEach {d : Nat} {I : pI} {J : pJ} : PC SX (d) yX3_clearEach cX3_clearEach 2 none [.ref 40] (I) (J) (RX) (fun r' I' J' R' => r' = none ∧ (∀ q, q < 7 → I' 41 q = nI 0) ∧ (∀ a, a ≠ 41 → I' a = I a) ∧ J = J' ∧ R' = RX) := by
  refine PC.of [some (.ref 40), none] rfl rfl (Nat.le_of_ble_eq_true rfl) ?_
  refine pw_iconst (v := nI 0) 1 rfl dX3_clearEach_0 rfl ?_
  refine pw_istore_n 2 rfl dX3_clearEach_1 (by decide) ?_
  rotate_left
  have L := nat_loop 7 (fun k => ∀ (I' : pI), (∀ q, q < k → I' 41 q = nI 0) → (∀ a, a ≠ 41 → I' a = I a) → PW SX yX3_clearEach.cls cX3_clearEach 2 (d) 2 [some (.ref 40), some (.int (nI k))] [] (I') (J) (RX) (rX cX3_clearEach none (fun r' I' J' R' => r' = none ∧ (∀ q, q < 7 → I' 41 q = nI 0) ∧ (∀ a, a ≠ 41 → I' a = I a) ∧ J = J' ∧ R' = RX))) ?_ ?_
  · exact L I (fun q hq => by omega) (fun _ _ => rfl)
  · intro I' g1 g2
    refine pw_iload_n 3 rfl dX3_clearEach_2 rfl ?_
    refine pw_bipush (v := nI 7) 5 rfl dX3_clearEach_3 rfl ?_
    refine pw_icmp_ge (tgt := 21) 8 rfl dX3_clearEach_5 rfl (fun h5 => ?_) (fun h5 => absurd (by (simp (disch := omega) only [nI_leI, nI_ltI, nI_eq, show (0 : Int32) = nI 0 from rfl, not_true_eq_false, not_false_eq_true] <;> omega)) h5)
    refine pw_vret dX3_clearEach_21 ?_
    rotate_left
    exact ⟨rfl, g1, g2, rfl, rfl⟩
  · intro k hk ih I' g1 g2
    refine pw_iload_n 3 rfl dX3_clearEach_2 rfl ?_
    refine pw_bipush (v := nI 7) 5 rfl dX3_clearEach_3 rfl ?_
    refine pw_icmp_ge (tgt := 21) 8 rfl dX3_clearEach_5 rfl (fun h5 => absurd h5 (by (simp (disch := omega) only [nI_leI, nI_ltI, nI_eq, show (0 : Int32) = nI 0 from rfl, not_true_eq_false, not_false_eq_true] <;> omega))) (fun h5 => ?_)
    refine pw_aload_n 9 rfl dX3_clearEach_8 rfl ?_
    refine pw_getR 12 rfl dX3_clearEach_9 fX3_18 (by first | rfl | assumption | exact rowS hh | exact mtS hm | exact ruS hr | exact mtA1 hm | exact mtA2 hm | exact mtA3 hm | exact mtA4 hm | exact mtA5 hm | exact mtA6 hm | exact mtA7 hm | exact ruA1 hr | exact ruA2 hr | exact ruA3 hr) rfl (by first | rfl | assumption | exact mtR0 hm | exact mtR1 hm | exact mtR2 hm | exact mtR3 hm | exact mtR4 hm | exact mtR5 hm | exact mtR6 hm | exact ruR0 hr | exact ruR1 hr | exact ruR3 hr) ?_
    refine pw_iload_n 13 rfl dX3_clearEach_12 rfl ?_
    refine pw_iconst (v := nI 0) 14 rfl dX3_clearEach_13 rfl ?_
    refine pw_iastN 15 rfl dX3_clearEach_14 (by first | rfl | assumption | exact rowS hh | exact mtS hm | exact ruS hr | exact mtA1 hm | exact mtA2 hm | exact mtA3 hm | exact mtA4 hm | exact mtA5 hm | exact mtA6 hm | exact mtA7 hm | exact ruA1 hr | exact ruA2 hr | exact ruA3 hr) (by omega) (by decide) ?_
    refine pw_iincN 18 rfl dX3_clearEach_15 (by decide) rfl ?_
    refine pw_goto (tgt := 2) dX3_clearEach_18 rfl ?_
    rotate_left
    refine ih _ (fun q hq => ?_) (fun a ha => by rw [uI, if_neg ha, g2 a ha])
    by_cases e : q = k
    · rw [e, uI_eq]
    · rw [uI_ne (by omega)]; exact g1 q (by omega)
theorem x_hour43 {d n : Nat} {pc b : Nat → Nat} {E : (Nat → Int32) → Nat} {I : pI} {J : pJ} {t : Nat} (hM : XM I 43 n pc (hrs n pc E t b)) (hW : WF n pc b) (hE : XE I 9 E) : PC SX (d + 5) yX1_passHour cX1_passHour 4 none [.ref 43, .ref 9] I J RX (fun r' I' J' R' => r' = none ∧ XM I' 43 n pc (hrs n pc E (t + 1) b) ∧ XE I' 9 E ∧ I' 43 12 = nI (dnb n pc E (hrs n pc E t b)) ∧ (∀ q, q < n → I' 50 q = nI (dist (hrs n pc E (t + 1) b q) (hrs n pc E t b q))) ∧ (∀ a, a ≠ 11 → ¬ (43 ≤ a ∧ a ≤ 50) → I' a = I a) ∧ J = J' ∧ R' = RX) :=
  x_hour (d := d) (Or.inr (Or.inl rfl)) (Or.inl rfl) hM (WF_hrs E hW t) hE
set_option maxRecDepth 100000 in
set_option maxHeartbeats 2000000 in
theorem x_ownedBy {d n N : Nat} {pc b : Nat → Nat} {E : (Nat → Int32) → Nat} {I : pI} {J : pJ} (hM : XM I 1 n pc b) (hW : WF n pc b) (hE : XE I 9 E) (hN : N ≤ 99) : PC SX (d + 6) yX3_ownedBy cX3_ownedBy 4 (some .int) [.ref 40, .int (nI N)] (I) (J) (RX) (fun r' I' J' R' => r' = some (.int (nI (cntP (fun t => decide (hrs n pc E (t + 1) b 29 = 7)) N))) ∧ XN I' J' (nseq (fun q => lI (cntP (fun t => decide (hrs n pc E (t + 1) b 29 = q)) N)) n) ∧ fO I I' ∧ R' = RX) := by
  refine PC.of [some (.ref 40), some (.int (nI N)), none, none] rfl rfl (Nat.le_of_ble_eq_true rfl) ?_
  have h7 := hW.1
  refine pw_aload_n 1 rfl dX3_ownedBy_0 rfl ?_
  refine pw_getR 4 rfl dX3_ownedBy_1 fX3_12 (by first | rfl | assumption | exact rowS hh | exact mtS hm | exact ruS hr | exact mtA1 hm | exact mtA2 hm | exact mtA3 hm | exact mtA4 hm | exact mtA5 hm | exact mtA6 hm | exact mtA7 hm | exact ruA1 hr | exact ruA2 hr | exact ruA3 hr) rfl (by first | rfl | assumption | exact mtR0 hm | exact mtR1 hm | exact mtR2 hm | exact mtR3 hm | exact mtR4 hm | exact mtR5 hm | exact mtR6 hm | exact ruR0 hr | exact ruR1 hr | exact ruR3 hr) ?_
  refine pw_aload_n 5 rfl dX3_ownedBy_4 rfl ?_
  refine pw_getR 8 rfl dX3_ownedBy_5 fX3_25 (by first | rfl | assumption | exact rowS hh | exact mtS hm | exact ruS hr | exact mtA1 hm | exact mtA2 hm | exact mtA3 hm | exact mtA4 hm | exact mtA5 hm | exact mtA6 hm | exact mtA7 hm | exact ruA1 hr | exact ruA2 hr | exact ruA3 hr) rfl (by first | rfl | assumption | exact mtR0 hm | exact mtR1 hm | exact mtR2 hm | exact mtR3 hm | exact mtR4 hm | exact mtR5 hm | exact mtR6 hm | exact ruR0 hr | exact ruR1 hr | exact ruR3 hr) ?_
  refine pw_callV (as := [_]) 11 rfl dX3_ownedBy_8 mX3_36 vX1_copyFrom (x_copyFrom (d := d) (Or.inl rfl) hM) (by first | rfl | assumption | exact rowS hh | exact mtS hm | exact ruS hr | exact mtA1 hm | exact mtA2 hm | exact mtA3 hm | exact mtA4 hm | exact mtA5 hm | exact mtA6 hm | exact mtA7 hm | exact ruA1 hr | exact ruA2 hr | exact ruA3 hr) rfl (by decide) ⟨rfl, by decide, by decide, show (parseMethodDescriptor yX1_copyFrom.desc).map (fun d => d.parameters.length) = some 1 by decide +kernel⟩ (by omega) (by decide) (Nat.le_of_ble_eq_true rfl) rfl (fun r8 I8 J8 R8 c8 => ?_)
  obtain ⟨rfl, a1, a2, a3, rfl, rfl⟩ := c8; have e8 := XE_fr hE (a3 9 (by omega)) (a3 10 (by omega))
  refine pw_aload_n 12 rfl dX3_ownedBy_11 rfl ?_
  refine pw_callV (as := []) 15 rfl dX3_ownedBy_12 mX3_66 vX3_clearEach (x_clearEach (d := d)) (by first | rfl | assumption | exact rowS hh | exact mtS hm | exact ruS hr | exact mtA1 hm | exact mtA2 hm | exact mtA3 hm | exact mtA4 hm | exact mtA5 hm | exact mtA6 hm | exact mtA7 hm | exact ruA1 hr | exact ruA2 hr | exact ruA3 hr) rfl (by decide) ⟨rfl, by decide, by decide, show (parseMethodDescriptor yX3_clearEach.desc).map (fun d => d.parameters.length) = some 0 by decide +kernel⟩ (by omega) (by decide) (Nat.le_of_ble_eq_true rfl) rfl (fun r12 I12 J12 R12 c12 => ?_)
  obtain ⟨rfl, k1, k2, rfl, rfl⟩ := c12
  refine pw_iconst (v := nI 0) 16 rfl dX3_ownedBy_15 rfl ?_
  refine pw_istore_n 17 rfl dX3_ownedBy_16 (by decide) ?_
  refine pw_iconst (v := nI 1) 18 rfl dX3_ownedBy_17 rfl ?_
  refine pw_istore_n 19 rfl dX3_ownedBy_18 (by decide) ?_
  rotate_left
  have L := nat_loop N (fun t => ∀ (I' : pI), XM I' 43 n pc (hrs n pc E t b) → XE I' 9 E → (∀ q, q < 7 → I' 41 q = nI (cntP (fun t => decide (hrs n pc E (t + 1) b 29 = q)) t)) → (∀ a, a ≠ 11 → ¬ (41 ≤ a ∧ a ≤ 50) → I' a = I a) → PW SX yX3_ownedBy.cls cX3_ownedBy 4 (d + 6) 19 [some (.ref 40), some (.int (nI N)), some (.int (nI (cntP (fun t => decide (hrs n pc E (t + 1) b 29 = 7)) t))), some (.int (nI (t + 1)))] [] (I') (J) (RX) (rX cX3_ownedBy (some .int) (fun r' I' J' R' => r' = some (.int (nI (cntP (fun t => decide (hrs n pc E (t + 1) b 29 = 7)) N))) ∧ XN I' J' (nseq (fun q => lI (cntP (fun t => decide (hrs n pc E (t + 1) b 29 = q)) N)) n) ∧ fO I I' ∧ R' = RX))) ?_ ?_
  · refine L _ (XM_fr a1 (fun a h1 h2 => k2 a (by omega))) (XE_fr e8 (k2 9 (by omega)) (k2 10 (by omega))) k1 (fun a h1 h2 => by rw [k2 a (by omega), a3 a (by omega)])
  · intro I' g1 g2 g3 g4
    have hn' : I' 1 7 = nI n := by rw [g4 1 (by omega) (by omega)]; exact hM.2.1
    refine pw_iload_n 20 rfl dX3_ownedBy_19 rfl ?_
    refine pw_iload_n 21 rfl dX3_ownedBy_20 rfl ?_
    refine pw_icmp_gt (tgt := 80) 24 rfl dX3_ownedBy_21 rfl (fun h21 => ?_) (fun h21 => absurd (by (simp (disch := omega) only [nI_leI, nI_ltI, nI_eq, show (0 : Int32) = nI 0 from rfl, not_true_eq_false, not_false_eq_true] <;> omega)) h21)
    refine pw_aload_n 81 rfl dX3_ownedBy_80 rfl ?_
    refine pw_getR 84 rfl dX3_ownedBy_81 fX3_32 (by first | rfl | assumption | exact rowS hh | exact mtS hm | exact ruS hr | exact mtA1 hm | exact mtA2 hm | exact mtA3 hm | exact mtA4 hm | exact mtA5 hm | exact mtA6 hm | exact mtA7 hm | exact ruA1 hr | exact ruA2 hr | exact ruA3 hr) rfl (by first | rfl | assumption | exact mtR0 hm | exact mtR1 hm | exact mtR2 hm | exact mtR3 hm | exact mtR4 hm | exact mtR5 hm | exact mtR6 hm | exact ruR0 hr | exact ruR1 hr | exact ruR3 hr) ?_
    refine pw_aload_n 85 rfl dX3_ownedBy_84 rfl ?_
    refine pw_getR 88 rfl dX3_ownedBy_85 fX3_18 (by first | rfl | assumption | exact rowS hh | exact mtS hm | exact ruS hr | exact mtA1 hm | exact mtA2 hm | exact mtA3 hm | exact mtA4 hm | exact mtA5 hm | exact mtA6 hm | exact mtA7 hm | exact ruA1 hr | exact ruA2 hr | exact ruA3 hr) rfl (by first | rfl | assumption | exact mtR0 hm | exact mtR1 hm | exact mtR2 hm | exact mtR3 hm | exact mtR4 hm | exact mtR5 hm | exact mtR6 hm | exact ruR0 hr | exact ruR1 hr | exact ruR3 hr) ?_
    refine pw_aload_n 89 rfl dX3_ownedBy_88 rfl ?_
    refine pw_getR 92 rfl dX3_ownedBy_89 fX3_25 (by first | rfl | assumption | exact rowS hh | exact mtS hm | exact ruS hr | exact mtA1 hm | exact mtA2 hm | exact mtA3 hm | exact mtA4 hm | exact mtA5 hm | exact mtA6 hm | exact mtA7 hm | exact ruA1 hr | exact ruA2 hr | exact ruA3 hr) rfl (by first | rfl | assumption | exact mtR0 hm | exact mtR1 hm | exact mtR2 hm | exact mtR3 hm | exact mtR4 hm | exact mtR5 hm | exact mtR6 hm | exact ruR0 hr | exact ruR1 hr | exact ruR3 hr) ?_
    refine pw_getI 95 rfl dX3_ownedBy_92 fX3_73 (by first | rfl | assumption | exact rowS hh | exact mtS hm | exact ruS hr | exact mtA1 hm | exact mtA2 hm | exact mtA3 hm | exact mtA4 hm | exact mtA5 hm | exact mtA6 hm | exact mtA7 hm | exact ruA1 hr | exact ruA2 hr | exact ruA3 hr) rfl ?_
    rotate_left
    rw [hn']
    refine pw_callV (as := [_, _]) 98 rfl dX3_ownedBy_95 mX3_76 vX2_tellEach (x_tellEach (d := d) rfl (by omega) h7) (by first | rfl | assumption | exact rowS hh | exact mtS hm | exact ruS hr | exact mtA1 hm | exact mtA2 hm | exact mtA3 hm | exact mtA4 hm | exact mtA5 hm | exact mtA6 hm | exact mtA7 hm | exact ruA1 hr | exact ruA2 hr | exact ruA3 hr) rfl (by decide) ⟨rfl, by decide, by decide, show (parseMethodDescriptor yX2_tellEach.desc).map (fun d => d.parameters.length) = some 2 by decide +kernel⟩ (by omega) (by decide) (Nat.le_of_ble_eq_true rfl) rfl (fun r95 I95 J95 R95 c95 => ?_)
    obtain ⟨rfl, n1, n2, rfl⟩ := c95
    refine pw_iload_n 99 rfl dX3_ownedBy_98 rfl ?_
    refine pw_iret dX3_ownedBy_99 rfl ?_
    rotate_left
    refine ⟨rfl, ?_, fun a h1 h2 h3 => by rw [n2 a h2, g4 a h1 (by omega)], rfl⟩
    rw [nseq_congr (fun k hk => congrArg Int32.toInt64 (g3 k (by omega)))] at n1
    exact n1
  · intro t ht ih I' g1 g2 g3 g4
    have hWt := (WF_hrs E hW (t + 1)).2.2.1
    refine pw_iload_n 20 rfl dX3_ownedBy_19 rfl ?_
    refine pw_iload_n 21 rfl dX3_ownedBy_20 rfl ?_
    refine pw_icmp_gt (tgt := 80) 24 rfl dX3_ownedBy_21 rfl (fun h21 => absurd h21 (by (simp (disch := omega) only [nI_leI, nI_ltI, nI_eq, show (0 : Int32) = nI 0 from rfl, not_true_eq_false, not_false_eq_true] <;> omega))) (fun h21 => ?_)
    refine pw_aload_n 25 rfl dX3_ownedBy_24 rfl ?_
    refine pw_getR 28 rfl dX3_ownedBy_25 fX3_12 (by first | rfl | assumption | exact rowS hh | exact mtS hm | exact ruS hr | exact mtA1 hm | exact mtA2 hm | exact mtA3 hm | exact mtA4 hm | exact mtA5 hm | exact mtA6 hm | exact mtA7 hm | exact ruA1 hr | exact ruA2 hr | exact ruA3 hr) rfl (by first | rfl | assumption | exact mtR0 hm | exact mtR1 hm | exact mtR2 hm | exact mtR3 hm | exact mtR4 hm | exact mtR5 hm | exact mtR6 hm | exact ruR0 hr | exact ruR1 hr | exact ruR3 hr) ?_
    refine pw_aload_n 29 rfl dX3_ownedBy_28 rfl ?_
    refine pw_getR 32 rfl dX3_ownedBy_29 fX3_28 (by first | rfl | assumption | exact rowS hh | exact mtS hm | exact ruS hr | exact mtA1 hm | exact mtA2 hm | exact mtA3 hm | exact mtA4 hm | exact mtA5 hm | exact mtA6 hm | exact mtA7 hm | exact ruA1 hr | exact ruA2 hr | exact ruA3 hr) rfl (by first | rfl | assumption | exact mtR0 hm | exact mtR1 hm | exact mtR2 hm | exact mtR3 hm | exact mtR4 hm | exact mtR5 hm | exact mtR6 hm | exact ruR0 hr | exact ruR1 hr | exact ruR3 hr) ?_
    refine pw_callV (as := [_]) 35 rfl dX3_ownedBy_32 mX3_58 vX1_passHour (x_hour43 (d := d) g1 hW g2) (by first | rfl | assumption | exact rowS hh | exact mtS hm | exact ruS hr | exact mtA1 hm | exact mtA2 hm | exact mtA3 hm | exact mtA4 hm | exact mtA5 hm | exact mtA6 hm | exact mtA7 hm | exact ruA1 hr | exact ruA2 hr | exact ruA3 hr) rfl (by decide) ⟨rfl, by decide, by decide, show (parseMethodDescriptor yX1_passHour.desc).map (fun d => d.parameters.length) = some 1 by decide +kernel⟩ (by omega) (by decide) (Nat.le_of_ble_eq_true rfl) rfl (fun r32 I32 J32 R32 c32 => ?_)
    obtain ⟨rfl, b1, b2, b3, b4, b5, rfl, rfl⟩ := c32
    refine pw_aload_n 36 rfl dX3_ownedBy_35 rfl ?_
    refine pw_getR 39 rfl dX3_ownedBy_36 fX3_12 (by first | rfl | assumption | exact rowS hh | exact mtS hm | exact ruS hr | exact mtA1 hm | exact mtA2 hm | exact mtA3 hm | exact mtA4 hm | exact mtA5 hm | exact mtA6 hm | exact mtA7 hm | exact ruA1 hr | exact ruA2 hr | exact ruA3 hr) rfl (by first | rfl | assumption | exact mtR0 hm | exact mtR1 hm | exact mtR2 hm | exact mtR3 hm | exact mtR4 hm | exact mtR5 hm | exact mtR6 hm | exact ruR0 hr | exact ruR1 hr | exact ruR3 hr) ?_
    refine pw_aload_n 40 rfl dX3_ownedBy_39 rfl ?_
    refine pw_getR 43 rfl dX3_ownedBy_40 fX3_12 (by first | rfl | assumption | exact rowS hh | exact mtS hm | exact ruS hr | exact mtA1 hm | exact mtA2 hm | exact mtA3 hm | exact mtA4 hm | exact mtA5 hm | exact mtA6 hm | exact mtA7 hm | exact ruA1 hr | exact ruA2 hr | exact ruA3 hr) rfl (by first | rfl | assumption | exact mtR0 hm | exact mtR1 hm | exact mtR2 hm | exact mtR3 hm | exact mtR4 hm | exact mtR5 hm | exact mtR6 hm | exact ruR0 hr | exact ruR1 hr | exact ruR3 hr) ?_
    refine pw_getI 46 rfl dX3_ownedBy_43 fX3_54 (by first | rfl | assumption | exact rowS hh | exact mtS hm | exact ruS hr | exact mtA1 hm | exact mtA2 hm | exact mtA3 hm | exact mtA4 hm | exact mtA5 hm | exact mtA6 hm | exact mtA7 hm | exact ruA1 hr | exact ruA2 hr | exact ruA3 hr) rfl ?_
    rotate_left
    rw [b1.2.2.2.1]
    have g3' : ∀ q, q < 7 → I32 41 q = nI (cntP (fun t => decide (hrs n pc E (t + 1) b 29 = q)) t) := fun q hq => by rw [b5 41 (by omega) (by omega)]; exact g3 q hq
    have g4' : ∀ a, a ≠ 11 → ¬ (41 ≤ a ∧ a ≤ 50) → I32 a = I a := fun a h1 h2 => by rw [b5 a h1 (by omega), g4 a h1 h2]
    rcases hWt with ho | ho
    · refine pw_callVP (as := [_]) 49 rfl dX3_ownedBy_46 mX3_69 vX1_has (x_has (d := d) (Or.inr (Or.inl rfl)) b1.2.1 h7 _) (by first | rfl | assumption | exact rowS hh | exact mtS hm | exact ruS hr | exact mtA1 hm | exact mtA2 hm | exact mtA3 hm | exact mtA4 hm | exact mtA5 hm | exact mtA6 hm | exact mtA7 hm | exact ruA1 hr | exact ruA2 hr | exact ruA3 hr) rfl (by decide) ⟨rfl, by decide, by decide, show (parseMethodDescriptor yX1_has.desc).map (fun d => d.parameters.length) = some 1 by decide +kernel⟩ (by omega) (by decide) (Nat.le_of_ble_eq_true rfl) rfl ?_
      refine pw_if_eq (tgt := 71) 52 rfl dX3_ownedBy_49 rfl (fun h49 => absurd h49 (by rw [hasV_y ho h7]; decide)) (fun h49 => ?_)
      refine pw_aload_n 53 rfl dX3_ownedBy_52 rfl ?_
      refine pw_getR 56 rfl dX3_ownedBy_53 fX3_18 (by first | rfl | assumption | exact rowS hh | exact mtS hm | exact ruS hr | exact mtA1 hm | exact mtA2 hm | exact mtA3 hm | exact mtA4 hm | exact mtA5 hm | exact mtA6 hm | exact mtA7 hm | exact ruA1 hr | exact ruA2 hr | exact ruA3 hr) rfl (by first | rfl | assumption | exact mtR0 hm | exact mtR1 hm | exact mtR2 hm | exact mtR3 hm | exact mtR4 hm | exact mtR5 hm | exact mtR6 hm | exact ruR0 hr | exact ruR1 hr | exact ruR3 hr) ?_
      refine pw_aload_n 57 rfl dX3_ownedBy_56 rfl ?_
      refine pw_getR 60 rfl dX3_ownedBy_57 fX3_12 (by first | rfl | assumption | exact rowS hh | exact mtS hm | exact ruS hr | exact mtA1 hm | exact mtA2 hm | exact mtA3 hm | exact mtA4 hm | exact mtA5 hm | exact mtA6 hm | exact mtA7 hm | exact ruA1 hr | exact ruA2 hr | exact ruA3 hr) rfl (by first | rfl | assumption | exact mtR0 hm | exact mtR1 hm | exact mtR2 hm | exact mtR3 hm | exact mtR4 hm | exact mtR5 hm | exact mtR6 hm | exact ruR0 hr | exact ruR1 hr | exact ruR3 hr) ?_
      refine pw_getI 63 rfl dX3_ownedBy_60 fX3_54 (by first | rfl | assumption | exact rowS hh | exact mtS hm | exact ruS hr | exact mtA1 hm | exact mtA2 hm | exact mtA3 hm | exact mtA4 hm | exact mtA5 hm | exact mtA6 hm | exact mtA7 hm | exact ruA1 hr | exact ruA2 hr | exact ruA3 hr) rfl ?_
      rotate_left
      rw [b1.2.2.2.1]
      refine pw_dup2 64 rfl dX3_ownedBy_63 rfl rfl ?_
      refine pw_ialdN 65 rfl dX3_ownedBy_64 (by first | rfl | assumption | exact rowS hh | exact mtS hm | exact ruS hr | exact mtA1 hm | exact mtA2 hm | exact mtA3 hm | exact mtA4 hm | exact mtA5 hm | exact mtA6 hm | exact mtA7 hm | exact ruA1 hr | exact ruA2 hr | exact ruA3 hr) (by omega) (by decide) ?_
      refine pw_iconst (v := nI 1) 66 rfl dX3_ownedBy_65 rfl ?_
      rotate_left
      rw [g3' _ (by omega)]
      first | refine pw_iaddN 67 rfl dX3_ownedBy_66 ?_ | refine pw_iadd 67 rfl dX3_ownedBy_66 ?_
      refine pw_iastN 68 rfl dX3_ownedBy_67 (by first | rfl | assumption | exact rowS hh | exact mtS hm | exact ruS hr | exact mtA1 hm | exact mtA2 hm | exact mtA3 hm | exact mtA4 hm | exact mtA5 hm | exact mtA6 hm | exact mtA7 hm | exact ruA1 hr | exact ruA2 hr | exact ruA3 hr) (by omega) (by decide) ?_
      refine pw_goto (tgt := 74) dX3_ownedBy_68 rfl ?_
      refine pw_iincN 77 rfl dX3_ownedBy_74 (by decide) rfl ?_
      refine pw_goto (tgt := 19) dX3_ownedBy_77 rfl ?_
      rotate_left
      have := ih (uI I32 41 (hrs n pc E (t + 1) b 29) (nI (cntP (fun t => decide (hrs n pc E (t + 1) b 29 = hrs n pc E (t + 1) b 29)) t + 1)))
      have ih' := ih (uI I32 41 (hrs n pc E (t + 1) b 29) (nI (cntP (fun t' => decide (hrs n pc E (t' + 1) b 29 = hrs n pc E (t + 1) b 29)) t + 1))) (XM_fr b1 (fun a h1 h2 => by rw [uI, if_neg (by omega)])) (XE_fr b2 (by rw [uI, if_neg (by omega)]) (by rw [uI, if_neg (by omega)])) (fun q hq => by
        by_cases e : q = hrs n pc E (t + 1) b 29
        · rw [cntP_y (decide_eq_true e.symm), e, uI_eq]
        · rw [cntP_n (decide_eq_false (fun z => e z.symm)), uI_ne (by omega)]; exact g3' q hq) (fun a h1 h2 => by rw [uI, if_neg (by omega)]; exact g4' a h1 h2)
      rw [cntP_n (decide_eq_false (by omega))] at ih'
      exact ih'
    · rw [ho]
      refine pw_callVP (as := [_]) 49 rfl dX3_ownedBy_46 mX3_69 vX1_has (x_has (d := d) (Or.inr (Or.inl rfl)) b1.2.1 h7 _) (by first | rfl | assumption | exact rowS hh | exact mtS hm | exact ruS hr | exact mtA1 hm | exact mtA2 hm | exact mtA3 hm | exact mtA4 hm | exact mtA5 hm | exact mtA6 hm | exact mtA7 hm | exact ruA1 hr | exact ruA2 hr | exact ruA3 hr) rfl (by decide) ⟨rfl, by decide, by decide, show (parseMethodDescriptor yX1_has.desc).map (fun d => d.parameters.length) = some 1 by decide +kernel⟩ (by omega) (by decide) (Nat.le_of_ble_eq_true rfl) rfl ?_
      refine pw_if_eq (tgt := 71) 52 rfl dX3_ownedBy_49 rfl (fun h49 => ?_) (fun h49 => absurd (by rw [hasV_n (by omega) (by decide)]; rfl) h49)
      refine pw_iincN 74 rfl dX3_ownedBy_71 (by decide) rfl ?_
      refine pw_iincN 77 rfl dX3_ownedBy_74 (by decide) rfl ?_
      refine pw_goto (tgt := 19) dX3_ownedBy_77 rfl ?_
      rotate_left
      have ih' := ih I32 b1 b2 (fun q hq => by rw [cntP_n (decide_eq_false (by omega))]; exact g3' q hq) g4'
      rw [cntP_y (decide_eq_true ho)] at ih'
      exact ih'
/-- the k below so many with P, told behind rw -/
def badd (P : Nat → Bool) : Nat → List Int64 → List Int64
  | 0, rw => rw
  | k + 1, rw => if P k then nadd (badd P k rw) (lI k) else badd P k rw
/-- who is down in N hours, told -/
def tdn (n : Nat) (pc : Nat → Nat) (E : (Nat → Int32) → Nat) (b : Nat → Nat) : Nat → List Int64
  | 0 => []
  | t + 1 => badd (fun q => (dnb n pc E (hrs n pc E t b)).testBit q) 7 (tdn n pc E b t)
def cdq (n : Nat) (pc : Nat → Nat) (E : (Nat → Int32) → Nat) (b : Nat → Nat) : Nat → Nat
  | 0 => 0
  | t + 1 => cdq n pc E b t + cntP (fun q => (dnb n pc E (hrs n pc E t b)).testBit q) 7
set_option maxRecDepth 100000 in
set_option maxHeartbeats 2000000 in
theorem x_downInOrder {d n N : Nat} {pc b : Nat → Nat} {E : (Nat → Int32) → Nat} {I : pI} {J : pJ} (hM : XM I 1 n pc b) (hW : WF n pc b) (hE : XE I 9 E) (hN : N ≤ 99) : PC SX (d + 6) yX3_downInOrder cX3_downInOrder 5 (some .int) [.ref 40, .int (nI N)] (I) (J) (RX) (fun r' I' J' R' => r' = some (.int (nI (cdq n pc E b N))) ∧ XN I' J' (tdn n pc E b N) ∧ fO I I' ∧ R' = RX) := by
  refine PC.of [some (.ref 40), some (.int (nI N)), none, none, none] rfl rfl (Nat.le_of_ble_eq_true rfl) ?_
  have h7 := hW.1
  refine pw_aload_n 1 rfl dX3_downInOrder_0 rfl ?_
  refine pw_getR 4 rfl dX3_downInOrder_1 fX3_12 (by first | rfl | assumption | exact rowS hh | exact mtS hm | exact ruS hr | exact mtA1 hm | exact mtA2 hm | exact mtA3 hm | exact mtA4 hm | exact mtA5 hm | exact mtA6 hm | exact mtA7 hm | exact ruA1 hr | exact ruA2 hr | exact ruA3 hr) rfl (by first | rfl | assumption | exact mtR0 hm | exact mtR1 hm | exact mtR2 hm | exact mtR3 hm | exact mtR4 hm | exact mtR5 hm | exact mtR6 hm | exact ruR0 hr | exact ruR1 hr | exact ruR3 hr) ?_
  refine pw_aload_n 5 rfl dX3_downInOrder_4 rfl ?_
  refine pw_getR 8 rfl dX3_downInOrder_5 fX3_25 (by first | rfl | assumption | exact rowS hh | exact mtS hm | exact ruS hr | exact mtA1 hm | exact mtA2 hm | exact mtA3 hm | exact mtA4 hm | exact mtA5 hm | exact mtA6 hm | exact mtA7 hm | exact ruA1 hr | exact ruA2 hr | exact ruA3 hr) rfl (by first | rfl | assumption | exact mtR0 hm | exact mtR1 hm | exact mtR2 hm | exact mtR3 hm | exact mtR4 hm | exact mtR5 hm | exact mtR6 hm | exact ruR0 hr | exact ruR1 hr | exact ruR3 hr) ?_
  refine pw_callV (as := [_]) 11 rfl dX3_downInOrder_8 mX3_36 vX1_copyFrom (x_copyFrom (d := d) (Or.inl rfl) hM) (by first | rfl | assumption | exact rowS hh | exact mtS hm | exact ruS hr | exact mtA1 hm | exact mtA2 hm | exact mtA3 hm | exact mtA4 hm | exact mtA5 hm | exact mtA6 hm | exact mtA7 hm | exact ruA1 hr | exact ruA2 hr | exact ruA3 hr) rfl (by decide) ⟨rfl, by decide, by decide, show (parseMethodDescriptor yX1_copyFrom.desc).map (fun d => d.parameters.length) = some 1 by decide +kernel⟩ (by omega) (by decide) (Nat.le_of_ble_eq_true rfl) rfl (fun r8 I8 J8 R8 c8 => ?_)
  obtain ⟨rfl, a1, a2, a3, rfl, rfl⟩ := c8; have e8 := XE_fr hE (a3 9 (by omega)) (a3 10 (by omega))
  refine pw_aload_n 12 rfl dX3_downInOrder_11 rfl ?_
  refine pw_getR 15 rfl dX3_downInOrder_12 fX3_32 (by first | rfl | assumption | exact rowS hh | exact mtS hm | exact ruS hr | exact mtA1 hm | exact mtA2 hm | exact mtA3 hm | exact mtA4 hm | exact mtA5 hm | exact mtA6 hm | exact mtA7 hm | exact ruA1 hr | exact ruA2 hr | exact ruA3 hr) rfl (by first | rfl | assumption | exact mtR0 hm | exact mtR1 hm | exact mtR2 hm | exact mtR3 hm | exact mtR4 hm | exact mtR5 hm | exact mtR6 hm | exact ruR0 hr | exact ruR1 hr | exact ruR3 hr) ?_
  refine pw_callV (as := []) 18 rfl dX3_downInOrder_15 mX3_80 vX2_clear (x_clear (d := d)) (by first | rfl | assumption | exact rowS hh | exact mtS hm | exact ruS hr | exact mtA1 hm | exact mtA2 hm | exact mtA3 hm | exact mtA4 hm | exact mtA5 hm | exact mtA6 hm | exact mtA7 hm | exact ruA1 hr | exact ruA2 hr | exact ruA3 hr) rfl (by decide) ⟨rfl, by decide, by decide, show (parseMethodDescriptor yX2_clear.desc).map (fun d => d.parameters.length) = some 0 by decide +kernel⟩ (by omega) (by decide) (Nat.le_of_ble_eq_true rfl) rfl (fun r15 I15 J15 R15 c15 => ?_)
  obtain ⟨rfl, k1, k2, rfl⟩ := c15
  refine pw_iconst (v := nI 0) 19 rfl dX3_downInOrder_18 rfl ?_
  refine pw_istore_n 20 rfl dX3_downInOrder_19 (by decide) ?_
  refine pw_iconst (v := nI 1) 21 rfl dX3_downInOrder_20 rfl ?_
  refine pw_istore_n 22 rfl dX3_downInOrder_21 (by decide) ?_
  rotate_left
  have L := nat_loop N (fun t => ∀ (I' : pI) (J' : pJ) (x4 : Option Value), XM I' 43 n pc (hrs n pc E t b) → XE I' 9 E → XN I' J' (tdn n pc E b t) → fO I I' → PW SX yX3_downInOrder.cls cX3_downInOrder 5 (d + 6) 22 [some (.ref 40), some (.int (nI N)), some (.int (nI (cdq n pc E b t))), some (.int (nI (t + 1))), x4] [] (I') (J') (RX) (rX cX3_downInOrder (some .int) (fun r' I' J' R' => r' = some (.int (nI (cdq n pc E b N))) ∧ XN I' J' (tdn n pc E b N) ∧ fO I I' ∧ R' = RX))) ?_ ?_
  · exact L _ _ _ (XM_fr a1 (fun a h1 h2 => k2 a (by omega))) (XE_fr e8 (k2 9 (by omega)) (k2 10 (by omega))) k1 (fun a h1 h2 h3 => by rw [k2 a h2, a3 a (by omega)])
  · intro I' J' x4 g1 g2 g3 g4
    refine pw_iload_n 23 rfl dX3_downInOrder_22 rfl ?_
    refine pw_iload_n 24 rfl dX3_downInOrder_23 rfl ?_
    refine pw_icmp_gt (tgt := 89) 27 rfl dX3_downInOrder_24 rfl (fun h24 => ?_) (fun h24 => absurd (by (simp (disch := omega) only [nI_leI, nI_ltI, nI_eq, show (0 : Int32) = nI 0 from rfl, not_true_eq_false, not_false_eq_true] <;> omega)) h24)
    refine pw_iload_n 90 rfl dX3_downInOrder_89 rfl ?_
    refine pw_iret dX3_downInOrder_90 rfl ?_
    rotate_left
    exact ⟨rfl, g3, g4, rfl⟩
  · intro t ht ih I' J' x4 g1 g2 g3 g4
    refine pw_iload_n 23 rfl dX3_downInOrder_22 rfl ?_
    refine pw_iload_n 24 rfl dX3_downInOrder_23 rfl ?_
    refine pw_icmp_gt (tgt := 89) 27 rfl dX3_downInOrder_24 rfl (fun h24 => absurd h24 (by (simp (disch := omega) only [nI_leI, nI_ltI, nI_eq, show (0 : Int32) = nI 0 from rfl, not_true_eq_false, not_false_eq_true] <;> omega))) (fun h24 => ?_)
    refine pw_aload_n 28 rfl dX3_downInOrder_27 rfl ?_
    refine pw_getR 31 rfl dX3_downInOrder_28 fX3_12 (by first | rfl | assumption | exact rowS hh | exact mtS hm | exact ruS hr | exact mtA1 hm | exact mtA2 hm | exact mtA3 hm | exact mtA4 hm | exact mtA5 hm | exact mtA6 hm | exact mtA7 hm | exact ruA1 hr | exact ruA2 hr | exact ruA3 hr) rfl (by first | rfl | assumption | exact mtR0 hm | exact mtR1 hm | exact mtR2 hm | exact mtR3 hm | exact mtR4 hm | exact mtR5 hm | exact mtR6 hm | exact ruR0 hr | exact ruR1 hr | exact ruR3 hr) ?_
    refine pw_aload_n 32 rfl dX3_downInOrder_31 rfl ?_
    refine pw_getR 35 rfl dX3_downInOrder_32 fX3_28 (by first | rfl | assumption | exact rowS hh | exact mtS hm | exact ruS hr | exact mtA1 hm | exact mtA2 hm | exact mtA3 hm | exact mtA4 hm | exact mtA5 hm | exact mtA6 hm | exact mtA7 hm | exact ruA1 hr | exact ruA2 hr | exact ruA3 hr) rfl (by first | rfl | assumption | exact mtR0 hm | exact mtR1 hm | exact mtR2 hm | exact mtR3 hm | exact mtR4 hm | exact mtR5 hm | exact mtR6 hm | exact ruR0 hr | exact ruR1 hr | exact ruR3 hr) ?_
    refine pw_callV (as := [_]) 38 rfl dX3_downInOrder_35 mX3_58 vX1_passHour (x_hour43 (d := d) g1 hW g2) (by first | rfl | assumption | exact rowS hh | exact mtS hm | exact ruS hr | exact mtA1 hm | exact mtA2 hm | exact mtA3 hm | exact mtA4 hm | exact mtA5 hm | exact mtA6 hm | exact mtA7 hm | exact ruA1 hr | exact ruA2 hr | exact ruA3 hr) rfl (by decide) ⟨rfl, by decide, by decide, show (parseMethodDescriptor yX1_passHour.desc).map (fun d => d.parameters.length) = some 1 by decide +kernel⟩ (by omega) (by decide) (Nat.le_of_ble_eq_true rfl) rfl (fun r35 I35 J35 R35 c35 => ?_)
    obtain ⟨rfl, b1, b2, b3, b4, b5, rfl, rfl⟩ := c35
    refine pw_iconst (v := nI 0) 39 rfl dX3_downInOrder_38 rfl ?_
    refine pw_istore 41 rfl dX3_downInOrder_39 (by decide) ?_
    rotate_left
    have hlt : dnb n pc E (hrs n pc E t b) < 1024 := bts_1024 _ h7
    have L2 := nat_loop 7 (fun k => ∀ (I2 : pI) (J2 : pJ), XN I2 J2 (badd (fun q => (dnb n pc E (hrs n pc E t b)).testBit q) k (tdn n pc E b t)) → (∀ a, a ≠ 19 → I2 a = I35 a) → PW SX yX3_downInOrder.cls cX3_downInOrder 5 (d + 6) 41 [some (.ref 40), some (.int (nI N)), some (.int (nI (cdq n pc E b t + cntP (fun q => (dnb n pc E (hrs n pc E t b)).testBit q) k))), some (.int (nI (t + 1))), some (.int (nI k))] [] (I2) (J2) (RX) (rX cX3_downInOrder (some .int) (fun r' I' J' R' => r' = some (.int (nI (cdq n pc E b N))) ∧ XN I' J' (tdn n pc E b N) ∧ fO I I' ∧ R' = RX))) ?_ ?_
    · exact L2 _ _ (XN_fr g3 (b5 19 (by omega) (by omega))) (fun _ _ => rfl)
    · intro I2 J2 q1 q2
      refine pw_iload 43 rfl dX3_downInOrder_41 rfl ?_
      refine pw_bipush (v := nI 7) 45 rfl dX3_downInOrder_43 rfl ?_
      refine pw_icmp_ge (tgt := 83) 48 rfl dX3_downInOrder_45 rfl (fun h45 => ?_) (fun h45 => absurd (by (simp (disch := omega) only [nI_leI, nI_ltI, nI_eq, show (0 : Int32) = nI 0 from rfl, not_true_eq_false, not_false_eq_true] <;> omega)) h45)
      refine pw_iincN 86 rfl dX3_downInOrder_83 (by decide) rfl ?_
      refine pw_goto (tgt := 22) dX3_downInOrder_86 rfl ?_
      rotate_left
      exact ih I2 J2 _ (XM_fr b1 (fun a h1 h2 => q2 a (by omega))) (XE_fr b2 (q2 9 (by omega)) (q2 10 (by omega))) q1 (fun a h1 h2 h3 => by rw [q2 a h2, b5 a h1 (by omega), g4 a h1 h2 h3])
    · intro k hk ih2 I2 J2 q1 q2
      have e12 : I2 43 12 = nI (dnb n pc E (hrs n pc E t b)) := by rw [q2 43 (by omega)]; exact b3
      cases hp : (dnb n pc E (hrs n pc E t b)).testBit k with
      | true =>
        refine pw_iload 43 rfl dX3_downInOrder_41 rfl ?_
        refine pw_bipush (v := nI 7) 45 rfl dX3_downInOrder_43 rfl ?_
        refine pw_icmp_ge (tgt := 83) 48 rfl dX3_downInOrder_45 rfl (fun h45 => absurd h45 (by (simp (disch := omega) only [nI_leI, nI_ltI, nI_eq, show (0 : Int32) = nI 0 from rfl, not_true_eq_false, not_false_eq_true] <;> omega))) (fun h45 => ?_)
        refine pw_aload_n 49 rfl dX3_downInOrder_48 rfl ?_
        refine pw_getR 52 rfl dX3_downInOrder_49 fX3_12 (by first | rfl | assumption | exact rowS hh | exact mtS hm | exact ruS hr | exact mtA1 hm | exact mtA2 hm | exact mtA3 hm | exact mtA4 hm | exact mtA5 hm | exact mtA6 hm | exact mtA7 hm | exact ruA1 hr | exact ruA2 hr | exact ruA3 hr) rfl (by first | rfl | assumption | exact mtR0 hm | exact mtR1 hm | exact mtR2 hm | exact mtR3 hm | exact mtR4 hm | exact mtR5 hm | exact mtR6 hm | exact ruR0 hr | exact ruR1 hr | exact ruR3 hr) ?_
        refine pw_getI 55 rfl dX3_downInOrder_52 fX3_83 (by first | rfl | assumption | exact rowS hh | exact mtS hm | exact ruS hr | exact mtA1 hm | exact mtA2 hm | exact mtA3 hm | exact mtA4 hm | exact mtA5 hm | exact mtA6 hm | exact mtA7 hm | exact ruA1 hr | exact ruA2 hr | exact ruA3 hr) rfl ?_
        refine pw_iload 57 rfl dX3_downInOrder_55 rfl ?_
        refine pw_ishr 58 rfl dX3_downInOrder_57 ?_
        refine pw_iconst (v := nI 1) 59 rfl dX3_downInOrder_58 rfl ?_
        refine pw_iand 60 rfl dX3_downInOrder_59 ?_
        refine pw_iconst (v := nI 1) 61 rfl dX3_downInOrder_60 rfl ?_
        refine pw_icmp_ne (tgt := 77) 64 rfl dX3_downInOrder_61 rfl (fun h61 => absurd (by rw [e12]; exact bit_y (by omega) (by omega) hp) h61) (fun h61 => ?_)
        refine pw_aload_n 65 rfl dX3_downInOrder_64 rfl ?_
        refine pw_getR 68 rfl dX3_downInOrder_65 fX3_32 (by first | rfl | assumption | exact rowS hh | exact mtS hm | exact ruS hr | exact mtA1 hm | exact mtA2 hm | exact mtA3 hm | exact mtA4 hm | exact mtA5 hm | exact mtA6 hm | exact mtA7 hm | exact ruA1 hr | exact ruA2 hr | exact ruA3 hr) rfl (by first | rfl | assumption | exact mtR0 hm | exact mtR1 hm | exact mtR2 hm | exact mtR3 hm | exact mtR4 hm | exact mtR5 hm | exact mtR6 hm | exact ruR0 hr | exact ruR1 hr | exact ruR3 hr) ?_
        refine pw_iload 70 rfl dX3_downInOrder_68 rfl ?_
        refine pw_i2l 71 rfl dX3_downInOrder_70 ?_
        refine pw_callV (as := [_]) 74 rfl dX3_downInOrder_71 mX3_86 vX2_add (x_add (d := d) _ q1) (by first | rfl | assumption | exact rowS hh | exact mtS hm | exact ruS hr | exact mtA1 hm | exact mtA2 hm | exact mtA3 hm | exact mtA4 hm | exact mtA5 hm | exact mtA6 hm | exact mtA7 hm | exact ruA1 hr | exact ruA2 hr | exact ruA3 hr) rfl (by decide) ⟨rfl, by decide, by decide, show (parseMethodDescriptor yX2_add.desc).map (fun d => d.parameters.length) = some 1 by decide +kernel⟩ (by omega) (by decide) (Nat.le_of_ble_eq_true rfl) rfl (fun r71 I71 J71 R71 c71 => ?_)
        obtain ⟨rfl, n1, n2, rfl⟩ := c71
        refine pw_iincN 77 rfl dX3_downInOrder_74 (by decide) rfl ?_
        refine pw_iincN 80 rfl dX3_downInOrder_77 (by decide) rfl ?_
        refine pw_goto (tgt := 41) dX3_downInOrder_80 rfl ?_
        rotate_left
        have := ih2 I71 J71 (by rw [badd, if_pos hp]; exact n1) (fun a h => by rw [n2 a h, q2 a h])
        rw [cntP_y hp] at this
        exact this
      | false =>
        refine pw_iload 43 rfl dX3_downInOrder_41 rfl ?_
        refine pw_bipush (v := nI 7) 45 rfl dX3_downInOrder_43 rfl ?_
        refine pw_icmp_ge (tgt := 83) 48 rfl dX3_downInOrder_45 rfl (fun h45 => absurd h45 (by (simp (disch := omega) only [nI_leI, nI_ltI, nI_eq, show (0 : Int32) = nI 0 from rfl, not_true_eq_false, not_false_eq_true] <;> omega))) (fun h45 => ?_)
        refine pw_aload_n 49 rfl dX3_downInOrder_48 rfl ?_
        refine pw_getR 52 rfl dX3_downInOrder_49 fX3_12 (by first | rfl | assumption | exact rowS hh | exact mtS hm | exact ruS hr | exact mtA1 hm | exact mtA2 hm | exact mtA3 hm | exact mtA4 hm | exact mtA5 hm | exact mtA6 hm | exact mtA7 hm | exact ruA1 hr | exact ruA2 hr | exact ruA3 hr) rfl (by first | rfl | assumption | exact mtR0 hm | exact mtR1 hm | exact mtR2 hm | exact mtR3 hm | exact mtR4 hm | exact mtR5 hm | exact mtR6 hm | exact ruR0 hr | exact ruR1 hr | exact ruR3 hr) ?_
        refine pw_getI 55 rfl dX3_downInOrder_52 fX3_83 (by first | rfl | assumption | exact rowS hh | exact mtS hm | exact ruS hr | exact mtA1 hm | exact mtA2 hm | exact mtA3 hm | exact mtA4 hm | exact mtA5 hm | exact mtA6 hm | exact mtA7 hm | exact ruA1 hr | exact ruA2 hr | exact ruA3 hr) rfl ?_
        refine pw_iload 57 rfl dX3_downInOrder_55 rfl ?_
        refine pw_ishr 58 rfl dX3_downInOrder_57 ?_
        refine pw_iconst (v := nI 1) 59 rfl dX3_downInOrder_58 rfl ?_
        refine pw_iand 60 rfl dX3_downInOrder_59 ?_
        refine pw_iconst (v := nI 1) 61 rfl dX3_downInOrder_60 rfl ?_
        refine pw_icmp_ne (tgt := 77) 64 rfl dX3_downInOrder_61 rfl (fun h61 => ?_) (fun h61 => absurd h61 (by rw [e12]; exact bit_n (by omega) (by omega) hp))
        refine pw_iincN 80 rfl dX3_downInOrder_77 (by decide) rfl ?_
        refine pw_goto (tgt := 41) dX3_downInOrder_80 rfl ?_
        rotate_left
        have := ih2 I2 J2 (by rw [badd, if_neg (by rw [hp]; decide)]; exact q1) q2
        rw [cntP_n hp] at this
        exact this
set_option maxRecDepth 100000 in
set_option maxHeartbeats 2000000 in
theorem x_firstDown {d n q : Nat} {pc b : Nat → Nat} {E : (Nat → Int32) → Nat} {I : pI} {J : pJ} {rw : List Int64} (hM : XM I 1 n pc b) (hW : WF n pc b) (hE : XE I 9 E) (hq : q < 7) (hN : XN I J rw) : PC SX (d + 6) yX3_firstDown cX3_firstDown 5 (some .int) [.ref 40, .int (nI q)] (I) (J) (RX) (fun r' I' J' R' => r' = some (.int (fstP (fun k => (dnb n pc E (hrs n pc E k b)).testBit q) (fun k => k + 1) 99)) ∧ XN I' J' (if cntP (fun k => (dnb n pc E (hrs n pc E k b)).testBit q) 99 = 0 then rw else [lI (cntP (fun k => (dnb n pc E (hrs n pc E k b)).testBit q) 99)]) ∧ fO I I' ∧ R' = RX) := by
  refine PC.of [some (.ref 40), some (.int (nI q)), none, none, none] rfl rfl (Nat.le_of_ble_eq_true rfl) ?_
  have h7 := hW.1
  refine pw_aload_n 1 rfl dX3_firstDown_0 rfl ?_
  refine pw_getR 4 rfl dX3_firstDown_1 fX3_12 (by first | rfl | assumption | exact rowS hh | exact mtS hm | exact ruS hr | exact mtA1 hm | exact mtA2 hm | exact mtA3 hm | exact mtA4 hm | exact mtA5 hm | exact mtA6 hm | exact mtA7 hm | exact ruA1 hr | exact ruA2 hr | exact ruA3 hr) rfl (by first | rfl | assumption | exact mtR0 hm | exact mtR1 hm | exact mtR2 hm | exact mtR3 hm | exact mtR4 hm | exact mtR5 hm | exact mtR6 hm | exact ruR0 hr | exact ruR1 hr | exact ruR3 hr) ?_
  refine pw_aload_n 5 rfl dX3_firstDown_4 rfl ?_
  refine pw_getR 8 rfl dX3_firstDown_5 fX3_25 (by first | rfl | assumption | exact rowS hh | exact mtS hm | exact ruS hr | exact mtA1 hm | exact mtA2 hm | exact mtA3 hm | exact mtA4 hm | exact mtA5 hm | exact mtA6 hm | exact mtA7 hm | exact ruA1 hr | exact ruA2 hr | exact ruA3 hr) rfl (by first | rfl | assumption | exact mtR0 hm | exact mtR1 hm | exact mtR2 hm | exact mtR3 hm | exact mtR4 hm | exact mtR5 hm | exact mtR6 hm | exact ruR0 hr | exact ruR1 hr | exact ruR3 hr) ?_
  refine pw_callV (as := [_]) 11 rfl dX3_firstDown_8 mX3_36 vX1_copyFrom (x_copyFrom (d := d) (Or.inl rfl) hM) (by first | rfl | assumption | exact rowS hh | exact mtS hm | exact ruS hr | exact mtA1 hm | exact mtA2 hm | exact mtA3 hm | exact mtA4 hm | exact mtA5 hm | exact mtA6 hm | exact mtA7 hm | exact ruA1 hr | exact ruA2 hr | exact ruA3 hr) rfl (by decide) ⟨rfl, by decide, by decide, show (parseMethodDescriptor yX1_copyFrom.desc).map (fun d => d.parameters.length) = some 1 by decide +kernel⟩ (by omega) (by decide) (Nat.le_of_ble_eq_true rfl) rfl (fun r8 I8 J8 R8 c8 => ?_)
  obtain ⟨rfl, a1, a2, a3, rfl, rfl⟩ := c8; have e8 := XE_fr hE (a3 9 (by omega)) (a3 10 (by omega))
  refine pw_bipush (v := -2) 13 rfl dX3_firstDown_11 rfl ?_
  refine pw_istore_n 14 rfl dX3_firstDown_13 (by decide) ?_
  refine pw_iconst (v := nI 0) 15 rfl dX3_firstDown_14 rfl ?_
  refine pw_istore_n 16 rfl dX3_firstDown_15 (by decide) ?_
  refine pw_iconst (v := nI 1) 17 rfl dX3_firstDown_16 rfl ?_
  refine pw_istore 19 rfl dX3_firstDown_17 (by decide) ?_
  rotate_left
  have L := nat_loop 99 (fun t => ∀ (I' : pI), XM I' 43 n pc (hrs n pc E t b) → XE I' 9 E → (∀ a, a ≠ 11 → ¬ (43 ≤ a ∧ a ≤ 50) → I' a = I a) → PW SX yX3_firstDown.cls cX3_firstDown 5 (d + 6) 19 [some (.ref 40), some (.int (nI q)), some (.int (fstP (fun k => (dnb n pc E (hrs n pc E k b)).testBit q) (fun k => k + 1) t)), some (.int (nI (cntP (fun k => (dnb n pc E (hrs n pc E k b)).testBit q) t))), some (.int (nI (t + 1)))] [] (I') (J) (RX) (rX cX3_firstDown (some .int) (fun r' I' J' R' => r' = some (.int (fstP (fun k => (dnb n pc E (hrs n pc E k b)).testBit q) (fun k => k + 1) 99)) ∧ XN I' J' (if cntP (fun k => (dnb n pc E (hrs n pc E k b)).testBit q) 99 = 0 then rw else [lI (cntP (fun k => (dnb n pc E (hrs n pc E k b)).testBit q) 99)]) ∧ fO I I' ∧ R' = RX))) ?_ ?_
  · exact L _ a1 e8 (fun a h1 h2 => a3 a h2)
  · intro I' g1 g2 g3
    have hN' : XN I' J rw := XN_fr hN (g3 19 (by omega) (by omega))
    have hc := cntP_le (fun k => (dnb n pc E (hrs n pc E k b)).testBit q) 99
    by_cases h0 : cntP (fun k => (dnb n pc E (hrs n pc E k b)).testBit q) 99 = 0
    · rw [if_pos h0]
      refine pw_iload 21 rfl dX3_firstDown_19 rfl ?_
      refine pw_bipush (v := nI 99) 23 rfl dX3_firstDown_21 rfl ?_
      refine pw_icmp_gt (tgt := 72) 26 rfl dX3_firstDown_23 rfl (fun h23 => ?_) (fun h23 => absurd (by (simp (disch := omega) only [nI_leI, nI_ltI, nI_eq, show (0 : Int32) = nI 0 from rfl, not_true_eq_false, not_false_eq_true] <;> omega)) h23)
      refine pw_iload_n 73 rfl dX3_firstDown_72 rfl ?_
      refine pw_if_le (tgt := 85) 76 rfl dX3_firstDown_73 rfl (fun h73 => ?_) (fun h73 => absurd (by rw [h0]; decide) h73)
      refine pw_iload_n 86 rfl dX3_firstDown_85 rfl ?_
      refine pw_iret dX3_firstDown_86 rfl ?_
      rotate_left
      exact ⟨rfl, hN', fun a h1 h2 h3 => g3 a h1 (by omega), rfl⟩
    · rw [if_neg h0]
      refine pw_iload 21 rfl dX3_firstDown_19 rfl ?_
      refine pw_bipush (v := nI 99) 23 rfl dX3_firstDown_21 rfl ?_
      refine pw_icmp_gt (tgt := 72) 26 rfl dX3_firstDown_23 rfl (fun h23 => ?_) (fun h23 => absurd (by (simp (disch := omega) only [nI_leI, nI_ltI, nI_eq, show (0 : Int32) = nI 0 from rfl, not_true_eq_false, not_false_eq_true] <;> omega)) h23)
      refine pw_iload_n 73 rfl dX3_firstDown_72 rfl ?_
      refine pw_if_le (tgt := 85) 76 rfl dX3_firstDown_73 rfl (fun h73 => absurd h73 (nI_nle (by omega) (by omega))) (fun h73 => ?_)
      refine pw_aload_n 77 rfl dX3_firstDown_76 rfl ?_
      refine pw_getR 80 rfl dX3_firstDown_77 fX3_32 (by first | rfl | assumption | exact rowS hh | exact mtS hm | exact ruS hr | exact mtA1 hm | exact mtA2 hm | exact mtA3 hm | exact mtA4 hm | exact mtA5 hm | exact mtA6 hm | exact mtA7 hm | exact ruA1 hr | exact ruA2 hr | exact ruA3 hr) rfl (by first | rfl | assumption | exact mtR0 hm | exact mtR1 hm | exact mtR2 hm | exact mtR3 hm | exact mtR4 hm | exact mtR5 hm | exact mtR6 hm | exact ruR0 hr | exact ruR1 hr | exact ruR3 hr) ?_
      refine pw_iload_n 81 rfl dX3_firstDown_80 rfl ?_
      refine pw_i2l 82 rfl dX3_firstDown_81 ?_
      refine pw_callV (as := [_]) 85 rfl dX3_firstDown_82 mX3_62 vX2_tellOne (x_tellOne (d := d) _) (by first | rfl | assumption | exact rowS hh | exact mtS hm | exact ruS hr | exact mtA1 hm | exact mtA2 hm | exact mtA3 hm | exact mtA4 hm | exact mtA5 hm | exact mtA6 hm | exact mtA7 hm | exact ruA1 hr | exact ruA2 hr | exact ruA3 hr) rfl (by decide) ⟨rfl, by decide, by decide, show (parseMethodDescriptor yX2_tellOne.desc).map (fun d => d.parameters.length) = some 1 by decide +kernel⟩ (by omega) (by decide) (Nat.le_of_ble_eq_true rfl) rfl (fun r82 I82 J82 R82 c82 => ?_)
      obtain ⟨rfl, n1, n2, rfl⟩ := c82
      rotate_left
      refine pw_iload_n 86 rfl dX3_firstDown_85 rfl ?_
      refine pw_iret dX3_firstDown_86 rfl ?_
      rotate_left
      exact ⟨rfl, n1, fun a h1 h2 h3 => by rw [n2 a h2, g3 a h1 (by omega)], rfl⟩
  · intro t ht ih I' g1 g2 g3
    have hc := cntP_le (fun k => (dnb n pc E (hrs n pc E k b)).testBit q) t
    have hlt : dnb n pc E (hrs n pc E t b) < 1024 := bts_1024 _ h7
    refine pw_iload 21 rfl dX3_firstDown_19 rfl ?_
    refine pw_bipush (v := nI 99) 23 rfl dX3_firstDown_21 rfl ?_
    refine pw_icmp_gt (tgt := 72) 26 rfl dX3_firstDown_23 rfl (fun h23 => absurd h23 (by (simp (disch := omega) only [nI_leI, nI_ltI, nI_eq, show (0 : Int32) = nI 0 from rfl, not_true_eq_false, not_false_eq_true] <;> omega))) (fun h23 => ?_)
    refine pw_aload_n 27 rfl dX3_firstDown_26 rfl ?_
    refine pw_getR 30 rfl dX3_firstDown_27 fX3_12 (by first | rfl | assumption | exact rowS hh | exact mtS hm | exact ruS hr | exact mtA1 hm | exact mtA2 hm | exact mtA3 hm | exact mtA4 hm | exact mtA5 hm | exact mtA6 hm | exact mtA7 hm | exact ruA1 hr | exact ruA2 hr | exact ruA3 hr) rfl (by first | rfl | assumption | exact mtR0 hm | exact mtR1 hm | exact mtR2 hm | exact mtR3 hm | exact mtR4 hm | exact mtR5 hm | exact mtR6 hm | exact ruR0 hr | exact ruR1 hr | exact ruR3 hr) ?_
    refine pw_aload_n 31 rfl dX3_firstDown_30 rfl ?_
    refine pw_getR 34 rfl dX3_firstDown_31 fX3_28 (by first | rfl | assumption | exact rowS hh | exact mtS hm | exact ruS hr | exact mtA1 hm | exact mtA2 hm | exact mtA3 hm | exact mtA4 hm | exact mtA5 hm | exact mtA6 hm | exact mtA7 hm | exact ruA1 hr | exact ruA2 hr | exact ruA3 hr) rfl (by first | rfl | assumption | exact mtR0 hm | exact mtR1 hm | exact mtR2 hm | exact mtR3 hm | exact mtR4 hm | exact mtR5 hm | exact mtR6 hm | exact ruR0 hr | exact ruR1 hr | exact ruR3 hr) ?_
    refine pw_callV (as := [_]) 37 rfl dX3_firstDown_34 mX3_58 vX1_passHour (x_hour43 (d := d) g1 hW g2) (by first | rfl | assumption | exact rowS hh | exact mtS hm | exact ruS hr | exact mtA1 hm | exact mtA2 hm | exact mtA3 hm | exact mtA4 hm | exact mtA5 hm | exact mtA6 hm | exact mtA7 hm | exact ruA1 hr | exact ruA2 hr | exact ruA3 hr) rfl (by decide) ⟨rfl, by decide, by decide, show (parseMethodDescriptor yX1_passHour.desc).map (fun d => d.parameters.length) = some 1 by decide +kernel⟩ (by omega) (by decide) (Nat.le_of_ble_eq_true rfl) rfl (fun r34 I34 J34 R34 c34 => ?_)
    obtain ⟨rfl, b1, b2, b3, b4, b5, rfl, rfl⟩ := c34
    rotate_left
    have ih' := ih I34 b1 b2 (fun a h1 h2 => by rw [b5 a h1 h2, g3 a h1 h2])
    cases hp : (dnb n pc E (hrs n pc E t b)).testBit q with
    | true =>
      rw [fstP_y (P := fun k => (dnb n pc E (hrs n pc E k b)).testBit q) (k := t) hp, cntP_y (P := fun k => (dnb n pc E (hrs n pc E k b)).testBit q) (k := t) hp] at ih'
      by_cases h0 : cntP (fun k => (dnb n pc E (hrs n pc E k b)).testBit q) t = 0
      · rw [if_pos h0] at ih'
        refine pw_aload_n 38 rfl dX3_firstDown_37 rfl ?_
        refine pw_getR 41 rfl dX3_firstDown_38 fX3_12 (by first | rfl | assumption | exact rowS hh | exact mtS hm | exact ruS hr | exact mtA1 hm | exact mtA2 hm | exact mtA3 hm | exact mtA4 hm | exact mtA5 hm | exact mtA6 hm | exact mtA7 hm | exact ruA1 hr | exact ruA2 hr | exact ruA3 hr) rfl (by first | rfl | assumption | exact mtR0 hm | exact mtR1 hm | exact mtR2 hm | exact mtR3 hm | exact mtR4 hm | exact mtR5 hm | exact mtR6 hm | exact ruR0 hr | exact ruR1 hr | exact ruR3 hr) ?_
        refine pw_getI 44 rfl dX3_firstDown_41 fX3_83 (by first | rfl | assumption | exact rowS hh | exact mtS hm | exact ruS hr | exact mtA1 hm | exact mtA2 hm | exact mtA3 hm | exact mtA4 hm | exact mtA5 hm | exact mtA6 hm | exact mtA7 hm | exact ruA1 hr | exact ruA2 hr | exact ruA3 hr) rfl ?_
        refine pw_iload_n 45 rfl dX3_firstDown_44 rfl ?_
        refine pw_ishr 46 rfl dX3_firstDown_45 ?_
        refine pw_iconst (v := nI 1) 47 rfl dX3_firstDown_46 rfl ?_
        refine pw_iand 48 rfl dX3_firstDown_47 ?_
        refine pw_iconst (v := nI 1) 49 rfl dX3_firstDown_48 rfl ?_
        refine pw_icmp_ne (tgt := 66) 52 rfl dX3_firstDown_49 rfl (fun h49 => absurd (by rw [b3]; exact bit_y (by omega) (by omega) hp) h49) (fun h49 => ?_)
        refine pw_iload_n 53 rfl dX3_firstDown_52 rfl ?_
        refine pw_if_ne (tgt := 61) 56 rfl dX3_firstDown_53 rfl (fun h53 => absurd (by rw [h0]; rfl) h53) (fun h53 => ?_)
        refine pw_iload 58 rfl dX3_firstDown_56 rfl ?_
        refine pw_goto (tgt := 62) dX3_firstDown_58 rfl ?_
        refine pw_istore_n 63 rfl dX3_firstDown_62 (by decide) ?_
        refine pw_iincN 66 rfl dX3_firstDown_63 (by decide) rfl ?_
        refine pw_iincN 69 rfl dX3_firstDown_66 (by decide) rfl ?_
        refine pw_goto (tgt := 19) dX3_firstDown_69 rfl ?_
        rotate_left
        exact ih'
      · rw [if_neg h0] at ih'
        refine pw_aload_n 38 rfl dX3_firstDown_37 rfl ?_
        refine pw_getR 41 rfl dX3_firstDown_38 fX3_12 (by first | rfl | assumption | exact rowS hh | exact mtS hm | exact ruS hr | exact mtA1 hm | exact mtA2 hm | exact mtA3 hm | exact mtA4 hm | exact mtA5 hm | exact mtA6 hm | exact mtA7 hm | exact ruA1 hr | exact ruA2 hr | exact ruA3 hr) rfl (by first | rfl | assumption | exact mtR0 hm | exact mtR1 hm | exact mtR2 hm | exact mtR3 hm | exact mtR4 hm | exact mtR5 hm | exact mtR6 hm | exact ruR0 hr | exact ruR1 hr | exact ruR3 hr) ?_
        refine pw_getI 44 rfl dX3_firstDown_41 fX3_83 (by first | rfl | assumption | exact rowS hh | exact mtS hm | exact ruS hr | exact mtA1 hm | exact mtA2 hm | exact mtA3 hm | exact mtA4 hm | exact mtA5 hm | exact mtA6 hm | exact mtA7 hm | exact ruA1 hr | exact ruA2 hr | exact ruA3 hr) rfl ?_
        refine pw_iload_n 45 rfl dX3_firstDown_44 rfl ?_
        refine pw_ishr 46 rfl dX3_firstDown_45 ?_
        refine pw_iconst (v := nI 1) 47 rfl dX3_firstDown_46 rfl ?_
        refine pw_iand 48 rfl dX3_firstDown_47 ?_
        refine pw_iconst (v := nI 1) 49 rfl dX3_firstDown_48 rfl ?_
        refine pw_icmp_ne (tgt := 66) 52 rfl dX3_firstDown_49 rfl (fun h49 => absurd (by rw [b3]; exact bit_y (by omega) (by omega) hp) h49) (fun h49 => ?_)
        refine pw_iload_n 53 rfl dX3_firstDown_52 rfl ?_
        refine pw_if_ne (tgt := 61) 56 rfl dX3_firstDown_53 rfl (fun h53 => ?_) (fun h53 => absurd h53 (nI_ne0 (by omega) (by omega)))
        refine pw_iload_n 62 rfl dX3_firstDown_61 rfl ?_
        refine pw_istore_n 63 rfl dX3_firstDown_62 (by decide) ?_
        refine pw_iincN 66 rfl dX3_firstDown_63 (by decide) rfl ?_
        refine pw_iincN 69 rfl dX3_firstDown_66 (by decide) rfl ?_
        refine pw_goto (tgt := 19) dX3_firstDown_69 rfl ?_
        rotate_left
        exact ih'
    | false =>
      rw [fstP_n (P := fun k => (dnb n pc E (hrs n pc E k b)).testBit q) (k := t) hp, cntP_n (P := fun k => (dnb n pc E (hrs n pc E k b)).testBit q) (k := t) hp] at ih'
      refine pw_aload_n 38 rfl dX3_firstDown_37 rfl ?_
      refine pw_getR 41 rfl dX3_firstDown_38 fX3_12 (by first | rfl | assumption | exact rowS hh | exact mtS hm | exact ruS hr | exact mtA1 hm | exact mtA2 hm | exact mtA3 hm | exact mtA4 hm | exact mtA5 hm | exact mtA6 hm | exact mtA7 hm | exact ruA1 hr | exact ruA2 hr | exact ruA3 hr) rfl (by first | rfl | assumption | exact mtR0 hm | exact mtR1 hm | exact mtR2 hm | exact mtR3 hm | exact mtR4 hm | exact mtR5 hm | exact mtR6 hm | exact ruR0 hr | exact ruR1 hr | exact ruR3 hr) ?_
      refine pw_getI 44 rfl dX3_firstDown_41 fX3_83 (by first | rfl | assumption | exact rowS hh | exact mtS hm | exact ruS hr | exact mtA1 hm | exact mtA2 hm | exact mtA3 hm | exact mtA4 hm | exact mtA5 hm | exact mtA6 hm | exact mtA7 hm | exact ruA1 hr | exact ruA2 hr | exact ruA3 hr) rfl ?_
      refine pw_iload_n 45 rfl dX3_firstDown_44 rfl ?_
      refine pw_ishr 46 rfl dX3_firstDown_45 ?_
      refine pw_iconst (v := nI 1) 47 rfl dX3_firstDown_46 rfl ?_
      refine pw_iand 48 rfl dX3_firstDown_47 ?_
      refine pw_iconst (v := nI 1) 49 rfl dX3_firstDown_48 rfl ?_
      refine pw_icmp_ne (tgt := 66) 52 rfl dX3_firstDown_49 rfl (fun h49 => ?_) (fun h49 => absurd h49 (by rw [b3]; exact bit_n (by omega) (by omega) hp))
      refine pw_iincN 69 rfl dX3_firstDown_66 (by decide) rfl ?_
      refine pw_goto (tgt := 19) dX3_firstDown_69 rfl ?_
      rotate_left
      exact ih'
