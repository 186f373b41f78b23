def fewV (o : Option Nat) : Int32 := match o with
  | none => -1
  | some s => nI s
def fewN (o : Option Nat) (k : Nat) : Option Nat := match o with
  | none => some k
  | some s => if popc k < popc s then some k else some s
theorem fewV_ne {s : Nat} (h : s < 1024) : ¬ fewV (some s) = -1 := fun z => nI_pos (show s < 2 ^ 31 by omega) (by rw [show nI s = -1 from z]; decide)
set_option maxRecDepth 100000 in
set_option maxHeartbeats 2000000 in
theorem m_fewest {d k : Nat} {o : Option Nat} {I : pI} {J : pJ} {R : pR} (hk : k < 1024) (ho : ∀ s, o = some s → s < 1024) : PC SM (d + 1) yX12_fewest cX12_fewest 3 (some .int) [.ref 0, .int (fewV o), .int (nI k)] (I) (J) (R) (pPu (.int (fewV (fewN o k))) I J R) := by
  refine PC.of [some (.ref 0), some (.int (fewV o)), some (.int (nI k))] rfl rfl (Nat.le_of_ble_eq_true rfl) ?_
  rcases o with _ | s
  · refine pw_iload_n 1 rfl dX12_fewest_0 rfl ?_
    refine pw_iconst (v := -1) 2 rfl dX12_fewest_1 rfl ?_
    refine pw_icmp_eq (tgt := 16) 5 rfl dX12_fewest_2 rfl (fun h2 => ?_) (fun h2 => absurd rfl h2)
    refine pw_iload_n 17 rfl dX12_fewest_16 rfl ?_
    refine pw_goto (tgt := 21) dX12_fewest_17 rfl ?_
    refine pw_iret dX12_fewest_21 rfl ?_
    rotate_left
    exact ⟨rfl, rfl, rfl, rfl⟩
  · have hs := ho s rfl
    have pk := popc_le k
    have ps := popc_le s
    refine pw_iload_n 1 rfl dX12_fewest_0 rfl ?_
    refine pw_iconst (v := -1) 2 rfl dX12_fewest_1 rfl ?_
    refine pw_icmp_eq (tgt := 16) 5 rfl dX12_fewest_2 rfl (fun h2 => absurd h2 (fewV_ne hs)) (fun h2 => ?_)
    refine pw_iload_n 6 rfl dX12_fewest_5 rfl ?_
    refine pw_callSP (as := [_]) 9 rfl dX12_fewest_6 mX12_244 sJ6_bitCount_0f7a4 (x_bitCount (d := d) _) ⟨rfl, by decide, by decide, show (parseMethodDescriptor yJ6_bitCount_0f7a4.desc).map (fun d => d.parameters.length) = some 1 by decide +kernel⟩ (by omega) (by decide) (Nat.le_of_ble_eq_true rfl) rfl ?_
    rotate_left
    rw [bc_pop k hk]
    refine pw_iload_n 10 rfl dX12_fewest_9 rfl ?_
    refine pw_callSP (as := [_]) 13 rfl dX12_fewest_10 mX12_244 sJ6_bitCount_0f7a4 (x_bitCount (d := d) _) ⟨rfl, by decide, by decide, show (parseMethodDescriptor yJ6_bitCount_0f7a4.desc).map (fun d => d.parameters.length) = some 1 by decide +kernel⟩ (by omega) (by decide) (Nat.le_of_ble_eq_true rfl) rfl ?_
    rotate_left
    rw [show bcF (fewV (some s)) = nI (popc s) from bc_pop s hs]
    unfold fewN
    by_cases hc : popc k < popc s
    · rw [show (match some s with | none => some k | some s => if popc k < popc s then some k else some s) = some k from if_pos hc]
      rw [show pop 10 k = popc k from rfl]
      refine pw_icmp_ge (tgt := 20) 16 rfl dX12_fewest_13 rfl (fun h13 => absurd h13 (by (simp (disch := omega) only [nI_leI, nI_ltI, nI_eq, show (0 : Int32) = nI 0 from rfl, not_true_eq_false, not_false_eq_true] <;> omega))) (fun h13 => ?_)
      refine pw_iload_n 17 rfl dX12_fewest_16 rfl ?_
      refine pw_goto (tgt := 21) dX12_fewest_17 rfl ?_
      refine pw_iret dX12_fewest_21 rfl ?_
      rotate_left
      exact ⟨rfl, rfl, rfl, rfl⟩
    · rw [show (match some s with | none => some k | some s => if popc k < popc s then some k else some s) = some s from if_neg hc]
      rw [show pop 10 k = popc k from rfl]
      refine pw_icmp_ge (tgt := 20) 16 rfl dX12_fewest_13 rfl (fun h13 => ?_) (fun h13 => absurd (by (simp (disch := omega) only [nI_leI, nI_ltI, nI_eq, show (0 : Int32) = nI 0 from rfl, not_true_eq_false, not_false_eq_true] <;> omega)) h13)
      refine pw_iload_n 21 rfl dX12_fewest_20 rfl ?_
      refine pw_iret dX12_fewest_21 rfl ?_
      rotate_left
      exact ⟨rfl, rfl, rfl, rfl⟩
set_option maxRecDepth 100000 in
set_option maxHeartbeats 2000000 in
theorem m_tellFewest {d : Nat} {o : Option Nat} {rw : List Int64} {rd rl : Option Nat} {I : pI} {J : pJ} (hN : MN I J rw) (ho : ∀ s, o = some s → s < 1024) : PC SM (d + 1) yX12_tellFewest cX12_tellFewest 2 (some .int) [.ref 0, .int (fewV o)] (I) (J) (RM rd rl) (fun r' I' J' R' => r' = some (.int (fewO o rw).1) ∧ MN I' J' (fewO o rw).2 ∧ (∀ a j, ¬ (a = 0 ∧ j = 6) → I' a j = I a j) ∧ R' = RM rd rl) := by
  refine PC.of [some (.ref 0), some (.int (fewV o))] rfl rfl (Nat.le_of_ble_eq_true rfl) ?_
  rcases o with _ | s
  · refine pw_iload_n 1 rfl dX12_tellFewest_0 rfl ?_
    refine pw_iconst (v := -1) 2 rfl dX12_tellFewest_1 rfl ?_
    refine pw_icmp_ne (tgt := 8) 5 rfl dX12_tellFewest_2 rfl (fun h2 => absurd rfl h2) (fun h2 => ?_)
    refine pw_bipush (v := -2) 7 rfl dX12_tellFewest_5 rfl ?_
    refine pw_iret dX12_tellFewest_7 rfl ?_
    rotate_left
    exact ⟨rfl, hN, fun _ _ _ => rfl, rfl⟩
  · have hs := ho s rfl
    refine pw_iload_n 1 rfl dX12_tellFewest_0 rfl ?_
    refine pw_iconst (v := -1) 2 rfl dX12_tellFewest_1 rfl ?_
    refine pw_icmp_ne (tgt := 8) 5 rfl dX12_tellFewest_2 rfl (fun h2 => ?_) (fun h2 => absurd h2 (fewV_ne hs))
    refine pw_aload_n 9 rfl dX12_tellFewest_8 rfl ?_
    refine pw_iconst (v := nI 0) 10 rfl dX12_tellFewest_9 rfl ?_
    refine pw_putI 13 rfl dX12_tellFewest_10 fX12_92 w12_6 (by first | rfl | assumption | exact rowS hh | exact mtS hm | exact ruS hr | exact mtA1 hm | exact mtA2 hm | exact mtA3 hm | exact mtA4 hm | exact mtA5 hm | exact mtA6 hm | exact mtA7 hm | exact ruA1 hr | exact ruA2 hr | exact ruA3 hr) rfl rfl rfl ?_
    refine pw_aload_n 14 rfl dX12_tellFewest_13 rfl ?_
    refine pw_iload_n 15 rfl dX12_tellFewest_14 rfl ?_
    refine pw_i2l 16 rfl dX12_tellFewest_15 ?_
    refine pw_callV (as := [_]) 19 rfl dX12_tellFewest_16 mX12_236 vX12_tell (m_tell (d := d) MN_0 (by decide)) (by first | rfl | assumption | exact rowS hh | exact mtS hm | exact ruS hr | exact mtA1 hm | exact mtA2 hm | exact mtA3 hm | exact mtA4 hm | exact mtA5 hm | exact mtA6 hm | exact mtA7 hm | exact ruA1 hr | exact ruA2 hr | exact ruA3 hr) rfl (by decide) ⟨rfl, by decide, by decide, show (parseMethodDescriptor yX12_tell.desc).map (fun d => d.parameters.length) = some 1 by decide +kernel⟩ (by omega) (by decide) (Nat.le_of_ble_eq_true rfl) rfl (fun r16 I16 J16 R16 c16 => ?_)
    obtain ⟨rfl, t1, t2, rfl⟩ := c16
    rotate_left
    refine pw_iload_n 20 rfl dX12_tellFewest_19 rfl ?_
    refine pw_callSP (as := [_]) 23 rfl dX12_tellFewest_20 mX12_244 sJ6_bitCount_0f7a4 (x_bitCount (d := d) _) ⟨rfl, by decide, by decide, show (parseMethodDescriptor yJ6_bitCount_0f7a4.desc).map (fun d => d.parameters.length) = some 1 by decide +kernel⟩ (by omega) (by decide) (Nat.le_of_ble_eq_true rfl) rfl ?_
    rotate_left
    rw [show bcF (fewV (some s)) = nI (popc s) from bc_pop s hs]
    refine pw_iret dX12_tellFewest_23 rfl ?_
    rotate_left
    exact ⟨rfl, t1, fun a j q => by rw [t2 a j q, uI_ne (by omega)], rfl⟩
theorem fewK_y {Q : Nat → Bool} {k : Nat} (h : Q k = true) : few Q (k + 1) = fewN (few Q k) k := by rw [few, if_pos h]; rfl
theorem fewK_n {Q : Nat → Bool} {k : Nat} (h : Q k = false) : few Q (k + 1) = few Q k := by rw [few, h]; rfl
theorem few_lt {Q : Nat → Bool} {k s : Nat} (h : few Q k = some s) : s < k := by
  rcases few_spec Q k with ⟨h1, -⟩ | ⟨t, h1, h2, -⟩
  · rw [h1] at h; cases h
  · rw [h1] at h; cases h; exact h2
set_option maxRecDepth 100000 in
set_option maxHeartbeats 2000000 in
theorem m_has {d x i : Nat} {I : pI} {J : pJ} {R : pR} (hx : x < 2147483648) (hi : i < 31) : PC SM (d) yX12_has cX12_has 2 (some .boolean) [.int (nI x), .int (nI i)] (I) (J) (R) (pPu (.int (nI (if x.testBit i = true then 1 else 0))) I J R) := by
  refine PC.of [some (.int (nI x)), some (.int (nI i))] rfl rfl (Nat.le_of_ble_eq_true rfl) ?_
  by_cases h : x.testBit i = true
  · rw [if_pos h]
    refine pw_iload_n 1 rfl dX12_has_0 rfl ?_
    refine pw_iload_n 2 rfl dX12_has_1 rfl ?_
    refine pw_ishr 3 rfl dX12_has_2 ?_
    refine pw_iconst (v := nI 1) 4 rfl dX12_has_3 rfl ?_
    refine pw_iand 5 rfl dX12_has_4 ?_
    refine pw_iconst (v := nI 1) 6 rfl dX12_has_5 rfl ?_
    refine pw_icmp_ne (tgt := 13) 9 rfl dX12_has_6 rfl (fun h6 => absurd (bit_y hx hi h) h6) (fun h6 => ?_)
    refine pw_iconst (v := nI 1) 10 rfl dX12_has_9 rfl ?_
    refine pw_goto (tgt := 14) dX12_has_10 rfl ?_
    refine pw_iret dX12_has_14 rfl ?_
    rotate_left
    exact ⟨rfl, rfl, rfl, rfl⟩
  · rw [if_neg h]
    refine pw_iload_n 1 rfl dX12_has_0 rfl ?_
    refine pw_iload_n 2 rfl dX12_has_1 rfl ?_
    refine pw_ishr 3 rfl dX12_has_2 ?_
    refine pw_iconst (v := nI 1) 4 rfl dX12_has_3 rfl ?_
    refine pw_iand 5 rfl dX12_has_4 ?_
    refine pw_iconst (v := nI 1) 6 rfl dX12_has_5 rfl ?_
    refine pw_icmp_ne (tgt := 13) 9 rfl dX12_has_6 rfl (fun h6 => ?_) (fun h6 => absurd h6 (bit_n hx hi (by cases e : x.testBit i; rfl; exact absurd e h)))
    refine pw_iconst (v := nI 0) 14 rfl dX12_has_13 rfl ?_
    refine pw_iret dX12_has_14 rfl ?_
    rotate_left
    exact ⟨rfl, rfl, rfl, rfl⟩
theorem stI_n {b : Nat → Nat} {s n : Nat} (h : ∀ i, n ≤ i → s.testBit i = false) (hn : n ≤ 7) : stI b s n = stay b s := by
  funext k
  unfold stay stI
  by_cases c : 14 ≤ k ∧ k < 14 + n ∧ s.testBit (k - 14) = true
  · rw [if_pos c, if_pos ⟨c.1, by omega, c.2.2⟩]
  · rw [if_neg c, if_neg]
    rintro ⟨c1, c2, c3⟩
    by_cases e : k < 14 + n
    · exact c ⟨c1, e, c3⟩
    · rw [h (k - 14) (by omega)] at c3; cases c3
theorem sub_bit {s o i : Nat} (h : s &&& o = s) (ho : o.testBit i = false) : s.testBit i = false := by
  rw [← h, Nat.testBit_and, ho, Bool.and_false]
theorem cl_bit : ∀ q, q < 7 → ∀ x, x < 128 → ∀ i, i < 7 → x.testBit i = false → (cl x q).testBit i = false := by decide +kernel
theorem WF_stI {n s i : Nat} {pc b : Nat → Nat} (h : WN n pc b) (hi : i ≤ 7) : WF n pc (stI b s i) := by
  obtain ⟨⟨h7, ht, ho, hd, hB⟩, hZ, hT⟩ := h
  have e : ∀ k, ¬ (14 ≤ k ∧ k < 21) → stI b s i k = b k := fun k hk => if_neg (fun z => hk ⟨z.1, by omega⟩)
  refine ⟨h7, by rw [e 28 (by omega)]; exact ht, by rw [e 29 (by omega)]; exact ho, by rw [e 31 (by omega)]; exact hd, fun k hk => ?_⟩
  have hb := hB k hk
  have hw := hT k hk
  refine ⟨hb.1, by rw [e k (by omega), e 28 (by omega)]; exact hb.2.1, by rw [e _ (by omega)]; exact hb.2.2.1, ?_, by rw [e _ (by omega)]; exact hb.2.2.2.2⟩
  unfold stI
  split <;> omega
set_option maxRecDepth 100000 in
set_option maxHeartbeats 2000000 in
theorem mo_rivals {d g : Nat} {s : aSt} {rd : Option Nat} {I : pI} {J : pJ} (hA : MA I J s) (hD : MDg g I) (hg : g ≤ 500000000) (hW : WA s) (w v : Int32) : PC SM (d + 245) yX12_rivals cX12_rivals 7 (some .int) [.ref 0, .int w, .int v] (I) (J) (RM rd (some 6)) (moP (g + 10000) (qOp (qRivals w v) s)) := by
  refine PC.of [some (.ref 0), some (.int w), some (.int v), none, none, none, none] rfl rfl (Nat.le_of_ble_eq_true rfl) ?_
  obtain ⟨n, pc, b, us, kp, rw, tx, rt, hd, sw⟩ := s
  refine pw_aload_n 1 rfl dX12_rivals_0 rfl ?_
  refine pw_iconst (v := nI 0) 2 rfl dX12_rivals_1 rfl ?_
  refine pw_putI 5 rfl dX12_rivals_2 fX12_88 w12_7 (by first | rfl | assumption | exact rowS hh | exact mtS hm | exact ruS hr | exact mtA1 hm | exact mtA2 hm | exact mtA3 hm | exact mtA4 hm | exact mtA5 hm | exact mtA6 hm | exact mtA7 hm | exact ruA1 hr | exact ruA2 hr | exact ruA3 hr) rfl rfl rfl ?_
  rotate_left
  have hA0 := MA_thr (v := nI 0) hA
  have hD0 : MDg g (uI I 0 7 (nI 0)) := MDg_f hD (uI_ne (by omega)) (fun j => uI_ne (by omega))
  clear hA hD
  generalize uI I 0 7 (nI 0) = I at hA0 hD0 ⊢
  obtain ⟨mC, mB, mT, mN, mR, mU, mK, mH, mG⟩ := id hA0
  obtain ⟨aW, aU, aK⟩ := id hW
  have hE := MSt_A hA0
  have hn7 := mC.1
  have hn := mC.2.1
  rcases qOf_cases hn7 w with ⟨q, hq, rfl, hi, hh⟩ | ⟨hi, hh⟩
  · rcases inOf_cases (lo := 0) (hi := 60) (by decide) v (by decide) with ⟨N, h1, h2, rfl, hj⟩ | ⟨hj, ho⟩
    · have hwlt : bts (fun q => decide (b (7 + q) ≠ 0)) n < 128 := by
        have a1 := bts_lt (fun q => decide (b (7 + q) ≠ 0)) n
        have a2 : 2 ^ n ≤ 2 ^ 7 := Nat.pow_le_pow_right (by decide) hn7
        omega
      have hwb : ∀ i, n ≤ i → (bts (fun q => decide (b (7 + q) ≠ 0)) n).testBit i = false := fun i hi => by rw [bts_bit, decide_eq_false (by omega), Bool.false_and]
      have eS := cl_V q (by omega) _ hwlt
      have hS7 := cl_7 q (by omega) _ hwlt
      have hSb : ∀ i, n ≤ i → i < 7 → (cl (bts (fun q => decide (b (7 + q) ≠ 0)) n) q).testBit i = false := fun i h1 h2 => cl_bit q (by omega) _ hwlt i h2 (hwb i h1)
      have eq0 : qRivals (nI q) (nI N) n pc b (ruE rt) rw hd sw = fewO (few (fun s => decide (s &&& cl (bts (fun q => decide (b (7 + q) ≠ 0)) n) q = s) && decide (hrs n pc (ruE rt) N (stay b s) 29 = q)) (cl (bts (fun q => decide (b (7 + q) ≠ 0)) n) q + 1)) rw := by unfold qRivals; rw [hi, hj]; rfl
      refine pw_aload_n 6 rfl dX12_rivals_5 rfl ?_
      refine pw_iload_n 7 rfl dX12_rivals_6 rfl ?_
      refine pw_callVP (as := [_]) 10 rfl dX12_rivals_7 mX12_205 vX12_isOne (m_isOne (d := d + 243) hn hn7 _) (by first | rfl | assumption | exact rowS hh | exact mtS hm | exact ruS hr | exact mtA1 hm | exact mtA2 hm | exact mtA3 hm | exact mtA4 hm | exact mtA5 hm | exact mtA6 hm | exact mtA7 hm | exact ruA1 hr | exact ruA2 hr | exact ruA3 hr) rfl (by decide) ⟨rfl, by decide, by decide, show (parseMethodDescriptor yX12_isOne.desc).map (fun d => d.parameters.length) = some 1 by decide +kernel⟩ (by omega) (by decide) (Nat.le_of_ble_eq_true rfl) rfl ?_
      refine pw_if_eq (tgt := 20) 13 rfl dX12_rivals_10 rfl (fun h10 => absurd h10 (by rw [hh]; decide)) (fun h10 => ?_)
      refine pw_iload_n 14 rfl dX12_rivals_13 rfl ?_
      refine pw_callSP (as := [_]) 17 rfl dX12_rivals_14 mX12_289 sX12_isSoon (m_isSoon (d := d + 243) _) ⟨rfl, by decide, by decide, show (parseMethodDescriptor yX12_isSoon.desc).map (fun d => d.parameters.length) = some 1 by decide +kernel⟩ (by omega) (by decide) (Nat.le_of_ble_eq_true rfl) rfl ?_
      refine pw_if_ne (tgt := 22) 20 rfl dX12_rivals_17 rfl (fun h17 => ?_) (fun h17 => absurd h17 (by rw [inV_y h1 h2 (by decide)]; decide))
      refine pw_aload_n 23 rfl dX12_rivals_22 rfl ?_
      refine pw_aload_n 24 rfl dX12_rivals_23 rfl ?_
      refine pw_getR 27 rfl dX12_rivals_24 fX12_9 (by first | rfl | assumption | exact rowS hh | exact mtS hm | exact ruS hr | exact mtA1 hm | exact mtA2 hm | exact mtA3 hm | exact mtA4 hm | exact mtA5 hm | exact mtA6 hm | exact mtA7 hm | exact ruA1 hr | exact ruA2 hr | exact ruA3 hr) rfl (by first | rfl | assumption | exact mtR0 hm | exact mtR1 hm | exact mtR2 hm | exact mtR3 hm | exact mtR4 hm | exact mtR5 hm | exact mtR6 hm | exact ruR0 hr | exact ruR1 hr | exact ruR3 hr) ?_
      refine pw_callVP (as := [_]) 30 rfl dX12_rivals_27 mX12_240 vX12_walking (m_walking (d := d + 244) (Or.inl rfl) hn hn7 (WF_way aW.1) mB) (by first | rfl | assumption | exact rowS hh | exact mtS hm | exact ruS hr | exact mtA1 hm | exact mtA2 hm | exact mtA3 hm | exact mtA4 hm | exact mtA5 hm | exact mtA6 hm | exact mtA7 hm | exact ruA1 hr | exact ruA2 hr | exact ruA3 hr) rfl (by decide) ⟨rfl, by decide, by decide, show (parseMethodDescriptor yX12_walking.desc).map (fun d => d.parameters.length) = some 1 by decide +kernel⟩ (by omega) (by decide) (Nat.le_of_ble_eq_true rfl) rfl ?_
      rotate_left
      refine pw_iconst (v := nI 1) 31 rfl dX12_rivals_30 rfl ?_
      refine pw_iload_n 32 rfl dX12_rivals_31 rfl ?_
      refine pw_ishl 33 rfl dX12_rivals_32 ?_
      refine pw_iconst (v := -1) 34 rfl dX12_rivals_33 rfl ?_
      refine pw_ixor 35 rfl dX12_rivals_34 ?_
      refine pw_iand 36 rfl dX12_rivals_35 ?_
      rotate_left
      rw [eS]
      refine pw_istore_n 37 rfl dX12_rivals_36 (by decide) ?_
      refine pw_iconst (v := -1) 38 rfl dX12_rivals_37 rfl ?_
      refine pw_istore 40 rfl dX12_rivals_38 (by decide) ?_
      refine pw_iconst (v := nI 0) 41 rfl dX12_rivals_40 rfl ?_
      refine pw_istore 43 rfl dX12_rivals_41 (by decide) ?_
      rotate_left
      generalize cl (bts (fun q => decide (b (7 + q) ≠ 0)) n) q = S at hS7 hSb eq0
      generalize hQ : (fun s => decide (s &&& S = s) && decide (hrs n pc (ruE rt) N (stay b s) 29 = q)) = Q at eq0
      have hQk : ∀ s, Q s = (decide (s &&& S = s) && decide (hrs n pc (ruE rt) N (stay b s) 29 = q)) := fun s => by rw [← hQ]
      have L := nat_loop (S + 1) (fun t => ∀ (I' : pI) (rd' : Option Nat) (x : Option Value), mFr 11 I I' → MDg (g + 1000) I' → PW SM yX12_rivals.cls cX12_rivals 7 (d + 245) 43 [some (.ref 0), some (.int (nI q)), some (.int (nI N)), some (.int (nI S)), some (.int (fewV (few Q t))), some (.int (nI t)), x] [] I' J (RM rd' (some 6)) (rX cX12_rivals (some .int) (moP (g + 10000) (qOp (qRivals (nI q) (nI N)) (n, pc, b, us, kp, rw, tx, rt, hd, sw))))) ?_ ?_
      · exact L I rd none (fun _ _ _ _ _ _ _ => rfl) (hD0.mono (by omega))
      · intro I' rd' x m2 m3
        refine pw_iload 45 rfl dX12_rivals_43 rfl ?_
        refine pw_iload_n 46 rfl dX12_rivals_45 rfl ?_
        refine pw_icmp_gt (tgt := 152) 49 rfl dX12_rivals_46 rfl (fun h46 => ?_) (fun h46 => absurd (by (simp (disch := omega) only [nI_leI, nI_ltI, nI_eq, show (0 : Int32) = nI 0 from rfl, not_true_eq_false, not_false_eq_true] <;> omega)) h46)
        refine pw_aload_n 153 rfl dX12_rivals_152 rfl ?_
        refine pw_iload 155 rfl dX12_rivals_153 rfl ?_
        refine pw_callV (as := [_]) 158 rfl dX12_rivals_155 mX12_298 vX12_tellFewest (m_tellFewest (d := d + 243) (MN_mFr mN m2) (fun s hs => by have := few_lt hs; omega)) (by first | rfl | assumption | exact rowS hh | exact mtS hm | exact ruS hr | exact mtA1 hm | exact mtA2 hm | exact mtA3 hm | exact mtA4 hm | exact mtA5 hm | exact mtA6 hm | exact mtA7 hm | exact ruA1 hr | exact ruA2 hr | exact ruA3 hr) rfl (by decide) ⟨rfl, by decide, by decide, show (parseMethodDescriptor yX12_tellFewest.desc).map (fun d => d.parameters.length) = some 1 by decide +kernel⟩ (by omega) (by decide) (Nat.le_of_ble_eq_true rfl) rfl (fun r155 I155 J155 R155 c155 => ?_)
        obtain ⟨rfl, t1, t2, rfl⟩ := c155
        rotate_left
        refine pw_iret dX12_rivals_158 rfl ?_
        rotate_left
        exact moQ eq0 rfl (MA_rw hA0 (fun a j q => by rw [t2 a j (by omega)]; exact fMs_mFr m2 a j q) t1) ((MDg_f m3 (t2 _ _ (by omega)) (fun j => t2 _ _ (by omega))).mono (by omega)) ⟨rd', rfl⟩
      · intro t ht ih I' rd' x m2 m3
        by_cases hsub : t &&& S = t
        · have hsz := (sub_iff S (by omega) t (by omega)).mpr hsub
          have hbt : ∀ i, n ≤ i → t.testBit i = false := fun i hi => by
            by_cases e : i < 7
            · exact sub_bit hsub (hSb i hi e)
            · exact Nat.testBit_lt_two_pow (Nat.lt_of_lt_of_le (show t < 2 ^ 7 by omega) (Nat.pow_le_pow_right (by decide) (by omega)))
          refine pw_iload 45 rfl dX12_rivals_43 rfl ?_
          refine pw_iload_n 46 rfl dX12_rivals_45 rfl ?_
          refine pw_icmp_gt (tgt := 152) 49 rfl dX12_rivals_46 rfl (fun h46 => absurd h46 (by (simp (disch := omega) only [nI_leI, nI_ltI, nI_eq, show (0 : Int32) = nI 0 from rfl, not_true_eq_false, not_false_eq_true] <;> omega))) (fun h46 => ?_)
          refine pw_iload 51 rfl dX12_rivals_49 rfl ?_
          refine pw_iload_n 52 rfl dX12_rivals_51 rfl ?_
          refine pw_iconst (v := -1) 53 rfl dX12_rivals_52 rfl ?_
          refine pw_ixor 54 rfl dX12_rivals_53 ?_
          refine pw_iand 55 rfl dX12_rivals_54 ?_
          refine pw_if_eq (tgt := 61) 58 rfl dX12_rivals_55 rfl (fun h55 => ?_) (fun h55 => absurd hsz h55)
          refine pw_aload_n 62 rfl dX12_rivals_61 rfl ?_
          refine pw_getR 65 rfl dX12_rivals_62 fX12_9 (by first | rfl | assumption | exact rowS hh | exact mtS hm | exact ruS hr | exact mtA1 hm | exact mtA2 hm | exact mtA3 hm | exact mtA4 hm | exact mtA5 hm | exact mtA6 hm | exact mtA7 hm | exact ruA1 hr | exact ruA2 hr | exact ruA3 hr) rfl (by first | rfl | assumption | exact mtR0 hm | exact mtR1 hm | exact mtR2 hm | exact mtR3 hm | exact mtR4 hm | exact mtR5 hm | exact mtR6 hm | exact ruR0 hr | exact ruR1 hr | exact ruR3 hr) ?_
          refine pw_aload_n 66 rfl dX12_rivals_65 rfl ?_
          refine pw_getR 69 rfl dX12_rivals_66 fX12_42 (by first | rfl | assumption | exact rowS hh | exact mtS hm | exact ruS hr | exact mtA1 hm | exact mtA2 hm | exact mtA3 hm | exact mtA4 hm | exact mtA5 hm | exact mtA6 hm | exact mtA7 hm | exact ruA1 hr | exact ruA2 hr | exact ruA3 hr) rfl (by first | rfl | assumption | exact mtR0 hm | exact mtR1 hm | exact mtR2 hm | exact mtR3 hm | exact mtR4 hm | exact mtR5 hm | exact mtR6 hm | exact ruR0 hr | exact ruR1 hr | exact ruR3 hr) ?_
          refine pw_iconst (v := nI 0) 70 rfl dX12_rivals_69 rfl ?_
          refine pw_callS (as := [_, _, _]) 73 rfl dX12_rivals_70 mX12_219 sX12_lay (m_layT (d := d + 244) (MB_f mB (fun k => m2 _ _ (by omega) (by omega) (by omega) (by omega) (by omega)))) ⟨rfl, by decide, by decide, show (parseMethodDescriptor yX12_lay.desc).map (fun d => d.parameters.length) = some 3 by decide +kernel⟩ (by omega) (by decide) (Nat.le_of_ble_eq_true rfl) rfl (fun r70 I70 J70 R70 c70 => ?_)
          obtain ⟨rfl, k1, k2, rfl, rfl⟩ := c70
          rotate_left
          refine pw_iconst (v := nI 0) 74 rfl dX12_rivals_73 rfl ?_
          refine pw_istore 76 rfl dX12_rivals_74 (by decide) ?_
          rotate_left
          have L2 := nat_loop n (fun k => ∀ (I2 : pI), MB I2 11 (stI b t k) → mFr 11 I I2 → PW SM yX12_rivals.cls cX12_rivals 7 (d + 245) 76 [some (.ref 0), some (.int (nI q)), some (.int (nI N)), some (.int (nI S)), some (.int (fewV (few Q t))), some (.int (nI t)), some (.int (nI k))] [] I2 J (RM rd' (some 6)) (rX cX12_rivals (some .int) (moP (g + 10000) (qOp (qRivals (nI q) (nI N)) (n, pc, b, us, kp, rw, tx, rt, hd, sw))))) ?_ ?_
          · refine L2 I70 ?_ (fun a j q1 q2 q3 q4 q5 => by rw [k2 a j q1]; exact m2 a j q1 q2 q3 q4 q5)
            rw [show stI b t 0 = b from funext (fun k => if_neg (by omega))]
            exact k1
          · intro I2 n1 n2
            rw [stI_n hbt hn7] at n1
            have hWs := WF_stay aW t
            have hn' : I2 0 1 = nI n := by rw [n2 _ _ (by omega) (by omega) (by omega) (by omega) (by omega)]; exact hn
            refine pw_iload 78 rfl dX12_rivals_76 rfl ?_
            refine pw_aload_n 79 rfl dX12_rivals_78 rfl ?_
            refine pw_getI 82 rfl dX12_rivals_79 fX12_95 (by first | rfl | assumption | exact rowS hh | exact mtS hm | exact ruS hr | exact mtA1 hm | exact mtA2 hm | exact mtA3 hm | exact mtA4 hm | exact mtA5 hm | exact mtA6 hm | exact mtA7 hm | exact ruA1 hr | exact ruA2 hr | exact ruA3 hr) rfl ?_
            refine pw_icmp_ge (tgt := 116) 85 rfl dX12_rivals_82 rfl (fun h82 => ?_) (fun h82 => absurd (by rw [hn']; (simp (disch := omega) only [nI_leI, nI_ltI, nI_eq, show (0 : Int32) = nI 0 from rfl, not_true_eq_false, not_false_eq_true] <;> omega)) h82)
            refine pw_aload_n 117 rfl dX12_rivals_116 rfl ?_
            refine pw_aload_n 118 rfl dX12_rivals_117 rfl ?_
            refine pw_getR 121 rfl dX12_rivals_118 fX12_42 (by first | rfl | assumption | exact rowS hh | exact mtS hm | exact ruS hr | exact mtA1 hm | exact mtA2 hm | exact mtA3 hm | exact mtA4 hm | exact mtA5 hm | exact mtA6 hm | exact mtA7 hm | exact ruA1 hr | exact ruA2 hr | exact ruA3 hr) rfl (by first | rfl | assumption | exact mtR0 hm | exact mtR1 hm | exact mtR2 hm | exact mtR3 hm | exact mtR4 hm | exact mtR5 hm | exact mtR6 hm | exact ruR0 hr | exact ruR1 hr | exact ruR3 hr) ?_
            refine pw_iload_n 122 rfl dX12_rivals_121 rfl ?_
            refine pw_callV (as := [_, _]) 125 rfl dX12_rivals_122 mX12_233 vX12_goHours (m_goHours (d := d + 6) (Or.inr rfl) (mC.fr n2 (Or.inr rfl)) n1 hWs (MSt_mFr hE n2) (show N ≤ 100 by omega)) (by first | rfl | assumption | exact rowS hh | exact mtS hm | exact ruS hr | exact mtA1 hm | exact mtA2 hm | exact mtA3 hm | exact mtA4 hm | exact mtA5 hm | exact mtA6 hm | exact mtA7 hm | exact ruA1 hr | exact ruA2 hr | exact ruA3 hr) rfl (by decide) ⟨rfl, by decide, by decide, show (parseMethodDescriptor yX12_goHours.desc).map (fun d => d.parameters.length) = some 2 by decide +kernel⟩ (by omega) (by decide) (Nat.le_of_ble_eq_true rfl) rfl (fun r122 I122 J122 R122 c122 => ?_)
            obtain ⟨rfl, p1, p2, p3, rfl, rd2, rfl⟩ := c122
            rotate_left
            have eO : I122 11 29 = nI (hrs n pc (ruE rt) N (stay b t) 29) := p1 29 (by omega)
            have hO := (WF_hrs (ruE rt) hWs N).2.2.1
            have hdl := dlA_le hn7 pc (ruE rt) (stay b t) (show N ≤ 100 by omega)
            have go := ih I122 rd2 (some (.int (nI n))) (n2.trans p2) ⟨_, p3, by omega⟩
            by_cases hp : hrs n pc (ruE rt) N (stay b t) 29 = q
            · rw [fewK_y (by rw [hQk, decide_eq_true hsub, decide_eq_true hp]; rfl)] at go
              refine pw_aload_n 126 rfl dX12_rivals_125 rfl ?_
              refine pw_getR 129 rfl dX12_rivals_126 fX12_42 (by first | rfl | assumption | exact rowS hh | exact mtS hm | exact ruS hr | exact mtA1 hm | exact mtA2 hm | exact mtA3 hm | exact mtA4 hm | exact mtA5 hm | exact mtA6 hm | exact mtA7 hm | exact ruA1 hr | exact ruA2 hr | exact ruA3 hr) rfl (by first | rfl | assumption | exact mtR0 hm | exact mtR1 hm | exact mtR2 hm | exact mtR3 hm | exact mtR4 hm | exact mtR5 hm | exact mtR6 hm | exact ruR0 hr | exact ruR1 hr | exact ruR3 hr) ?_
              refine pw_bipush (v := nI 29) 131 rfl dX12_rivals_129 rfl ?_
              refine pw_ialdN 132 rfl dX12_rivals_131 (by first | rfl | assumption | exact rowS hh | exact mtS hm | exact ruS hr | exact mtA1 hm | exact mtA2 hm | exact mtA3 hm | exact mtA4 hm | exact mtA5 hm | exact mtA6 hm | exact mtA7 hm | exact ruA1 hr | exact ruA2 hr | exact ruA3 hr) (by omega) (by first | decide | omega) ?_
              refine pw_iload_n 133 rfl dX12_rivals_132 rfl ?_
              refine pw_icmp_ne (tgt := 146) 136 rfl dX12_rivals_133 rfl (fun h133 => absurd (by rw [eO, hp]) h133) (fun h133 => ?_)
              refine pw_aload_n 137 rfl dX12_rivals_136 rfl ?_
              refine pw_iload 139 rfl dX12_rivals_137 rfl ?_
              refine pw_iload 141 rfl dX12_rivals_139 rfl ?_
              refine pw_callVP (as := [_, _]) 144 rfl dX12_rivals_141 mX12_295 vX12_fewest (m_fewest (d := d + 243) (show t < 1024 by omega) (fun s hs => by have := few_lt hs; omega)) (by first | rfl | assumption | exact rowS hh | exact mtS hm | exact ruS hr | exact mtA1 hm | exact mtA2 hm | exact mtA3 hm | exact mtA4 hm | exact mtA5 hm | exact mtA6 hm | exact mtA7 hm | exact ruA1 hr | exact ruA2 hr | exact ruA3 hr) rfl (by decide) ⟨rfl, by decide, by decide, show (parseMethodDescriptor yX12_fewest.desc).map (fun d => d.parameters.length) = some 2 by decide +kernel⟩ (by omega) (by decide) (Nat.le_of_ble_eq_true rfl) rfl ?_
              refine pw_istore 146 rfl dX12_rivals_144 (by decide) ?_
              refine pw_iincN 149 rfl dX12_rivals_146 (by decide) rfl ?_
              refine pw_goto (tgt := 43) dX12_rivals_149 rfl ?_
              rotate_left
              exact go
            · rw [fewK_n (by rw [hQk, decide_eq_false hp, Bool.and_false])] at go
              refine pw_aload_n 126 rfl dX12_rivals_125 rfl ?_
              refine pw_getR 129 rfl dX12_rivals_126 fX12_42 (by first | rfl | assumption | exact rowS hh | exact mtS hm | exact ruS hr | exact mtA1 hm | exact mtA2 hm | exact mtA3 hm | exact mtA4 hm | exact mtA5 hm | exact mtA6 hm | exact mtA7 hm | exact ruA1 hr | exact ruA2 hr | exact ruA3 hr) rfl (by first | rfl | assumption | exact mtR0 hm | exact mtR1 hm | exact mtR2 hm | exact mtR3 hm | exact mtR4 hm | exact mtR5 hm | exact mtR6 hm | exact ruR0 hr | exact ruR1 hr | exact ruR3 hr) ?_
              refine pw_bipush (v := nI 29) 131 rfl dX12_rivals_129 rfl ?_
              refine pw_ialdN 132 rfl dX12_rivals_131 (by first | rfl | assumption | exact rowS hh | exact mtS hm | exact ruS hr | exact mtA1 hm | exact mtA2 hm | exact mtA3 hm | exact mtA4 hm | exact mtA5 hm | exact mtA6 hm | exact mtA7 hm | exact ruA1 hr | exact ruA2 hr | exact ruA3 hr) (by omega) (by first | decide | omega) ?_
              refine pw_iload_n 133 rfl dX12_rivals_132 rfl ?_
              refine pw_icmp_ne (tgt := 146) 136 rfl dX12_rivals_133 rfl (fun h133 => ?_) (fun h133 => absurd h133 (by rw [eO, nI_eq (by omega) (by omega)]; exact hp))
              refine pw_iincN 149 rfl dX12_rivals_146 (by decide) rfl ?_
              refine pw_goto (tgt := 43) dX12_rivals_149 rfl ?_
              rotate_left
              exact go
          · intro k hk ih2 I2 n1 n2
            have hn' : I2 0 1 = nI n := by rw [n2 _ _ (by omega) (by omega) (by omega) (by omega) (by omega)]; exact hn
            have e14 : stI b t k (14 + k) = b (14 + k) := if_neg (by omega)
            have hs := stI_succ b t k
            by_cases hb : t.testBit k = true
            · rw [if_pos hb] at hs
              refine pw_iload 78 rfl dX12_rivals_76 rfl ?_
              refine pw_aload_n 79 rfl dX12_rivals_78 rfl ?_
              refine pw_getI 82 rfl dX12_rivals_79 fX12_95 (by first | rfl | assumption | exact rowS hh | exact mtS hm | exact ruS hr | exact mtA1 hm | exact mtA2 hm | exact mtA3 hm | exact mtA4 hm | exact mtA5 hm | exact mtA6 hm | exact mtA7 hm | exact ruA1 hr | exact ruA2 hr | exact ruA3 hr) rfl ?_
              refine pw_icmp_ge (tgt := 116) 85 rfl dX12_rivals_82 rfl (fun h82 => absurd h82 (by rw [hn']; (simp (disch := omega) only [nI_leI, nI_ltI, nI_eq, show (0 : Int32) = nI 0 from rfl, not_true_eq_false, not_false_eq_true] <;> omega))) (fun h82 => ?_)
              refine pw_iload 87 rfl dX12_rivals_85 rfl ?_
              refine pw_iload 89 rfl dX12_rivals_87 rfl ?_
              refine pw_callSP (as := [_, _]) 92 rfl dX12_rivals_89 mX12_292 sX12_has (m_has (d := d + 244) (show t < 2147483648 by omega) (show k < 31 by omega)) ⟨rfl, by decide, by decide, show (parseMethodDescriptor yX12_has.desc).map (fun d => d.parameters.length) = some 2 by decide +kernel⟩ (by omega) (by decide) (Nat.le_of_ble_eq_true rfl) rfl ?_
              refine pw_if_eq (tgt := 110) 95 rfl dX12_rivals_92 rfl (fun h92 => absurd h92 (by rw [if_pos hb]; decide)) (fun h92 => ?_)
              refine pw_aload_n 96 rfl dX12_rivals_95 rfl ?_
              refine pw_getR 99 rfl dX12_rivals_96 fX12_42 (by first | rfl | assumption | exact rowS hh | exact mtS hm | exact ruS hr | exact mtA1 hm | exact mtA2 hm | exact mtA3 hm | exact mtA4 hm | exact mtA5 hm | exact mtA6 hm | exact mtA7 hm | exact ruA1 hr | exact ruA2 hr | exact ruA3 hr) rfl (by first | rfl | assumption | exact mtR0 hm | exact mtR1 hm | exact mtR2 hm | exact mtR3 hm | exact mtR4 hm | exact mtR5 hm | exact mtR6 hm | exact ruR0 hr | exact ruR1 hr | exact ruR3 hr) ?_
              refine pw_bipush (v := nI 14) 101 rfl dX12_rivals_99 rfl ?_
              refine pw_iload 103 rfl dX12_rivals_101 rfl ?_
              first | refine pw_iaddN 104 rfl dX12_rivals_103 ?_ | refine pw_iadd 104 rfl dX12_rivals_103 ?_
              refine pw_dup2 105 rfl dX12_rivals_104 rfl rfl ?_
              refine pw_ialdN 106 rfl dX12_rivals_105 (by first | rfl | assumption | exact rowS hh | exact mtS hm | exact ruS hr | exact mtA1 hm | exact mtA2 hm | exact mtA3 hm | exact mtA4 hm | exact mtA5 hm | exact mtA6 hm | exact mtA7 hm | exact ruA1 hr | exact ruA2 hr | exact ruA3 hr) (by omega) (by first | decide | omega) ?_
              rotate_left
              rw [n1 (14 + k) (by omega), e14]
              refine pw_bipush (v := nI 99) 108 rfl dX12_rivals_106 rfl ?_
              first | refine pw_iaddN 109 rfl dX12_rivals_108 ?_ | refine pw_iadd 109 rfl dX12_rivals_108 ?_
              refine pw_iastN 110 rfl dX12_rivals_109 (by first | rfl | assumption | exact rowS hh | exact mtS hm | exact ruS hr | exact mtA1 hm | exact mtA2 hm | exact mtA3 hm | exact mtA4 hm | exact mtA5 hm | exact mtA6 hm | exact mtA7 hm | exact ruA1 hr | exact ruA2 hr | exact ruA3 hr) (by omega) (by first | decide | omega) ?_
              refine pw_iincN 113 rfl dX12_rivals_110 (by decide) rfl ?_
              refine pw_goto (tgt := 76) dX12_rivals_113 rfl ?_
              rotate_left
              refine ih2 _ ?_ (fun a j q1 q2 q3 q4 q5 => by rw [uI_ne (by omega)]; exact n2 a j q1 q2 q3 q4 q5)
              rw [← hs]
              exact MB_bu n1
            · rw [if_neg hb, Nat.add_zero, ← e14] at hs
              have hs' : stI b t (k + 1) = stI b t k := by
                rw [← hs]
                funext j
                unfold bu
                split
                · rename_i e; rw [e]
                · rfl
              refine pw_iload 78 rfl dX12_rivals_76 rfl ?_
              refine pw_aload_n 79 rfl dX12_rivals_78 rfl ?_
              refine pw_getI 82 rfl dX12_rivals_79 fX12_95 (by first | rfl | assumption | exact rowS hh | exact mtS hm | exact ruS hr | exact mtA1 hm | exact mtA2 hm | exact mtA3 hm | exact mtA4 hm | exact mtA5 hm | exact mtA6 hm | exact mtA7 hm | exact ruA1 hr | exact ruA2 hr | exact ruA3 hr) rfl ?_
              refine pw_icmp_ge (tgt := 116) 85 rfl dX12_rivals_82 rfl (fun h82 => absurd h82 (by rw [hn']; (simp (disch := omega) only [nI_leI, nI_ltI, nI_eq, show (0 : Int32) = nI 0 from rfl, not_true_eq_false, not_false_eq_true] <;> omega))) (fun h82 => ?_)
              refine pw_iload 87 rfl dX12_rivals_85 rfl ?_
              refine pw_iload 89 rfl dX12_rivals_87 rfl ?_
              refine pw_callSP (as := [_, _]) 92 rfl dX12_rivals_89 mX12_292 sX12_has (m_has (d := d + 244) (show t < 2147483648 by omega) (show k < 31 by omega)) ⟨rfl, by decide, by decide, show (parseMethodDescriptor yX12_has.desc).map (fun d => d.parameters.length) = some 2 by decide +kernel⟩ (by omega) (by decide) (Nat.le_of_ble_eq_true rfl) rfl ?_
              refine pw_if_eq (tgt := 110) 95 rfl dX12_rivals_92 rfl (fun h92 => ?_) (fun h92 => absurd (by rw [if_neg hb]; rfl) h92)
              refine pw_iincN 113 rfl dX12_rivals_110 (by decide) rfl ?_
              refine pw_goto (tgt := 76) dX12_rivals_113 rfl ?_
              rotate_left
              exact ih2 I2 (by rw [hs']; exact n1) n2
        · have hnz : ¬ nI t &&& (nI S ^^^ (-1)) = 0 := fun z => hsub ((sub_iff S (by omega) t (by omega)).mp z)
          rw [fewK_n (by rw [hQk, decide_eq_false hsub, Bool.false_and])] at ih
          refine pw_iload 45 rfl dX12_rivals_43 rfl ?_
          refine pw_iload_n 46 rfl dX12_rivals_45 rfl ?_
          refine pw_icmp_gt (tgt := 152) 49 rfl dX12_rivals_46 rfl (fun h46 => absurd h46 (by (simp (disch := omega) only [nI_leI, nI_ltI, nI_eq, show (0 : Int32) = nI 0 from rfl, not_true_eq_false, not_false_eq_true] <;> omega))) (fun h46 => ?_)
          refine pw_iload 51 rfl dX12_rivals_49 rfl ?_
          refine pw_iload_n 52 rfl dX12_rivals_51 rfl ?_
          refine pw_iconst (v := -1) 53 rfl dX12_rivals_52 rfl ?_
          refine pw_ixor 54 rfl dX12_rivals_53 ?_
          refine pw_iand 55 rfl dX12_rivals_54 ?_
          refine pw_if_eq (tgt := 61) 58 rfl dX12_rivals_55 rfl (fun h55 => absurd h55 hnz) (fun h55 => ?_)
          refine pw_goto (tgt := 146) dX12_rivals_58 rfl ?_
          refine pw_iincN 149 rfl dX12_rivals_146 (by decide) rfl ?_
          refine pw_goto (tgt := 43) dX12_rivals_149 rfl ?_
          rotate_left
          exact ih I' rd' x m2 m3
    · refine pw_aload_n 6 rfl dX12_rivals_5 rfl ?_
      refine pw_iload_n 7 rfl dX12_rivals_6 rfl ?_
      refine pw_callVP (as := [_]) 10 rfl dX12_rivals_7 mX12_205 vX12_isOne (m_isOne (d := d + 243) hn hn7 _) (by first | rfl | assumption | exact rowS hh | exact mtS hm | exact ruS hr | exact mtA1 hm | exact mtA2 hm | exact mtA3 hm | exact mtA4 hm | exact mtA5 hm | exact mtA6 hm | exact mtA7 hm | exact ruA1 hr | exact ruA2 hr | exact ruA3 hr) rfl (by decide) ⟨rfl, by decide, by decide, show (parseMethodDescriptor yX12_isOne.desc).map (fun d => d.parameters.length) = some 1 by decide +kernel⟩ (by omega) (by decide) (Nat.le_of_ble_eq_true rfl) rfl ?_
      refine pw_if_eq (tgt := 20) 13 rfl dX12_rivals_10 rfl (fun h10 => absurd h10 (by rw [hh]; decide)) (fun h10 => ?_)
      refine pw_iload_n 14 rfl dX12_rivals_13 rfl ?_
      refine pw_callSP (as := [_]) 17 rfl dX12_rivals_14 mX12_289 sX12_isSoon (m_isSoon (d := d + 243) _) ⟨rfl, by decide, by decide, show (parseMethodDescriptor yX12_isSoon.desc).map (fun d => d.parameters.length) = some 1 by decide +kernel⟩ (by omega) (by decide) (Nat.le_of_ble_eq_true rfl) rfl ?_
      refine pw_if_ne (tgt := 22) 20 rfl dX12_rivals_17 rfl (fun h17 => absurd (by rw [inV_n ho]; rfl) h17) (fun h17 => ?_)
      refine pw_iconst (v := -1) 21 rfl dX12_rivals_20 rfl ?_
      refine pw_iret dX12_rivals_21 rfl ?_
      rotate_left
      exact moQ (by unfold qRivals; rw [hi, hj]; rfl) rfl hA0 (hD0.mono (by omega)) ⟨rd, rfl⟩
  · refine pw_aload_n 6 rfl dX12_rivals_5 rfl ?_
    refine pw_iload_n 7 rfl dX12_rivals_6 rfl ?_
    refine pw_callVP (as := [_]) 10 rfl dX12_rivals_7 mX12_205 vX12_isOne (m_isOne (d := d + 243) hn hn7 _) (by first | rfl | assumption | exact rowS hh | exact mtS hm | exact ruS hr | exact mtA1 hm | exact mtA2 hm | exact mtA3 hm | exact mtA4 hm | exact mtA5 hm | exact mtA6 hm | exact mtA7 hm | exact ruA1 hr | exact ruA2 hr | exact ruA3 hr) rfl (by decide) ⟨rfl, by decide, by decide, show (parseMethodDescriptor yX12_isOne.desc).map (fun d => d.parameters.length) = some 1 by decide +kernel⟩ (by omega) (by decide) (Nat.le_of_ble_eq_true rfl) rfl ?_
    refine pw_if_eq (tgt := 20) 13 rfl dX12_rivals_10 rfl (fun h10 => ?_) (fun h10 => absurd (by rw [hh]; rfl) h10)
    refine pw_iconst (v := -1) 21 rfl dX12_rivals_20 rfl ?_
    refine pw_iret dX12_rivals_21 rfl ?_
    rotate_left
    exact moQ (by unfold qRivals; rw [hi]; rfl) rfl hA0 (hD0.mono (by omega)) ⟨rd, rfl⟩
