set_option maxRecDepth 100000 in
set_option maxHeartbeats 2000000 in
theorem m_walkingAt {d h n k : Nat} {b : Nat → Nat} {I : pI} {J : pJ} {R : pR} (hh : h = 1 ∨ h = 11) (hn : I 0 1 = nI n) (h7 : n ≤ 7) (hW : ∀ k, k < 7 → b (7 + k) ≤ 2 ∧ b k ≤ 9) (hB : MB I h b) (hk : k ≤ 9) : PC SM (d) yX12_walkingAt cX12_walkingAt 5 (some .int) [.ref 0, .ref h, .int (nI k)] (I) (J) (R) (pPu (.int (nI (wat n b k))) I J R) := by
  refine PC.of [some (.ref 0), some (.ref h), some (.int (nI k)), none, none] rfl rfl (Nat.le_of_ble_eq_true rfl) ?_
  refine pw_iconst (v := nI 0) 1 rfl dX12_walkingAt_0 rfl ?_
  refine pw_istore_n 2 rfl dX12_walkingAt_1 (by decide) ?_
  refine pw_iconst (v := nI 0) 3 rfl dX12_walkingAt_2 rfl ?_
  refine pw_istore 5 rfl dX12_walkingAt_3 (by decide) ?_
  rotate_left
  refine nat_loop n (fun t => PW SM yX12_walkingAt.cls cX12_walkingAt 5 (d) 5 [some (.ref 0), some (.ref h), some (.int (nI k)), some (.int (nI (wat t b k))), some (.int (nI t))] [] (I) (J) (R) (rX cX12_walkingAt (some .int) (pPu (.int (nI (wat n b k))) I J R))) ?_ ?_
  · refine pw_iload 7 rfl dX12_walkingAt_5 rfl ?_
    refine pw_aload_n 8 rfl dX12_walkingAt_7 rfl ?_
    refine pw_getI 11 rfl dX12_walkingAt_8 fX12_95 (by first | rfl | assumption | exact rowS hh | exact mtS hm | exact ruS hr | exact mtA1 hm | exact mtA2 hm | exact mtA3 hm | exact mtA4 hm | exact mtA5 hm | exact mtA6 hm | exact mtA7 hm | exact ruA1 hr | exact ruA2 hr | exact ruA3 hr) rfl ?_
    refine pw_icmp_ge (tgt := 46) 14 rfl dX12_walkingAt_11 rfl (fun h11 => ?_) (fun h11 => absurd (by rw [hn]; (simp (disch := omega) only [nI_leI, nI_ltI, nI_eq, show (0 : Int32) = nI 0 from rfl, not_true_eq_false, not_false_eq_true] <;> omega)) h11)
    refine pw_iload_n 47 rfl dX12_walkingAt_46 rfl ?_
    refine pw_iret dX12_walkingAt_47 rfl ?_
    rotate_left
    exact ⟨rfl, rfl, rfl, rfl⟩
  · intro t ht ih
    have hb := hW t (by omega)
    have e1 : I h (7 + t) = nI (b (7 + t)) := hB _ (by omega)
    have e2 : I h t = nI (b t) := hB _ (by omega)
    by_cases c1 : b (7 + t) = 0
    · rw [wat_n (fun z => z.1 c1)] at ih
      refine pw_iload 7 rfl dX12_walkingAt_5 rfl ?_
      refine pw_aload_n 8 rfl dX12_walkingAt_7 rfl ?_
      refine pw_getI 11 rfl dX12_walkingAt_8 fX12_95 (by first | rfl | assumption | exact rowS hh | exact mtS hm | exact ruS hr | exact mtA1 hm | exact mtA2 hm | exact mtA3 hm | exact mtA4 hm | exact mtA5 hm | exact mtA6 hm | exact mtA7 hm | exact ruA1 hr | exact ruA2 hr | exact ruA3 hr) rfl ?_
      refine pw_icmp_ge (tgt := 46) 14 rfl dX12_walkingAt_11 rfl (fun h11 => absurd h11 (by rw [hn]; (simp (disch := omega) only [nI_leI, nI_ltI, nI_eq, show (0 : Int32) = nI 0 from rfl, not_true_eq_false, not_false_eq_true] <;> omega))) (fun h11 => ?_)
      refine pw_iload_n 15 rfl dX12_walkingAt_14 rfl ?_
      refine pw_aload_n 16 rfl dX12_walkingAt_15 rfl ?_
      refine pw_bipush (v := nI 7) 18 rfl dX12_walkingAt_16 rfl ?_
      refine pw_iload 20 rfl dX12_walkingAt_18 rfl ?_
      first | refine pw_iaddN 21 rfl dX12_walkingAt_20 ?_ | refine pw_iadd 21 rfl dX12_walkingAt_20 ?_
      refine pw_ialdN 22 rfl dX12_walkingAt_21 (by first | rfl | assumption | exact rowS hh | exact mtS hm | exact ruS hr | exact mtA1 hm | exact mtA2 hm | exact mtA3 hm | exact mtA4 hm | exact mtA5 hm | exact mtA6 hm | exact mtA7 hm | exact ruA1 hr | exact ruA2 hr | exact ruA3 hr) (by omega) (by first | decide | omega) ?_
      refine pw_if_eq (tgt := 37) 25 rfl dX12_walkingAt_22 rfl (fun h22 => ?_) (fun h22 => absurd (by rw [e1, c1]; rfl) h22)
      refine pw_iconst (v := nI 0) 38 rfl dX12_walkingAt_37 rfl ?_
      first | refine pw_iaddN 39 rfl dX12_walkingAt_38 ?_ | refine pw_iadd 39 rfl dX12_walkingAt_38 ?_
      refine pw_istore_n 40 rfl dX12_walkingAt_39 (by decide) ?_
      refine pw_iincN 43 rfl dX12_walkingAt_40 (by decide) rfl ?_
      refine pw_goto (tgt := 5) dX12_walkingAt_43 rfl ?_
      rotate_left
      exact ih
    · by_cases c2 : b t = k
      · rw [wat_y ⟨c1, c2⟩] at ih
        refine pw_iload 7 rfl dX12_walkingAt_5 rfl ?_
        refine pw_aload_n 8 rfl dX12_walkingAt_7 rfl ?_
        refine pw_getI 11 rfl dX12_walkingAt_8 fX12_95 (by first | rfl | assumption | exact rowS hh | exact mtS hm | exact ruS hr | exact mtA1 hm | exact mtA2 hm | exact mtA3 hm | exact mtA4 hm | exact mtA5 hm | exact mtA6 hm | exact mtA7 hm | exact ruA1 hr | exact ruA2 hr | exact ruA3 hr) rfl ?_
        refine pw_icmp_ge (tgt := 46) 14 rfl dX12_walkingAt_11 rfl (fun h11 => absurd h11 (by rw [hn]; (simp (disch := omega) only [nI_leI, nI_ltI, nI_eq, show (0 : Int32) = nI 0 from rfl, not_true_eq_false, not_false_eq_true] <;> omega))) (fun h11 => ?_)
        refine pw_iload_n 15 rfl dX12_walkingAt_14 rfl ?_
        refine pw_aload_n 16 rfl dX12_walkingAt_15 rfl ?_
        refine pw_bipush (v := nI 7) 18 rfl dX12_walkingAt_16 rfl ?_
        refine pw_iload 20 rfl dX12_walkingAt_18 rfl ?_
        first | refine pw_iaddN 21 rfl dX12_walkingAt_20 ?_ | refine pw_iadd 21 rfl dX12_walkingAt_20 ?_
        refine pw_ialdN 22 rfl dX12_walkingAt_21 (by first | rfl | assumption | exact rowS hh | exact mtS hm | exact ruS hr | exact mtA1 hm | exact mtA2 hm | exact mtA3 hm | exact mtA4 hm | exact mtA5 hm | exact mtA6 hm | exact mtA7 hm | exact ruA1 hr | exact ruA2 hr | exact ruA3 hr) (by omega) (by first | decide | omega) ?_
        refine pw_if_eq (tgt := 37) 25 rfl dX12_walkingAt_22 rfl (fun h22 => absurd h22 (by rw [e1]; exact nI_ne0 (by omega) (by omega))) (fun h22 => ?_)
        refine pw_aload_n 26 rfl dX12_walkingAt_25 rfl ?_
        refine pw_iload 28 rfl dX12_walkingAt_26 rfl ?_
        refine pw_ialdN 29 rfl dX12_walkingAt_28 (by first | rfl | assumption | exact rowS hh | exact mtS hm | exact ruS hr | exact mtA1 hm | exact mtA2 hm | exact mtA3 hm | exact mtA4 hm | exact mtA5 hm | exact mtA6 hm | exact mtA7 hm | exact ruA1 hr | exact ruA2 hr | exact ruA3 hr) (by omega) (by first | decide | omega) ?_
        refine pw_iload_n 30 rfl dX12_walkingAt_29 rfl ?_
        refine pw_icmp_ne (tgt := 37) 33 rfl dX12_walkingAt_30 rfl (fun h30 => absurd (by rw [e2, c2]) h30) (fun h30 => ?_)
        refine pw_iconst (v := nI 1) 34 rfl dX12_walkingAt_33 rfl ?_
        refine pw_goto (tgt := 38) dX12_walkingAt_34 rfl ?_
        first | refine pw_iaddN 39 rfl dX12_walkingAt_38 ?_ | refine pw_iadd 39 rfl dX12_walkingAt_38 ?_
        refine pw_istore_n 40 rfl dX12_walkingAt_39 (by decide) ?_
        refine pw_iincN 43 rfl dX12_walkingAt_40 (by decide) rfl ?_
        refine pw_goto (tgt := 5) dX12_walkingAt_43 rfl ?_
        rotate_left
        exact ih
      · rw [wat_n (fun z => c2 z.2)] at ih
        refine pw_iload 7 rfl dX12_walkingAt_5 rfl ?_
        refine pw_aload_n 8 rfl dX12_walkingAt_7 rfl ?_
        refine pw_getI 11 rfl dX12_walkingAt_8 fX12_95 (by first | rfl | assumption | exact rowS hh | exact mtS hm | exact ruS hr | exact mtA1 hm | exact mtA2 hm | exact mtA3 hm | exact mtA4 hm | exact mtA5 hm | exact mtA6 hm | exact mtA7 hm | exact ruA1 hr | exact ruA2 hr | exact ruA3 hr) rfl ?_
        refine pw_icmp_ge (tgt := 46) 14 rfl dX12_walkingAt_11 rfl (fun h11 => absurd h11 (by rw [hn]; (simp (disch := omega) only [nI_leI, nI_ltI, nI_eq, show (0 : Int32) = nI 0 from rfl, not_true_eq_false, not_false_eq_true] <;> omega))) (fun h11 => ?_)
        refine pw_iload_n 15 rfl dX12_walkingAt_14 rfl ?_
        refine pw_aload_n 16 rfl dX12_walkingAt_15 rfl ?_
        refine pw_bipush (v := nI 7) 18 rfl dX12_walkingAt_16 rfl ?_
        refine pw_iload 20 rfl dX12_walkingAt_18 rfl ?_
        first | refine pw_iaddN 21 rfl dX12_walkingAt_20 ?_ | refine pw_iadd 21 rfl dX12_walkingAt_20 ?_
        refine pw_ialdN 22 rfl dX12_walkingAt_21 (by first | rfl | assumption | exact rowS hh | exact mtS hm | exact ruS hr | exact mtA1 hm | exact mtA2 hm | exact mtA3 hm | exact mtA4 hm | exact mtA5 hm | exact mtA6 hm | exact mtA7 hm | exact ruA1 hr | exact ruA2 hr | exact ruA3 hr) (by omega) (by first | decide | omega) ?_
        refine pw_if_eq (tgt := 37) 25 rfl dX12_walkingAt_22 rfl (fun h22 => absurd h22 (by rw [e1]; exact nI_ne0 (by omega) (by omega))) (fun h22 => ?_)
        refine pw_aload_n 26 rfl dX12_walkingAt_25 rfl ?_
        refine pw_iload 28 rfl dX12_walkingAt_26 rfl ?_
        refine pw_ialdN 29 rfl dX12_walkingAt_28 (by first | rfl | assumption | exact rowS hh | exact mtS hm | exact ruS hr | exact mtA1 hm | exact mtA2 hm | exact mtA3 hm | exact mtA4 hm | exact mtA5 hm | exact mtA6 hm | exact mtA7 hm | exact ruA1 hr | exact ruA2 hr | exact ruA3 hr) (by omega) (by first | decide | omega) ?_
        refine pw_iload_n 30 rfl dX12_walkingAt_29 rfl ?_
        refine pw_icmp_ne (tgt := 37) 33 rfl dX12_walkingAt_30 rfl (fun h30 => ?_) (fun h30 => absurd h30 (by rw [e2, nI_eq (by omega) (by omega)]; exact c2))
        refine pw_iconst (v := nI 0) 38 rfl dX12_walkingAt_37 rfl ?_
        first | refine pw_iaddN 39 rfl dX12_walkingAt_38 ?_ | refine pw_iadd 39 rfl dX12_walkingAt_38 ?_
        refine pw_istore_n 40 rfl dX12_walkingAt_39 (by decide) ?_
        refine pw_iincN 43 rfl dX12_walkingAt_40 (by decide) rfl ?_
        refine pw_goto (tgt := 5) dX12_walkingAt_43 rfl ?_
        rotate_left
        exact ih
theorem WF_wh {n : Nat} {pc b : Nat → Nat} (h : WF n pc b) : ∀ k, k < 7 → b (7 + k) ≤ 2 ∧ b k ≤ 9 := fun k hk => by
  have := h.2.2.2.2 k hk
  have := h.2.1
  omega
theorem mxA_b {c : Nat → Nat} (k : Nat) : (mxA c k).2 ≤ k := by
  rcases Nat.eq_zero_or_pos k with rfl | h
  · exact Nat.le_refl _
  · exact Nat.le_of_lt (mxA_lt k h)
set_option maxRecDepth 100000 in
set_option maxHeartbeats 2000000 in
theorem mo_crowd {d g : Nat} {s : aSt} {rd : Option Nat} {I : pI} {J : pJ} (hA : MA I J s) (hD : MDg g I) (hg : g ≤ 500000000) (hW : WA s) (v : Int32) : PC SM (d + 245) yX12_crowd cX12_crowd 7 (some .int) [.ref 0, .int v] (I) (J) (RM rd (some 6)) (moP (g + 10000) (qOp (qCrowd v) s)) := by
  refine PC.of [some (.ref 0), some (.int v), none, none, none, none, none] rfl rfl (Nat.le_of_ble_eq_true rfl) ?_
  obtain ⟨n, pc, b, us, kp, rw, tx, rt, hd, sw⟩ := s
  refine pw_aload_n 1 rfl dX12_crowd_0 rfl ?_
  refine pw_iconst (v := nI 0) 2 rfl dX12_crowd_1 rfl ?_
  refine pw_putI 5 rfl dX12_crowd_2 fX12_88 w12_7 (by first | rfl | assumption | exact rowS hh | exact mtS hm | exact ruS hr | exact mtA1 hm | exact mtA2 hm | exact mtA3 hm | exact mtA4 hm | exact mtA5 hm | exact mtA6 hm | exact mtA7 hm | exact ruA1 hr | exact ruA2 hr | exact ruA3 hr) rfl rfl rfl ?_
  rotate_left
  have hA0 := MA_thr (v := nI 0) hA
  have hD0 : MDg g (uI I 0 7 (nI 0)) := MDg_f hD (uI_ne (by omega)) (fun j => uI_ne (by omega))
  clear hA hD
  generalize uI I 0 7 (nI 0) = I at hA0 hD0 ⊢
  obtain ⟨mC, mB, mT, mN, mR, mU, mK, mH, mG⟩ := id hA0
  obtain ⟨aW, aU, aK⟩ := id hW
  have hE := MSt_A hA0
  have hn7 := mC.1
  have hn := mC.2.1
  rcases inOf_cases (lo := 0) (hi := 99) (by decide) v (by decide) with ⟨N, h1, h2, rfl, hi⟩ | ⟨hi, ho⟩
  · generalize hcd : crd n pc (ruE rt) b = c
    have eq : qCrowd (nI N) n pc b (ruE rt) rw hd sw = (nI (mxA c (10 * (N + 1))).1, crw c (10 * (N + 1))) := by unfold qCrowd; rw [hi, ← hcd]; rfl
    have hc9 : ∀ j, c j ≤ 7 := fun j => by rw [← hcd]; exact Nat.le_trans (crd_le n pc (ruE rt) b j) hn7
    have hcj : ∀ k h, h ≤ 9 → c (10 * k + h) = wat n (hrs n pc (ruE rt) k b) h := fun k h hh => by
      rw [← hcd, crd, show (10 * k + h) / 10 = k by omega, show (10 * k + h) % 10 = h by omega]
    have hm7 := mxA_le hc9
    refine pw_iload_n 6 rfl dX12_crowd_5 rfl ?_
    refine pw_iconst (v := nI 0) 7 rfl dX12_crowd_6 rfl ?_
    refine pw_bipush (v := nI 99) 9 rfl dX12_crowd_7 rfl ?_
    refine pw_callSP (as := [_, _, _]) 12 rfl dX12_crowd_9 mX12_98 sX12_in (m_in (d := d) _ _ _) ⟨rfl, by decide, by decide, show (parseMethodDescriptor yX12_in.desc).map (fun d => d.parameters.length) = some 3 by decide +kernel⟩ (by omega) (by decide) (Nat.le_of_ble_eq_true rfl) rfl ?_
    refine pw_if_ne (tgt := 17) 15 rfl dX12_crowd_12 rfl (fun h12 => ?_) (fun h12 => absurd h12 (by rw [inV_y h1 h2 (by decide)]; decide))
    refine pw_iconst (v := nI 0) 18 rfl dX12_crowd_17 rfl ?_
    refine pw_istore_n 19 rfl dX12_crowd_18 (by decide) ?_
    refine pw_iconst (v := nI 0) 20 rfl dX12_crowd_19 rfl ?_
    refine pw_istore_n 21 rfl dX12_crowd_20 (by decide) ?_
    refine pw_iconst (v := nI 0) 22 rfl dX12_crowd_21 rfl ?_
    refine pw_istore 24 rfl dX12_crowd_22 (by decide) ?_
    refine pw_aload_n 25 rfl dX12_crowd_24 rfl ?_
    refine pw_getR 28 rfl dX12_crowd_25 fX12_9 (by first | rfl | assumption | exact rowS hh | exact mtS hm | exact ruS hr | exact mtA1 hm | exact mtA2 hm | exact mtA3 hm | exact mtA4 hm | exact mtA5 hm | exact mtA6 hm | exact mtA7 hm | exact ruA1 hr | exact ruA2 hr | exact ruA3 hr) rfl (by first | rfl | assumption | exact mtR0 hm | exact mtR1 hm | exact mtR2 hm | exact mtR3 hm | exact mtR4 hm | exact mtR5 hm | exact mtR6 hm | exact ruR0 hr | exact ruR1 hr | exact ruR3 hr) ?_
    refine pw_aload_n 29 rfl dX12_crowd_28 rfl ?_
    refine pw_getR 32 rfl dX12_crowd_29 fX12_42 (by first | rfl | assumption | exact rowS hh | exact mtS hm | exact ruS hr | exact mtA1 hm | exact mtA2 hm | exact mtA3 hm | exact mtA4 hm | exact mtA5 hm | exact mtA6 hm | exact mtA7 hm | exact ruA1 hr | exact ruA2 hr | exact ruA3 hr) rfl (by first | rfl | assumption | exact mtR0 hm | exact mtR1 hm | exact mtR2 hm | exact mtR3 hm | exact mtR4 hm | exact mtR5 hm | exact mtR6 hm | exact ruR0 hr | exact ruR1 hr | exact ruR3 hr) ?_
    refine pw_iconst (v := nI 0) 33 rfl dX12_crowd_32 rfl ?_
    refine pw_callS (as := [_, _, _]) 36 rfl dX12_crowd_33 mX12_219 sX12_lay (m_layT (d := d + 244) mB) ⟨rfl, by decide, by decide, show (parseMethodDescriptor yX12_lay.desc).map (fun d => d.parameters.length) = some 3 by decide +kernel⟩ (by omega) (by decide) (Nat.le_of_ble_eq_true rfl) rfl (fun r33 I33 J33 R33 c33 => ?_)
    obtain ⟨rfl, k1, k2, rfl, rfl⟩ := c33
    rotate_left
    refine pw_iconst (v := nI 0) 37 rfl dX12_crowd_36 rfl ?_
    refine pw_istore 39 rfl dX12_crowd_37 (by decide) ?_
    rotate_left
    have L := nat_loop (N + 1) (fun t => ∀ (I' : pI) (rd' : Option Nat) (x : Option Value), MB I' 11 (hrs n pc (ruE rt) t b) → mFr 11 I I' → MDg (g + 7 * t) I' → PW SM yX12_crowd.cls cX12_crowd 7 (d + 245) 39 [some (.ref 0), some (.int (nI N)), some (.int (nI (mxA c (10 * t)).1)), some (.int (nI ((mxA c (10 * t)).2 % 10))), some (.int (nI ((mxA c (10 * t)).2 / 10))), some (.int (nI t)), x] [] I' J (RM rd' (some 6)) (rX cX12_crowd (some .int) (moP (g + 10000) (qOp (qCrowd (nI N)) (n, pc, b, us, kp, rw, tx, rt, hd, sw))))) ?_ ?_
    · have z := L _ rd none k1 (mFr_lay k2) (MDg_f hD0 (k2 _ _ (by decide)) (fun j => k2 _ _ (by decide)))
      rw [show 10 * 0 = 0 from rfl, show mxA c 0 = (0, 0) from rfl] at z
      exact z
    · intro I' rd' x m1 m2 m3
      have hb := mxA_b (c := c) (10 * (N + 1))
      have h7 := hm7 (10 * (N + 1))
      rw [crw] at eq
      generalize mxA c (10 * (N + 1)) = z at eq hb h7 ⊢
      refine pw_iload 41 rfl dX12_crowd_39 rfl ?_
      refine pw_iload_n 42 rfl dX12_crowd_41 rfl ?_
      refine pw_icmp_gt (tgt := 110) 45 rfl dX12_crowd_42 rfl (fun h42 => ?_) (fun h42 => absurd (by (simp (disch := omega) only [nI_leI, nI_ltI, nI_eq, show (0 : Int32) = nI 0 from rfl, not_true_eq_false, not_false_eq_true] <;> omega)) h42)
      refine pw_aload_n 111 rfl dX12_crowd_110 rfl ?_
      refine pw_iconst (v := nI 0) 112 rfl dX12_crowd_111 rfl ?_
      refine pw_putI 115 rfl dX12_crowd_112 fX12_92 w12_6 (by first | rfl | assumption | exact rowS hh | exact mtS hm | exact ruS hr | exact mtA1 hm | exact mtA2 hm | exact mtA3 hm | exact mtA4 hm | exact mtA5 hm | exact mtA6 hm | exact mtA7 hm | exact ruA1 hr | exact ruA2 hr | exact ruA3 hr) rfl rfl rfl ?_
      rotate_left
      by_cases h0 : z.1 = 0
      · rw [if_pos h0] at eq
        refine pw_iload_n 116 rfl dX12_crowd_115 rfl ?_
        refine pw_if_le (tgt := 132) 119 rfl dX12_crowd_116 rfl (fun h116 => ?_) (fun h116 => absurd (by rw [h0]; decide) h116)
        refine pw_iload_n 133 rfl dX12_crowd_132 rfl ?_
        refine pw_iret dX12_crowd_133 rfl ?_
        rotate_left
        exact moQ eq rfl (MA_rw hA0 (fun a j q => by rw [uI_ne (by omega)]; exact fMs_mFr m2 a j q) MN_0) ((MDg_f m3 (uI_ne (by omega)) (fun j => uI_ne (by omega))).mono (by omega)) ⟨rd', rfl⟩
      · rw [if_neg h0] at eq
        refine pw_iload_n 116 rfl dX12_crowd_115 rfl ?_
        refine pw_if_le (tgt := 132) 119 rfl dX12_crowd_116 rfl (fun h116 => absurd h116 (nI_nle (by omega) (by omega))) (fun h116 => ?_)
        refine pw_aload_n 120 rfl dX12_crowd_119 rfl ?_
        refine pw_iload_n 121 rfl dX12_crowd_120 rfl ?_
        refine pw_i2l 122 rfl dX12_crowd_121 ?_
        refine pw_callV (as := [_]) 125 rfl dX12_crowd_122 mX12_236 vX12_tell (m_tell (d := d + 244) MN_0 (by decide)) (by first | rfl | assumption | exact rowS hh | exact mtS hm | exact ruS hr | exact mtA1 hm | exact mtA2 hm | exact mtA3 hm | exact mtA4 hm | exact mtA5 hm | exact mtA6 hm | exact mtA7 hm | exact ruA1 hr | exact ruA2 hr | exact ruA3 hr) rfl (by decide) ⟨rfl, by decide, by decide, show (parseMethodDescriptor yX12_tell.desc).map (fun d => d.parameters.length) = some 1 by decide +kernel⟩ (by omega) (by decide) (Nat.le_of_ble_eq_true rfl) rfl (fun r122 I122 J122 R122 c122 => ?_)
        obtain ⟨rfl, t1, t2, rfl⟩ := c122
        rotate_left
        refine pw_aload_n 126 rfl dX12_crowd_125 rfl ?_
        refine pw_iload 128 rfl dX12_crowd_126 rfl ?_
        refine pw_i2l 129 rfl dX12_crowd_128 ?_
        refine pw_callV (as := [_]) 132 rfl dX12_crowd_129 mX12_236 vX12_tell (m_tell (d := d + 244) t1 (by show (1 : Nat) < 12; decide)) (by first | rfl | assumption | exact rowS hh | exact mtS hm | exact ruS hr | exact mtA1 hm | exact mtA2 hm | exact mtA3 hm | exact mtA4 hm | exact mtA5 hm | exact mtA6 hm | exact mtA7 hm | exact ruA1 hr | exact ruA2 hr | exact ruA3 hr) rfl (by decide) ⟨rfl, by decide, by decide, show (parseMethodDescriptor yX12_tell.desc).map (fun d => d.parameters.length) = some 1 by decide +kernel⟩ (by omega) (by decide) (Nat.le_of_ble_eq_true rfl) rfl (fun r129 I129 J129 R129 c129 => ?_)
        obtain ⟨rfl, u1, u2, rfl⟩ := c129
        rotate_left
        have hf2 : ∀ a j, ¬ (a = 0 ∧ j = 6) → I129 a j = I' a j := fun a j q => by rw [u2 a j q, t2 a j q, uI_ne (by omega)]
        refine pw_iload_n 133 rfl dX12_crowd_132 rfl ?_
        refine pw_iret dX12_crowd_133 rfl ?_
        rotate_left
        exact moQ eq rfl (MA_rw hA0 (fun a j q => by rw [hf2 a j (by omega)]; exact fMs_mFr m2 a j q) u1) ((MDg_f m3 (hf2 _ _ (by omega)) (fun j => hf2 _ _ (by omega))).mono (by omega)) ⟨rd', rfl⟩
    · intro t ht ih I' rd' x m1 m2 m3
      have hWt := WF_hrs (ruE rt) aW.1 t
      have hn' : I' 0 1 = nI n := by rw [m2 _ _ (by omega) (by omega) (by omega) (by omega) (by omega)]; exact hn
      refine pw_iload 41 rfl dX12_crowd_39 rfl ?_
      refine pw_iload_n 42 rfl dX12_crowd_41 rfl ?_
      refine pw_icmp_gt (tgt := 110) 45 rfl dX12_crowd_42 rfl (fun h42 => absurd h42 (by (simp (disch := omega) only [nI_leI, nI_ltI, nI_eq, show (0 : Int32) = nI 0 from rfl, not_true_eq_false, not_false_eq_true] <;> omega))) (fun h42 => ?_)
      refine pw_iconst (v := nI 0) 46 rfl dX12_crowd_45 rfl ?_
      refine pw_istore 48 rfl dX12_crowd_46 (by decide) ?_
      rotate_left
      have L2 := nat_loop 10 (fun h => PW SM yX12_crowd.cls cX12_crowd 7 (d + 245) 48 [some (.ref 0), some (.int (nI N)), some (.int (nI (mxA c (10 * t + h)).1)), some (.int (nI ((mxA c (10 * t + h)).2 % 10))), some (.int (nI ((mxA c (10 * t + h)).2 / 10))), some (.int (nI t)), some (.int (nI h))] [] I' J (RM rd' (some 6)) (rX cX12_crowd (some .int) (moP (g + 10000) (qOp (qCrowd (nI N)) (n, pc, b, us, kp, rw, tx, rt, hd, sw))))) ?_ ?_
      · exact L2
      · refine pw_iload 50 rfl dX12_crowd_48 rfl ?_
        refine pw_bipush (v := nI 9) 52 rfl dX12_crowd_50 rfl ?_
        refine pw_icmp_gt (tgt := 96) 55 rfl dX12_crowd_52 rfl (fun h52 => ?_) (fun h52 => absurd (by (simp (disch := omega) only [nI_leI, nI_ltI, nI_eq, show (0 : Int32) = nI 0 from rfl, not_true_eq_false, not_false_eq_true] <;> omega)) h52)
        refine pw_aload_n 97 rfl dX12_crowd_96 rfl ?_
        refine pw_aload_n 98 rfl dX12_crowd_97 rfl ?_
        refine pw_getR 101 rfl dX12_crowd_98 fX12_42 (by first | rfl | assumption | exact rowS hh | exact mtS hm | exact ruS hr | exact mtA1 hm | exact mtA2 hm | exact mtA3 hm | exact mtA4 hm | exact mtA5 hm | exact mtA6 hm | exact mtA7 hm | exact ruA1 hr | exact ruA2 hr | exact ruA3 hr) rfl (by first | rfl | assumption | exact mtR0 hm | exact mtR1 hm | exact mtR2 hm | exact mtR3 hm | exact mtR4 hm | exact mtR5 hm | exact mtR6 hm | exact ruR0 hr | exact ruR1 hr | exact ruR3 hr) ?_
        refine pw_callV (as := [_]) 104 rfl dX12_crowd_101 mX12_230 vX12_goHour (m_hour (d := d + 7) (mC.fr m2 (Or.inr rfl)) m1 hWt (MSt_mFr hE m2) m3 (by omega)) (by first | rfl | assumption | exact rowS hh | exact mtS hm | exact ruS hr | exact mtA1 hm | exact mtA2 hm | exact mtA3 hm | exact mtA4 hm | exact mtA5 hm | exact mtA6 hm | exact mtA7 hm | exact ruA1 hr | exact ruA2 hr | exact ruA3 hr) rfl (by decide) ⟨rfl, by decide, by decide, show (parseMethodDescriptor yX12_goHour.desc).map (fun d => d.parameters.length) = some 1 by decide +kernel⟩ (by omega) (by decide) (Nat.le_of_ble_eq_true rfl) rfl (fun r101 I101 J101 R101 c101 => ?_)
        obtain ⟨rfl, p1, p2, p3, rfl, rd2, rfl⟩ := c101
        rotate_left
        refine pw_iincN 107 rfl dX12_crowd_104 (by decide) rfl ?_
        refine pw_goto (tgt := 39) dX12_crowd_107 rfl ?_
        rotate_left
        have := ih I101 rd2 (some (.int (nI 10))) p1 (m2.trans p2) (p3.mono (by omega))
        rw [show 10 * (t + 1) = 10 * t + 10 by omega] at this
        exact this
      · intro h hh ih2
        have ej := hcj t h (by omega)
        have h7a := hm7 (10 * t + h)
        have h7b := hc9 (10 * t + h)
        have e : mxA c (10 * t + (h + 1)) = if (mxA c (10 * t + h)).1 < c (10 * t + h) then (c (10 * t + h), 10 * t + h) else mxA c (10 * t + h) := rfl
        rw [e] at ih2
        by_cases hc : (mxA c (10 * t + h)).1 < c (10 * t + h)
        · rw [if_pos hc] at ih2
          simp only at ih2
          rw [show (10 * t + h) % 10 = h by omega, show (10 * t + h) / 10 = t by omega, ej] at ih2
          rw [ej] at hc h7b
          refine pw_iload 50 rfl dX12_crowd_48 rfl ?_
          refine pw_bipush (v := nI 9) 52 rfl dX12_crowd_50 rfl ?_
          refine pw_icmp_gt (tgt := 96) 55 rfl dX12_crowd_52 rfl (fun h52 => absurd h52 (by (simp (disch := omega) only [nI_leI, nI_ltI, nI_eq, show (0 : Int32) = nI 0 from rfl, not_true_eq_false, not_false_eq_true] <;> omega))) (fun h52 => ?_)
          refine pw_aload_n 56 rfl dX12_crowd_55 rfl ?_
          refine pw_aload_n 57 rfl dX12_crowd_56 rfl ?_
          refine pw_getR 60 rfl dX12_crowd_57 fX12_42 (by first | rfl | assumption | exact rowS hh | exact mtS hm | exact ruS hr | exact mtA1 hm | exact mtA2 hm | exact mtA3 hm | exact mtA4 hm | exact mtA5 hm | exact mtA6 hm | exact mtA7 hm | exact ruA1 hr | exact ruA2 hr | exact ruA3 hr) rfl (by first | rfl | assumption | exact mtR0 hm | exact mtR1 hm | exact mtR2 hm | exact mtR3 hm | exact mtR4 hm | exact mtR5 hm | exact mtR6 hm | exact ruR0 hr | exact ruR1 hr | exact ruR3 hr) ?_
          refine pw_iload 62 rfl dX12_crowd_60 rfl ?_
          refine pw_callVP (as := [_, _]) 65 rfl dX12_crowd_62 mX12_279 vX12_walkingAt (m_walkingAt (d := d + 244) (Or.inr rfl) hn' hn7 (WF_wh hWt) m1 (show h ≤ 9 by omega)) (by first | rfl | assumption | exact rowS hh | exact mtS hm | exact ruS hr | exact mtA1 hm | exact mtA2 hm | exact mtA3 hm | exact mtA4 hm | exact mtA5 hm | exact mtA6 hm | exact mtA7 hm | exact ruA1 hr | exact ruA2 hr | exact ruA3 hr) rfl (by decide) ⟨rfl, by decide, by decide, show (parseMethodDescriptor yX12_walkingAt.desc).map (fun d => d.parameters.length) = some 2 by decide +kernel⟩ (by omega) (by decide) (Nat.le_of_ble_eq_true rfl) rfl ?_
          refine pw_iload_n 66 rfl dX12_crowd_65 rfl ?_
          refine pw_icmp_gt (tgt := 72) 69 rfl dX12_crowd_66 rfl (fun h66 => ?_) (fun h66 => absurd (by (simp (disch := omega) only [nI_leI, nI_ltI, nI_eq, show (0 : Int32) = nI 0 from rfl, not_true_eq_false, not_false_eq_true] <;> omega)) h66)
          refine pw_aload_n 73 rfl dX12_crowd_72 rfl ?_
          refine pw_aload_n 74 rfl dX12_crowd_73 rfl ?_
          refine pw_getR 77 rfl dX12_crowd_74 fX12_42 (by first | rfl | assumption | exact rowS hh | exact mtS hm | exact ruS hr | exact mtA1 hm | exact mtA2 hm | exact mtA3 hm | exact mtA4 hm | exact mtA5 hm | exact mtA6 hm | exact mtA7 hm | exact ruA1 hr | exact ruA2 hr | exact ruA3 hr) rfl (by first | rfl | assumption | exact mtR0 hm | exact mtR1 hm | exact mtR2 hm | exact mtR3 hm | exact mtR4 hm | exact mtR5 hm | exact mtR6 hm | exact ruR0 hr | exact ruR1 hr | exact ruR3 hr) ?_
          refine pw_iload 79 rfl dX12_crowd_77 rfl ?_
          refine pw_callVP (as := [_, _]) 82 rfl dX12_crowd_79 mX12_279 vX12_walkingAt (m_walkingAt (d := d + 244) (Or.inr rfl) hn' hn7 (WF_wh hWt) m1 (show h ≤ 9 by omega)) (by first | rfl | assumption | exact rowS hh | exact mtS hm | exact ruS hr | exact mtA1 hm | exact mtA2 hm | exact mtA3 hm | exact mtA4 hm | exact mtA5 hm | exact mtA6 hm | exact mtA7 hm | exact ruA1 hr | exact ruA2 hr | exact ruA3 hr) rfl (by decide) ⟨rfl, by decide, by decide, show (parseMethodDescriptor yX12_walkingAt.desc).map (fun d => d.parameters.length) = some 2 by decide +kernel⟩ (by omega) (by decide) (Nat.le_of_ble_eq_true rfl) rfl ?_
          refine pw_istore_n 83 rfl dX12_crowd_82 (by decide) ?_
          refine pw_iload 85 rfl dX12_crowd_83 rfl ?_
          refine pw_istore_n 86 rfl dX12_crowd_85 (by decide) ?_
          refine pw_iload 88 rfl dX12_crowd_86 rfl ?_
          refine pw_istore 90 rfl dX12_crowd_88 (by decide) ?_
          refine pw_iincN 93 rfl dX12_crowd_90 (by decide) rfl ?_
          refine pw_goto (tgt := 48) dX12_crowd_93 rfl ?_
          rotate_left
          exact ih2
        · rw [if_neg hc] at ih2
          rw [ej] at hc h7b
          refine pw_iload 50 rfl dX12_crowd_48 rfl ?_
          refine pw_bipush (v := nI 9) 52 rfl dX12_crowd_50 rfl ?_
          refine pw_icmp_gt (tgt := 96) 55 rfl dX12_crowd_52 rfl (fun h52 => absurd h52 (by (simp (disch := omega) only [nI_leI, nI_ltI, nI_eq, show (0 : Int32) = nI 0 from rfl, not_true_eq_false, not_false_eq_true] <;> omega))) (fun h52 => ?_)
          refine pw_aload_n 56 rfl dX12_crowd_55 rfl ?_
          refine pw_aload_n 57 rfl dX12_crowd_56 rfl ?_
          refine pw_getR 60 rfl dX12_crowd_57 fX12_42 (by first | rfl | assumption | exact rowS hh | exact mtS hm | exact ruS hr | exact mtA1 hm | exact mtA2 hm | exact mtA3 hm | exact mtA4 hm | exact mtA5 hm | exact mtA6 hm | exact mtA7 hm | exact ruA1 hr | exact ruA2 hr | exact ruA3 hr) rfl (by first | rfl | assumption | exact mtR0 hm | exact mtR1 hm | exact mtR2 hm | exact mtR3 hm | exact mtR4 hm | exact mtR5 hm | exact mtR6 hm | exact ruR0 hr | exact ruR1 hr | exact ruR3 hr) ?_
          refine pw_iload 62 rfl dX12_crowd_60 rfl ?_
          refine pw_callVP (as := [_, _]) 65 rfl dX12_crowd_62 mX12_279 vX12_walkingAt (m_walkingAt (d := d + 244) (Or.inr rfl) hn' hn7 (WF_wh hWt) m1 (show h ≤ 9 by omega)) (by first | rfl | assumption | exact rowS hh | exact mtS hm | exact ruS hr | exact mtA1 hm | exact mtA2 hm | exact mtA3 hm | exact mtA4 hm | exact mtA5 hm | exact mtA6 hm | exact mtA7 hm | exact ruA1 hr | exact ruA2 hr | exact ruA3 hr) rfl (by decide) ⟨rfl, by decide, by decide, show (parseMethodDescriptor yX12_walkingAt.desc).map (fun d => d.parameters.length) = some 2 by decide +kernel⟩ (by omega) (by decide) (Nat.le_of_ble_eq_true rfl) rfl ?_
          refine pw_iload_n 66 rfl dX12_crowd_65 rfl ?_
          refine pw_icmp_gt (tgt := 72) 69 rfl dX12_crowd_66 rfl (fun h66 => absurd h66 (by (simp (disch := omega) only [nI_leI, nI_ltI, nI_eq, show (0 : Int32) = nI 0 from rfl, not_true_eq_false, not_false_eq_true] <;> omega))) (fun h66 => ?_)
          refine pw_goto (tgt := 90) dX12_crowd_69 rfl ?_
          refine pw_iincN 93 rfl dX12_crowd_90 (by decide) rfl ?_
          refine pw_goto (tgt := 48) dX12_crowd_93 rfl ?_
          rotate_left
          exact ih2
  · refine pw_iload_n 6 rfl dX12_crowd_5 rfl ?_
    refine pw_iconst (v := nI 0) 7 rfl dX12_crowd_6 rfl ?_
    refine pw_bipush (v := nI 99) 9 rfl dX12_crowd_7 rfl ?_
    refine pw_callSP (as := [_, _, _]) 12 rfl dX12_crowd_9 mX12_98 sX12_in (m_in (d := d) _ _ _) ⟨rfl, by decide, by decide, show (parseMethodDescriptor yX12_in.desc).map (fun d => d.parameters.length) = some 3 by decide +kernel⟩ (by omega) (by decide) (Nat.le_of_ble_eq_true rfl) rfl ?_
    refine pw_if_ne (tgt := 17) 15 rfl dX12_crowd_12 rfl (fun h12 => absurd (by rw [inV_n ho]; rfl) h12) (fun h12 => ?_)
    refine pw_iconst (v := -1) 16 rfl dX12_crowd_15 rfl ?_
    refine pw_iret dX12_crowd_16 rfl ?_
    rotate_left
    exact moQ (by unfold qCrowd; rw [hi]; rfl) rfl hA0 (hD0.mono (by omega)) ⟨rd, rfl⟩
theorem chL_o {o : Nat → Nat} (h : ∀ k, o k ≤ 7) : ∀ k, (chL o k).2 ≤ 7
  | 0 => Nat.le_refl _
  | k + 1 => by rw [chL]; split; exact h _; exact chL_o h k
set_option maxRecDepth 100000 in
set_option maxHeartbeats 2000000 in
theorem mo_changes {d g : Nat} {s : aSt} {rd : Option Nat} {I : pI} {J : pJ} (hA : MA I J s) (hD : MDg g I) (hg : g ≤ 500000000) (hW : WA s) (v : Int32) : PC SM (d + 245) yX12_changes cX12_changes 9 (some .int) [.ref 0, .int v] (I) (J) (RM rd (some 6)) (moP (g + 10000) (qOp (qChanges v) s)) := by
  refine PC.of [some (.ref 0), some (.int v), none, none, none, none, none, none, none] rfl rfl (Nat.le_of_ble_eq_true rfl) ?_
  obtain ⟨n, pc, b, us, kp, rw, tx, rt, hd, sw⟩ := s
  refine pw_aload_n 1 rfl dX12_changes_0 rfl ?_
  refine pw_iconst (v := nI 0) 2 rfl dX12_changes_1 rfl ?_
  refine pw_putI 5 rfl dX12_changes_2 fX12_88 w12_7 (by first | rfl | assumption | exact rowS hh | exact mtS hm | exact ruS hr | exact mtA1 hm | exact mtA2 hm | exact mtA3 hm | exact mtA4 hm | exact mtA5 hm | exact mtA6 hm | exact mtA7 hm | exact ruA1 hr | exact ruA2 hr | exact ruA3 hr) rfl rfl rfl ?_
  rotate_left
  have hA0 := MA_thr (v := nI 0) hA
  have hD0 : MDg g (uI I 0 7 (nI 0)) := MDg_f hD (uI_ne (by omega)) (fun j => uI_ne (by omega))
  clear hA hD
  generalize uI I 0 7 (nI 0) = I at hA0 hD0 ⊢
  obtain ⟨mC, mB, mT, mN, mR, mU, mK, mH, mG⟩ := id hA0
  obtain ⟨aW, aU, aK⟩ := id hW
  have hE := MSt_A hA0
  have hn7 := mC.1
  have hn := mC.2.1
  rcases inOf_cases (lo := 1) (hi := 99) (by decide) v (by decide) with ⟨N, h1, h2, rfl, hi⟩ | ⟨hi, ho⟩
  · generalize hod : (fun t => hrs n pc (ruE rt) t b 29) = o
    have hok : ∀ t, o t = hrs n pc (ruE rt) t b 29 := fun t => by rw [← hod]
    have ho7 : ∀ t, o t ≤ 7 := fun t => by
      rw [hok]
      have := (WF_hrs (ruE rt) aW.1 t).2.2.1
      omega
    have eq : qChanges (nI N) n pc b (ruE rt) rw hd sw = (nI (chO o N), [lI (chL o N).1, lI (chL o N).2]) := by unfold qChanges; rw [hi, ← hod]; rfl
    refine pw_iload_n 6 rfl dX12_changes_5 rfl ?_
    refine pw_iconst (v := nI 1) 7 rfl dX12_changes_6 rfl ?_
    refine pw_bipush (v := nI 99) 9 rfl dX12_changes_7 rfl ?_
    refine pw_callSP (as := [_, _, _]) 12 rfl dX12_changes_9 mX12_98 sX12_in (m_in (d := d) _ _ _) ⟨rfl, by decide, by decide, show (parseMethodDescriptor yX12_in.desc).map (fun d => d.parameters.length) = some 3 by decide +kernel⟩ (by omega) (by decide) (Nat.le_of_ble_eq_true rfl) rfl ?_
    refine pw_if_ne (tgt := 17) 15 rfl dX12_changes_12 rfl (fun h12 => ?_) (fun h12 => absurd h12 (by rw [inV_y h1 h2 (by decide)]; decide))
    refine pw_iconst (v := nI 0) 18 rfl dX12_changes_17 rfl ?_
    refine pw_istore_n 19 rfl dX12_changes_18 (by decide) ?_
    refine pw_iconst (v := nI 0) 20 rfl dX12_changes_19 rfl ?_
    refine pw_istore_n 21 rfl dX12_changes_20 (by decide) ?_
    refine pw_iconst (v := nI 0) 22 rfl dX12_changes_21 rfl ?_
    refine pw_istore 24 rfl dX12_changes_22 (by decide) ?_
    refine pw_bipush (v := nI 7) 26 rfl dX12_changes_24 rfl ?_
    refine pw_istore 28 rfl dX12_changes_26 (by decide) ?_
    refine pw_aload_n 29 rfl dX12_changes_28 rfl ?_
    refine pw_getR 32 rfl dX12_changes_29 fX12_9 (by first | rfl | assumption | exact rowS hh | exact mtS hm | exact ruS hr | exact mtA1 hm | exact mtA2 hm | exact mtA3 hm | exact mtA4 hm | exact mtA5 hm | exact mtA6 hm | exact mtA7 hm | exact ruA1 hr | exact ruA2 hr | exact ruA3 hr) rfl (by first | rfl | assumption | exact mtR0 hm | exact mtR1 hm | exact mtR2 hm | exact mtR3 hm | exact mtR4 hm | exact mtR5 hm | exact mtR6 hm | exact ruR0 hr | exact ruR1 hr | exact ruR3 hr) ?_
    refine pw_aload_n 33 rfl dX12_changes_32 rfl ?_
    refine pw_getR 36 rfl dX12_changes_33 fX12_42 (by first | rfl | assumption | exact rowS hh | exact mtS hm | exact ruS hr | exact mtA1 hm | exact mtA2 hm | exact mtA3 hm | exact mtA4 hm | exact mtA5 hm | exact mtA6 hm | exact mtA7 hm | exact ruA1 hr | exact ruA2 hr | exact ruA3 hr) rfl (by first | rfl | assumption | exact mtR0 hm | exact mtR1 hm | exact mtR2 hm | exact mtR3 hm | exact mtR4 hm | exact mtR5 hm | exact mtR6 hm | exact ruR0 hr | exact ruR1 hr | exact ruR3 hr) ?_
    refine pw_iconst (v := nI 0) 37 rfl dX12_changes_36 rfl ?_
    refine pw_callS (as := [_, _, _]) 40 rfl dX12_changes_37 mX12_219 sX12_lay (m_layT (d := d + 244) mB) ⟨rfl, by decide, by decide, show (parseMethodDescriptor yX12_lay.desc).map (fun d => d.parameters.length) = some 3 by decide +kernel⟩ (by omega) (by decide) (Nat.le_of_ble_eq_true rfl) rfl (fun r37 I37 J37 R37 c37 => ?_)
    obtain ⟨rfl, k1, k2, rfl, rfl⟩ := c37
    rotate_left
    refine pw_iconst (v := nI 1) 41 rfl dX12_changes_40 rfl ?_
    refine pw_istore 43 rfl dX12_changes_41 (by decide) ?_
    rotate_left
    have L := nat_loop N (fun t => ∀ (I' : pI) (rd' : Option Nat) (x y : Option Value), MB I' 11 (hrs n pc (ruE rt) t b) → mFr 11 I I' → MDg (g + 7 * t) I' → PW SM yX12_changes.cls cX12_changes 9 (d + 245) 43 [some (.ref 0), some (.int (nI N)), some (.int (nI (chO o t))), some (.int (nI (chR o t))), some (.int (nI (chL o t).1)), some (.int (nI (chL o t).2)), some (.int (nI (t + 1))), x, y] [] I' J (RM rd' (some 6)) (rX cX12_changes (some .int) (moP (g + 10000) (qOp (qChanges (nI N)) (n, pc, b, us, kp, rw, tx, rt, hd, sw))))) ?_ ?_
    · exact L _ rd none none k1 (mFr_lay k2) (MDg_f hD0 (k2 _ _ (by decide)) (fun j => k2 _ _ (by decide)))
    · intro I' rd' x y m1 m2 m3
      refine pw_iload 45 rfl dX12_changes_43 rfl ?_
      refine pw_iload_n 46 rfl dX12_changes_45 rfl ?_
      refine pw_icmp_gt (tgt := 144) 49 rfl dX12_changes_46 rfl (fun h46 => ?_) (fun h46 => absurd (by (simp (disch := omega) only [nI_leI, nI_ltI, nI_eq, show (0 : Int32) = nI 0 from rfl, not_true_eq_false, not_false_eq_true] <;> omega)) h46)
      refine pw_aload_n 145 rfl dX12_changes_144 rfl ?_
      refine pw_iconst (v := nI 0) 146 rfl dX12_changes_145 rfl ?_
      refine pw_putI 149 rfl dX12_changes_146 fX12_92 w12_6 (by first | rfl | assumption | exact rowS hh | exact mtS hm | exact ruS hr | exact mtA1 hm | exact mtA2 hm | exact mtA3 hm | exact mtA4 hm | exact mtA5 hm | exact mtA6 hm | exact mtA7 hm | exact ruA1 hr | exact ruA2 hr | exact ruA3 hr) rfl rfl rfl ?_
      refine pw_aload_n 150 rfl dX12_changes_149 rfl ?_
      refine pw_iload 152 rfl dX12_changes_150 rfl ?_
      refine pw_i2l 153 rfl dX12_changes_152 ?_
      refine pw_callV (as := [_]) 156 rfl dX12_changes_153 mX12_236 vX12_tell (m_tell (d := d + 244) MN_0 (by decide)) (by first | rfl | assumption | exact rowS hh | exact mtS hm | exact ruS hr | exact mtA1 hm | exact mtA2 hm | exact mtA3 hm | exact mtA4 hm | exact mtA5 hm | exact mtA6 hm | exact mtA7 hm | exact ruA1 hr | exact ruA2 hr | exact ruA3 hr) rfl (by decide) ⟨rfl, by decide, by decide, show (parseMethodDescriptor yX12_tell.desc).map (fun d => d.parameters.length) = some 1 by decide +kernel⟩ (by omega) (by decide) (Nat.le_of_ble_eq_true rfl) rfl (fun r153 I153 J153 R153 c153 => ?_)
      obtain ⟨rfl, t1, t2, rfl⟩ := c153
      rotate_left
      refine pw_aload_n 157 rfl dX12_changes_156 rfl ?_
      refine pw_iload 159 rfl dX12_changes_157 rfl ?_
      refine pw_i2l 160 rfl dX12_changes_159 ?_
      refine pw_callV (as := [_]) 163 rfl dX12_changes_160 mX12_236 vX12_tell (m_tell (d := d + 244) t1 (by show (1 : Nat) < 12; decide)) (by first | rfl | assumption | exact rowS hh | exact mtS hm | exact ruS hr | exact mtA1 hm | exact mtA2 hm | exact mtA3 hm | exact mtA4 hm | exact mtA5 hm | exact mtA6 hm | exact mtA7 hm | exact ruA1 hr | exact ruA2 hr | exact ruA3 hr) rfl (by decide) ⟨rfl, by decide, by decide, show (parseMethodDescriptor yX12_tell.desc).map (fun d => d.parameters.length) = some 1 by decide +kernel⟩ (by omega) (by decide) (Nat.le_of_ble_eq_true rfl) rfl (fun r160 I160 J160 R160 c160 => ?_)
      obtain ⟨rfl, u1, u2, rfl⟩ := c160
      rotate_left
      have hf2 : ∀ a j, ¬ (a = 0 ∧ j = 6) → I160 a j = I' a j := fun a j q => by rw [u2 a j q, t2 a j q, uI_ne (by omega)]
      refine pw_iload_n 164 rfl dX12_changes_163 rfl ?_
      refine pw_iret dX12_changes_164 rfl ?_
      rotate_left
      exact moQ eq rfl (MA_rw hA0 (fun a j q => by rw [hf2 a j (by omega)]; exact fMs_mFr m2 a j q) u1) ((MDg_f m3 (hf2 _ _ (by omega)) (fun j => hf2 _ _ (by omega))).mono (by omega)) ⟨rd', rfl⟩
    · intro t ht ih I' rd' x y m1 m2 m3
      have hWt := WF_hrs (ruE rt) aW.1 t
      have q0 := ho7 t
      have q1 := ho7 (t + 1)
      have e0 : I' 11 29 = nI (o t) := by rw [hok]; exact m1 29 (by omega)
      have lr := chR_le o t
      have lr1 := chR_le o (t + 1)
      have ll := chL_le o t
      refine pw_iload 45 rfl dX12_changes_43 rfl ?_
      refine pw_iload_n 46 rfl dX12_changes_45 rfl ?_
      refine pw_icmp_gt (tgt := 144) 49 rfl dX12_changes_46 rfl (fun h46 => absurd h46 (by (simp (disch := omega) only [nI_leI, nI_ltI, nI_eq, show (0 : Int32) = nI 0 from rfl, not_true_eq_false, not_false_eq_true] <;> omega))) (fun h46 => ?_)
      refine pw_aload_n 50 rfl dX12_changes_49 rfl ?_
      refine pw_getR 53 rfl dX12_changes_50 fX12_42 (by first | rfl | assumption | exact rowS hh | exact mtS hm | exact ruS hr | exact mtA1 hm | exact mtA2 hm | exact mtA3 hm | exact mtA4 hm | exact mtA5 hm | exact mtA6 hm | exact mtA7 hm | exact ruA1 hr | exact ruA2 hr | exact ruA3 hr) rfl (by first | rfl | assumption | exact mtR0 hm | exact mtR1 hm | exact mtR2 hm | exact mtR3 hm | exact mtR4 hm | exact mtR5 hm | exact mtR6 hm | exact ruR0 hr | exact ruR1 hr | exact ruR3 hr) ?_
      refine pw_bipush (v := nI 29) 55 rfl dX12_changes_53 rfl ?_
      refine pw_ialdN 56 rfl dX12_changes_55 (by first | rfl | assumption | exact rowS hh | exact mtS hm | exact ruS hr | exact mtA1 hm | exact mtA2 hm | exact mtA3 hm | exact mtA4 hm | exact mtA5 hm | exact mtA6 hm | exact mtA7 hm | exact ruA1 hr | exact ruA2 hr | exact ruA3 hr) (by omega) (by first | decide | omega) ?_
      rotate_left
      rw [e0]
      refine pw_istore 58 rfl dX12_changes_56 (by decide) ?_
      refine pw_aload_n 59 rfl dX12_changes_58 rfl ?_
      refine pw_aload_n 60 rfl dX12_changes_59 rfl ?_
      refine pw_getR 63 rfl dX12_changes_60 fX12_42 (by first | rfl | assumption | exact rowS hh | exact mtS hm | exact ruS hr | exact mtA1 hm | exact mtA2 hm | exact mtA3 hm | exact mtA4 hm | exact mtA5 hm | exact mtA6 hm | exact mtA7 hm | exact ruA1 hr | exact ruA2 hr | exact ruA3 hr) rfl (by first | rfl | assumption | exact mtR0 hm | exact mtR1 hm | exact mtR2 hm | exact mtR3 hm | exact mtR4 hm | exact mtR5 hm | exact mtR6 hm | exact ruR0 hr | exact ruR1 hr | exact ruR3 hr) ?_
      refine pw_callV (as := [_]) 66 rfl dX12_changes_63 mX12_230 vX12_goHour (m_hour (d := d + 7) (mC.fr m2 (Or.inr rfl)) m1 hWt (MSt_mFr hE m2) m3 (by omega)) (by first | rfl | assumption | exact rowS hh | exact mtS hm | exact ruS hr | exact mtA1 hm | exact mtA2 hm | exact mtA3 hm | exact mtA4 hm | exact mtA5 hm | exact mtA6 hm | exact mtA7 hm | exact ruA1 hr | exact ruA2 hr | exact ruA3 hr) rfl (by decide) ⟨rfl, by decide, by decide, show (parseMethodDescriptor yX12_goHour.desc).map (fun d => d.parameters.length) = some 1 by decide +kernel⟩ (by omega) (by decide) (Nat.le_of_ble_eq_true rfl) rfl (fun r63 I63 J63 R63 c63 => ?_)
      obtain ⟨rfl, p1, p2, p3, rfl, rd2, rfl⟩ := c63
      rotate_left
      have e1 : I63 11 29 = nI (o (t + 1)) := by rw [hok]; exact p1 29 (by omega)
      refine pw_aload_n 67 rfl dX12_changes_66 rfl ?_
      refine pw_getR 70 rfl dX12_changes_67 fX12_42 (by first | rfl | assumption | exact rowS hh | exact mtS hm | exact ruS hr | exact mtA1 hm | exact mtA2 hm | exact mtA3 hm | exact mtA4 hm | exact mtA5 hm | exact mtA6 hm | exact mtA7 hm | exact ruA1 hr | exact ruA2 hr | exact ruA3 hr) rfl (by first | rfl | assumption | exact mtR0 hm | exact mtR1 hm | exact mtR2 hm | exact mtR3 hm | exact mtR4 hm | exact mtR5 hm | exact mtR6 hm | exact ruR0 hr | exact ruR1 hr | exact ruR3 hr) ?_
      refine pw_bipush (v := nI 29) 72 rfl dX12_changes_70 rfl ?_
      refine pw_ialdN 73 rfl dX12_changes_72 (by first | rfl | assumption | exact rowS hh | exact mtS hm | exact ruS hr | exact mtA1 hm | exact mtA2 hm | exact mtA3 hm | exact mtA4 hm | exact mtA5 hm | exact mtA6 hm | exact mtA7 hm | exact ruA1 hr | exact ruA2 hr | exact ruA3 hr) (by omega) (by first | decide | omega) ?_
      rotate_left
      rw [e1]
      refine pw_istore 75 rfl dX12_changes_73 (by decide) ?_
      rotate_left
      have st3 : PW SM yX12_changes.cls cX12_changes 9 (d + 245) 122 [some (.ref 0), some (.int (nI N)), some (.int (nI (chO o (t + 1)))), some (.int (nI (chR o (t + 1)))), some (.int (nI (chL o t).1)), some (.int (nI (chL o t).2)), some (.int (nI (t + 1))), some (.int (nI (o t))), some (.int (nI (o (t + 1))))] [] I63 J (RM rd2 (some 6)) (rX cX12_changes (some .int) (moP (g + 10000) (qOp (qChanges (nI N)) (n, pc, b, us, kp, rw, tx, rt, hd, sw)))) := by
        have go := ih I63 rd2 (some (.int (nI (o t)))) (some (.int (nI (o (t + 1))))) p1 (m2.trans p2) (p3.mono (by omega))
        rw [show chL o (t + 1) = if (chL o t).1 < chR o (t + 1) then (chR o (t + 1), o (t + 1)) else chL o t from rfl] at go
        by_cases hc : (chL o t).1 < chR o (t + 1)
        · rw [if_pos hc] at go
          refine pw_iload_n 123 rfl dX12_changes_122 rfl ?_
          refine pw_iload 125 rfl dX12_changes_123 rfl ?_
          refine pw_icmp_gt (tgt := 131) 128 rfl dX12_changes_125 rfl (fun h125 => ?_) (fun h125 => absurd (by (simp (disch := omega) only [nI_leI, nI_ltI, nI_eq, show (0 : Int32) = nI 0 from rfl, not_true_eq_false, not_false_eq_true] <;> omega)) h125)
          refine pw_iload_n 132 rfl dX12_changes_131 rfl ?_
          refine pw_istore 134 rfl dX12_changes_132 (by decide) ?_
          refine pw_iload 136 rfl dX12_changes_134 rfl ?_
          refine pw_istore 138 rfl dX12_changes_136 (by decide) ?_
          refine pw_iincN 141 rfl dX12_changes_138 (by decide) rfl ?_
          refine pw_goto (tgt := 43) dX12_changes_141 rfl ?_
          rotate_left
          exact go
        · rw [if_neg hc] at go
          refine pw_iload_n 123 rfl dX12_changes_122 rfl ?_
          refine pw_iload 125 rfl dX12_changes_123 rfl ?_
          refine pw_icmp_gt (tgt := 131) 128 rfl dX12_changes_125 rfl (fun h125 => absurd h125 (by (simp (disch := omega) only [nI_leI, nI_ltI, nI_eq, show (0 : Int32) = nI 0 from rfl, not_true_eq_false, not_false_eq_true] <;> omega))) (fun h125 => ?_)
          refine pw_goto (tgt := 138) dX12_changes_128 rfl ?_
          refine pw_iincN 141 rfl dX12_changes_138 (by decide) rfl ?_
          refine pw_goto (tgt := 43) dX12_changes_141 rfl ?_
          rotate_left
          exact go
      have st2 : PW SM yX12_changes.cls cX12_changes 9 (d + 245) 90 [some (.ref 0), some (.int (nI N)), some (.int (nI (chO o (t + 1)))), some (.int (nI (chR o t))), some (.int (nI (chL o t).1)), some (.int (nI (chL o t).2)), some (.int (nI (t + 1))), some (.int (nI (o t))), some (.int (nI (o (t + 1))))] [] I63 J (RM rd2 (some 6)) (rX cX12_changes (some .int) (moP (g + 10000) (qOp (qChanges (nI N)) (n, pc, b, us, kp, rw, tx, rt, hd, sw)))) := by
        rw [show chR o (t + 1) = if o (t + 1) = 7 then 0 else if o (t + 1) ≠ o t then 1 else chR o t + 1 from rfl] at st3
        by_cases c7 : o (t + 1) = 7
        · rw [if_pos c7] at st3
          refine pw_iload 92 rfl dX12_changes_90 rfl ?_
          refine pw_bipush (v := nI 7) 94 rfl dX12_changes_92 rfl ?_
          refine pw_icmp_ne (tgt := 101) 97 rfl dX12_changes_94 rfl (fun h94 => absurd (by rw [c7]) h94) (fun h94 => ?_)
          refine pw_iconst (v := nI 0) 98 rfl dX12_changes_97 rfl ?_
          refine pw_goto (tgt := 121) dX12_changes_98 rfl ?_
          refine pw_istore_n 122 rfl dX12_changes_121 (by decide) ?_
          rotate_left
          exact st3
        · rw [if_neg c7] at st3
          have n7 : ¬ nI (o (t + 1)) = nI 7 := by rw [nI_eq (by omega) (by omega)]; exact c7
          by_cases cs : o (t + 1) = o t
          · rw [if_neg (fun z => z cs)] at st3
            by_cases ct : t = 0
            · subst ct
              rw [show chR o 0 + 1 = 1 from rfl] at st3
              refine pw_iload 92 rfl dX12_changes_90 rfl ?_
              refine pw_bipush (v := nI 7) 94 rfl dX12_changes_92 rfl ?_
              refine pw_icmp_ne (tgt := 101) 97 rfl dX12_changes_94 rfl (fun h94 => ?_) (fun h94 => absurd h94 n7)
              refine pw_iload 103 rfl dX12_changes_101 rfl ?_
              refine pw_iconst (v := nI 1) 104 rfl dX12_changes_103 rfl ?_
              refine pw_icmp_le (tgt := 120) 107 rfl dX12_changes_104 rfl (fun h104 => ?_) (fun h104 => absurd (by decide) h104)
              refine pw_iconst (v := nI 1) 121 rfl dX12_changes_120 rfl ?_
              refine pw_istore_n 122 rfl dX12_changes_121 (by decide) ?_
              rotate_left
              exact st3
            · refine pw_iload 92 rfl dX12_changes_90 rfl ?_
              refine pw_bipush (v := nI 7) 94 rfl dX12_changes_92 rfl ?_
              refine pw_icmp_ne (tgt := 101) 97 rfl dX12_changes_94 rfl (fun h94 => ?_) (fun h94 => absurd h94 n7)
              refine pw_iload 103 rfl dX12_changes_101 rfl ?_
              refine pw_iconst (v := nI 1) 104 rfl dX12_changes_103 rfl ?_
              refine pw_icmp_le (tgt := 120) 107 rfl dX12_changes_104 rfl (fun h104 => absurd h104 (by (simp (disch := omega) only [nI_leI, nI_ltI, nI_eq, show (0 : Int32) = nI 0 from rfl, not_true_eq_false, not_false_eq_true] <;> omega))) (fun h104 => ?_)
              refine pw_iload 109 rfl dX12_changes_107 rfl ?_
              refine pw_iload 111 rfl dX12_changes_109 rfl ?_
              refine pw_icmp_ne (tgt := 120) 114 rfl dX12_changes_111 rfl (fun h111 => absurd (by rw [cs]) h111) (fun h111 => ?_)
              refine pw_iload_n 115 rfl dX12_changes_114 rfl ?_
              refine pw_iconst (v := nI 1) 116 rfl dX12_changes_115 rfl ?_
              first | refine pw_iaddN 117 rfl dX12_changes_116 ?_ | refine pw_iadd 117 rfl dX12_changes_116 ?_
              refine pw_goto (tgt := 121) dX12_changes_117 rfl ?_
              refine pw_istore_n 122 rfl dX12_changes_121 (by decide) ?_
              rotate_left
              exact st3
          · rw [if_pos cs] at st3
            have ns : ¬ nI (o (t + 1)) = nI (o t) := by rw [nI_eq (by omega) (by omega)]; exact cs
            by_cases ct : t = 0
            · subst ct
              refine pw_iload 92 rfl dX12_changes_90 rfl ?_
              refine pw_bipush (v := nI 7) 94 rfl dX12_changes_92 rfl ?_
              refine pw_icmp_ne (tgt := 101) 97 rfl dX12_changes_94 rfl (fun h94 => ?_) (fun h94 => absurd h94 n7)
              refine pw_iload 103 rfl dX12_changes_101 rfl ?_
              refine pw_iconst (v := nI 1) 104 rfl dX12_changes_103 rfl ?_
              refine pw_icmp_le (tgt := 120) 107 rfl dX12_changes_104 rfl (fun h104 => ?_) (fun h104 => absurd (by decide) h104)
              refine pw_iconst (v := nI 1) 121 rfl dX12_changes_120 rfl ?_
              refine pw_istore_n 122 rfl dX12_changes_121 (by decide) ?_
              rotate_left
              exact st3
            · refine pw_iload 92 rfl dX12_changes_90 rfl ?_
              refine pw_bipush (v := nI 7) 94 rfl dX12_changes_92 rfl ?_
              refine pw_icmp_ne (tgt := 101) 97 rfl dX12_changes_94 rfl (fun h94 => ?_) (fun h94 => absurd h94 n7)
              refine pw_iload 103 rfl dX12_changes_101 rfl ?_
              refine pw_iconst (v := nI 1) 104 rfl dX12_changes_103 rfl ?_
              refine pw_icmp_le (tgt := 120) 107 rfl dX12_changes_104 rfl (fun h104 => absurd h104 (by (simp (disch := omega) only [nI_leI, nI_ltI, nI_eq, show (0 : Int32) = nI 0 from rfl, not_true_eq_false, not_false_eq_true] <;> omega))) (fun h104 => ?_)
              refine pw_iload 109 rfl dX12_changes_107 rfl ?_
              refine pw_iload 111 rfl dX12_changes_109 rfl ?_
              refine pw_icmp_ne (tgt := 120) 114 rfl dX12_changes_111 rfl (fun h111 => ?_) (fun h111 => absurd h111 ns)
              refine pw_iconst (v := nI 1) 121 rfl dX12_changes_120 rfl ?_
              refine pw_istore_n 122 rfl dX12_changes_121 (by decide) ?_
              rotate_left
              exact st3
      rw [show chO o (t + 1) = if o (t + 1) ≠ o t then chO o t + 1 else chO o t from rfl] at st2
      by_cases cs : o (t + 1) = o t
      · rw [if_neg (fun z => z cs)] at st2
        refine pw_iload_n 76 rfl dX12_changes_75 rfl ?_
        refine pw_iload 78 rfl dX12_changes_76 rfl ?_
        refine pw_iload 80 rfl dX12_changes_78 rfl ?_
        refine pw_icmp_eq (tgt := 87) 83 rfl dX12_changes_80 rfl (fun h80 => ?_) (fun h80 => absurd (by rw [cs]) h80)
        refine pw_iconst (v := nI 0) 88 rfl dX12_changes_87 rfl ?_
        first | refine pw_iaddN 89 rfl dX12_changes_88 ?_ | refine pw_iadd 89 rfl dX12_changes_88 ?_
        refine pw_istore_n 90 rfl dX12_changes_89 (by decide) ?_
        rotate_left
        exact st2
      · rw [if_pos cs] at st2
        have ns : ¬ nI (o (t + 1)) = nI (o t) := by rw [nI_eq (by omega) (by omega)]; exact cs
        refine pw_iload_n 76 rfl dX12_changes_75 rfl ?_
        refine pw_iload 78 rfl dX12_changes_76 rfl ?_
        refine pw_iload 80 rfl dX12_changes_78 rfl ?_
        refine pw_icmp_eq (tgt := 87) 83 rfl dX12_changes_80 rfl (fun h80 => absurd h80 ns) (fun h80 => ?_)
        refine pw_iconst (v := nI 1) 84 rfl dX12_changes_83 rfl ?_
        refine pw_goto (tgt := 88) dX12_changes_84 rfl ?_
        first | refine pw_iaddN 89 rfl dX12_changes_88 ?_ | refine pw_iadd 89 rfl dX12_changes_88 ?_
        refine pw_istore_n 90 rfl dX12_changes_89 (by decide) ?_
        rotate_left
        exact st2
  · refine pw_iload_n 6 rfl dX12_changes_5 rfl ?_
    refine pw_iconst (v := nI 1) 7 rfl dX12_changes_6 rfl ?_
    refine pw_bipush (v := nI 99) 9 rfl dX12_changes_7 rfl ?_
    refine pw_callSP (as := [_, _, _]) 12 rfl dX12_changes_9 mX12_98 sX12_in (m_in (d := d) _ _ _) ⟨rfl, by decide, by decide, show (parseMethodDescriptor yX12_in.desc).map (fun d => d.parameters.length) = some 3 by decide +kernel⟩ (by omega) (by decide) (Nat.le_of_ble_eq_true rfl) rfl ?_
    refine pw_if_ne (tgt := 17) 15 rfl dX12_changes_12 rfl (fun h12 => absurd (by rw [inV_n ho]; rfl) h12) (fun h12 => ?_)
    refine pw_iconst (v := -1) 16 rfl dX12_changes_15 rfl ?_
    refine pw_iret dX12_changes_16 rfl ?_
    rotate_left
    exact moQ (by unfold qChanges; rw [hi]; rfl) rfl hA0 (hD0.mono (by omega)) ⟨rd, rfl⟩
set_option maxRecDepth 100000 in
set_option maxHeartbeats 2000000 in
theorem mo_ways {d g : Nat} {s : aSt} {rd : Option Nat} {I : pI} {J : pJ} (hA : MA I J s) (hD : MDg g I) (hg : g ≤ 500000000) (hW : WA s) (v : Int32) : PC SM (d + 245) yX12_ways cX12_ways 5 (some .int) [.ref 0, .int v] (I) (J) (RM rd (some 6)) (moP (g + 10000) (qOp (qWays v) s)) := by
  refine PC.of [some (.ref 0), some (.int v), none, none, none] rfl rfl (Nat.le_of_ble_eq_true rfl) ?_
  obtain ⟨n, pc, b, us, kp, rw, tx, rt, hd, sw⟩ := s
  refine pw_aload_n 1 rfl dX12_ways_0 rfl ?_
  refine pw_iconst (v := nI 0) 2 rfl dX12_ways_1 rfl ?_
  refine pw_putI 5 rfl dX12_ways_2 fX12_88 w12_7 (by first | rfl | assumption | exact rowS hh | exact mtS hm | exact ruS hr | exact mtA1 hm | exact mtA2 hm | exact mtA3 hm | exact mtA4 hm | exact mtA5 hm | exact mtA6 hm | exact mtA7 hm | exact ruA1 hr | exact ruA2 hr | exact ruA3 hr) rfl rfl rfl ?_
  rotate_left
  have hA0 := MA_thr (v := nI 0) hA
  have hD0 : MDg g (uI I 0 7 (nI 0)) := MDg_f hD (uI_ne (by omega)) (fun j => uI_ne (by omega))
  clear hA hD
  generalize uI I 0 7 (nI 0) = I at hA0 hD0 ⊢
  obtain ⟨mC, mB, mT, mN, mR, mU, mK, mH, mG⟩ := id hA0
  obtain ⟨aW, aU, aK⟩ := id hW
  have hE := MSt_A hA0
  have hn7 := mC.1
  have hn := mC.2.1
  rcases inOf_cases (lo := 1) (hi := 99) (by decide) v (by decide) with ⟨N, h1, h2, rfl, hi⟩ | ⟨hi, ho⟩
  · generalize hgd : (fun q => gon n pc (ruE rt) b q) = G
    have hG0 : ∀ q, G q 0 = 0 := fun q => by rw [← hgd]; rfl
    have hG1 : ∀ q t, G q (t + 1) = G q t + dist (hrs n pc (ruE rt) (t + 1) b q) (hrs n pc (ruE rt) t b q) := fun q t => by rw [← hgd]; rfl
    have eq : qWays (nI N) n pc b (ruE rt) rw hd sw = (nI (sumN (fun q => G q N) n), nseq (fun q => lI (G q N)) n) := by unfold qWays; rw [hi, ← hgd]; rfl
    have hds : ∀ t q, q < n → dist (hrs n pc (ruE rt) (t + 1) b q) (hrs n pc (ruE rt) t b q) ≤ 9 := fun t q hq => by
      have a1 := (WF_wh (WF_hrs (ruE rt) aW.1 (t + 1)) q (by omega)).2
      have a2 := (WF_wh (WF_hrs (ruE rt) aW.1 t) q (by omega)).2
      unfold dist; split <;> omega
    have hGl : ∀ t q, q < n → G q t ≤ 9 * t := by
      intro t
      induction t with
      | zero => intro q hq; rw [hG0]; exact Nat.le_refl _
      | succ t ih => intro q hq; have := ih q hq; have := hds t q hq; rw [hG1]; omega
    have hsum : ∀ k, k ≤ n → sumN (fun q => G q N) k ≤ 9 * N * k := by
      intro k
      induction k with
      | zero => intro _; exact Nat.le_refl _
      | succ k ih => intro hk; have := ih (by omega); have := hGl N k (by omega); rw [sumN]; show sumN (fun q => G q N) k + G k N ≤ _; rw [Nat.mul_succ]; omega
    refine pw_iload_n 6 rfl dX12_ways_5 rfl ?_
    refine pw_iconst (v := nI 1) 7 rfl dX12_ways_6 rfl ?_
    refine pw_bipush (v := nI 99) 9 rfl dX12_ways_7 rfl ?_
    refine pw_callSP (as := [_, _, _]) 12 rfl dX12_ways_9 mX12_98 sX12_in (m_in (d := d) _ _ _) ⟨rfl, by decide, by decide, show (parseMethodDescriptor yX12_in.desc).map (fun d => d.parameters.length) = some 3 by decide +kernel⟩ (by omega) (by decide) (Nat.le_of_ble_eq_true rfl) rfl ?_
    refine pw_if_ne (tgt := 17) 15 rfl dX12_ways_12 rfl (fun h12 => ?_) (fun h12 => absurd h12 (by rw [inV_y h1 h2 (by decide)]; decide))
    refine pw_iconst (v := nI 0) 18 rfl dX12_ways_17 rfl ?_
    refine pw_istore_n 19 rfl dX12_ways_18 (by decide) ?_
    refine pw_iconst (v := nI 0) 20 rfl dX12_ways_19 rfl ?_
    refine pw_istore_n 21 rfl dX12_ways_20 (by decide) ?_
    rotate_left
    have L1 := nat_loop n (fun k => ∀ (I' : pI), (∀ q, q < k → I' 16 q = nI 0) → (∀ a j, a ≠ 16 → I' a j = I a j) → PW SM yX12_ways.cls cX12_ways 5 (d + 245) 21 [some (.ref 0), some (.int (nI N)), some (.int (nI 0)), some (.int (nI k)), none] [] I' J (RM rd (some 6)) (rX cX12_ways (some .int) (moP (g + 10000) (qOp (qWays (nI N)) (n, pc, b, us, kp, rw, tx, rt, hd, sw))))) ?_ ?_
    · exact L1 I (fun q hq => by omega) (fun _ _ _ => rfl)
    · intro I' m1 m2
      have hn' : I' 0 1 = nI n := by rw [m2 _ _ (by decide)]; exact hn
      refine pw_iload_n 22 rfl dX12_ways_21 rfl ?_
      refine pw_aload_n 23 rfl dX12_ways_22 rfl ?_
      refine pw_getI 26 rfl dX12_ways_23 fX12_95 (by first | rfl | assumption | exact rowS hh | exact mtS hm | exact ruS hr | exact mtA1 hm | exact mtA2 hm | exact mtA3 hm | exact mtA4 hm | exact mtA5 hm | exact mtA6 hm | exact mtA7 hm | exact ruA1 hr | exact ruA2 hr | exact ruA3 hr) rfl ?_
      refine pw_icmp_ge (tgt := 42) 29 rfl dX12_ways_26 rfl (fun h26 => ?_) (fun h26 => absurd (by rw [hn']; (simp (disch := omega) only [nI_leI, nI_ltI, nI_eq, show (0 : Int32) = nI 0 from rfl, not_true_eq_false, not_false_eq_true] <;> omega)) h26)
      refine pw_aload_n 43 rfl dX12_ways_42 rfl ?_
      refine pw_getR 46 rfl dX12_ways_43 fX12_9 (by first | rfl | assumption | exact rowS hh | exact mtS hm | exact ruS hr | exact mtA1 hm | exact mtA2 hm | exact mtA3 hm | exact mtA4 hm | exact mtA5 hm | exact mtA6 hm | exact mtA7 hm | exact ruA1 hr | exact ruA2 hr | exact ruA3 hr) rfl (by first | rfl | assumption | exact mtR0 hm | exact mtR1 hm | exact mtR2 hm | exact mtR3 hm | exact mtR4 hm | exact mtR5 hm | exact mtR6 hm | exact ruR0 hr | exact ruR1 hr | exact ruR3 hr) ?_
      refine pw_aload_n 47 rfl dX12_ways_46 rfl ?_
      refine pw_getR 50 rfl dX12_ways_47 fX12_42 (by first | rfl | assumption | exact rowS hh | exact mtS hm | exact ruS hr | exact mtA1 hm | exact mtA2 hm | exact mtA3 hm | exact mtA4 hm | exact mtA5 hm | exact mtA6 hm | exact mtA7 hm | exact ruA1 hr | exact ruA2 hr | exact ruA3 hr) rfl (by first | rfl | assumption | exact mtR0 hm | exact mtR1 hm | exact mtR2 hm | exact mtR3 hm | exact mtR4 hm | exact mtR5 hm | exact mtR6 hm | exact ruR0 hr | exact ruR1 hr | exact ruR3 hr) ?_
      refine pw_iconst (v := nI 0) 51 rfl dX12_ways_50 rfl ?_
      refine pw_callS (as := [_, _, _]) 54 rfl dX12_ways_51 mX12_219 sX12_lay (m_layT (d := d + 244) (MB_f mB (fun j => m2 _ _ (by decide)))) ⟨rfl, by decide, by decide, show (parseMethodDescriptor yX12_lay.desc).map (fun d => d.parameters.length) = some 3 by decide +kernel⟩ (by omega) (by decide) (Nat.le_of_ble_eq_true rfl) rfl (fun r51 I51 J51 R51 c51 => ?_)
      obtain ⟨rfl, k1, k2, rfl, rfl⟩ := c51
      rotate_left
      refine pw_iconst (v := nI 0) 55 rfl dX12_ways_54 rfl ?_
      refine pw_istore_n 56 rfl dX12_ways_55 (by decide) ?_
      rotate_left
      have L2 := nat_loop N (fun t => ∀ (I2 : pI) (rd' : Option Nat) (x : Option Value), (∀ q, q < n → I2 16 q = nI (G q t)) → MB I2 11 (hrs n pc (ruE rt) t b) → mFw I I2 → MDg (g + 7 * t) I2 → PW SM yX12_ways.cls cX12_ways 5 (d + 245) 56 [some (.ref 0), some (.int (nI N)), some (.int (nI 0)), some (.int (nI t)), x] [] I2 J (RM rd' (some 6)) (rX cX12_ways (some .int) (moP (g + 10000) (qOp (qWays (nI N)) (n, pc, b, us, kp, rw, tx, rt, hd, sw))))) ?_ ?_
      · exact L2 _ rd none (fun q hq => by rw [k2 _ _ (by decide), hG0]; exact m1 q hq) k1 (fun a j q => by rw [k2 a j (by omega), m2 a j (by omega)]) (MDg_f hD0 (by rw [k2 _ _ (by decide), m2 _ _ (by decide)]) (fun j => by rw [k2 _ _ (by decide), m2 _ _ (by decide)]))
      · intro I2 rd' x n1 n2 n3 n4
        refine pw_iload_n 57 rfl dX12_ways_56 rfl ?_
        refine pw_iload_n 58 rfl dX12_ways_57 rfl ?_
        refine pw_icmp_ge (tgt := 133) 61 rfl dX12_ways_58 rfl (fun h58 => ?_) (fun h58 => absurd (by (simp (disch := omega) only [nI_leI, nI_ltI, nI_eq, show (0 : Int32) = nI 0 from rfl, not_true_eq_false, not_false_eq_true] <;> omega)) h58)
        refine pw_aload_n 134 rfl dX12_ways_133 rfl ?_
        refine pw_iconst (v := nI 0) 135 rfl dX12_ways_134 rfl ?_
        refine pw_putI 138 rfl dX12_ways_135 fX12_92 w12_6 (by first | rfl | assumption | exact rowS hh | exact mtS hm | exact ruS hr | exact mtA1 hm | exact mtA2 hm | exact mtA3 hm | exact mtA4 hm | exact mtA5 hm | exact mtA6 hm | exact mtA7 hm | exact ruA1 hr | exact ruA2 hr | exact ruA3 hr) rfl rfl rfl ?_
        refine pw_iconst (v := nI 0) 139 rfl dX12_ways_138 rfl ?_
        refine pw_istore_n 140 rfl dX12_ways_139 (by decide) ?_
        rotate_left
        have L3 := nat_loop n (fun k => ∀ (I3 : pI) (J3 : pJ), MN I3 J3 (nseq (fun q => lI (G q N)) k) → (∀ a j, ¬ (a = 0 ∧ j = 6) → I3 a j = I2 a j) → PW SM yX12_ways.cls cX12_ways 5 (d + 245) 140 [some (.ref 0), some (.int (nI N)), some (.int (nI (sumN (fun q => G q N) k))), some (.int (nI k)), x] [] I3 J3 (RM rd' (some 6)) (rX cX12_ways (some .int) (moP (g + 10000) (qOp (qWays (nI N)) (n, pc, b, us, kp, rw, tx, rt, hd, sw))))) ?_ ?_
        · exact L3 _ J MN_0 (fun a j q => uI_ne (by omega))
        · intro I3 J3 o1 o2
          have hn' : I3 0 1 = nI n := by rw [o2 _ _ (by omega), n3 _ _ (by omega)]; exact hn
          refine pw_iload_n 141 rfl dX12_ways_140 rfl ?_
          refine pw_aload_n 142 rfl dX12_ways_141 rfl ?_
          refine pw_getI 145 rfl dX12_ways_142 fX12_95 (by first | rfl | assumption | exact rowS hh | exact mtS hm | exact ruS hr | exact mtA1 hm | exact mtA2 hm | exact mtA3 hm | exact mtA4 hm | exact mtA5 hm | exact mtA6 hm | exact mtA7 hm | exact ruA1 hr | exact ruA2 hr | exact ruA3 hr) rfl ?_
          refine pw_icmp_ge (tgt := 174) 148 rfl dX12_ways_145 rfl (fun h145 => ?_) (fun h145 => absurd (by rw [hn']; (simp (disch := omega) only [nI_leI, nI_ltI, nI_eq, show (0 : Int32) = nI 0 from rfl, not_true_eq_false, not_false_eq_true] <;> omega)) h145)
          refine pw_iload_n 175 rfl dX12_ways_174 rfl ?_
          refine pw_iret dX12_ways_175 rfl ?_
          rotate_left
          exact moQ eq rfl (MA_rw hA0 (fun a j q => by rw [o2 a j (by omega)]; exact n3.ms a j q) o1) ((MDg_f n4 (o2 _ _ (by omega)) (fun j => o2 _ _ (by omega))).mono (by omega)) ⟨rd', rfl⟩
        · intro k hk ih I3 J3 o1 o2
          have hn' : I3 0 1 = nI n := by rw [o2 _ _ (by omega), n3 _ _ (by omega)]; exact hn
          have e16 : I3 16 k = nI (G k N) := by rw [o2 _ _ (by omega)]; exact n1 k hk
          refine pw_iload_n 141 rfl dX12_ways_140 rfl ?_
          refine pw_aload_n 142 rfl dX12_ways_141 rfl ?_
          refine pw_getI 145 rfl dX12_ways_142 fX12_95 (by first | rfl | assumption | exact rowS hh | exact mtS hm | exact ruS hr | exact mtA1 hm | exact mtA2 hm | exact mtA3 hm | exact mtA4 hm | exact mtA5 hm | exact mtA6 hm | exact mtA7 hm | exact ruA1 hr | exact ruA2 hr | exact ruA3 hr) rfl ?_
          refine pw_icmp_ge (tgt := 174) 148 rfl dX12_ways_145 rfl (fun h145 => absurd h145 (by rw [hn']; (simp (disch := omega) only [nI_leI, nI_ltI, nI_eq, show (0 : Int32) = nI 0 from rfl, not_true_eq_false, not_false_eq_true] <;> omega))) (fun h145 => ?_)
          refine pw_iload_n 149 rfl dX12_ways_148 rfl ?_
          refine pw_aload_n 150 rfl dX12_ways_149 rfl ?_
          refine pw_getR 153 rfl dX12_ways_150 fX12_57 (by first | rfl | assumption | exact rowS hh | exact mtS hm | exact ruS hr | exact mtA1 hm | exact mtA2 hm | exact mtA3 hm | exact mtA4 hm | exact mtA5 hm | exact mtA6 hm | exact mtA7 hm | exact ruA1 hr | exact ruA2 hr | exact ruA3 hr) rfl (by first | rfl | assumption | exact mtR0 hm | exact mtR1 hm | exact mtR2 hm | exact mtR3 hm | exact mtR4 hm | exact mtR5 hm | exact mtR6 hm | exact ruR0 hr | exact ruR1 hr | exact ruR3 hr) ?_
          refine pw_iload_n 154 rfl dX12_ways_153 rfl ?_
          refine pw_ialdN 155 rfl dX12_ways_154 (by first | rfl | assumption | exact rowS hh | exact mtS hm | exact ruS hr | exact mtA1 hm | exact mtA2 hm | exact mtA3 hm | exact mtA4 hm | exact mtA5 hm | exact mtA6 hm | exact mtA7 hm | exact ruA1 hr | exact ruA2 hr | exact ruA3 hr) (by omega) (by first | decide | omega) ?_
          rotate_left
          rw [e16]
          first | refine pw_iaddN 156 rfl dX12_ways_155 ?_ | refine pw_iadd 156 rfl dX12_ways_155 ?_
          refine pw_istore_n 157 rfl dX12_ways_156 (by decide) ?_
          refine pw_aload_n 158 rfl dX12_ways_157 rfl ?_
          refine pw_aload_n 159 rfl dX12_ways_158 rfl ?_
          refine pw_getR 162 rfl dX12_ways_159 fX12_57 (by first | rfl | assumption | exact rowS hh | exact mtS hm | exact ruS hr | exact mtA1 hm | exact mtA2 hm | exact mtA3 hm | exact mtA4 hm | exact mtA5 hm | exact mtA6 hm | exact mtA7 hm | exact ruA1 hr | exact ruA2 hr | exact ruA3 hr) rfl (by first | rfl | assumption | exact mtR0 hm | exact mtR1 hm | exact mtR2 hm | exact mtR3 hm | exact mtR4 hm | exact mtR5 hm | exact mtR6 hm | exact ruR0 hr | exact ruR1 hr | exact ruR3 hr) ?_
          refine pw_iload_n 163 rfl dX12_ways_162 rfl ?_
          refine pw_ialdN 164 rfl dX12_ways_163 (by first | rfl | assumption | exact rowS hh | exact mtS hm | exact ruS hr | exact mtA1 hm | exact mtA2 hm | exact mtA3 hm | exact mtA4 hm | exact mtA5 hm | exact mtA6 hm | exact mtA7 hm | exact ruA1 hr | exact ruA2 hr | exact ruA3 hr) (by omega) (by first | decide | omega) ?_
          rotate_left
          rw [e16]
          refine pw_i2l 165 rfl dX12_ways_164 ?_
          refine pw_callV (as := [_]) 168 rfl dX12_ways_165 mX12_236 vX12_tell (m_tell (d := d + 244) o1 (by rw [nseq_len]; omega)) (by first | rfl | assumption | exact rowS hh | exact mtS hm | exact ruS hr | exact mtA1 hm | exact mtA2 hm | exact mtA3 hm | exact mtA4 hm | exact mtA5 hm | exact mtA6 hm | exact mtA7 hm | exact ruA1 hr | exact ruA2 hr | exact ruA3 hr) rfl (by decide) ⟨rfl, by decide, by decide, show (parseMethodDescriptor yX12_tell.desc).map (fun d => d.parameters.length) = some 1 by decide +kernel⟩ (by omega) (by decide) (Nat.le_of_ble_eq_true rfl) rfl (fun r165 I165 J165 R165 c165 => ?_)
          obtain ⟨rfl, t1, t2, rfl⟩ := c165
          rotate_left
          refine pw_iincN 171 rfl dX12_ways_168 (by decide) rfl ?_
          refine pw_goto (tgt := 140) dX12_ways_171 rfl ?_
          rotate_left
          exact ih I165 J165 t1 (fun a j q => by rw [t2 a j q, o2 a j q])
      · intro t ht ih I2 rd' x n1 n2 n3 n4
        have hWt := WF_hrs (ruE rt) aW.1 t
        have hWt1 := WF_hrs (ruE rt) aW.1 (t + 1)
        refine pw_iload_n 57 rfl dX12_ways_56 rfl ?_
        refine pw_iload_n 58 rfl dX12_ways_57 rfl ?_
        refine pw_icmp_ge (tgt := 133) 61 rfl dX12_ways_58 rfl (fun h58 => absurd h58 (by (simp (disch := omega) only [nI_leI, nI_ltI, nI_eq, show (0 : Int32) = nI 0 from rfl, not_true_eq_false, not_false_eq_true] <;> omega))) (fun h58 => ?_)
        refine pw_aload_n 62 rfl dX12_ways_61 rfl ?_
        refine pw_getR 65 rfl dX12_ways_62 fX12_42 (by first | rfl | assumption | exact rowS hh | exact mtS hm | exact ruS hr | exact mtA1 hm | exact mtA2 hm | exact mtA3 hm | exact mtA4 hm | exact mtA5 hm | exact mtA6 hm | exact mtA7 hm | exact ruA1 hr | exact ruA2 hr | exact ruA3 hr) rfl (by first | rfl | assumption | exact mtR0 hm | exact mtR1 hm | exact mtR2 hm | exact mtR3 hm | exact mtR4 hm | exact mtR5 hm | exact mtR6 hm | exact ruR0 hr | exact ruR1 hr | exact ruR3 hr) ?_
        refine pw_aload_n 66 rfl dX12_ways_65 rfl ?_
        refine pw_getR 69 rfl dX12_ways_66 fX12_39 (by first | rfl | assumption | exact rowS hh | exact mtS hm | exact ruS hr | exact mtA1 hm | exact mtA2 hm | exact mtA3 hm | exact mtA4 hm | exact mtA5 hm | exact mtA6 hm | exact mtA7 hm | exact ruA1 hr | exact ruA2 hr | exact ruA3 hr) rfl (by first | rfl | assumption | exact mtR0 hm | exact mtR1 hm | exact mtR2 hm | exact mtR3 hm | exact mtR4 hm | exact mtR5 hm | exact mtR6 hm | exact ruR0 hr | exact ruR1 hr | exact ruR3 hr) ?_
        refine pw_iconst (v := nI 0) 70 rfl dX12_ways_69 rfl ?_
        refine pw_callS (as := [_, _, _]) 73 rfl dX12_ways_70 mX12_219 sX12_lay (m_lay (d := d + 244) (t := 10) (k := 0) (nt := 32) (Or.inr rfl) rfl (by decide) (by decide) (by decide) n2) ⟨rfl, by decide, by decide, show (parseMethodDescriptor yX12_lay.desc).map (fun d => d.parameters.length) = some 3 by decide +kernel⟩ (by omega) (by decide) (Nat.le_of_ble_eq_true rfl) rfl (fun r70 I70 J70 R70 c70 => ?_)
        obtain ⟨rfl, j1, j2, rfl, rfl⟩ := c70
        rotate_left
        have f70 : mFw I I70 := fun a j q => by rw [j2 a j (by omega)]; exact n3 a j q
        refine pw_aload_n 74 rfl dX12_ways_73 rfl ?_
        refine pw_aload_n 75 rfl dX12_ways_74 rfl ?_
        refine pw_getR 78 rfl dX12_ways_75 fX12_42 (by first | rfl | assumption | exact rowS hh | exact mtS hm | exact ruS hr | exact mtA1 hm | exact mtA2 hm | exact mtA3 hm | exact mtA4 hm | exact mtA5 hm | exact mtA6 hm | exact mtA7 hm | exact ruA1 hr | exact ruA2 hr | exact ruA3 hr) rfl (by first | rfl | assumption | exact mtR0 hm | exact mtR1 hm | exact mtR2 hm | exact mtR3 hm | exact mtR4 hm | exact mtR5 hm | exact mtR6 hm | exact ruR0 hr | exact ruR1 hr | exact ruR3 hr) ?_
        refine pw_callV (as := [_]) 81 rfl dX12_ways_78 mX12_230 vX12_goHour (m_hour (d := d + 7) (f70.mc mC) (fun j hj => by rw [j2 _ _ (by omega)]; exact n2 j hj) hWt (f70.st hE) (MDg_f n4 (j2 _ _ (by omega)) (fun j => j2 _ _ (by omega))) (by omega)) (by first | rfl | assumption | exact rowS hh | exact mtS hm | exact ruS hr | exact mtA1 hm | exact mtA2 hm | exact mtA3 hm | exact mtA4 hm | exact mtA5 hm | exact mtA6 hm | exact mtA7 hm | exact ruA1 hr | exact ruA2 hr | exact ruA3 hr) rfl (by decide) ⟨rfl, by decide, by decide, show (parseMethodDescriptor yX12_goHour.desc).map (fun d => d.parameters.length) = some 1 by decide +kernel⟩ (by omega) (by decide) (Nat.le_of_ble_eq_true rfl) rfl (fun r78 I78 J78 R78 c78 => ?_)
        obtain ⟨rfl, p1, p2, p3, rfl, rd2, rfl⟩ := c78
        rotate_left
        refine pw_iconst (v := nI 0) 82 rfl dX12_ways_81 rfl ?_
        refine pw_istore 84 rfl dX12_ways_82 (by decide) ?_
        rotate_left
        have f78 : mFw I I78 := f70.trans (mFw.of p2)
        have L4 := nat_loop n (fun k => ∀ (I3 : pI), (∀ q, q < n → I3 16 q = nI (if q < k then G q (t + 1) else G q t)) → (∀ a j, a ≠ 16 → I3 a j = I78 a j) → PW SM yX12_ways.cls cX12_ways 5 (d + 245) 84 [some (.ref 0), some (.int (nI N)), some (.int (nI 0)), some (.int (nI t)), some (.int (nI k))] [] I3 J (RM rd2 (some 6)) (rX cX12_ways (some .int) (moP (g + 10000) (qOp (qWays (nI N)) (n, pc, b, us, kp, rw, tx, rt, hd, sw))))) ?_ ?_
        · exact L4 I78 (fun q hq => by rw [if_neg (by omega), p2 _ _ (by omega) (by omega) (by omega) (by omega) (by omega), j2 _ _ (by omega)]; exact n1 q hq) (fun _ _ _ => rfl)
        · intro I3 o1 o2
          have hn' : I3 0 1 = nI n := by rw [o2 _ _ (by decide), f78 _ _ (by omega)]; exact hn
          refine pw_iload 86 rfl dX12_ways_84 rfl ?_
          refine pw_aload_n 87 rfl dX12_ways_86 rfl ?_
          refine pw_getI 90 rfl dX12_ways_87 fX12_95 (by first | rfl | assumption | exact rowS hh | exact mtS hm | exact ruS hr | exact mtA1 hm | exact mtA2 hm | exact mtA3 hm | exact mtA4 hm | exact mtA5 hm | exact mtA6 hm | exact mtA7 hm | exact ruA1 hr | exact ruA2 hr | exact ruA3 hr) rfl ?_
          refine pw_icmp_ge (tgt := 127) 93 rfl dX12_ways_90 rfl (fun h90 => ?_) (fun h90 => absurd (by rw [hn']; (simp (disch := omega) only [nI_leI, nI_ltI, nI_eq, show (0 : Int32) = nI 0 from rfl, not_true_eq_false, not_false_eq_true] <;> omega)) h90)
          refine pw_iincN 130 rfl dX12_ways_127 (by decide) rfl ?_
          refine pw_goto (tgt := 56) dX12_ways_130 rfl ?_
          rotate_left
          exact ih I3 rd2 _ (fun q hq => by rw [o1 q hq, if_pos hq]) (fun j hj => by rw [o2 _ _ (by decide)]; exact p1 j hj) (fun a j q => by rw [o2 a j (by omega)]; exact f78 a j q) ((MDg_f p3 (o2 _ _ (by decide)) (fun j => o2 _ _ (by decide))).mono (by omega))
        · intro k hk ih4 I3 o1 o2
          have hn' : I3 0 1 = nI n := by rw [o2 _ _ (by decide), f78 _ _ (by omega)]; exact hn
          have eg : I3 16 k = nI (G k t) := by rw [o1 k hk, if_neg (by omega)]
          have et : I3 11 k = nI (hrs n pc (ruE rt) (t + 1) b k) := by rw [o2 _ _ (by decide)]; exact p1 k (by omega)
          have ea : I3 10 k = nI (hrs n pc (ruE rt) t b k) := by
            rw [o2 _ _ (by decide), p2 _ _ (by omega) (by omega) (by omega) (by omega) (by omega)]
            have := j1 k (by omega)
            rw [Nat.zero_add] at this
            exact this
          have a1 := (WF_wh hWt1 k (by omega)).2
          have a2 := (WF_wh hWt k (by omega)).2
          refine pw_iload 86 rfl dX12_ways_84 rfl ?_
          refine pw_aload_n 87 rfl dX12_ways_86 rfl ?_
          refine pw_getI 90 rfl dX12_ways_87 fX12_95 (by first | rfl | assumption | exact rowS hh | exact mtS hm | exact ruS hr | exact mtA1 hm | exact mtA2 hm | exact mtA3 hm | exact mtA4 hm | exact mtA5 hm | exact mtA6 hm | exact mtA7 hm | exact ruA1 hr | exact ruA2 hr | exact ruA3 hr) rfl ?_
          refine pw_icmp_ge (tgt := 127) 93 rfl dX12_ways_90 rfl (fun h90 => absurd h90 (by rw [hn']; (simp (disch := omega) only [nI_leI, nI_ltI, nI_eq, show (0 : Int32) = nI 0 from rfl, not_true_eq_false, not_false_eq_true] <;> omega))) (fun h90 => ?_)
          refine pw_aload_n 94 rfl dX12_ways_93 rfl ?_
          refine pw_getR 97 rfl dX12_ways_94 fX12_57 (by first | rfl | assumption | exact rowS hh | exact mtS hm | exact ruS hr | exact mtA1 hm | exact mtA2 hm | exact mtA3 hm | exact mtA4 hm | exact mtA5 hm | exact mtA6 hm | exact mtA7 hm | exact ruA1 hr | exact ruA2 hr | exact ruA3 hr) rfl (by first | rfl | assumption | exact mtR0 hm | exact mtR1 hm | exact mtR2 hm | exact mtR3 hm | exact mtR4 hm | exact mtR5 hm | exact mtR6 hm | exact ruR0 hr | exact ruR1 hr | exact ruR3 hr) ?_
          refine pw_iload 99 rfl dX12_ways_97 rfl ?_
          refine pw_dup2 100 rfl dX12_ways_99 rfl rfl ?_
          refine pw_ialdN 101 rfl dX12_ways_100 (by first | rfl | assumption | exact rowS hh | exact mtS hm | exact ruS hr | exact mtA1 hm | exact mtA2 hm | exact mtA3 hm | exact mtA4 hm | exact mtA5 hm | exact mtA6 hm | exact mtA7 hm | exact ruA1 hr | exact ruA2 hr | exact ruA3 hr) (by omega) (by first | decide | omega) ?_
          rotate_left
          rw [eg]
          refine pw_aload_n 102 rfl dX12_ways_101 rfl ?_
          refine pw_getR 105 rfl dX12_ways_102 fX12_42 (by first | rfl | assumption | exact rowS hh | exact mtS hm | exact ruS hr | exact mtA1 hm | exact mtA2 hm | exact mtA3 hm | exact mtA4 hm | exact mtA5 hm | exact mtA6 hm | exact mtA7 hm | exact ruA1 hr | exact ruA2 hr | exact ruA3 hr) rfl (by first | rfl | assumption | exact mtR0 hm | exact mtR1 hm | exact mtR2 hm | exact mtR3 hm | exact mtR4 hm | exact mtR5 hm | exact mtR6 hm | exact ruR0 hr | exact ruR1 hr | exact ruR3 hr) ?_
          refine pw_iload 107 rfl dX12_ways_105 rfl ?_
          refine pw_ialdN 108 rfl dX12_ways_107 (by first | rfl | assumption | exact rowS hh | exact mtS hm | exact ruS hr | exact mtA1 hm | exact mtA2 hm | exact mtA3 hm | exact mtA4 hm | exact mtA5 hm | exact mtA6 hm | exact mtA7 hm | exact ruA1 hr | exact ruA2 hr | exact ruA3 hr) (by omega) (by first | decide | omega) ?_
          rotate_left
          rw [et]
          refine pw_aload_n 109 rfl dX12_ways_108 rfl ?_
          refine pw_getR 112 rfl dX12_ways_109 fX12_39 (by first | rfl | assumption | exact rowS hh | exact mtS hm | exact ruS hr | exact mtA1 hm | exact mtA2 hm | exact mtA3 hm | exact mtA4 hm | exact mtA5 hm | exact mtA6 hm | exact mtA7 hm | exact ruA1 hr | exact ruA2 hr | exact ruA3 hr) rfl (by first | rfl | assumption | exact mtR0 hm | exact mtR1 hm | exact mtR2 hm | exact mtR3 hm | exact mtR4 hm | exact mtR5 hm | exact mtR6 hm | exact ruR0 hr | exact ruR1 hr | exact ruR3 hr) ?_
          refine pw_iload 114 rfl dX12_ways_112 rfl ?_
          refine pw_ialdN 115 rfl dX12_ways_114 (by first | rfl | assumption | exact rowS hh | exact mtS hm | exact ruS hr | exact mtA1 hm | exact mtA2 hm | exact mtA3 hm | exact mtA4 hm | exact mtA5 hm | exact mtA6 hm | exact mtA7 hm | exact ruA1 hr | exact ruA2 hr | exact ruA3 hr) (by omega) (by first | decide | omega) ?_
          rotate_left
          rw [ea]
          refine pw_isub 116 rfl dX12_ways_115 ?_
          refine pw_mabs 119 rfl dX12_ways_116 mX12_282 (Nat.le_of_ble_eq_true rfl) ?_
          rotate_left
          rw [nI_dist (by omega) (by omega)]
          first | refine pw_iaddN 120 rfl dX12_ways_119 ?_ | refine pw_iadd 120 rfl dX12_ways_119 ?_
          refine pw_iastN 121 rfl dX12_ways_120 (by first | rfl | assumption | exact rowS hh | exact mtS hm | exact ruS hr | exact mtA1 hm | exact mtA2 hm | exact mtA3 hm | exact mtA4 hm | exact mtA5 hm | exact mtA6 hm | exact mtA7 hm | exact ruA1 hr | exact ruA2 hr | exact ruA3 hr) (by omega) (by first | decide | omega) ?_
          refine pw_iincN 124 rfl dX12_ways_121 (by decide) rfl ?_
          refine pw_goto (tgt := 84) dX12_ways_124 rfl ?_
          rotate_left
          refine ih4 _ (fun q hq => ?_) (fun a j q => by rw [uI_ne (by omega)]; exact o2 a j q)
          by_cases e : q = k
          · subst e
            rw [uI_eq, if_pos (by omega), hG1]
          · rw [uI_ne (by omega), o1 q hq]
            by_cases e2 : q < k
            · rw [if_pos e2, if_pos (by omega)]
            · rw [if_neg e2, if_neg (by omega)]
    · intro k hk ih I' m1 m2
      have hn' : I' 0 1 = nI n := by rw [m2 _ _ (by decide)]; exact hn
      refine pw_iload_n 22 rfl dX12_ways_21 rfl ?_
      refine pw_aload_n 23 rfl dX12_ways_22 rfl ?_
      refine pw_getI 26 rfl dX12_ways_23 fX12_95 (by first | rfl | assumption | exact rowS hh | exact mtS hm | exact ruS hr | exact mtA1 hm | exact mtA2 hm | exact mtA3 hm | exact mtA4 hm | exact mtA5 hm | exact mtA6 hm | exact mtA7 hm | exact ruA1 hr | exact ruA2 hr | exact ruA3 hr) rfl ?_
      refine pw_icmp_ge (tgt := 42) 29 rfl dX12_ways_26 rfl (fun h26 => absurd h26 (by rw [hn']; (simp (disch := omega) only [nI_leI, nI_ltI, nI_eq, show (0 : Int32) = nI 0 from rfl, not_true_eq_false, not_false_eq_true] <;> omega))) (fun h26 => ?_)
      refine pw_aload_n 30 rfl dX12_ways_29 rfl ?_
      refine pw_getR 33 rfl dX12_ways_30 fX12_57 (by first | rfl | assumption | exact rowS hh | exact mtS hm | exact ruS hr | exact mtA1 hm | exact mtA2 hm | exact mtA3 hm | exact mtA4 hm | exact mtA5 hm | exact mtA6 hm | exact mtA7 hm | exact ruA1 hr | exact ruA2 hr | exact ruA3 hr) rfl (by first | rfl | assumption | exact mtR0 hm | exact mtR1 hm | exact mtR2 hm | exact mtR3 hm | exact mtR4 hm | exact mtR5 hm | exact mtR6 hm | exact ruR0 hr | exact ruR1 hr | exact ruR3 hr) ?_
      refine pw_iload_n 34 rfl dX12_ways_33 rfl ?_
      refine pw_iconst (v := nI 0) 35 rfl dX12_ways_34 rfl ?_
      refine pw_iastN 36 rfl dX12_ways_35 (by first | rfl | assumption | exact rowS hh | exact mtS hm | exact ruS hr | exact mtA1 hm | exact mtA2 hm | exact mtA3 hm | exact mtA4 hm | exact mtA5 hm | exact mtA6 hm | exact mtA7 hm | exact ruA1 hr | exact ruA2 hr | exact ruA3 hr) (by omega) (by first | decide | omega) ?_
      refine pw_iincN 39 rfl dX12_ways_36 (by decide) rfl ?_
      refine pw_goto (tgt := 21) dX12_ways_39 rfl ?_
      rotate_left
      refine ih _ (fun q hq => ?_) (fun a j q => by rw [uI_ne (by omega)]; exact m2 a j q)
      by_cases e : q = k
      · subst e; exact uI_eq _ _ _ _
      · rw [uI_ne (by omega)]; exact m1 q (by omega)
  · refine pw_iload_n 6 rfl dX12_ways_5 rfl ?_
    refine pw_iconst (v := nI 1) 7 rfl dX12_ways_6 rfl ?_
    refine pw_bipush (v := nI 99) 9 rfl dX12_ways_7 rfl ?_
    refine pw_callSP (as := [_, _, _]) 12 rfl dX12_ways_9 mX12_98 sX12_in (m_in (d := d) _ _ _) ⟨rfl, by decide, by decide, show (parseMethodDescriptor yX12_in.desc).map (fun d => d.parameters.length) = some 3 by decide +kernel⟩ (by omega) (by decide) (Nat.le_of_ble_eq_true rfl) rfl ?_
    refine pw_if_ne (tgt := 17) 15 rfl dX12_ways_12 rfl (fun h12 => absurd (by rw [inV_n ho]; rfl) h12) (fun h12 => ?_)
    refine pw_iconst (v := -1) 16 rfl dX12_ways_15 rfl ?_
    refine pw_iret dX12_ways_16 rfl ?_
    rotate_left
    exact moQ (by unfold qWays; rw [hi]; rfl) rfl hA0 (hD0.mono (by omega)) ⟨rd, rfl⟩
