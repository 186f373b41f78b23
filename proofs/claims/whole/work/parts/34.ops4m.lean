set_option maxRecDepth 100000 in
set_option maxHeartbeats 2000000 in
theorem mo_empty {d g : Nat} {s : aSt} {rd : Option Nat} {I : pI} {J : pJ} (hA : MA I J s) (hD : MDg g I) (hg : g ≤ 500000000) (hW : WA s)  : PC SM (d + 245) yX12_empty cX12_empty 2 (some .int) [.ref 0] (I) (J) (RM rd (some 6)) (moP (g + 10000) (qOp qEmpty s)) := by
  refine PC.of [some (.ref 0), none] rfl rfl (Nat.le_of_ble_eq_true rfl) ?_
  obtain ⟨n, pc, b, us, kp, rw, tx, rt, hd, sw⟩ := s
  refine pw_aload_n 1 rfl dX12_empty_0 rfl ?_
  refine pw_iconst (v := nI 0) 2 rfl dX12_empty_1 rfl ?_
  refine pw_putI 5 rfl dX12_empty_2 fX12_88 w12_7 (by first | rfl | assumption | exact rowS hh | exact mtS hm | exact ruS hr | exact mtA1 hm | exact mtA2 hm | exact mtA3 hm | exact mtA4 hm | exact mtA5 hm | exact mtA6 hm | exact mtA7 hm | exact ruA1 hr | exact ruA2 hr | exact ruA3 hr) rfl rfl rfl ?_
  rotate_left
  have hA0 := MA_thr (v := nI 0) hA
  have hD0 : MDg g (uI I 0 7 (nI 0)) := MDg_f hD (uI_ne (by omega)) (fun j => uI_ne (by omega))
  clear hA hD
  generalize uI I 0 7 (nI 0) = I at hA0 hD0 ⊢
  obtain ⟨mC, mB, mT, mN, mR, mU, mK, mH, mG⟩ := id hA0
  obtain ⟨aW, aU, aK⟩ := id hW
  have hE := MSt_A hA0
  have hn7 := mC.1
  have hn := mC.2.1
  generalize hP : (fun k => decide (bts (fun q => decide (hrs n pc (ruE rt) k b (7 + q) ≠ 0)) n = 0)) = P
  have hPk : ∀ k, P k = decide (bts (fun q => decide (hrs n pc (ruE rt) k b (7 + q) ≠ 0)) n = 0) := fun k => by rw [← hP]
  refine pw_aload_n 6 rfl dX12_empty_5 rfl ?_
  refine pw_getR 9 rfl dX12_empty_6 fX12_9 (by first | rfl | assumption | exact rowS hh | exact mtS hm | exact ruS hr | exact mtA1 hm | exact mtA2 hm | exact mtA3 hm | exact mtA4 hm | exact mtA5 hm | exact mtA6 hm | exact mtA7 hm | exact ruA1 hr | exact ruA2 hr | exact ruA3 hr) rfl (by first | rfl | assumption | exact mtR0 hm | exact mtR1 hm | exact mtR2 hm | exact mtR3 hm | exact mtR4 hm | exact mtR5 hm | exact mtR6 hm | exact ruR0 hr | exact ruR1 hr | exact ruR3 hr) ?_
  refine pw_aload_n 10 rfl dX12_empty_9 rfl ?_
  refine pw_getR 13 rfl dX12_empty_10 fX12_42 (by first | rfl | assumption | exact rowS hh | exact mtS hm | exact ruS hr | exact mtA1 hm | exact mtA2 hm | exact mtA3 hm | exact mtA4 hm | exact mtA5 hm | exact mtA6 hm | exact mtA7 hm | exact ruA1 hr | exact ruA2 hr | exact ruA3 hr) rfl (by first | rfl | assumption | exact mtR0 hm | exact mtR1 hm | exact mtR2 hm | exact mtR3 hm | exact mtR4 hm | exact mtR5 hm | exact mtR6 hm | exact ruR0 hr | exact ruR1 hr | exact ruR3 hr) ?_
  refine pw_iconst (v := nI 0) 14 rfl dX12_empty_13 rfl ?_
  refine pw_callS (as := [_, _, _]) 17 rfl dX12_empty_14 mX12_219 sX12_lay (m_layT (d := d + 244) mB) ⟨rfl, by decide, by decide, show (parseMethodDescriptor yX12_lay.desc).map (fun d => d.parameters.length) = some 3 by decide +kernel⟩ (by omega) (by decide) (Nat.le_of_ble_eq_true rfl) rfl (fun r14 I14 J14 R14 c14 => ?_)
  obtain ⟨rfl, k1, k2, rfl, rfl⟩ := c14
  rotate_left
  refine pw_iconst (v := nI 0) 18 rfl dX12_empty_17 rfl ?_
  refine pw_istore_n 19 rfl dX12_empty_18 (by decide) ?_
  rotate_left
  have L := nat_loop 100 (fun t => ∀ (I' : pI) (rd' : Option Nat), (∀ j, j < t → P j = false) → MB I' 11 (hrs n pc (ruE rt) t b) → mFr 11 I I' → MDg (g + 7 * t) I' → PW SM yX12_empty.cls cX12_empty 2 (d + 245) 19 [some (.ref 0), some (.int (nI t))] [] I' J (RM rd' (some 6)) (rX cX12_empty (some .int) (moP (g + 10000) (qOp qEmpty (n, pc, b, us, kp, rw, tx, rt, hd, sw))))) ?_ ?_
  · exact L _ rd (fun j hj => by omega) k1 (mFr_lay k2) (MDg_f hD0 (k2 _ _ (by decide)) (fun j => k2 _ _ (by decide)))
  · intro I' rd' m0 m1 m2 m3
    have eq : qEmpty n pc b (ruE rt) rw hd sw = (-2, rw) := by unfold qEmpty; rw [hP, fstL_none m0]; rfl
    refine pw_iload_n 20 rfl dX12_empty_19 rfl ?_
    refine pw_bipush (v := nI 99) 22 rfl dX12_empty_20 rfl ?_
    refine pw_icmp_gt (tgt := 69) 25 rfl dX12_empty_22 rfl (fun h22 => ?_) (fun h22 => absurd (by (simp (disch := omega) only [nI_leI, nI_ltI, nI_eq, show (0 : Int32) = nI 0 from rfl, not_true_eq_false, not_false_eq_true] <;> omega)) h22)
    refine pw_bipush (v := -2) 71 rfl dX12_empty_69 rfl ?_
    refine pw_iret dX12_empty_71 rfl ?_
    rotate_left
    exact moQ eq rfl (MA_rw hA0 (fMs_mFr m2) (MN_mFr mN m2)) (m3.mono (by omega)) ⟨rd', rfl⟩
  · intro t ht ih I' rd' m0 m1 m2 m3
    have hWt := WF_hrs (ruE rt) aW.1 t
    have hn' : I' 0 1 = nI n := by rw [m2 _ _ (by omega) (by omega) (by omega) (by omega) (by omega)]; exact hn
    have hlt := bts_lt (fun q => decide (hrs n pc (ruE rt) t b (7 + q) ≠ 0)) n
    have hl7 : 2 ^ n ≤ 2 ^ 7 := Nat.pow_le_pow_right (by decide) hn7
    by_cases hp : bts (fun q => decide (hrs n pc (ruE rt) t b (7 + q) ≠ 0)) n = 0
    · have eq : qEmpty n pc b (ruE rt) rw hd sw = (nI t, [lI (hrs n pc (ruE rt) t b 29)]) := by unfold qEmpty; rw [hP, fstL_at ht m0 (by rw [hPk]; exact decide_eq_true hp)]; rfl
      refine pw_iload_n 20 rfl dX12_empty_19 rfl ?_
      refine pw_bipush (v := nI 99) 22 rfl dX12_empty_20 rfl ?_
      refine pw_icmp_gt (tgt := 69) 25 rfl dX12_empty_22 rfl (fun h22 => absurd h22 (by (simp (disch := omega) only [nI_leI, nI_ltI, nI_eq, show (0 : Int32) = nI 0 from rfl, not_true_eq_false, not_false_eq_true] <;> omega))) (fun h22 => ?_)
      refine pw_aload_n 26 rfl dX12_empty_25 rfl ?_
      refine pw_aload_n 27 rfl dX12_empty_26 rfl ?_
      refine pw_getR 30 rfl dX12_empty_27 fX12_42 (by first | rfl | assumption | exact rowS hh | exact mtS hm | exact ruS hr | exact mtA1 hm | exact mtA2 hm | exact mtA3 hm | exact mtA4 hm | exact mtA5 hm | exact mtA6 hm | exact mtA7 hm | exact ruA1 hr | exact ruA2 hr | exact ruA3 hr) rfl (by first | rfl | assumption | exact mtR0 hm | exact mtR1 hm | exact mtR2 hm | exact mtR3 hm | exact mtR4 hm | exact mtR5 hm | exact mtR6 hm | exact ruR0 hr | exact ruR1 hr | exact ruR3 hr) ?_
      refine pw_callVP (as := [_]) 33 rfl dX12_empty_30 mX12_240 vX12_walking (m_walking (d := d + 244) (Or.inr rfl) hn' hn7 (WF_way hWt) m1) (by first | rfl | assumption | exact rowS hh | exact mtS hm | exact ruS hr | exact mtA1 hm | exact mtA2 hm | exact mtA3 hm | exact mtA4 hm | exact mtA5 hm | exact mtA6 hm | exact mtA7 hm | exact ruA1 hr | exact ruA2 hr | exact ruA3 hr) rfl (by decide) ⟨rfl, by decide, by decide, show (parseMethodDescriptor yX12_walking.desc).map (fun d => d.parameters.length) = some 1 by decide +kernel⟩ (by omega) (by decide) (Nat.le_of_ble_eq_true rfl) rfl ?_
      refine pw_if_ne (tgt := 55) 36 rfl dX12_empty_33 rfl (fun h33 => absurd (by rw [hp]; rfl) h33) (fun h33 => ?_)
      refine pw_aload_n 37 rfl dX12_empty_36 rfl ?_
      refine pw_iconst (v := nI 0) 38 rfl dX12_empty_37 rfl ?_
      refine pw_putI 41 rfl dX12_empty_38 fX12_92 w12_6 (by first | rfl | assumption | exact rowS hh | exact mtS hm | exact ruS hr | exact mtA1 hm | exact mtA2 hm | exact mtA3 hm | exact mtA4 hm | exact mtA5 hm | exact mtA6 hm | exact mtA7 hm | exact ruA1 hr | exact ruA2 hr | exact ruA3 hr) rfl rfl rfl ?_
      rotate_left
      refine pw_aload_n 42 rfl dX12_empty_41 rfl ?_
      refine pw_aload_n 43 rfl dX12_empty_42 rfl ?_
      refine pw_getR 46 rfl dX12_empty_43 fX12_42 (by first | rfl | assumption | exact rowS hh | exact mtS hm | exact ruS hr | exact mtA1 hm | exact mtA2 hm | exact mtA3 hm | exact mtA4 hm | exact mtA5 hm | exact mtA6 hm | exact mtA7 hm | exact ruA1 hr | exact ruA2 hr | exact ruA3 hr) rfl (by first | rfl | assumption | exact mtR0 hm | exact mtR1 hm | exact mtR2 hm | exact mtR3 hm | exact mtR4 hm | exact mtR5 hm | exact mtR6 hm | exact ruR0 hr | exact ruR1 hr | exact ruR3 hr) ?_
      refine pw_bipush (v := nI 29) 48 rfl dX12_empty_46 rfl ?_
      refine pw_ialdN 49 rfl dX12_empty_48 (by first | rfl | assumption | exact rowS hh | exact mtS hm | exact ruS hr | exact mtA1 hm | exact mtA2 hm | exact mtA3 hm | exact mtA4 hm | exact mtA5 hm | exact mtA6 hm | exact mtA7 hm | exact ruA1 hr | exact ruA2 hr | exact ruA3 hr) (by omega) (by first | decide | omega) ?_
      rotate_left
      rw [uI_ne (by omega), m1 29 (by omega)]
      refine pw_i2l 50 rfl dX12_empty_49 ?_
      refine pw_callV (as := [_]) 53 rfl dX12_empty_50 mX12_236 vX12_tell (m_tell (d := d + 244) MN_0 (by decide)) (by first | rfl | assumption | exact rowS hh | exact mtS hm | exact ruS hr | exact mtA1 hm | exact mtA2 hm | exact mtA3 hm | exact mtA4 hm | exact mtA5 hm | exact mtA6 hm | exact mtA7 hm | exact ruA1 hr | exact ruA2 hr | exact ruA3 hr) rfl (by decide) ⟨rfl, by decide, by decide, show (parseMethodDescriptor yX12_tell.desc).map (fun d => d.parameters.length) = some 1 by decide +kernel⟩ (by omega) (by decide) (Nat.le_of_ble_eq_true rfl) rfl (fun r50 I50 J50 R50 c50 => ?_)
      obtain ⟨rfl, t1, t2, rfl⟩ := c50
      rotate_left
      have hf1 : ∀ a j, ¬ (a = 0 ∧ j = 6) → I50 a j = I' a j := fun a j q => by rw [t2 a j q, uI_ne (by omega)]
      refine pw_iload_n 54 rfl dX12_empty_53 rfl ?_
      refine pw_iret dX12_empty_54 rfl ?_
      rotate_left
      exact moQ eq rfl (MA_rw hA0 (fun a j q => by rw [hf1 a j (by omega)]; exact fMs_mFr m2 a j q) t1) ((MDg_f m3 (hf1 _ _ (by omega)) (fun j => hf1 _ _ (by omega))).mono (by omega)) ⟨rd', rfl⟩
    · refine pw_iload_n 20 rfl dX12_empty_19 rfl ?_
      refine pw_bipush (v := nI 99) 22 rfl dX12_empty_20 rfl ?_
      refine pw_icmp_gt (tgt := 69) 25 rfl dX12_empty_22 rfl (fun h22 => absurd h22 (by (simp (disch := omega) only [nI_leI, nI_ltI, nI_eq, show (0 : Int32) = nI 0 from rfl, not_true_eq_false, not_false_eq_true] <;> omega))) (fun h22 => ?_)
      refine pw_aload_n 26 rfl dX12_empty_25 rfl ?_
      refine pw_aload_n 27 rfl dX12_empty_26 rfl ?_
      refine pw_getR 30 rfl dX12_empty_27 fX12_42 (by first | rfl | assumption | exact rowS hh | exact mtS hm | exact ruS hr | exact mtA1 hm | exact mtA2 hm | exact mtA3 hm | exact mtA4 hm | exact mtA5 hm | exact mtA6 hm | exact mtA7 hm | exact ruA1 hr | exact ruA2 hr | exact ruA3 hr) rfl (by first | rfl | assumption | exact mtR0 hm | exact mtR1 hm | exact mtR2 hm | exact mtR3 hm | exact mtR4 hm | exact mtR5 hm | exact mtR6 hm | exact ruR0 hr | exact ruR1 hr | exact ruR3 hr) ?_
      refine pw_callVP (as := [_]) 33 rfl dX12_empty_30 mX12_240 vX12_walking (m_walking (d := d + 244) (Or.inr rfl) hn' hn7 (WF_way hWt) m1) (by first | rfl | assumption | exact rowS hh | exact mtS hm | exact ruS hr | exact mtA1 hm | exact mtA2 hm | exact mtA3 hm | exact mtA4 hm | exact mtA5 hm | exact mtA6 hm | exact mtA7 hm | exact ruA1 hr | exact ruA2 hr | exact ruA3 hr) rfl (by decide) ⟨rfl, by decide, by decide, show (parseMethodDescriptor yX12_walking.desc).map (fun d => d.parameters.length) = some 1 by decide +kernel⟩ (by omega) (by decide) (Nat.le_of_ble_eq_true rfl) rfl ?_
      refine pw_if_ne (tgt := 55) 36 rfl dX12_empty_33 rfl (fun h33 => ?_) (fun h33 => absurd h33 (nI_ne0 (by omega) (by omega)))
      refine pw_aload_n 56 rfl dX12_empty_55 rfl ?_
      refine pw_aload_n 57 rfl dX12_empty_56 rfl ?_
      refine pw_getR 60 rfl dX12_empty_57 fX12_42 (by first | rfl | assumption | exact rowS hh | exact mtS hm | exact ruS hr | exact mtA1 hm | exact mtA2 hm | exact mtA3 hm | exact mtA4 hm | exact mtA5 hm | exact mtA6 hm | exact mtA7 hm | exact ruA1 hr | exact ruA2 hr | exact ruA3 hr) rfl (by first | rfl | assumption | exact mtR0 hm | exact mtR1 hm | exact mtR2 hm | exact mtR3 hm | exact mtR4 hm | exact mtR5 hm | exact mtR6 hm | exact ruR0 hr | exact ruR1 hr | exact ruR3 hr) ?_
      refine pw_callV (as := [_]) 63 rfl dX12_empty_60 mX12_230 vX12_goHour (m_hour (d := d + 7) (mC.fr m2 (Or.inr rfl)) m1 hWt (MSt_mFr hE m2) m3 (by omega)) (by first | rfl | assumption | exact rowS hh | exact mtS hm | exact ruS hr | exact mtA1 hm | exact mtA2 hm | exact mtA3 hm | exact mtA4 hm | exact mtA5 hm | exact mtA6 hm | exact mtA7 hm | exact ruA1 hr | exact ruA2 hr | exact ruA3 hr) rfl (by decide) ⟨rfl, by decide, by decide, show (parseMethodDescriptor yX12_goHour.desc).map (fun d => d.parameters.length) = some 1 by decide +kernel⟩ (by omega) (by decide) (Nat.le_of_ble_eq_true rfl) rfl (fun r60 I60 J60 R60 c60 => ?_)
      obtain ⟨rfl, p1, p2, p3, rfl, rd2, rfl⟩ := c60
      rotate_left
      refine pw_iincN 66 rfl dX12_empty_63 (by decide) rfl ?_
      refine pw_goto (tgt := 19) dX12_empty_66 rfl ?_
      rotate_left
      refine ih I60 rd2 (fun j hj => ?_) p1 (m2.trans p2) (p3.mono (by omega))
      by_cases e : j = t
      · subst e; rw [hPk]; exact decide_eq_false hp
      · exact m0 j (by omega)
theorem dnb_way {n q : Nat} {pc b : Nat → Nat} (E : (Nat → Int32) → Nat) (hW : WF n pc b) (hq : q < n) : (dnb n pc E b).testBit q = decide (b (7 + q) ≠ 0 ∧ hr n pc E b (7 + q) = 0) := by
  have h7 := hW.1
  have hb := (hW.2.2.2.2 q (by omega)).2.2.1
  rw [dnb, bts_bit, decide_eq_true hq, Bool.true_and]
  have e : hr n pc E b (7 + q) = hY (sts n pc b E) b q := by
    show hrow n _ b (7 + q) = _
    rw [hrow_w (by omega), if_pos hq]
  rw [e, hY]
  have hv : hV (sts n pc b E) b q = 0 ↔ b (7 + q) = 0 := by
    unfold hV
    by_cases c : b (7 + q) = 1 ∧ hH (sts n pc b E) b q = b 28
    · rw [if_pos c]; omega
    · rw [if_neg c]
  cases c : hC (sts n pc b E) b q
  · rw [if_neg (by decide)]
    symm
    apply decide_eq_false
    rintro ⟨z1, z2⟩
    exact z1 (hv.mp z2)
  · rw [if_pos rfl]
    symm
    apply decide_eq_true
    refine ⟨fun z => ?_, rfl⟩
    have := hv.mpr z
    rw [hC, decide_eq_true_eq] at c
    omega
set_option maxRecDepth 100000 in
set_option maxHeartbeats 2000000 in
theorem mo_comes {d g : Nat} {s : aSt} {rd : Option Nat} {I : pI} {J : pJ} (hA : MA I J s) (hD : MDg g I) (hg : g ≤ 500000000) (hW : WA s) (w : Int32) : PC SM (d + 245) yX12_comes cX12_comes 6 (some .int) [.ref 0, .int w] (I) (J) (RM rd (some 6)) (moP (g + 10000) (qOp (qComes w) s)) := by
  refine PC.of [some (.ref 0), some (.int w), none, none, none, none] rfl rfl (Nat.le_of_ble_eq_true rfl) ?_
  obtain ⟨n, pc, b, us, kp, rw, tx, rt, hd, sw⟩ := s
  refine pw_aload_n 1 rfl dX12_comes_0 rfl ?_
  refine pw_iconst (v := nI 0) 2 rfl dX12_comes_1 rfl ?_
  refine pw_putI 5 rfl dX12_comes_2 fX12_88 w12_7 (by first | rfl | assumption | exact rowS hh | exact mtS hm | exact ruS hr | exact mtA1 hm | exact mtA2 hm | exact mtA3 hm | exact mtA4 hm | exact mtA5 hm | exact mtA6 hm | exact mtA7 hm | exact ruA1 hr | exact ruA2 hr | exact ruA3 hr) rfl rfl rfl ?_
  rotate_left
  have hA0 := MA_thr (v := nI 0) hA
  have hD0 : MDg g (uI I 0 7 (nI 0)) := MDg_f hD (uI_ne (by omega)) (fun j => uI_ne (by omega))
  clear hA hD
  generalize uI I 0 7 (nI 0) = I at hA0 hD0 ⊢
  obtain ⟨mC, mB, mT, mN, mR, mU, mK, mH, mG⟩ := id hA0
  obtain ⟨aW, aU, aK⟩ := id hW
  have hE := MSt_A hA0
  have hn7 := mC.1
  have hn := mC.2.1
  rcases qOf_cases hn7 w with ⟨q, hq, rfl, hi, hh⟩ | ⟨hi, hh⟩
  · generalize hP : (fun k => (dnb n pc (ruE rt) (hrs n pc (ruE rt) k b)).testBit q) = P
    have hPk : ∀ k, P k = decide (hrs n pc (ruE rt) k b (7 + q) ≠ 0 ∧ hrs n pc (ruE rt) (k + 1) b (7 + q) = 0) := fun k => by
      rw [← hP]
      exact dnb_way (ruE rt) (WF_hrs (ruE rt) aW.1 k) hq
    have eq : qComes (nI q) n pc b (ruE rt) rw hd sw = (fstP P (fun k => k + 1) 99, if cntP P 99 = 0 then rw else [lI (cntP P 99)]) := by unfold qComes; rw [hi, ← hP]; rfl
    refine pw_aload_n 6 rfl dX12_comes_5 rfl ?_
    refine pw_iload_n 7 rfl dX12_comes_6 rfl ?_
    refine pw_callVP (as := [_]) 10 rfl dX12_comes_7 mX12_205 vX12_isOne (m_isOne (d := d + 243) hn hn7 _) (by first | rfl | assumption | exact rowS hh | exact mtS hm | exact ruS hr | exact mtA1 hm | exact mtA2 hm | exact mtA3 hm | exact mtA4 hm | exact mtA5 hm | exact mtA6 hm | exact mtA7 hm | exact ruA1 hr | exact ruA2 hr | exact ruA3 hr) rfl (by decide) ⟨rfl, by decide, by decide, show (parseMethodDescriptor yX12_isOne.desc).map (fun d => d.parameters.length) = some 1 by decide +kernel⟩ (by omega) (by decide) (Nat.le_of_ble_eq_true rfl) rfl ?_
    refine pw_if_ne (tgt := 15) 13 rfl dX12_comes_10 rfl (fun h10 => ?_) (fun h10 => absurd h10 (by rw [hh]; decide))
    refine pw_aload_n 16 rfl dX12_comes_15 rfl ?_
    refine pw_getR 19 rfl dX12_comes_16 fX12_9 (by first | rfl | assumption | exact rowS hh | exact mtS hm | exact ruS hr | exact mtA1 hm | exact mtA2 hm | exact mtA3 hm | exact mtA4 hm | exact mtA5 hm | exact mtA6 hm | exact mtA7 hm | exact ruA1 hr | exact ruA2 hr | exact ruA3 hr) rfl (by first | rfl | assumption | exact mtR0 hm | exact mtR1 hm | exact mtR2 hm | exact mtR3 hm | exact mtR4 hm | exact mtR5 hm | exact mtR6 hm | exact ruR0 hr | exact ruR1 hr | exact ruR3 hr) ?_
    refine pw_aload_n 20 rfl dX12_comes_19 rfl ?_
    refine pw_getR 23 rfl dX12_comes_20 fX12_42 (by first | rfl | assumption | exact rowS hh | exact mtS hm | exact ruS hr | exact mtA1 hm | exact mtA2 hm | exact mtA3 hm | exact mtA4 hm | exact mtA5 hm | exact mtA6 hm | exact mtA7 hm | exact ruA1 hr | exact ruA2 hr | exact ruA3 hr) rfl (by first | rfl | assumption | exact mtR0 hm | exact mtR1 hm | exact mtR2 hm | exact mtR3 hm | exact mtR4 hm | exact mtR5 hm | exact mtR6 hm | exact ruR0 hr | exact ruR1 hr | exact ruR3 hr) ?_
    refine pw_iconst (v := nI 0) 24 rfl dX12_comes_23 rfl ?_
    refine pw_callS (as := [_, _, _]) 27 rfl dX12_comes_24 mX12_219 sX12_lay (m_layT (d := d + 244) mB) ⟨rfl, by decide, by decide, show (parseMethodDescriptor yX12_lay.desc).map (fun d => d.parameters.length) = some 3 by decide +kernel⟩ (by omega) (by decide) (Nat.le_of_ble_eq_true rfl) rfl (fun r24 I24 J24 R24 c24 => ?_)
    obtain ⟨rfl, k1, k2, rfl, rfl⟩ := c24
    rotate_left
    refine pw_bipush (v := -2) 29 rfl dX12_comes_27 rfl ?_
    refine pw_istore_n 30 rfl dX12_comes_29 (by decide) ?_
    refine pw_iconst (v := nI 0) 31 rfl dX12_comes_30 rfl ?_
    refine pw_istore_n 32 rfl dX12_comes_31 (by decide) ?_
    refine pw_iconst (v := nI 1) 33 rfl dX12_comes_32 rfl ?_
    refine pw_istore 35 rfl dX12_comes_33 (by decide) ?_
    rotate_left
    have L := nat_loop 99 (fun t => ∀ (I' : pI) (rd' : Option Nat) (x : Option Value), MB I' 11 (hrs n pc (ruE rt) t b) → mFr 11 I I' → MDg (g + 7 * t) I' → PW SM yX12_comes.cls cX12_comes 6 (d + 245) 35 [some (.ref 0), some (.int (nI q)), some (.int (fstP P (fun k => k + 1) t)), some (.int (nI (cntP P t))), some (.int (nI (t + 1))), x] [] I' J (RM rd' (some 6)) (rX cX12_comes (some .int) (moP (g + 10000) (qOp (qComes (nI q)) (n, pc, b, us, kp, rw, tx, rt, hd, sw))))) ?_ ?_
    · exact L _ rd none k1 (mFr_lay k2) (MDg_f hD0 (k2 _ _ (by decide)) (fun j => k2 _ _ (by decide)))
    · intro I' rd' x m1 m2 m3
      have hcl := cntP_le P 99
      by_cases h0 : cntP P 99 = 0
      · rw [if_pos h0] at eq
        refine pw_iload 37 rfl dX12_comes_35 rfl ?_
        refine pw_bipush (v := nI 99) 39 rfl dX12_comes_37 rfl ?_
        refine pw_icmp_gt (tgt := 111) 42 rfl dX12_comes_39 rfl (fun h39 => ?_) (fun h39 => absurd (by (simp (disch := omega) only [nI_leI, nI_ltI, nI_eq, show (0 : Int32) = nI 0 from rfl, not_true_eq_false, not_false_eq_true] <;> omega)) h39)
        refine pw_iload_n 112 rfl dX12_comes_111 rfl ?_
        refine pw_bipush (v := -2) 114 rfl dX12_comes_112 rfl ?_
        refine pw_icmp_ne (tgt := 120) 117 rfl dX12_comes_114 rfl (fun h114 => absurd (fstP_0 h0) h114) (fun h114 => ?_)
        refine pw_bipush (v := -2) 119 rfl dX12_comes_117 rfl ?_
        refine pw_iret dX12_comes_119 rfl ?_
        rotate_left
        exact moQ eq (by rw [fstP_0 h0]) (MA_rw hA0 (fMs_mFr m2) (MN_mFr mN m2)) (m3.mono (by omega)) ⟨rd', rfl⟩
      · rw [if_neg h0] at eq
        refine pw_iload 37 rfl dX12_comes_35 rfl ?_
        refine pw_bipush (v := nI 99) 39 rfl dX12_comes_37 rfl ?_
        refine pw_icmp_gt (tgt := 111) 42 rfl dX12_comes_39 rfl (fun h39 => ?_) (fun h39 => absurd (by (simp (disch := omega) only [nI_leI, nI_ltI, nI_eq, show (0 : Int32) = nI 0 from rfl, not_true_eq_false, not_false_eq_true] <;> omega)) h39)
        refine pw_iload_n 112 rfl dX12_comes_111 rfl ?_
        refine pw_bipush (v := -2) 114 rfl dX12_comes_112 rfl ?_
        refine pw_icmp_ne (tgt := 120) 117 rfl dX12_comes_114 rfl (fun h114 => ?_) (fun h114 => absurd h114 (fstP_ne (fun j hj => by show j + 1 < _; omega) (by decide) h0))
        refine pw_aload_n 121 rfl dX12_comes_120 rfl ?_
        refine pw_iconst (v := nI 0) 122 rfl dX12_comes_121 rfl ?_
        refine pw_putI 125 rfl dX12_comes_122 fX12_92 w12_6 (by first | rfl | assumption | exact rowS hh | exact mtS hm | exact ruS hr | exact mtA1 hm | exact mtA2 hm | exact mtA3 hm | exact mtA4 hm | exact mtA5 hm | exact mtA6 hm | exact mtA7 hm | exact ruA1 hr | exact ruA2 hr | exact ruA3 hr) rfl rfl rfl ?_
        rotate_left
        refine pw_aload_n 126 rfl dX12_comes_125 rfl ?_
        refine pw_iload_n 127 rfl dX12_comes_126 rfl ?_
        refine pw_i2l 128 rfl dX12_comes_127 ?_
        refine pw_callV (as := [_]) 131 rfl dX12_comes_128 mX12_236 vX12_tell (m_tell (d := d + 244) MN_0 (by decide)) (by first | rfl | assumption | exact rowS hh | exact mtS hm | exact ruS hr | exact mtA1 hm | exact mtA2 hm | exact mtA3 hm | exact mtA4 hm | exact mtA5 hm | exact mtA6 hm | exact mtA7 hm | exact ruA1 hr | exact ruA2 hr | exact ruA3 hr) rfl (by decide) ⟨rfl, by decide, by decide, show (parseMethodDescriptor yX12_tell.desc).map (fun d => d.parameters.length) = some 1 by decide +kernel⟩ (by omega) (by decide) (Nat.le_of_ble_eq_true rfl) rfl (fun r128 I128 J128 R128 c128 => ?_)
        obtain ⟨rfl, t1, t2, rfl⟩ := c128
        rotate_left
        have hf1 : ∀ a j, ¬ (a = 0 ∧ j = 6) → I128 a j = I' a j := fun a j q => by rw [t2 a j q, uI_ne (by omega)]
        refine pw_iload_n 132 rfl dX12_comes_131 rfl ?_
        refine pw_iret dX12_comes_132 rfl ?_
        rotate_left
        exact moQ eq rfl (MA_rw hA0 (fun a j q => by rw [hf1 a j (by omega)]; exact fMs_mFr m2 a j q) t1) ((MDg_f m3 (hf1 _ _ (by omega)) (fun j => hf1 _ _ (by omega))).mono (by omega)) ⟨rd', rfl⟩
    · intro t ht ih I' rd' x m1 m2 m3
      have hcl := cntP_le P t
      have hWt := WF_hrs (ruE rt) aW.1 t
      have hWt1 := WF_hrs (ruE rt) aW.1 (t + 1)
      have hb0 := WF_way hWt q (by omega)
      have hb1 := WF_way hWt1 q (by omega)
      have e0 : I' 11 (7 + q) = nI (hrs n pc (ruE rt) t b (7 + q)) := m1 _ (by omega)
      have ch := m_hour (d := d + 7) (J := J) (rd := rd') (mC.fr m2 (Or.inr rfl)) m1 hWt (MSt_mFr hE m2) m3 (by omega)
      have fin : ∀ (I2 : pI) (rd2 : Option Nat) (x : Option Value), MB I2 11 (hrs n pc (ruE rt) (t + 1) b) → mFr 11 I I2 → MDg (g + 7 * (t + 1)) I2 → PW SM yX12_comes.cls cX12_comes 6 (d + 245) 105 [some (.ref 0), some (.int (nI q)), some (.int (fstP P (fun k => k + 1) (t + 1))), some (.int (nI (cntP P (t + 1)))), some (.int (nI (t + 1))), x] [] I2 J (RM rd2 (some 6)) (rX cX12_comes (some .int) (moP (g + 10000) (qOp (qComes (nI q)) (n, pc, b, us, kp, rw, tx, rt, hd, sw)))) := by
        intro I2 rd2 x n1 n2 n3
        refine pw_iincN 108 rfl dX12_comes_105 (by decide) rfl ?_
        refine pw_goto (tgt := 35) dX12_comes_108 rfl ?_
        rotate_left
        exact ih I2 rd2 x n1 n2 n3
      by_cases c0 : hrs n pc (ruE rt) t b (7 + q) = 0
      · have hpt : P t = false := by rw [hPk]; exact decide_eq_false (fun z => z.1 c0)
        refine pw_iload 37 rfl dX12_comes_35 rfl ?_
        refine pw_bipush (v := nI 99) 39 rfl dX12_comes_37 rfl ?_
        refine pw_icmp_gt (tgt := 111) 42 rfl dX12_comes_39 rfl (fun h39 => absurd h39 (by (simp (disch := omega) only [nI_leI, nI_ltI, nI_eq, show (0 : Int32) = nI 0 from rfl, not_true_eq_false, not_false_eq_true] <;> omega))) (fun h39 => ?_)
        refine pw_aload_n 43 rfl dX12_comes_42 rfl ?_
        refine pw_getR 46 rfl dX12_comes_43 fX12_42 (by first | rfl | assumption | exact rowS hh | exact mtS hm | exact ruS hr | exact mtA1 hm | exact mtA2 hm | exact mtA3 hm | exact mtA4 hm | exact mtA5 hm | exact mtA6 hm | exact mtA7 hm | exact ruA1 hr | exact ruA2 hr | exact ruA3 hr) rfl (by first | rfl | assumption | exact mtR0 hm | exact mtR1 hm | exact mtR2 hm | exact mtR3 hm | exact mtR4 hm | exact mtR5 hm | exact mtR6 hm | exact ruR0 hr | exact ruR1 hr | exact ruR3 hr) ?_
        refine pw_bipush (v := nI 7) 48 rfl dX12_comes_46 rfl ?_
        refine pw_iload_n 49 rfl dX12_comes_48 rfl ?_
        first | refine pw_iaddN 50 rfl dX12_comes_49 ?_ | refine pw_iadd 50 rfl dX12_comes_49 ?_
        refine pw_ialdN 51 rfl dX12_comes_50 (by first | rfl | assumption | exact rowS hh | exact mtS hm | exact ruS hr | exact mtA1 hm | exact mtA2 hm | exact mtA3 hm | exact mtA4 hm | exact mtA5 hm | exact mtA6 hm | exact mtA7 hm | exact ruA1 hr | exact ruA2 hr | exact ruA3 hr) (by omega) (by first | decide | omega) ?_
        refine pw_if_eq (tgt := 58) 54 rfl dX12_comes_51 rfl (fun h51 => ?_) (fun h51 => absurd (by rw [e0, c0]; rfl) h51)
        refine pw_iconst (v := nI 0) 59 rfl dX12_comes_58 rfl ?_
        refine pw_istore 61 rfl dX12_comes_59 (by decide) ?_
        refine pw_aload_n 62 rfl dX12_comes_61 rfl ?_
        refine pw_aload_n 63 rfl dX12_comes_62 rfl ?_
        refine pw_getR 66 rfl dX12_comes_63 fX12_42 (by first | rfl | assumption | exact rowS hh | exact mtS hm | exact ruS hr | exact mtA1 hm | exact mtA2 hm | exact mtA3 hm | exact mtA4 hm | exact mtA5 hm | exact mtA6 hm | exact mtA7 hm | exact ruA1 hr | exact ruA2 hr | exact ruA3 hr) rfl (by first | rfl | assumption | exact mtR0 hm | exact mtR1 hm | exact mtR2 hm | exact mtR3 hm | exact mtR4 hm | exact mtR5 hm | exact mtR6 hm | exact ruR0 hr | exact ruR1 hr | exact ruR3 hr) ?_
        refine pw_callV (as := [_]) 69 rfl dX12_comes_66 mX12_230 vX12_goHour ch (by first | rfl | assumption | exact rowS hh | exact mtS hm | exact ruS hr | exact mtA1 hm | exact mtA2 hm | exact mtA3 hm | exact mtA4 hm | exact mtA5 hm | exact mtA6 hm | exact mtA7 hm | exact ruA1 hr | exact ruA2 hr | exact ruA3 hr) rfl (by decide) ⟨rfl, by decide, by decide, show (parseMethodDescriptor yX12_goHour.desc).map (fun d => d.parameters.length) = some 1 by decide +kernel⟩ (by omega) (by decide) (Nat.le_of_ble_eq_true rfl) rfl (fun r66 I66 J66 R66 c66 => ?_)
        obtain ⟨rfl, p1, p2, p3, rfl, rd2, rfl⟩ := c66
        rotate_left
        refine pw_iload 71 rfl dX12_comes_69 rfl ?_
        refine pw_if_eq (tgt := 105) 74 rfl dX12_comes_71 rfl (fun h71 => ?_) (fun h71 => absurd rfl h71)
        rotate_left
        rw [fstP_n hpt, cntP_n hpt] at fin
        exact fin I66 rd2 _ p1 (m2.trans p2) (p3.mono (by omega))
      · refine pw_iload 37 rfl dX12_comes_35 rfl ?_
        refine pw_bipush (v := nI 99) 39 rfl dX12_comes_37 rfl ?_
        refine pw_icmp_gt (tgt := 111) 42 rfl dX12_comes_39 rfl (fun h39 => absurd h39 (by (simp (disch := omega) only [nI_leI, nI_ltI, nI_eq, show (0 : Int32) = nI 0 from rfl, not_true_eq_false, not_false_eq_true] <;> omega))) (fun h39 => ?_)
        refine pw_aload_n 43 rfl dX12_comes_42 rfl ?_
        refine pw_getR 46 rfl dX12_comes_43 fX12_42 (by first | rfl | assumption | exact rowS hh | exact mtS hm | exact ruS hr | exact mtA1 hm | exact mtA2 hm | exact mtA3 hm | exact mtA4 hm | exact mtA5 hm | exact mtA6 hm | exact mtA7 hm | exact ruA1 hr | exact ruA2 hr | exact ruA3 hr) rfl (by first | rfl | assumption | exact mtR0 hm | exact mtR1 hm | exact mtR2 hm | exact mtR3 hm | exact mtR4 hm | exact mtR5 hm | exact mtR6 hm | exact ruR0 hr | exact ruR1 hr | exact ruR3 hr) ?_
        refine pw_bipush (v := nI 7) 48 rfl dX12_comes_46 rfl ?_
        refine pw_iload_n 49 rfl dX12_comes_48 rfl ?_
        first | refine pw_iaddN 50 rfl dX12_comes_49 ?_ | refine pw_iadd 50 rfl dX12_comes_49 ?_
        refine pw_ialdN 51 rfl dX12_comes_50 (by first | rfl | assumption | exact rowS hh | exact mtS hm | exact ruS hr | exact mtA1 hm | exact mtA2 hm | exact mtA3 hm | exact mtA4 hm | exact mtA5 hm | exact mtA6 hm | exact mtA7 hm | exact ruA1 hr | exact ruA2 hr | exact ruA3 hr) (by omega) (by first | decide | omega) ?_
        refine pw_if_eq (tgt := 58) 54 rfl dX12_comes_51 rfl (fun h51 => absurd h51 (by rw [e0]; exact nI_ne0 (by omega) (by omega))) (fun h51 => ?_)
        refine pw_iconst (v := nI 1) 55 rfl dX12_comes_54 rfl ?_
        refine pw_goto (tgt := 59) dX12_comes_55 rfl ?_
        refine pw_istore 61 rfl dX12_comes_59 (by decide) ?_
        refine pw_aload_n 62 rfl dX12_comes_61 rfl ?_
        refine pw_aload_n 63 rfl dX12_comes_62 rfl ?_
        refine pw_getR 66 rfl dX12_comes_63 fX12_42 (by first | rfl | assumption | exact rowS hh | exact mtS hm | exact ruS hr | exact mtA1 hm | exact mtA2 hm | exact mtA3 hm | exact mtA4 hm | exact mtA5 hm | exact mtA6 hm | exact mtA7 hm | exact ruA1 hr | exact ruA2 hr | exact ruA3 hr) rfl (by first | rfl | assumption | exact mtR0 hm | exact mtR1 hm | exact mtR2 hm | exact mtR3 hm | exact mtR4 hm | exact mtR5 hm | exact mtR6 hm | exact ruR0 hr | exact ruR1 hr | exact ruR3 hr) ?_
        refine pw_callV (as := [_]) 69 rfl dX12_comes_66 mX12_230 vX12_goHour ch (by first | rfl | assumption | exact rowS hh | exact mtS hm | exact ruS hr | exact mtA1 hm | exact mtA2 hm | exact mtA3 hm | exact mtA4 hm | exact mtA5 hm | exact mtA6 hm | exact mtA7 hm | exact ruA1 hr | exact ruA2 hr | exact ruA3 hr) rfl (by decide) ⟨rfl, by decide, by decide, show (parseMethodDescriptor yX12_goHour.desc).map (fun d => d.parameters.length) = some 1 by decide +kernel⟩ (by omega) (by decide) (Nat.le_of_ble_eq_true rfl) rfl (fun r66 I66 J66 R66 c66 => ?_)
        obtain ⟨rfl, p1, p2, p3, rfl, rd2, rfl⟩ := c66
        rotate_left
        have e1 : I66 11 (7 + q) = nI (hrs n pc (ruE rt) (t + 1) b (7 + q)) := p1 _ (by omega)
        by_cases c1 : hrs n pc (ruE rt) (t + 1) b (7 + q) = 0
        · have hpt : P t = true := by rw [hPk]; exact decide_eq_true ⟨c0, c1⟩
          rw [fstP_y hpt, cntP_y hpt] at fin
          by_cases h0 : cntP P t = 0
          · rw [if_pos h0] at fin
            refine pw_iload 71 rfl dX12_comes_69 rfl ?_
            refine pw_if_eq (tgt := 105) 74 rfl dX12_comes_71 rfl (fun h71 => absurd h71 (by decide)) (fun h71 => ?_)
            refine pw_aload_n 75 rfl dX12_comes_74 rfl ?_
            refine pw_getR 78 rfl dX12_comes_75 fX12_42 (by first | rfl | assumption | exact rowS hh | exact mtS hm | exact ruS hr | exact mtA1 hm | exact mtA2 hm | exact mtA3 hm | exact mtA4 hm | exact mtA5 hm | exact mtA6 hm | exact mtA7 hm | exact ruA1 hr | exact ruA2 hr | exact ruA3 hr) rfl (by first | rfl | assumption | exact mtR0 hm | exact mtR1 hm | exact mtR2 hm | exact mtR3 hm | exact mtR4 hm | exact mtR5 hm | exact mtR6 hm | exact ruR0 hr | exact ruR1 hr | exact ruR3 hr) ?_
            refine pw_bipush (v := nI 7) 80 rfl dX12_comes_78 rfl ?_
            refine pw_iload_n 81 rfl dX12_comes_80 rfl ?_
            first | refine pw_iaddN 82 rfl dX12_comes_81 ?_ | refine pw_iadd 82 rfl dX12_comes_81 ?_
            refine pw_ialdN 83 rfl dX12_comes_82 (by first | rfl | assumption | exact rowS hh | exact mtS hm | exact ruS hr | exact mtA1 hm | exact mtA2 hm | exact mtA3 hm | exact mtA4 hm | exact mtA5 hm | exact mtA6 hm | exact mtA7 hm | exact ruA1 hr | exact ruA2 hr | exact ruA3 hr) (by omega) (by first | decide | omega) ?_
            refine pw_if_eq (tgt := 89) 86 rfl dX12_comes_83 rfl (fun h83 => ?_) (fun h83 => absurd (by rw [e1, c1]; rfl) h83)
            refine pw_iload_n 90 rfl dX12_comes_89 rfl ?_
            refine pw_bipush (v := -2) 92 rfl dX12_comes_90 rfl ?_
            refine pw_icmp_ne (tgt := 100) 95 rfl dX12_comes_92 rfl (fun h92 => absurd (fstP_0 h0) h92) (fun h92 => ?_)
            refine pw_iload 97 rfl dX12_comes_95 rfl ?_
            refine pw_goto (tgt := 101) dX12_comes_97 rfl ?_
            refine pw_istore_n 102 rfl dX12_comes_101 (by decide) ?_
            refine pw_iincN 105 rfl dX12_comes_102 (by decide) rfl ?_
            rotate_left
            exact fin I66 rd2 _ p1 (m2.trans p2) (p3.mono (by omega))
          · rw [if_neg h0] at fin
            refine pw_iload 71 rfl dX12_comes_69 rfl ?_
            refine pw_if_eq (tgt := 105) 74 rfl dX12_comes_71 rfl (fun h71 => absurd h71 (by decide)) (fun h71 => ?_)
            refine pw_aload_n 75 rfl dX12_comes_74 rfl ?_
            refine pw_getR 78 rfl dX12_comes_75 fX12_42 (by first | rfl | assumption | exact rowS hh | exact mtS hm | exact ruS hr | exact mtA1 hm | exact mtA2 hm | exact mtA3 hm | exact mtA4 hm | exact mtA5 hm | exact mtA6 hm | exact mtA7 hm | exact ruA1 hr | exact ruA2 hr | exact ruA3 hr) rfl (by first | rfl | assumption | exact mtR0 hm | exact mtR1 hm | exact mtR2 hm | exact mtR3 hm | exact mtR4 hm | exact mtR5 hm | exact mtR6 hm | exact ruR0 hr | exact ruR1 hr | exact ruR3 hr) ?_
            refine pw_bipush (v := nI 7) 80 rfl dX12_comes_78 rfl ?_
            refine pw_iload_n 81 rfl dX12_comes_80 rfl ?_
            first | refine pw_iaddN 82 rfl dX12_comes_81 ?_ | refine pw_iadd 82 rfl dX12_comes_81 ?_
            refine pw_ialdN 83 rfl dX12_comes_82 (by first | rfl | assumption | exact rowS hh | exact mtS hm | exact ruS hr | exact mtA1 hm | exact mtA2 hm | exact mtA3 hm | exact mtA4 hm | exact mtA5 hm | exact mtA6 hm | exact mtA7 hm | exact ruA1 hr | exact ruA2 hr | exact ruA3 hr) (by omega) (by first | decide | omega) ?_
            refine pw_if_eq (tgt := 89) 86 rfl dX12_comes_83 rfl (fun h83 => ?_) (fun h83 => absurd (by rw [e1, c1]; rfl) h83)
            refine pw_iload_n 90 rfl dX12_comes_89 rfl ?_
            refine pw_bipush (v := -2) 92 rfl dX12_comes_90 rfl ?_
            refine pw_icmp_ne (tgt := 100) 95 rfl dX12_comes_92 rfl (fun h92 => ?_) (fun h92 => absurd h92 (fstP_ne (fun j hj => by show j + 1 < _; omega) (by omega) h0))
            refine pw_iload_n 101 rfl dX12_comes_100 rfl ?_
            refine pw_istore_n 102 rfl dX12_comes_101 (by decide) ?_
            refine pw_iincN 105 rfl dX12_comes_102 (by decide) rfl ?_
            rotate_left
            exact fin I66 rd2 _ p1 (m2.trans p2) (p3.mono (by omega))
        · have hpt : P t = false := by rw [hPk]; exact decide_eq_false (fun z => c1 z.2)
          rw [fstP_n hpt, cntP_n hpt] at fin
          refine pw_iload 71 rfl dX12_comes_69 rfl ?_
          refine pw_if_eq (tgt := 105) 74 rfl dX12_comes_71 rfl (fun h71 => absurd h71 (by decide)) (fun h71 => ?_)
          refine pw_aload_n 75 rfl dX12_comes_74 rfl ?_
          refine pw_getR 78 rfl dX12_comes_75 fX12_42 (by first | rfl | assumption | exact rowS hh | exact mtS hm | exact ruS hr | exact mtA1 hm | exact mtA2 hm | exact mtA3 hm | exact mtA4 hm | exact mtA5 hm | exact mtA6 hm | exact mtA7 hm | exact ruA1 hr | exact ruA2 hr | exact ruA3 hr) rfl (by first | rfl | assumption | exact mtR0 hm | exact mtR1 hm | exact mtR2 hm | exact mtR3 hm | exact mtR4 hm | exact mtR5 hm | exact mtR6 hm | exact ruR0 hr | exact ruR1 hr | exact ruR3 hr) ?_
          refine pw_bipush (v := nI 7) 80 rfl dX12_comes_78 rfl ?_
          refine pw_iload_n 81 rfl dX12_comes_80 rfl ?_
          first | refine pw_iaddN 82 rfl dX12_comes_81 ?_ | refine pw_iadd 82 rfl dX12_comes_81 ?_
          refine pw_ialdN 83 rfl dX12_comes_82 (by first | rfl | assumption | exact rowS hh | exact mtS hm | exact ruS hr | exact mtA1 hm | exact mtA2 hm | exact mtA3 hm | exact mtA4 hm | exact mtA5 hm | exact mtA6 hm | exact mtA7 hm | exact ruA1 hr | exact ruA2 hr | exact ruA3 hr) (by omega) (by first | decide | omega) ?_
          refine pw_if_eq (tgt := 89) 86 rfl dX12_comes_83 rfl (fun h83 => absurd h83 (by rw [e1]; exact nI_ne0 (by omega) (by omega))) (fun h83 => ?_)
          refine pw_goto (tgt := 105) dX12_comes_86 rfl ?_
          rotate_left
          exact fin I66 rd2 _ p1 (m2.trans p2) (p3.mono (by omega))
  · refine pw_aload_n 6 rfl dX12_comes_5 rfl ?_
    refine pw_iload_n 7 rfl dX12_comes_6 rfl ?_
    refine pw_callVP (as := [_]) 10 rfl dX12_comes_7 mX12_205 vX12_isOne (m_isOne (d := d + 243) hn hn7 _) (by first | rfl | assumption | exact rowS hh | exact mtS hm | exact ruS hr | exact mtA1 hm | exact mtA2 hm | exact mtA3 hm | exact mtA4 hm | exact mtA5 hm | exact mtA6 hm | exact mtA7 hm | exact ruA1 hr | exact ruA2 hr | exact ruA3 hr) rfl (by decide) ⟨rfl, by decide, by decide, show (parseMethodDescriptor yX12_isOne.desc).map (fun d => d.parameters.length) = some 1 by decide +kernel⟩ (by omega) (by decide) (Nat.le_of_ble_eq_true rfl) rfl ?_
    refine pw_if_ne (tgt := 15) 13 rfl dX12_comes_10 rfl (fun h10 => absurd (by rw [hh]; rfl) h10) (fun h10 => ?_)
    refine pw_iconst (v := -1) 14 rfl dX12_comes_13 rfl ?_
    refine pw_iret dX12_comes_14 rfl ?_
    rotate_left
    exact moQ (by unfold qComes; rw [hi]; rfl) rfl hA0 (hD0.mono (by omega)) ⟨rd, rfl⟩
