/-! the reference: laws of going -/
set_option maxRecDepth 100000 in
set_option maxHeartbeats 2000000 in
theorem m_stepsBy {d L p : Nat} {I : pI} {J : pJ} {R : pR} (hL : L < 80) (hp : p ≤ 9) : PC SM (d + 1) yX12_stepsBy cX12_stepsBy 2 (some .int) [.int (nI L), .int (nI p)] (I) (J) (R) (pPu (.int (nI (sb L p))) I J R) := by
  refine PC.of [some (.int (nI L)), some (.int (nI p))] rfl rfl (Nat.le_of_ble_eq_true rfl) ?_
  have e1 : p / (L / 4 % 5 + 1) ≤ 9 := Nat.le_trans (Nat.div_le_self _ _) hp
  refine pw_iload_n 1 rfl dX12_stepsBy_0 rfl ?_
  refine pw_iconst (v := nI 4) 2 rfl dX12_stepsBy_1 rfl ?_
  refine pw_iremN 3 rfl dX12_stepsBy_2 (by omega) (by omega) (by omega) ?_
  refine pw_iload_n 4 rfl dX12_stepsBy_3 rfl ?_
  refine pw_bipush (v := nI 20) 6 rfl dX12_stepsBy_4 rfl ?_
  refine pw_idivN 7 rfl dX12_stepsBy_6 (by omega) (by omega) (by omega) ?_
  refine pw_iload_n 8 rfl dX12_stepsBy_7 rfl ?_
  refine pw_iload_n 9 rfl dX12_stepsBy_8 rfl ?_
  refine pw_iconst (v := nI 4) 10 rfl dX12_stepsBy_9 rfl ?_
  refine pw_idivN 11 rfl dX12_stepsBy_10 (by omega) (by omega) (by omega) ?_
  refine pw_iconst (v := nI 5) 12 rfl dX12_stepsBy_11 rfl ?_
  refine pw_iremN 13 rfl dX12_stepsBy_12 (by omega) (by omega) (by omega) ?_
  refine pw_iconst (v := nI 1) 14 rfl dX12_stepsBy_13 rfl ?_
  first | refine pw_iaddN 15 rfl dX12_stepsBy_14 ?_ | refine pw_iadd 15 rfl dX12_stepsBy_14 ?_
  refine pw_idivN 16 rfl dX12_stepsBy_15 (by omega) (by omega) (by omega) ?_
  first | refine pw_iaddN 17 rfl dX12_stepsBy_16 ?_ | refine pw_iadd 17 rfl dX12_stepsBy_16 ?_
  refine pw_mmin 20 rfl dX12_stepsBy_17 mX12_189 (Nat.le_of_ble_eq_true rfl) ?_
  rotate_left
  rw [nI_min (by omega) (by omega)]
  refine pw_iret dX12_stepsBy_20 rfl ?_
  rotate_left
  exact ⟨rfl, rfl, rfl, rfl⟩
theorem sb_le (L p : Nat) : sb L p ≤ 3 := by unfold sb; omega
set_option maxRecDepth 100000 in
set_option maxHeartbeats 2000000 in
theorem m_isLaw {d L : Nat} {sw : List (Nat × Nat)} {rd rl : Option Nat} {I : pI} {J : pJ} (hG : MG I sw) (hL : L < 80) : PC SM (d + 2) yX12_isLaw cX12_isLaw 3 (some .boolean) [.ref 0, .int (nI L)] (I) (J) (RM rd rl) (pPu (.int (nI (if okL sw L = true then 1 else 0))) I J (RM rd rl)) := by
  refine PC.of [some (.ref 0), some (.int (nI L)), none] rfl rfl (Nat.le_of_ble_eq_true rfl) ?_
  obtain ⟨g1, g2, g3⟩ := id hG
  refine pw_iconst (v := nI 0) 1 rfl dX12_isLaw_0 rfl ?_
  refine pw_istore_n 2 rfl dX12_isLaw_1 (by decide) ?_
  rotate_left
  have L1 := nat_loop sw.length (fun k => (sw.take k).all (fun q => decide (sb L q.1 = q.2)) = true → PW SM yX12_isLaw.cls cX12_isLaw 3 (d + 2) 2 [some (.ref 0), some (.int (nI L)), some (.int (nI k))] [] (I) (J) (RM rd rl) (rX cX12_isLaw (some .boolean) (pPu (.int (nI (if okL sw L = true then 1 else 0))) I J (RM rd rl)))) ?_ ?_
  · exact L1 rfl
  · intro h
    rw [List.take_length] at h
    rw [if_pos (show okL sw L = true from h)]
    refine pw_iload_n 3 rfl dX12_isLaw_2 rfl ?_
    refine pw_aload_n 4 rfl dX12_isLaw_3 rfl ?_
    refine pw_getI 7 rfl dX12_isLaw_4 fX12_323 (by first | rfl | assumption | exact rowS hh | exact mtS hm | exact ruS hr | exact mtA1 hm | exact mtA2 hm | exact mtA3 hm | exact mtA4 hm | exact mtA5 hm | exact mtA6 hm | exact mtA7 hm | exact ruA1 hr | exact ruA2 hr | exact ruA3 hr) rfl ?_
    refine pw_icmp_ge (tgt := 37) 10 rfl dX12_isLaw_7 rfl (fun h7 => ?_) (fun h7 => absurd (by rw [g1]; (simp (disch := omega) only [nI_leI, nI_ltI, nI_eq, show (0 : Int32) = nI 0 from rfl, not_true_eq_false, not_false_eq_true] <;> omega)) h7)
    refine pw_iconst (v := nI 1) 38 rfl dX12_isLaw_37 rfl ?_
    refine pw_iret dX12_isLaw_38 rfl ?_
    rotate_left
    exact ⟨rfl, rfl, rfl, rfl⟩
  · intro k hk ih h
    obtain ⟨p, hp⟩ : ∃ p, sw[k]? = some p := ⟨_, List.getElem?_eq_getElem hk⟩
    obtain ⟨e1, e2, e3, e4⟩ := g3 k p hp
    rw [all_take hp, h, Bool.true_and] at ih
    have hsb := sb_le L p.1
    refine pw_iload_n 3 rfl dX12_isLaw_2 rfl ?_
    refine pw_aload_n 4 rfl dX12_isLaw_3 rfl ?_
    refine pw_getI 7 rfl dX12_isLaw_4 fX12_323 (by first | rfl | assumption | exact rowS hh | exact mtS hm | exact ruS hr | exact mtA1 hm | exact mtA2 hm | exact mtA3 hm | exact mtA4 hm | exact mtA5 hm | exact mtA6 hm | exact mtA7 hm | exact ruA1 hr | exact ruA2 hr | exact ruA3 hr) rfl ?_
    refine pw_icmp_ge (tgt := 37) 10 rfl dX12_isLaw_7 rfl (fun h7 => absurd h7 (by rw [g1]; (simp (disch := omega) only [nI_leI, nI_ltI, nI_eq, show (0 : Int32) = nI 0 from rfl, not_true_eq_false, not_false_eq_true] <;> omega))) (fun h7 => ?_)
    refine pw_iload_n 11 rfl dX12_isLaw_10 rfl ?_
    refine pw_aload_n 12 rfl dX12_isLaw_11 rfl ?_
    refine pw_getR 15 rfl dX12_isLaw_12 fX12_69 (by first | rfl | assumption | exact rowS hh | exact mtS hm | exact ruS hr | exact mtA1 hm | exact mtA2 hm | exact mtA3 hm | exact mtA4 hm | exact mtA5 hm | exact mtA6 hm | exact mtA7 hm | exact ruA1 hr | exact ruA2 hr | exact ruA3 hr) rfl (by first | rfl | assumption | exact mtR0 hm | exact mtR1 hm | exact mtR2 hm | exact mtR3 hm | exact mtR4 hm | exact mtR5 hm | exact mtR6 hm | exact ruR0 hr | exact ruR1 hr | exact ruR3 hr) ?_
    refine pw_iload_n 16 rfl dX12_isLaw_15 rfl ?_
    refine pw_ialdN 17 rfl dX12_isLaw_16 (by first | rfl | assumption | exact rowS hh | exact mtS hm | exact ruS hr | exact mtA1 hm | exact mtA2 hm | exact mtA3 hm | exact mtA4 hm | exact mtA5 hm | exact mtA6 hm | exact mtA7 hm | exact ruA1 hr | exact ruA2 hr | exact ruA3 hr) (by omega) (by first | decide | omega) ?_
    rotate_left
    rw [e1]
    refine pw_callSP (as := [_, _]) 20 rfl dX12_isLaw_17 mX12_326 sX12_stepsBy (m_stepsBy (d := d) hL e3) ⟨rfl, by decide, by decide, show (parseMethodDescriptor yX12_stepsBy.desc).map (fun d => d.parameters.length) = some 2 by decide +kernel⟩ (by omega) (by decide) (Nat.le_of_ble_eq_true rfl) rfl ?_
    refine pw_aload_n 21 rfl dX12_isLaw_20 rfl ?_
    refine pw_getR 24 rfl dX12_isLaw_21 fX12_72 (by first | rfl | assumption | exact rowS hh | exact mtS hm | exact ruS hr | exact mtA1 hm | exact mtA2 hm | exact mtA3 hm | exact mtA4 hm | exact mtA5 hm | exact mtA6 hm | exact mtA7 hm | exact ruA1 hr | exact ruA2 hr | exact ruA3 hr) rfl (by first | rfl | assumption | exact mtR0 hm | exact mtR1 hm | exact mtR2 hm | exact mtR3 hm | exact mtR4 hm | exact mtR5 hm | exact mtR6 hm | exact ruR0 hr | exact ruR1 hr | exact ruR3 hr) ?_
    refine pw_iload_n 25 rfl dX12_isLaw_24 rfl ?_
    refine pw_ialdN 26 rfl dX12_isLaw_25 (by first | rfl | assumption | exact rowS hh | exact mtS hm | exact ruS hr | exact mtA1 hm | exact mtA2 hm | exact mtA3 hm | exact mtA4 hm | exact mtA5 hm | exact mtA6 hm | exact mtA7 hm | exact ruA1 hr | exact ruA2 hr | exact ruA3 hr) (by omega) (by first | decide | omega) ?_
    rotate_left
    rw [e2]
    by_cases c : sb L p.1 = p.2
    · refine pw_icmp_eq (tgt := 31) 29 rfl dX12_isLaw_26 rfl (fun h26 => ?_) (fun h26 => absurd (by rw [c]) h26)
      refine pw_iincN 34 rfl dX12_isLaw_31 (by decide) rfl ?_
      refine pw_goto (tgt := 2) dX12_isLaw_34 rfl ?_
      rotate_left
      exact ih (decide_eq_true c)
    · rw [if_neg (show ¬ okL sw L = true from fun z => c (of_decide_eq_true (List.all_eq_true.mp (show sw.all (fun q => decide (sb L q.1 = q.2)) = true from z) p (List.mem_of_getElem? hp))))]
      refine pw_icmp_eq (tgt := 31) 29 rfl dX12_isLaw_26 rfl (fun h26 => absurd h26 (by rw [nI_eq (by omega) (by omega)]; exact c)) (fun h26 => ?_)
      refine pw_iconst (v := nI 0) 30 rfl dX12_isLaw_29 rfl ?_
      refine pw_iret dX12_isLaw_30 rfl ?_
      rotate_left
      exact ⟨rfl, rfl, rfl, rfl⟩
set_option maxRecDepth 100000 in
set_option maxHeartbeats 2000000 in
theorem mo_laws {d g : Nat} {s : aSt} {rd : Option Nat} {I : pI} {J : pJ} (hA : MA I J s) (hD : MDg g I) (hg : g ≤ 500000000) (hW : WA s)  : PC SM (d + 245) yX12_laws cX12_laws 3 (some .int) [.ref 0] (I) (J) (RM rd (some 6)) (moP (g + 10000) (qOp qLaws s)) := by
  refine PC.of [some (.ref 0), none, none] rfl rfl (Nat.le_of_ble_eq_true rfl) ?_
  obtain ⟨n, pc, b, us, kp, rw, tx, rt, hd, sw⟩ := s
  refine pw_aload_n 1 rfl dX12_laws_0 rfl ?_
  refine pw_iconst (v := nI 0) 2 rfl dX12_laws_1 rfl ?_
  refine pw_putI 5 rfl dX12_laws_2 fX12_88 w12_7 (by first | rfl | assumption | exact rowS hh | exact mtS hm | exact ruS hr | exact mtA1 hm | exact mtA2 hm | exact mtA3 hm | exact mtA4 hm | exact mtA5 hm | exact mtA6 hm | exact mtA7 hm | exact ruA1 hr | exact ruA2 hr | exact ruA3 hr) rfl rfl rfl ?_
  rotate_left
  have hA0 := MA_thr (v := nI 0) hA
  have hD0 : MDg g (uI I 0 7 (nI 0)) := MDg_f hD (uI_ne (by omega)) (fun j => uI_ne (by omega))
  clear hA hD
  generalize uI I 0 7 (nI 0) = I at hA0 hD0 ⊢
  obtain ⟨mC, mB, mT, mN, mR, mU, mK, mH, mG⟩ := id hA0
  obtain ⟨aW, aU, aK⟩ := id hW
  have hE := MSt_A hA0
  have hn7 := mC.1
  have hn := mC.2.1
  refine pw_iconst (v := nI 0) 6 rfl dX12_laws_5 rfl ?_
  refine pw_istore_n 7 rfl dX12_laws_6 (by decide) ?_
  refine pw_aload_n 8 rfl dX12_laws_7 rfl ?_
  refine pw_iconst (v := nI 0) 9 rfl dX12_laws_8 rfl ?_
  refine pw_putI 12 rfl dX12_laws_9 fX12_92 w12_6 (by first | rfl | assumption | exact rowS hh | exact mtS hm | exact ruS hr | exact mtA1 hm | exact mtA2 hm | exact mtA3 hm | exact mtA4 hm | exact mtA5 hm | exact mtA6 hm | exact mtA7 hm | exact ruA1 hr | exact ruA2 hr | exact ruA3 hr) rfl rfl rfl ?_
  refine pw_iconst (v := nI 0) 13 rfl dX12_laws_12 rfl ?_
  refine pw_istore_n 14 rfl dX12_laws_13 (by decide) ?_
  rotate_left
  have L := nat_loop 80 (fun k => ∀ (I' : pI) (J' : pJ), MN I' J' (lwO (fstL (okL sw) k)) → (∀ a j, ¬ (a = 0 ∧ j = 6) → I' a j = I a j) → PW SM yX12_laws.cls cX12_laws 3 (d + 245) 14 [some (.ref 0), some (.int (nI (cntP (okL sw) k))), some (.int (nI k))] [] (I') (J') (RM rd (some 6)) (rX cX12_laws (some .int) (moP (g + 10000) (qOp qLaws (n, pc, b, us, kp, rw, tx, rt, hd, sw))))) ?_ ?_
  · exact L _ _ MN_0 (fun a j q => uI_ne (by omega))
  · intro I' J' p1 p2
    refine pw_iload_n 15 rfl dX12_laws_14 rfl ?_
    refine pw_bipush (v := nI 80) 17 rfl dX12_laws_15 rfl ?_
    refine pw_icmp_ge (tgt := 73) 20 rfl dX12_laws_17 rfl (fun h17 => ?_) (fun h17 => absurd (by (simp (disch := omega) only [nI_leI, nI_ltI, nI_eq, show (0 : Int32) = nI 0 from rfl, not_true_eq_false, not_false_eq_true] <;> omega)) h17)
    refine pw_iload_n 74 rfl dX12_laws_73 rfl ?_
    refine pw_iret dX12_laws_74 rfl ?_
    rotate_left
    exact moQ rfl rfl (MA_rw hA0 (fun a j q => p2 a j (by omega)) p1) ((MDg_f hD0 (p2 _ _ (by omega)) (fun j => p2 _ _ (by omega))).mono (by omega)) ⟨rd, rfl⟩
  · intro k hk ih I' J' p1 p2
    have mG' : MG I' sw := MG_f mG (p2 _ _ (by omega)) (fun j => p2 _ _ (by omega)) (fun j => p2 _ _ (by omega))
    have hcl := cntP_le (okL sw) k
    cases ho : okL sw k
    · rw [fstL_n ho, cntP_n ho] at ih
      refine pw_iload_n 15 rfl dX12_laws_14 rfl ?_
      refine pw_bipush (v := nI 80) 17 rfl dX12_laws_15 rfl ?_
      refine pw_icmp_ge (tgt := 73) 20 rfl dX12_laws_17 rfl (fun h17 => absurd h17 (by (simp (disch := omega) only [nI_leI, nI_ltI, nI_eq, show (0 : Int32) = nI 0 from rfl, not_true_eq_false, not_false_eq_true] <;> omega))) (fun h17 => ?_)
      refine pw_aload_n 21 rfl dX12_laws_20 rfl ?_
      refine pw_iload_n 22 rfl dX12_laws_21 rfl ?_
      refine pw_callVP (as := [_]) 25 rfl dX12_laws_22 mX12_329 vX12_isLaw (m_isLaw (d := d + 242) mG' hk) (by first | rfl | assumption | exact rowS hh | exact mtS hm | exact ruS hr | exact mtA1 hm | exact mtA2 hm | exact mtA3 hm | exact mtA4 hm | exact mtA5 hm | exact mtA6 hm | exact mtA7 hm | exact ruA1 hr | exact ruA2 hr | exact ruA3 hr) rfl (by decide) ⟨rfl, by decide, by decide, show (parseMethodDescriptor yX12_isLaw.desc).map (fun d => d.parameters.length) = some 1 by decide +kernel⟩ (by omega) (by decide) (Nat.le_of_ble_eq_true rfl) rfl ?_
      refine pw_if_ne (tgt := 31) 28 rfl dX12_laws_25 rfl (fun h25 => absurd (by rw [ho]; rfl) h25) (fun h25 => ?_)
      refine pw_goto (tgt := 67) dX12_laws_28 rfl ?_
      refine pw_iincN 70 rfl dX12_laws_67 (by decide) rfl ?_
      refine pw_goto (tgt := 14) dX12_laws_70 rfl ?_
      rotate_left
      exact ih I' J' p1 p2
    · rw [cntP_y ho] at ih
      by_cases h0 : cntP (okL sw) k = 0
      · rw [fstL_y h0 ho] at ih
        rw [(fstL_cnt _ _).mpr h0] at p1
        refine pw_iload_n 15 rfl dX12_laws_14 rfl ?_
        refine pw_bipush (v := nI 80) 17 rfl dX12_laws_15 rfl ?_
        refine pw_icmp_ge (tgt := 73) 20 rfl dX12_laws_17 rfl (fun h17 => absurd h17 (by (simp (disch := omega) only [nI_leI, nI_ltI, nI_eq, show (0 : Int32) = nI 0 from rfl, not_true_eq_false, not_false_eq_true] <;> omega))) (fun h17 => ?_)
        refine pw_aload_n 21 rfl dX12_laws_20 rfl ?_
        refine pw_iload_n 22 rfl dX12_laws_21 rfl ?_
        refine pw_callVP (as := [_]) 25 rfl dX12_laws_22 mX12_329 vX12_isLaw (m_isLaw (d := d + 242) mG' hk) (by first | rfl | assumption | exact rowS hh | exact mtS hm | exact ruS hr | exact mtA1 hm | exact mtA2 hm | exact mtA3 hm | exact mtA4 hm | exact mtA5 hm | exact mtA6 hm | exact mtA7 hm | exact ruA1 hr | exact ruA2 hr | exact ruA3 hr) rfl (by decide) ⟨rfl, by decide, by decide, show (parseMethodDescriptor yX12_isLaw.desc).map (fun d => d.parameters.length) = some 1 by decide +kernel⟩ (by omega) (by decide) (Nat.le_of_ble_eq_true rfl) rfl ?_
        refine pw_if_ne (tgt := 31) 28 rfl dX12_laws_25 rfl (fun h25 => ?_) (fun h25 => absurd h25 (by rw [ho]; decide))
        refine pw_iload_n 32 rfl dX12_laws_31 rfl ?_
        refine pw_if_ne (tgt := 64) 35 rfl dX12_laws_32 rfl (fun h32 => absurd (by rw [h0]; rfl) h32) (fun h32 => ?_)
        refine pw_aload_n 36 rfl dX12_laws_35 rfl ?_
        refine pw_iload_n 37 rfl dX12_laws_36 rfl ?_
        refine pw_bipush (v := nI 20) 39 rfl dX12_laws_37 rfl ?_
        refine pw_idivN 40 rfl dX12_laws_39 (by omega) (by omega) (by omega) ?_
        refine pw_i2l 41 rfl dX12_laws_40 ?_
        refine pw_callV (as := [_]) 44 rfl dX12_laws_41 mX12_236 vX12_tell (m_tell (d := d + 244) p1 (by decide)) (by first | rfl | assumption | exact rowS hh | exact mtS hm | exact ruS hr | exact mtA1 hm | exact mtA2 hm | exact mtA3 hm | exact mtA4 hm | exact mtA5 hm | exact mtA6 hm | exact mtA7 hm | exact ruA1 hr | exact ruA2 hr | exact ruA3 hr) rfl (by decide) ⟨rfl, by decide, by decide, show (parseMethodDescriptor yX12_tell.desc).map (fun d => d.parameters.length) = some 1 by decide +kernel⟩ (by omega) (by decide) (Nat.le_of_ble_eq_true rfl) rfl (fun r41 I41 J41 R41 c41 => ?_)
        obtain ⟨rfl, t1, t2, rfl⟩ := c41
        rotate_left
        refine pw_aload_n 45 rfl dX12_laws_44 rfl ?_
        refine pw_iload_n 46 rfl dX12_laws_45 rfl ?_
        refine pw_iconst (v := nI 4) 47 rfl dX12_laws_46 rfl ?_
        refine pw_idivN 48 rfl dX12_laws_47 (by omega) (by omega) (by omega) ?_
        refine pw_iconst (v := nI 5) 49 rfl dX12_laws_48 rfl ?_
        refine pw_iremN 50 rfl dX12_laws_49 (by omega) (by omega) (by omega) ?_
        refine pw_iconst (v := nI 1) 51 rfl dX12_laws_50 rfl ?_
        first | refine pw_iaddN 52 rfl dX12_laws_51 ?_ | refine pw_iadd 52 rfl dX12_laws_51 ?_
        refine pw_i2l 53 rfl dX12_laws_52 ?_
        refine pw_callV (as := [_]) 56 rfl dX12_laws_53 mX12_236 vX12_tell (m_tell (d := d + 244) t1 (by show (1 : Nat) < 12; decide)) (by first | rfl | assumption | exact rowS hh | exact mtS hm | exact ruS hr | exact mtA1 hm | exact mtA2 hm | exact mtA3 hm | exact mtA4 hm | exact mtA5 hm | exact mtA6 hm | exact mtA7 hm | exact ruA1 hr | exact ruA2 hr | exact ruA3 hr) rfl (by decide) ⟨rfl, by decide, by decide, show (parseMethodDescriptor yX12_tell.desc).map (fun d => d.parameters.length) = some 1 by decide +kernel⟩ (by omega) (by decide) (Nat.le_of_ble_eq_true rfl) rfl (fun r53 I53 J53 R53 c53 => ?_)
        obtain ⟨rfl, u1, u2, rfl⟩ := c53
        rotate_left
        refine pw_aload_n 57 rfl dX12_laws_56 rfl ?_
        refine pw_iload_n 58 rfl dX12_laws_57 rfl ?_
        refine pw_iconst (v := nI 4) 59 rfl dX12_laws_58 rfl ?_
        refine pw_iremN 60 rfl dX12_laws_59 (by omega) (by omega) (by omega) ?_
        refine pw_i2l 61 rfl dX12_laws_60 ?_
        refine pw_callV (as := [_]) 64 rfl dX12_laws_61 mX12_236 vX12_tell (m_tell (d := d + 244) u1 (by show (2 : Nat) < 12; decide)) (by first | rfl | assumption | exact rowS hh | exact mtS hm | exact ruS hr | exact mtA1 hm | exact mtA2 hm | exact mtA3 hm | exact mtA4 hm | exact mtA5 hm | exact mtA6 hm | exact mtA7 hm | exact ruA1 hr | exact ruA2 hr | exact ruA3 hr) rfl (by decide) ⟨rfl, by decide, by decide, show (parseMethodDescriptor yX12_tell.desc).map (fun d => d.parameters.length) = some 1 by decide +kernel⟩ (by omega) (by decide) (Nat.le_of_ble_eq_true rfl) rfl (fun r61 I61 J61 R61 c61 => ?_)
        obtain ⟨rfl, v1, v2, rfl⟩ := c61
        rotate_left
        refine pw_iincN 67 rfl dX12_laws_64 (by decide) rfl ?_
        refine pw_iincN 70 rfl dX12_laws_67 (by decide) rfl ?_
        refine pw_goto (tgt := 14) dX12_laws_70 rfl ?_
        rotate_left
        exact ih _ _ v1 (fun a j q => by rw [v2 a j q, u2 a j q, t2 a j q, p2 a j q])
      · obtain ⟨f, hf⟩ : ∃ f, fstL (okL sw) k = some f := by
          cases e : fstL (okL sw) k with
          | none => exact absurd ((fstL_cnt _ _).mp e) h0
          | some f => exact ⟨f, rfl⟩
        rw [fstL_s hf] at ih
        rw [hf] at p1
        refine pw_iload_n 15 rfl dX12_laws_14 rfl ?_
        refine pw_bipush (v := nI 80) 17 rfl dX12_laws_15 rfl ?_
        refine pw_icmp_ge (tgt := 73) 20 rfl dX12_laws_17 rfl (fun h17 => absurd h17 (by (simp (disch := omega) only [nI_leI, nI_ltI, nI_eq, show (0 : Int32) = nI 0 from rfl, not_true_eq_false, not_false_eq_true] <;> omega))) (fun h17 => ?_)
        refine pw_aload_n 21 rfl dX12_laws_20 rfl ?_
        refine pw_iload_n 22 rfl dX12_laws_21 rfl ?_
        refine pw_callVP (as := [_]) 25 rfl dX12_laws_22 mX12_329 vX12_isLaw (m_isLaw (d := d + 242) mG' hk) (by first | rfl | assumption | exact rowS hh | exact mtS hm | exact ruS hr | exact mtA1 hm | exact mtA2 hm | exact mtA3 hm | exact mtA4 hm | exact mtA5 hm | exact mtA6 hm | exact mtA7 hm | exact ruA1 hr | exact ruA2 hr | exact ruA3 hr) rfl (by decide) ⟨rfl, by decide, by decide, show (parseMethodDescriptor yX12_isLaw.desc).map (fun d => d.parameters.length) = some 1 by decide +kernel⟩ (by omega) (by decide) (Nat.le_of_ble_eq_true rfl) rfl ?_
        refine pw_if_ne (tgt := 31) 28 rfl dX12_laws_25 rfl (fun h25 => ?_) (fun h25 => absurd h25 (by rw [ho]; decide))
        refine pw_iload_n 32 rfl dX12_laws_31 rfl ?_
        refine pw_if_ne (tgt := 64) 35 rfl dX12_laws_32 rfl (fun h32 => ?_) (fun h32 => absurd h32 (nI_ne0 (by omega) (by omega)))
        refine pw_iincN 67 rfl dX12_laws_64 (by decide) rfl ?_
        refine pw_iincN 70 rfl dX12_laws_67 (by decide) rfl ?_
        refine pw_goto (tgt := 14) dX12_laws_70 rfl ?_
        rotate_left
        exact ih I' J' p1 p2
theorem evp_ltA {A : Nat} {g : Nat → Nat} (h : ∀ j, g j < A) (k : Nat) : (evp A g (k + 1)).1 < A := by
  rw [evp]
  have := h k
  split
  · exact this
  · omega
theorem evp_ge {A : Nat} {g : Nat → Nat} (hA : 1 ≤ A) (h : ∀ j, 1 ≤ g j) : ∀ k, 1 ≤ (evp A g k).1
  | 0 => hA
  | k + 1 => by
    rw [evp]
    split
    · exact h k
    · exact evp_ge hA h k
theorem cnt_ex {P : Nat → Bool} : ∀ {k}, cntP P k ≠ 0 → ∃ j, j < k ∧ P j = true
  | 0, h => absurd rfl h
  | k + 1, h => by
    by_cases e : P k = true
    · exact ⟨k, by omega, e⟩
    · rw [cntP, if_neg e] at h
      obtain ⟨j, h1, h2⟩ := cnt_ex h
      exact ⟨j, by omega, h2⟩
theorem cnt_pos {P : Nat → Bool} {j : Nat} (hp : P j = true) : ∀ {k}, j < k → 1 ≤ cntP P k
  | 0, h => by omega
  | k + 1, h => by
    rw [cntP]
    by_cases e : j = k
    · subst e; rw [if_pos hp]; omega
    · have := cnt_pos hp (k := k) (by omega); omega
theorem lkG_pos {sw : List (Nat × Nat)} (h : cntP (okL sw) 80 ≠ 0) (p : Nat) : 1 ≤ lkG sw p := by
  obtain ⟨L, h1, h2⟩ := cnt_ex h
  have hs := sb_le L p
  refine Nat.le_trans ?_ (mxf_ge (f := fun s => cntP (fun L => okL sw L && decide (sb L p = s)) 80) (n := 4) (k := sb L p) (by omega))
  exact cnt_pos (P := fun L' => okL sw L' && decide (sb L' p = sb L p)) (j := L) (by rw [h2, decide_eq_true rfl]; rfl) h1
theorem ev_y {g : Nat → Nat} {A k : Nat} (h : ∀ j, g j < A) (hc : g k < asL g A k) : evp A g (k + 1) = (g k, k) := by
  rw [evp, if_pos]
  by_cases hk : k = 0
  · subst hk; exact h 0
  · rw [asL, if_neg hk] at hc; exact hc
theorem ev_n {g : Nat → Nat} {A k : Nat} (h : ∀ j, g j < A) (hA : A ≤ 1000) (hc : ¬ g k < asL g A k) : k ≠ 0 ∧ evp A g (k + 1) = evp A g k := by
  have hk : k ≠ 0 := fun hk => by subst hk; have := h 0; exact hc (by show g 0 < 1000000; omega)
  rw [asL, if_neg hk] at hc
  exact ⟨hk, by rw [evp, if_neg hc]⟩
def lkB (g : Nat → Nat) (A k : Nat) : Int32 := if k = 0 then -1 else nI (evp A g k).2
set_option maxRecDepth 100000 in
set_option maxHeartbeats 2000000 in
theorem mo_looks {d g : Nat} {s : aSt} {rd : Option Nat} {I : pI} {J : pJ} (hA : MA I J s) (hD : MDg g I) (hg : g ≤ 500000000) (hW : WA s)  : PC SM (d + 245) yX12_looks cX12_looks 8 (some .int) [.ref 0] (I) (J) (RM rd (some 6)) (moP (g + 10000) (qOp qLooks s)) := by
  refine PC.of [some (.ref 0), none, none, none, none, none, none, none] rfl rfl (Nat.le_of_ble_eq_true rfl) ?_
  obtain ⟨n, pc, b, us, kp, rw, tx, rt, hd, sw⟩ := s
  refine pw_aload_n 1 rfl dX12_looks_0 rfl ?_
  refine pw_iconst (v := nI 0) 2 rfl dX12_looks_1 rfl ?_
  refine pw_putI 5 rfl dX12_looks_2 fX12_88 w12_7 (by first | rfl | assumption | exact rowS hh | exact mtS hm | exact ruS hr | exact mtA1 hm | exact mtA2 hm | exact mtA3 hm | exact mtA4 hm | exact mtA5 hm | exact mtA6 hm | exact mtA7 hm | exact ruA1 hr | exact ruA2 hr | exact ruA3 hr) rfl rfl rfl ?_
  rotate_left
  have hA0 := MA_thr (v := nI 0) hA
  have hD0 : MDg g (uI I 0 7 (nI 0)) := MDg_f hD (uI_ne (by omega)) (fun j => uI_ne (by omega))
  clear hA hD
  generalize uI I 0 7 (nI 0) = I at hA0 hD0 ⊢
  obtain ⟨mC, mB, mT, mN, mR, mU, mK, mH, mG⟩ := id hA0
  obtain ⟨aW, aU, aK⟩ := id hW
  have hE := MSt_A hA0
  have hn7 := mC.1
  have hn := mC.2.1
  have hc80 := cntP_le (okL sw) 80
  have hgl : ∀ p, lkG sw p < cntP (okL sw) 80 + 1 := fun p => by have := lkG_le sw p; omega
  have eq : qLooks n pc b (ruE rt) rw hd sw = (if cntP (okL sw) 80 = 0 then -2 else nI (evp (cntP (okL sw) 80 + 1) (lkG sw) 10).2, if cntP (okL sw) 80 = 0 then rw else [lI (evp (cntP (okL sw) 80 + 1) (lkG sw) 10).1]) := rfl
  have hlt10 : (evp (cntP (okL sw) 80 + 1) (lkG sw) 10).1 < cntP (okL sw) 80 + 1 := evp_ltA hgl 9
  have hge10 : cntP (okL sw) 80 ≠ 0 → 1 ≤ (evp (cntP (okL sw) 80 + 1) (lkG sw) 10).1 := fun h => evp_ge (by omega) (lkG_pos h) 10
  generalize hAA : cntP (okL sw) 80 + 1 = A at eq hgl hlt10 hge10
  generalize hff : lkG sw = f at eq hgl hlt10 hge10
  have hfk : ∀ p, f p = mxf (fun s => cntP (fun L => okL sw L && decide (sb L p = s)) 80) 4 := fun p => by rw [← hff]; rfl
  refine pw_iconst (v := -1) 6 rfl dX12_looks_5 rfl ?_
  refine pw_istore_n 7 rfl dX12_looks_6 (by decide) ?_
  refine pw_ldcw 10 rfl dX12_looks_7 kX12_304 ?_
  refine pw_istore_n 11 rfl dX12_looks_10 (by decide) ?_
  refine pw_iconst (v := nI 0) 12 rfl dX12_looks_11 rfl ?_
  refine pw_istore_n 13 rfl dX12_looks_12 (by decide) ?_
  rotate_left
  have L := nat_loop 10 (fun p => ∀ (x4 x5 x6 x7 : Option Value), PW SM yX12_looks.cls cX12_looks 8 (d + 245) 13 [some (.ref 0), some (.int (lkB f A p)), some (.int (nI (asL f A p))), some (.int (nI p)), x4, x5, x6, x7] [] (I) (J) (RM rd (some 6)) (rX cX12_looks (some .int) (moP (g + 10000) (qOp qLooks (n, pc, b, us, kp, rw, tx, rt, hd, sw))))) ?_ ?_
  · exact L none none none none
  · intro x4 x5 x6 x7
    rw [show asL f A 10 = (evp A f 10).1 from if_neg (by decide), show lkB f A 10 = nI (evp A f 10).2 from if_neg (by decide)]
    by_cases h0 : cntP (okL sw) 80 = 0
    · rw [if_pos h0, if_pos h0] at eq
      refine pw_iload_n 14 rfl dX12_looks_13 rfl ?_
      refine pw_bipush (v := nI 9) 16 rfl dX12_looks_14 rfl ?_
      refine pw_icmp_gt (tgt := 115) 19 rfl dX12_looks_16 rfl (fun h16 => ?_) (fun h16 => absurd (by (simp (disch := omega) only [nI_leI, nI_ltI, nI_eq, show (0 : Int32) = nI 0 from rfl, not_true_eq_false, not_false_eq_true] <;> omega)) h16)
      refine pw_iload_n 116 rfl dX12_looks_115 rfl ?_
      refine pw_if_ne (tgt := 122) 119 rfl dX12_looks_116 rfl (fun h116 => absurd (by rw [show (evp A f 10).1 = 0 by omega]; rfl) h116) (fun h116 => ?_)
      refine pw_bipush (v := -2) 121 rfl dX12_looks_119 rfl ?_
      refine pw_iret dX12_looks_121 rfl ?_
      rotate_left
      exact moQ eq rfl hA0 (hD0.mono (by omega)) ⟨rd, rfl⟩
    · rw [if_neg h0, if_neg h0] at eq
      have hg1 := hge10 h0
      refine pw_iload_n 14 rfl dX12_looks_13 rfl ?_
      refine pw_bipush (v := nI 9) 16 rfl dX12_looks_14 rfl ?_
      refine pw_icmp_gt (tgt := 115) 19 rfl dX12_looks_16 rfl (fun h16 => ?_) (fun h16 => absurd (by (simp (disch := omega) only [nI_leI, nI_ltI, nI_eq, show (0 : Int32) = nI 0 from rfl, not_true_eq_false, not_false_eq_true] <;> omega)) h16)
      refine pw_iload_n 116 rfl dX12_looks_115 rfl ?_
      refine pw_if_ne (tgt := 122) 119 rfl dX12_looks_116 rfl (fun h116 => ?_) (fun h116 => absurd h116 (nI_ne0 (by omega) (by omega)))
      refine pw_aload_n 123 rfl dX12_looks_122 rfl ?_
      refine pw_iconst (v := nI 0) 124 rfl dX12_looks_123 rfl ?_
      refine pw_putI 127 rfl dX12_looks_124 fX12_92 w12_6 (by first | rfl | assumption | exact rowS hh | exact mtS hm | exact ruS hr | exact mtA1 hm | exact mtA2 hm | exact mtA3 hm | exact mtA4 hm | exact mtA5 hm | exact mtA6 hm | exact mtA7 hm | exact ruA1 hr | exact ruA2 hr | exact ruA3 hr) rfl rfl rfl ?_
      refine pw_aload_n 128 rfl dX12_looks_127 rfl ?_
      refine pw_iload_n 129 rfl dX12_looks_128 rfl ?_
      refine pw_i2l 130 rfl dX12_looks_129 ?_
      refine pw_callV (as := [_]) 133 rfl dX12_looks_130 mX12_236 vX12_tell (m_tell (d := d + 244) MN_0 (by decide)) (by first | rfl | assumption | exact rowS hh | exact mtS hm | exact ruS hr | exact mtA1 hm | exact mtA2 hm | exact mtA3 hm | exact mtA4 hm | exact mtA5 hm | exact mtA6 hm | exact mtA7 hm | exact ruA1 hr | exact ruA2 hr | exact ruA3 hr) rfl (by decide) ⟨rfl, by decide, by decide, show (parseMethodDescriptor yX12_tell.desc).map (fun d => d.parameters.length) = some 1 by decide +kernel⟩ (by omega) (by decide) (Nat.le_of_ble_eq_true rfl) rfl (fun r130 I130 J130 R130 c130 => ?_)
      obtain ⟨rfl, t1, t2, rfl⟩ := c130
      rotate_left
      refine pw_iload_n 134 rfl dX12_looks_133 rfl ?_
      refine pw_iret dX12_looks_134 rfl ?_
      rotate_left
      have hf1 : ∀ a j, ¬ (a = 0 ∧ j = 6) → I130 a j = I a j := fun a j q => by rw [t2 a j q, uI_ne (by omega)]
      exact moQ eq rfl (MA_rw hA0 (fun a j q => hf1 a j (by omega)) t1) ((MDg_f hD0 (hf1 _ _ (by omega)) (fun j => hf1 _ _ (by omega))).mono (by omega)) ⟨rd, rfl⟩
  · intro p hp ih x4 x5 x6 x7
    refine pw_iload_n 14 rfl dX12_looks_13 rfl ?_
    refine pw_bipush (v := nI 9) 16 rfl dX12_looks_14 rfl ?_
    refine pw_icmp_gt (tgt := 115) 19 rfl dX12_looks_16 rfl (fun h16 => absurd h16 (by (simp (disch := omega) only [nI_leI, nI_ltI, nI_eq, show (0 : Int32) = nI 0 from rfl, not_true_eq_false, not_false_eq_true] <;> omega))) (fun h16 => ?_)
    refine pw_iconst (v := nI 0) 20 rfl dX12_looks_19 rfl ?_
    refine pw_istore 22 rfl dX12_looks_20 (by decide) ?_
    refine pw_iconst (v := nI 0) 23 rfl dX12_looks_22 rfl ?_
    refine pw_istore 25 rfl dX12_looks_23 (by decide) ?_
    rotate_left
    have hal := asL_le (g := f) (A := A) (by omega) p
    have hfp := hgl p
    generalize hG : (fun s => cntP (fun L => okL sw L && decide (sb L p = s)) 80) = G
    have hGk : ∀ s, G s = cntP (fun L => okL sw L && decide (sb L p = s)) 80 := fun s => by rw [← hG]
    have hG80 : ∀ s, G s ≤ 80 := fun s => by rw [hGk]; exact cntP_le _ _
    have L2 := nat_loop 4 (fun s => ∀ (x6 x7 : Option Value), PW SM yX12_looks.cls cX12_looks 8 (d + 245) 25 [some (.ref 0), some (.int (lkB f A p)), some (.int (nI (asL f A p))), some (.int (nI p)), some (.int (nI (mxf G s))), some (.int (nI s)), x6, x7] [] (I) (J) (RM rd (some 6)) (rX cX12_looks (some .int) (moP (g + 10000) (qOp qLooks (n, pc, b, us, kp, rw, tx, rt, hd, sw))))) ?_ ?_
    · exact L2 _ _
    · intro x6 x7
      have ef : mxf G 4 = f p := by rw [hfk, ← hG]
      rw [ef]
      by_cases hc : f p < asL f A p
      · have e := ev_y hgl hc
        rw [show asL f A (p + 1) = f p from by rw [asL, if_neg (Nat.succ_ne_zero p), e], show lkB f A (p + 1) = nI p from by rw [lkB, if_neg (Nat.succ_ne_zero p), e]] at ih
        refine pw_iload 27 rfl dX12_looks_25 rfl ?_
        refine pw_iconst (v := nI 3) 28 rfl dX12_looks_27 rfl ?_
        refine pw_icmp_gt (tgt := 95) 31 rfl dX12_looks_28 rfl (fun h28 => ?_) (fun h28 => absurd (by (simp (disch := omega) only [nI_leI, nI_ltI, nI_eq, show (0 : Int32) = nI 0 from rfl, not_true_eq_false, not_false_eq_true] <;> omega)) h28)
        refine pw_iload 97 rfl dX12_looks_95 rfl ?_
        refine pw_iload_n 98 rfl dX12_looks_97 rfl ?_
        refine pw_icmp_lt (tgt := 104) 101 rfl dX12_looks_98 rfl (fun h98 => ?_) (fun h98 => absurd (by (simp (disch := omega) only [nI_leI, nI_ltI, nI_eq, show (0 : Int32) = nI 0 from rfl, not_true_eq_false, not_false_eq_true] <;> omega)) h98)
        refine pw_iload_n 105 rfl dX12_looks_104 rfl ?_
        refine pw_istore_n 106 rfl dX12_looks_105 (by decide) ?_
        refine pw_iload 108 rfl dX12_looks_106 rfl ?_
        refine pw_istore_n 109 rfl dX12_looks_108 (by decide) ?_
        refine pw_iincN 112 rfl dX12_looks_109 (by decide) rfl ?_
        refine pw_goto (tgt := 13) dX12_looks_112 rfl ?_
        rotate_left
        exact ih _ _ _ _
      · obtain ⟨hp0, e⟩ := ev_n hgl (by omega) hc
        rw [show asL f A (p + 1) = asL f A p from by rw [asL, asL, if_neg (Nat.succ_ne_zero p), if_neg hp0, e], show lkB f A (p + 1) = lkB f A p from by rw [lkB, lkB, if_neg (Nat.succ_ne_zero p), if_neg hp0, e]] at ih
        refine pw_iload 27 rfl dX12_looks_25 rfl ?_
        refine pw_iconst (v := nI 3) 28 rfl dX12_looks_27 rfl ?_
        refine pw_icmp_gt (tgt := 95) 31 rfl dX12_looks_28 rfl (fun h28 => ?_) (fun h28 => absurd (by (simp (disch := omega) only [nI_leI, nI_ltI, nI_eq, show (0 : Int32) = nI 0 from rfl, not_true_eq_false, not_false_eq_true] <;> omega)) h28)
        refine pw_iload 97 rfl dX12_looks_95 rfl ?_
        refine pw_iload_n 98 rfl dX12_looks_97 rfl ?_
        refine pw_icmp_lt (tgt := 104) 101 rfl dX12_looks_98 rfl (fun h98 => absurd h98 (by (simp (disch := omega) only [nI_leI, nI_ltI, nI_eq, show (0 : Int32) = nI 0 from rfl, not_true_eq_false, not_false_eq_true] <;> omega))) (fun h98 => ?_)
        refine pw_goto (tgt := 109) dX12_looks_101 rfl ?_
        refine pw_iincN 112 rfl dX12_looks_109 (by decide) rfl ?_
        refine pw_goto (tgt := 13) dX12_looks_112 rfl ?_
        rotate_left
        exact ih _ _ _ _
    · intro s hs ih2 x6 x7
      have hmx : mxf G s ≤ 80 := mxf_le (fun j _ => hG80 j)
      refine pw_iload 27 rfl dX12_looks_25 rfl ?_
      refine pw_iconst (v := nI 3) 28 rfl dX12_looks_27 rfl ?_
      refine pw_icmp_gt (tgt := 95) 31 rfl dX12_looks_28 rfl (fun h28 => absurd h28 (by (simp (disch := omega) only [nI_leI, nI_ltI, nI_eq, show (0 : Int32) = nI 0 from rfl, not_true_eq_false, not_false_eq_true] <;> omega))) (fun h28 => ?_)
      refine pw_iconst (v := nI 0) 32 rfl dX12_looks_31 rfl ?_
      refine pw_istore 34 rfl dX12_looks_32 (by decide) ?_
      refine pw_iconst (v := nI 0) 35 rfl dX12_looks_34 rfl ?_
      refine pw_istore 37 rfl dX12_looks_35 (by decide) ?_
      rotate_left
      generalize hP : (fun L => okL sw L && decide (sb L p = s)) = P
      have hPk : ∀ L, P L = (okL sw L && decide (sb L p = s)) := fun L => by rw [← hP]
      have hGs : G s = cntP P 80 := by rw [hGk, hP]
      refine nat_loop 80 (fun k => PW SM yX12_looks.cls cX12_looks 8 (d + 245) 37 [some (.ref 0), some (.int (lkB f A p)), some (.int (nI (asL f A p))), some (.int (nI p)), some (.int (nI (mxf G s))), some (.int (nI s)), some (.int (nI (cntP P k))), some (.int (nI k))] [] (I) (J) (RM rd (some 6)) (rX cX12_looks (some .int) (moP (g + 10000) (qOp qLooks (n, pc, b, us, kp, rw, tx, rt, hd, sw))))) ?_ ?_
      · rw [← hGs]
        have := hG80 s
        refine pw_iload 39 rfl dX12_looks_37 rfl ?_
        refine pw_bipush (v := nI 80) 41 rfl dX12_looks_39 rfl ?_
        refine pw_icmp_ge (tgt := 80) 44 rfl dX12_looks_41 rfl (fun h41 => ?_) (fun h41 => absurd (by (simp (disch := omega) only [nI_leI, nI_ltI, nI_eq, show (0 : Int32) = nI 0 from rfl, not_true_eq_false, not_false_eq_true] <;> omega)) h41)
        refine pw_iload 82 rfl dX12_looks_80 rfl ?_
        refine pw_iload 84 rfl dX12_looks_82 rfl ?_
        refine pw_mmax 87 rfl dX12_looks_84 mX12_195 (Nat.le_of_ble_eq_true rfl) ?_
        rotate_left
        rw [nI_max (by omega) (by omega)]
        refine pw_istore 89 rfl dX12_looks_87 (by decide) ?_
        refine pw_iincN 92 rfl dX12_looks_89 (by decide) rfl ?_
        refine pw_goto (tgt := 25) dX12_looks_92 rfl ?_
        rotate_left
        exact ih2 _ _
      · intro k hk ih3
        have hsb := sb_le k p
        rw [cntP] at ih3
        cases ho : okL sw k
        · rw [if_neg (by rw [hPk, ho, Bool.false_and]; decide)] at ih3
          refine pw_iload 39 rfl dX12_looks_37 rfl ?_
          refine pw_bipush (v := nI 80) 41 rfl dX12_looks_39 rfl ?_
          refine pw_icmp_ge (tgt := 80) 44 rfl dX12_looks_41 rfl (fun h41 => absurd h41 (by (simp (disch := omega) only [nI_leI, nI_ltI, nI_eq, show (0 : Int32) = nI 0 from rfl, not_true_eq_false, not_false_eq_true] <;> omega))) (fun h41 => ?_)
          refine pw_iload 46 rfl dX12_looks_44 rfl ?_
          refine pw_aload_n 47 rfl dX12_looks_46 rfl ?_
          refine pw_iload 49 rfl dX12_looks_47 rfl ?_
          refine pw_callVP (as := [_]) 52 rfl dX12_looks_49 mX12_329 vX12_isLaw (m_isLaw (d := d + 242) mG hk) (by first | rfl | assumption | exact rowS hh | exact mtS hm | exact ruS hr | exact mtA1 hm | exact mtA2 hm | exact mtA3 hm | exact mtA4 hm | exact mtA5 hm | exact mtA6 hm | exact mtA7 hm | exact ruA1 hr | exact ruA2 hr | exact ruA3 hr) rfl (by decide) ⟨rfl, by decide, by decide, show (parseMethodDescriptor yX12_isLaw.desc).map (fun d => d.parameters.length) = some 1 by decide +kernel⟩ (by omega) (by decide) (Nat.le_of_ble_eq_true rfl) rfl ?_
          refine pw_if_eq (tgt := 70) 55 rfl dX12_looks_52 rfl (fun h52 => ?_) (fun h52 => absurd (by rw [ho]; rfl) h52)
          refine pw_iconst (v := nI 0) 71 rfl dX12_looks_70 rfl ?_
          first | refine pw_iaddN 72 rfl dX12_looks_71 ?_ | refine pw_iadd 72 rfl dX12_looks_71 ?_
          refine pw_istore 74 rfl dX12_looks_72 (by decide) ?_
          refine pw_iincN 77 rfl dX12_looks_74 (by decide) rfl ?_
          refine pw_goto (tgt := 37) dX12_looks_77 rfl ?_
          rotate_left
          exact ih3
        · by_cases hc : sb k p = s
          · rw [if_pos (by rw [hPk, ho, decide_eq_true hc]; rfl)] at ih3
            refine pw_iload 39 rfl dX12_looks_37 rfl ?_
            refine pw_bipush (v := nI 80) 41 rfl dX12_looks_39 rfl ?_
            refine pw_icmp_ge (tgt := 80) 44 rfl dX12_looks_41 rfl (fun h41 => absurd h41 (by (simp (disch := omega) only [nI_leI, nI_ltI, nI_eq, show (0 : Int32) = nI 0 from rfl, not_true_eq_false, not_false_eq_true] <;> omega))) (fun h41 => ?_)
            refine pw_iload 46 rfl dX12_looks_44 rfl ?_
            refine pw_aload_n 47 rfl dX12_looks_46 rfl ?_
            refine pw_iload 49 rfl dX12_looks_47 rfl ?_
            refine pw_callVP (as := [_]) 52 rfl dX12_looks_49 mX12_329 vX12_isLaw (m_isLaw (d := d + 242) mG hk) (by first | rfl | assumption | exact rowS hh | exact mtS hm | exact ruS hr | exact mtA1 hm | exact mtA2 hm | exact mtA3 hm | exact mtA4 hm | exact mtA5 hm | exact mtA6 hm | exact mtA7 hm | exact ruA1 hr | exact ruA2 hr | exact ruA3 hr) rfl (by decide) ⟨rfl, by decide, by decide, show (parseMethodDescriptor yX12_isLaw.desc).map (fun d => d.parameters.length) = some 1 by decide +kernel⟩ (by omega) (by decide) (Nat.le_of_ble_eq_true rfl) rfl ?_
            refine pw_if_eq (tgt := 70) 55 rfl dX12_looks_52 rfl (fun h52 => absurd h52 (by rw [ho]; decide)) (fun h52 => ?_)
            refine pw_iload 57 rfl dX12_looks_55 rfl ?_
            refine pw_iload_n 58 rfl dX12_looks_57 rfl ?_
            refine pw_callSP (as := [_, _]) 61 rfl dX12_looks_58 mX12_326 sX12_stepsBy (m_stepsBy (d := d + 243) hk (show p ≤ 9 by omega)) ⟨rfl, by decide, by decide, show (parseMethodDescriptor yX12_stepsBy.desc).map (fun d => d.parameters.length) = some 2 by decide +kernel⟩ (by omega) (by decide) (Nat.le_of_ble_eq_true rfl) rfl ?_
            refine pw_iload 63 rfl dX12_looks_61 rfl ?_
            refine pw_icmp_ne (tgt := 70) 66 rfl dX12_looks_63 rfl (fun h63 => absurd (by rw [hc]) h63) (fun h63 => ?_)
            refine pw_iconst (v := nI 1) 67 rfl dX12_looks_66 rfl ?_
            refine pw_goto (tgt := 71) dX12_looks_67 rfl ?_
            first | refine pw_iaddN 72 rfl dX12_looks_71 ?_ | refine pw_iadd 72 rfl dX12_looks_71 ?_
            refine pw_istore 74 rfl dX12_looks_72 (by decide) ?_
            refine pw_iincN 77 rfl dX12_looks_74 (by decide) rfl ?_
            refine pw_goto (tgt := 37) dX12_looks_77 rfl ?_
            rotate_left
            exact ih3
          · rw [if_neg (by rw [hPk, ho, decide_eq_false hc]; decide)] at ih3
            refine pw_iload 39 rfl dX12_looks_37 rfl ?_
            refine pw_bipush (v := nI 80) 41 rfl dX12_looks_39 rfl ?_
            refine pw_icmp_ge (tgt := 80) 44 rfl dX12_looks_41 rfl (fun h41 => absurd h41 (by (simp (disch := omega) only [nI_leI, nI_ltI, nI_eq, show (0 : Int32) = nI 0 from rfl, not_true_eq_false, not_false_eq_true] <;> omega))) (fun h41 => ?_)
            refine pw_iload 46 rfl dX12_looks_44 rfl ?_
            refine pw_aload_n 47 rfl dX12_looks_46 rfl ?_
            refine pw_iload 49 rfl dX12_looks_47 rfl ?_
            refine pw_callVP (as := [_]) 52 rfl dX12_looks_49 mX12_329 vX12_isLaw (m_isLaw (d := d + 242) mG hk) (by first | rfl | assumption | exact rowS hh | exact mtS hm | exact ruS hr | exact mtA1 hm | exact mtA2 hm | exact mtA3 hm | exact mtA4 hm | exact mtA5 hm | exact mtA6 hm | exact mtA7 hm | exact ruA1 hr | exact ruA2 hr | exact ruA3 hr) rfl (by decide) ⟨rfl, by decide, by decide, show (parseMethodDescriptor yX12_isLaw.desc).map (fun d => d.parameters.length) = some 1 by decide +kernel⟩ (by omega) (by decide) (Nat.le_of_ble_eq_true rfl) rfl ?_
            refine pw_if_eq (tgt := 70) 55 rfl dX12_looks_52 rfl (fun h52 => absurd h52 (by rw [ho]; decide)) (fun h52 => ?_)
            refine pw_iload 57 rfl dX12_looks_55 rfl ?_
            refine pw_iload_n 58 rfl dX12_looks_57 rfl ?_
            refine pw_callSP (as := [_, _]) 61 rfl dX12_looks_58 mX12_326 sX12_stepsBy (m_stepsBy (d := d + 243) hk (show p ≤ 9 by omega)) ⟨rfl, by decide, by decide, show (parseMethodDescriptor yX12_stepsBy.desc).map (fun d => d.parameters.length) = some 2 by decide +kernel⟩ (by omega) (by decide) (Nat.le_of_ble_eq_true rfl) rfl ?_
            refine pw_iload 63 rfl dX12_looks_61 rfl ?_
            refine pw_icmp_ne (tgt := 70) 66 rfl dX12_looks_63 rfl (fun h63 => ?_) (fun h63 => absurd h63 (by rw [nI_eq (by omega) (by omega)]; exact hc))
            refine pw_iconst (v := nI 0) 71 rfl dX12_looks_70 rfl ?_
            first | refine pw_iaddN 72 rfl dX12_looks_71 ?_ | refine pw_iadd 72 rfl dX12_looks_71 ?_
            refine pw_istore 74 rfl dX12_looks_72 (by decide) ?_
            refine pw_iincN 77 rfl dX12_looks_74 (by decide) rfl ?_
            refine pw_goto (tgt := 37) dX12_looks_77 rfl ?_
            rotate_left
            exact ih3
