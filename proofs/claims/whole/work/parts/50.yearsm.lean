/-! the reference: sheets, years -/
theorem clamp9 (v : Int32) : (if nI 0 < (if v < nI 9 then v else nI 9) then (if v < nI 9 then v else nI 9) else nI 0) = withV v (nI 0) (nI 9) := by
  unfold withV
  have e0 : (nI 0).toInt = 0 := by decide
  have e3 : (nI 9).toInt = 9 := by decide
  by_cases h1 : v < nI 0
  · rw [if_pos h1, if_pos (show v < nI 9 by rw [Int32.lt_iff_toInt_lt] at h1 ⊢; omega), if_neg (by rw [Int32.lt_iff_toInt_lt] at h1 ⊢; omega)]
  · rw [if_neg h1]
    by_cases h2 : nI 9 < v
    · rw [if_pos h2, if_neg (show ¬ v < nI 9 by rw [Int32.lt_iff_toInt_lt] at h2 ⊢; omega), if_pos (by decide)]
    · rw [if_neg h2]
      by_cases h3 : v < nI 9
      · rw [if_pos h3]
        by_cases h4 : nI 0 < v
        · rw [if_pos h4]
        · rw [if_neg h4]
          apply Int32.toInt_inj.mp
          rw [Int32.lt_iff_toInt_lt] at h1 h4
          omega
      · rw [if_neg h3, if_pos (by decide)]
        apply Int32.toInt_inj.mp
        rw [Int32.lt_iff_toInt_lt] at h2 h3
        omega
theorem step_V (f st : Int32) (i : Nat) : f + nI i * st + st = f + nI (i + 1) * st := by rw [nI_succ, Int32.add_mul, Int32.one_mul, Int32.add_assoc]
theorem MA_pc {I I' : pI} {J : pJ} {n : Nat} {pc pc' b : Nat → Nat} {us : List (Nat → Nat)} {kp : Nat → Option (Nat → Nat)} {rw : List Int64} {tx rt : List Nat} {hd sw : List (Nat × Nat)} (h : MA I J (n, pc, b, us, kp, rw, tx, rt, hd, sw)) (f : ∀ a j, a ≠ 2 → I' a j = I a j) (hC : MC I' n pc') : MA I' J (n, pc', b, us, kp, rw, tx, rt, hd, sw) := by
  obtain ⟨a1, a2, a3, a4, a5, a6, a7, a8, a9⟩ := h
  exact ⟨hC, MB_f a2 (fun j => f _ _ (by omega)), MT_f a3 (f _ _ (by omega)) (fun j => f _ _ (by omega)), MN_f a4 (f _ _ (by omega)), MRl_f a5 (f _ _ (by omega)) (fun j => f _ _ (by omega)), MU_f a6 (f _ _ (by omega)) (fun j => f _ _ (by omega)), MK_f a7 (f _ _ (by omega)) (fun j => f _ _ (by omega)) (fun j => f _ _ (by omega)) (fun j => f _ _ (by omega)), MH_f a8 (f _ _ (by omega)) (fun j => f _ _ (by omega)) (fun j => f _ _ (by omega)), MG_f a9 (f _ _ (by omega)) (fun j => f _ _ (by omega)) (fun j => f _ _ (by omega))⟩
set_option maxRecDepth 100000 in
set_option maxHeartbeats 2000000 in
theorem mo_sheet {d g : Nat} {s : aSt} {rd : Option Nat} {I : pI} {J : pJ} (hA : MA I J s) (hD : MDg g I) (hg : g ≤ 500000000) (hW : WA s) (kd v f st : Int32) : PC SM (d + 245) yX12_sheet cX12_sheet 8 (some .int) [.ref 0, .int kd, .int v, .int f, .int st] (I) (J) (RM rd (some 6)) (moP (g + 10000) (oSheet kd v f st s)) := by
  refine PC.of [some (.ref 0), some (.int kd), some (.int v), some (.int f), some (.int st), none, none, none] rfl rfl (Nat.le_of_ble_eq_true rfl) ?_
  obtain ⟨n, pc, b, us, kp, rw, tx, rt, hd, sw⟩ := s
  refine pw_aload_n 1 rfl dX12_sheet_0 rfl ?_
  refine pw_iconst (v := nI 0) 2 rfl dX12_sheet_1 rfl ?_
  refine pw_putI 5 rfl dX12_sheet_2 fX12_88 w12_7 (by first | rfl | assumption | exact rowS hh | exact mtS hm | exact ruS hr | exact mtA1 hm | exact mtA2 hm | exact mtA3 hm | exact mtA4 hm | exact mtA5 hm | exact mtA6 hm | exact mtA7 hm | exact ruA1 hr | exact ruA2 hr | exact ruA3 hr) rfl rfl rfl ?_
  rotate_left
  have hA0 := MA_thr (v := nI 0) hA
  have hD0 : MDg g (uI I 0 7 (nI 0)) := MDg_f hD (uI_ne (by omega)) (fun j => uI_ne (by omega))
  clear hA hD
  generalize uI I 0 7 (nI 0) = I at hA0 hD0 ⊢
  obtain ⟨mC, mB, mT, mN, mR, mU, mK, mH, mG⟩ := id hA0
  obtain ⟨aW, aU, aK⟩ := id hW
  have hE := MSt_A hA0
  have hn7 := mC.1
  have hn := mC.2.1
  have no : ∀ {kd v f st A : Int32}, oSheet kd v f st (n, pc, b, us, kp, rw, tx, rt, hd, sw) = (A, (n, pc, b, us, kp, rw, tx, rt, hd, sw)) → moP (g + 10000) (oSheet kd v f st (n, pc, b, us, kp, rw, tx, rt, hd, sw)) (some (.int A)) I J (RM rd (some 6)) := fun {kd v f st A} e => moE e ⟨rfl, hA0, hD0.mono (by omega), rd, rfl⟩
  rcases inOf_cases (lo := 0) (hi := 3) (by decide) kd (by decide) with ⟨k, h1, h2, rfl, hi⟩ | ⟨hi, ho⟩
  · by_cases h7 : nI 7 < v
    · refine pw_iload_n 6 rfl dX12_sheet_5 rfl ?_
      refine pw_iconst (v := nI 0) 7 rfl dX12_sheet_6 rfl ?_
      refine pw_iconst (v := nI 3) 8 rfl dX12_sheet_7 rfl ?_
      refine pw_callSP (as := [_, _, _]) 11 rfl dX12_sheet_8 mX12_98 sX12_in (m_in (d := d) _ _ _) ⟨rfl, by decide, by decide, show (parseMethodDescriptor yX12_in.desc).map (fun d => d.parameters.length) = some 3 by decide +kernel⟩ (by omega) (by decide) (Nat.le_of_ble_eq_true rfl) rfl ?_
      refine pw_if_eq (tgt := 20) 14 rfl dX12_sheet_11 rfl (fun h11 => absurd h11 (by rw [inV_y h1 h2 (by decide)]; decide)) (fun h11 => ?_)
      refine pw_iload_n 15 rfl dX12_sheet_14 rfl ?_
      refine pw_bipush (v := nI 7) 17 rfl dX12_sheet_15 rfl ?_
      refine pw_icmp_le (tgt := 22) 20 rfl dX12_sheet_17 rfl (fun h17 => absurd h17 (Int32.not_le.mpr h7)) (fun h17 => ?_)
      refine pw_iconst (v := -1) 21 rfl dX12_sheet_20 rfl ?_
      refine pw_iret dX12_sheet_21 rfl ?_
      rotate_left
      exact no (by unfold oSheet; simp only [hi]; rw [if_pos h7])
    · have h7' : v ≤ nI 7 := Int32.not_lt.mp h7
      by_cases hk3 : k = 3
      · subst hk3
        have e : oSheet (nI 3) v f st (n, pc, b, us, kp, rw, tx, rt, hd, sw) = (-3, (n, shP (nI 3) f st 0 n pc, b, us, kp, rw, tx, rt, hd, sw)) := by unfold oSheet; simp only [hi]; rw [if_neg h7]; rfl
        refine pw_iload_n 6 rfl dX12_sheet_5 rfl ?_
        refine pw_iconst (v := nI 0) 7 rfl dX12_sheet_6 rfl ?_
        refine pw_iconst (v := nI 3) 8 rfl dX12_sheet_7 rfl ?_
        refine pw_callSP (as := [_, _, _]) 11 rfl dX12_sheet_8 mX12_98 sX12_in (m_in (d := d) _ _ _) ⟨rfl, by decide, by decide, show (parseMethodDescriptor yX12_in.desc).map (fun d => d.parameters.length) = some 3 by decide +kernel⟩ (by omega) (by decide) (Nat.le_of_ble_eq_true rfl) rfl ?_
        refine pw_if_eq (tgt := 20) 14 rfl dX12_sheet_11 rfl (fun h11 => absurd h11 (by rw [inV_y h1 h2 (by decide)]; decide)) (fun h11 => ?_)
        refine pw_iload_n 15 rfl dX12_sheet_14 rfl ?_
        refine pw_bipush (v := nI 7) 17 rfl dX12_sheet_15 rfl ?_
        refine pw_icmp_le (tgt := 22) 20 rfl dX12_sheet_17 rfl (fun h17 => ?_) (fun h17 => absurd h7' h17)
        refine pw_iload_n 23 rfl dX12_sheet_22 rfl ?_
        refine pw_iconst (v := nI 3) 24 rfl dX12_sheet_23 rfl ?_
        refine pw_icmp_ge (tgt := 34) 27 rfl dX12_sheet_24 rfl (fun h24 => ?_) (fun h24 => absurd (by decide) h24)
        refine pw_iload_n 35 rfl dX12_sheet_34 rfl ?_
        refine pw_istore 37 rfl dX12_sheet_35 (by decide) ?_
        refine pw_iconst (v := nI 0) 38 rfl dX12_sheet_37 rfl ?_
        refine pw_istore 40 rfl dX12_sheet_38 (by decide) ?_
        rotate_left
        have L := nat_loop n (fun q => ∀ (I' : pI) (x5 x7 : Int32), (∀ j, j < q → I' 2 j = nI 0) → (∀ j, q ≤ j → I' 2 j = I 2 j) → (∀ a j, a ≠ 2 → I' a j = I a j) → PW SM yX12_sheet.cls cX12_sheet 8 (d + 245) 40 [some (.ref 0), some (.int (nI 3)), some (.int v), some (.int f), some (.int st), some (.int x5), some (.int (nI q)), if q = 0 then none else some (.int x7)] [] (I') (J) (RM rd (some 6)) (rX cX12_sheet (some .int) (moP (g + 10000) (oSheet (nI 3) v f st (n, pc, b, us, kp, rw, tx, rt, hd, sw))))) ?_ ?_
        · exact L I f 0 (fun j hj => by omega) (fun _ _ => rfl) (fun _ _ _ => rfl)
        · intro I' x5 x7 g1 g2 g3
          refine pw_iload 42 rfl dX12_sheet_40 rfl ?_
          refine pw_aload_n 43 rfl dX12_sheet_42 rfl ?_
          refine pw_getI 46 rfl dX12_sheet_43 fX12_95 (by first | rfl | assumption | exact rowS hh | exact mtS hm | exact ruS hr | exact mtA1 hm | exact mtA2 hm | exact mtA3 hm | exact mtA4 hm | exact mtA5 hm | exact mtA6 hm | exact mtA7 hm | exact ruA1 hr | exact ruA2 hr | exact ruA3 hr) rfl ?_
          refine pw_icmp_ge (tgt := 120) 49 rfl dX12_sheet_46 rfl (fun h46 => ?_) (fun h46 => absurd (by rw [g3 _ _ (by omega), hn]; (simp (disch := omega) only [nI_leI, nI_ltI, nI_eq, show (0 : Int32) = nI 0 from rfl, not_true_eq_false, not_false_eq_true] <;> omega)) h46)
          refine pw_iload_n 121 rfl dX12_sheet_120 rfl ?_
          refine pw_iconst (v := nI 3) 122 rfl dX12_sheet_121 rfl ?_
          refine pw_icmp_ne (tgt := 130) 125 rfl dX12_sheet_122 rfl (fun h122 => absurd (by rfl) h122) (fun h122 => ?_)
          refine pw_bipush (v := -3) 127 rfl dX12_sheet_125 rfl ?_
          refine pw_goto (tgt := 134) dX12_sheet_127 rfl ?_
          refine pw_iret dX12_sheet_134 rfl ?_
          rotate_left
          refine moE e ⟨rfl, MA_pc hA0 g3 ⟨hn7, by rw [g3 _ _ (by omega)]; exact hn, fun k hk => ?_⟩, (MDg_f hD0 (g3 _ _ (by omega)) (fun j => g3 _ _ (by omega))).mono (by omega), rd, rfl⟩
          unfold shP
          by_cases c : k < n
          · rw [if_pos c, if_neg (Nat.not_lt_zero k)]; exact g1 k c
          · rw [if_neg c, g2 k (by omega)]; exact mC.2.2 k hk
        · intro q hq ih I' x5 x7 g1 g2 g3
          refine pw_iload 42 rfl dX12_sheet_40 rfl ?_
          refine pw_aload_n 43 rfl dX12_sheet_42 rfl ?_
          refine pw_getI 46 rfl dX12_sheet_43 fX12_95 (by first | rfl | assumption | exact rowS hh | exact mtS hm | exact ruS hr | exact mtA1 hm | exact mtA2 hm | exact mtA3 hm | exact mtA4 hm | exact mtA5 hm | exact mtA6 hm | exact mtA7 hm | exact ruA1 hr | exact ruA2 hr | exact ruA3 hr) rfl ?_
          refine pw_icmp_ge (tgt := 120) 49 rfl dX12_sheet_46 rfl (fun h46 => absurd h46 (by rw [g3 _ _ (by omega), hn]; (simp (disch := omega) only [nI_leI, nI_ltI, nI_eq, show (0 : Int32) = nI 0 from rfl, not_true_eq_false, not_false_eq_true] <;> omega))) (fun h46 => ?_)
          refine pw_iload_n 50 rfl dX12_sheet_49 rfl ?_
          refine pw_if_ne (tgt := 59) 53 rfl dX12_sheet_50 rfl (fun h50 => ?_) (fun h50 => absurd h50 (by decide))
          refine pw_iload_n 60 rfl dX12_sheet_59 rfl ?_
          refine pw_iconst (v := nI 1) 61 rfl dX12_sheet_60 rfl ?_
          refine pw_icmp_ne (tgt := 70) 64 rfl dX12_sheet_61 rfl (fun h61 => ?_) (fun h61 => absurd h61 (by decide))
          refine pw_iload 72 rfl dX12_sheet_70 rfl ?_
          refine pw_istore 74 rfl dX12_sheet_72 (by decide) ?_
          refine pw_aload_n 75 rfl dX12_sheet_74 rfl ?_
          refine pw_getR 78 rfl dX12_sheet_75 fX12_13 (by first | rfl | assumption | exact rowS hh | exact mtS hm | exact ruS hr | exact mtA1 hm | exact mtA2 hm | exact mtA3 hm | exact mtA4 hm | exact mtA5 hm | exact mtA6 hm | exact mtA7 hm | exact ruA1 hr | exact ruA2 hr | exact ruA3 hr) rfl (by first | rfl | assumption | exact mtR0 hm | exact mtR1 hm | exact mtR2 hm | exact mtR3 hm | exact mtR4 hm | exact mtR5 hm | exact mtR6 hm | exact ruR0 hr | exact ruR1 hr | exact ruR3 hr) ?_
          refine pw_iload 80 rfl dX12_sheet_78 rfl ?_
          refine pw_iload_n 81 rfl dX12_sheet_80 rfl ?_
          refine pw_iconst (v := nI 3) 82 rfl dX12_sheet_81 rfl ?_
          refine pw_icmp_eq (tgt := 91) 85 rfl dX12_sheet_82 rfl (fun h82 => ?_) (fun h82 => absurd (by rfl) h82)
          refine pw_iconst (v := nI 0) 92 rfl dX12_sheet_91 rfl ?_
          refine pw_goto (tgt := 106) dX12_sheet_92 rfl ?_
          refine pw_iastN 107 rfl dX12_sheet_106 (by first | rfl | assumption | exact rowS hh | exact mtS hm | exact ruS hr | exact mtA1 hm | exact mtA2 hm | exact mtA3 hm | exact mtA4 hm | exact mtA5 hm | exact mtA6 hm | exact mtA7 hm | exact ruA1 hr | exact ruA2 hr | exact ruA3 hr) (by omega) (by first | decide | omega) ?_
          refine pw_iload 109 rfl dX12_sheet_107 rfl ?_
          refine pw_iload 111 rfl dX12_sheet_109 rfl ?_
          refine pw_iadd 112 rfl dX12_sheet_111 ?_
          refine pw_istore 114 rfl dX12_sheet_112 (by decide) ?_
          refine pw_iincN 117 rfl dX12_sheet_114 (by decide) rfl ?_
          refine pw_goto (tgt := 40) dX12_sheet_117 rfl ?_
          rotate_left
          refine ih _ _ _ (fun j hj => ?_) (fun j hj => by rw [uI_ne (by omega)]; exact g2 j (by omega)) (fun a j z => by rw [uI_ne (by omega)]; exact g3 a j z)
          by_cases ej : j = q
          · rw [ej, uI_eq]
          · rw [uI_ne (by omega)]; exact g1 j (by omega)
      · by_cases h0 : v < 0
        · refine pw_iload_n 6 rfl dX12_sheet_5 rfl ?_
          refine pw_iconst (v := nI 0) 7 rfl dX12_sheet_6 rfl ?_
          refine pw_iconst (v := nI 3) 8 rfl dX12_sheet_7 rfl ?_
          refine pw_callSP (as := [_, _, _]) 11 rfl dX12_sheet_8 mX12_98 sX12_in (m_in (d := d) _ _ _) ⟨rfl, by decide, by decide, show (parseMethodDescriptor yX12_in.desc).map (fun d => d.parameters.length) = some 3 by decide +kernel⟩ (by omega) (by decide) (Nat.le_of_ble_eq_true rfl) rfl ?_
          refine pw_if_eq (tgt := 20) 14 rfl dX12_sheet_11 rfl (fun h11 => absurd h11 (by rw [inV_y h1 h2 (by decide)]; decide)) (fun h11 => ?_)
          refine pw_iload_n 15 rfl dX12_sheet_14 rfl ?_
          refine pw_bipush (v := nI 7) 17 rfl dX12_sheet_15 rfl ?_
          refine pw_icmp_le (tgt := 22) 20 rfl dX12_sheet_17 rfl (fun h17 => ?_) (fun h17 => absurd h7' h17)
          refine pw_iload_n 23 rfl dX12_sheet_22 rfl ?_
          refine pw_iconst (v := nI 3) 24 rfl dX12_sheet_23 rfl ?_
          refine pw_icmp_ge (tgt := 34) 27 rfl dX12_sheet_24 rfl (fun h24 => absurd h24 (by (simp (disch := omega) only [nI_leI, nI_ltI, nI_eq, show (0 : Int32) = nI 0 from rfl, not_true_eq_false, not_false_eq_true] <;> omega))) (fun h24 => ?_)
          refine pw_iload_n 28 rfl dX12_sheet_27 rfl ?_
          refine pw_if_ge (tgt := 34) 31 rfl dX12_sheet_28 rfl (fun h28 => absurd h28 (Int32.not_le.mpr h0)) (fun h28 => ?_)
          refine pw_bipush (v := -2) 33 rfl dX12_sheet_31 rfl ?_
          refine pw_iret dX12_sheet_33 rfl ?_
          rotate_left
          exact no (by unfold oSheet; simp only [hi]; rw [if_neg h7, if_neg hk3, if_pos h0])
        · obtain ⟨mm, hmm, rfl⟩ := nI_of h0
          rw [nI_leI (by omega) (by omega)] at h7'
          have e : oSheet (nI k) (nI mm) f st (n, pc, b, us, kp, rw, tx, rt, hd, sw) = (nI (sumN (shP (nI k) f st mm n pc) n), (n, shP (nI k) f st mm n pc, b, us, kp, rw, tx, rt, hd, sw)) := by unfold oSheet; simp only [hi]; rw [if_neg h7, if_neg hk3, if_neg h0, nI_clamp (by omega)]
          have hst : ∀ (I' : pI) (q : Nat), q < n → (∀ j, j < q → I' 2 j = nI (if j < mm then shA (nI k) f st j else 0)) → ∀ j, j < q + 1 → uI I' 2 q (nI (if q < mm then shA (nI k) f st q else 0)) 2 j = nI (if j < mm then shA (nI k) f st j else 0) := fun I' q hq g1 j hj => by
            by_cases ej : j = q
            · rw [ej, uI_eq]
            · rw [uI_ne (by omega)]; exact g1 j (by omega)
          refine pw_iload_n 6 rfl dX12_sheet_5 rfl ?_
          refine pw_iconst (v := nI 0) 7 rfl dX12_sheet_6 rfl ?_
          refine pw_iconst (v := nI 3) 8 rfl dX12_sheet_7 rfl ?_
          refine pw_callSP (as := [_, _, _]) 11 rfl dX12_sheet_8 mX12_98 sX12_in (m_in (d := d) _ _ _) ⟨rfl, by decide, by decide, show (parseMethodDescriptor yX12_in.desc).map (fun d => d.parameters.length) = some 3 by decide +kernel⟩ (by omega) (by decide) (Nat.le_of_ble_eq_true rfl) rfl ?_
          refine pw_if_eq (tgt := 20) 14 rfl dX12_sheet_11 rfl (fun h11 => absurd h11 (by rw [inV_y h1 h2 (by decide)]; decide)) (fun h11 => ?_)
          refine pw_iload_n 15 rfl dX12_sheet_14 rfl ?_
          refine pw_bipush (v := nI 7) 17 rfl dX12_sheet_15 rfl ?_
          refine pw_icmp_le (tgt := 22) 20 rfl dX12_sheet_17 rfl (fun h17 => ?_) (fun h17 => absurd (by (simp (disch := omega) only [nI_leI, nI_ltI, nI_eq, show (0 : Int32) = nI 0 from rfl, not_true_eq_false, not_false_eq_true] <;> omega)) h17)
          refine pw_iload_n 23 rfl dX12_sheet_22 rfl ?_
          refine pw_iconst (v := nI 3) 24 rfl dX12_sheet_23 rfl ?_
          refine pw_icmp_ge (tgt := 34) 27 rfl dX12_sheet_24 rfl (fun h24 => absurd h24 (by (simp (disch := omega) only [nI_leI, nI_ltI, nI_eq, show (0 : Int32) = nI 0 from rfl, not_true_eq_false, not_false_eq_true] <;> omega))) (fun h24 => ?_)
          refine pw_iload_n 28 rfl dX12_sheet_27 rfl ?_
          refine pw_if_ge (tgt := 34) 31 rfl dX12_sheet_28 rfl (fun h28 => ?_) (fun h28 => absurd (nI_pos' (by omega)) h28)
          refine pw_iload_n 35 rfl dX12_sheet_34 rfl ?_
          refine pw_istore 37 rfl dX12_sheet_35 (by decide) ?_
          refine pw_iconst (v := nI 0) 38 rfl dX12_sheet_37 rfl ?_
          refine pw_istore 40 rfl dX12_sheet_38 (by decide) ?_
          rotate_left
          have L := nat_loop n (fun q => ∀ (I' : pI) (x7 : Option Value), (∀ j, j < q → I' 2 j = nI (if j < mm then shA (nI k) f st j else 0)) → (∀ j, q ≤ j → I' 2 j = I 2 j) → (∀ a j, a ≠ 2 → I' a j = I a j) → PW SM yX12_sheet.cls cX12_sheet 8 (d + 245) 40 [some (.ref 0), some (.int (nI k)), some (.int (nI mm)), some (.int f), some (.int st), some (.int (f + nI q * st)), some (.int (nI q)), x7] [] (I') (J) (RM rd (some 6)) (rX cX12_sheet (some .int) (moP (g + 10000) (oSheet (nI k) (nI mm) f st (n, pc, b, us, kp, rw, tx, rt, hd, sw))))) ?_ ?_
          · have := L I none (fun j hj => by omega) (fun _ _ => rfl) (fun _ _ _ => rfl)
            rw [show nI 0 * st = 0 from by rw [nI_0, Int32.zero_mul], Int32.add_zero] at this
            exact this
          · intro I' x7 g1 g2 g3
            have hC' : MC I' n (shP (nI k) f st mm n pc) := ⟨hn7, by rw [g3 _ _ (by omega)]; exact hn, fun j hj => by
              unfold shP
              by_cases c : j < n
              · rw [if_pos c]; exact g1 j c
              · rw [if_neg c, g2 j (by omega)]; exact mC.2.2 j hj⟩
            refine pw_iload 42 rfl dX12_sheet_40 rfl ?_
            refine pw_aload_n 43 rfl dX12_sheet_42 rfl ?_
            refine pw_getI 46 rfl dX12_sheet_43 fX12_95 (by first | rfl | assumption | exact rowS hh | exact mtS hm | exact ruS hr | exact mtA1 hm | exact mtA2 hm | exact mtA3 hm | exact mtA4 hm | exact mtA5 hm | exact mtA6 hm | exact mtA7 hm | exact ruA1 hr | exact ruA2 hr | exact ruA3 hr) rfl ?_
            refine pw_icmp_ge (tgt := 120) 49 rfl dX12_sheet_46 rfl (fun h46 => ?_) (fun h46 => absurd (by rw [g3 _ _ (by omega), hn]; (simp (disch := omega) only [nI_leI, nI_ltI, nI_eq, show (0 : Int32) = nI 0 from rfl, not_true_eq_false, not_false_eq_true] <;> omega)) h46)
            refine pw_iload_n 121 rfl dX12_sheet_120 rfl ?_
            refine pw_iconst (v := nI 3) 122 rfl dX12_sheet_121 rfl ?_
            refine pw_icmp_ne (tgt := 130) 125 rfl dX12_sheet_122 rfl (fun h122 => ?_) (fun h122 => absurd h122 (by rw [nI_eq (by omega) (by decide)]; exact hk3))
            refine pw_aload_n 131 rfl dX12_sheet_130 rfl ?_
            refine pw_callVP (as := []) 134 rfl dX12_sheet_131 mX12_216 vX12_paces (m_paces (d := d + 244) hC') (by first | rfl | assumption | exact rowS hh | exact mtS hm | exact ruS hr | exact mtA1 hm | exact mtA2 hm | exact mtA3 hm | exact mtA4 hm | exact mtA5 hm | exact mtA6 hm | exact mtA7 hm | exact ruA1 hr | exact ruA2 hr | exact ruA3 hr) rfl (by decide) ⟨rfl, by decide, by decide, show (parseMethodDescriptor yX12_paces.desc).map (fun d => d.parameters.length) = some 0 by decide +kernel⟩ (by omega) (by decide) (Nat.le_of_ble_eq_true rfl) rfl ?_
            refine pw_iret dX12_sheet_134 rfl ?_
            rotate_left
            exact moE e ⟨rfl, MA_pc hA0 g3 hC', (MDg_f hD0 (g3 _ _ (by omega)) (fun j => g3 _ _ (by omega))).mono (by omega), rd, rfl⟩
          · intro q hq ih I' x7 g1 g2 g3
            rw [← step_V] at ih
            have fin : ∀ (x : Int32) (x7 : Option Value), x = nI (if q < mm then shA (nI k) f st q else 0) → PW SM yX12_sheet.cls cX12_sheet 8 (d + 245) 107 [some (.ref 0), some (.int (nI k)), some (.int (nI mm)), some (.int f), some (.int st), some (.int (f + nI q * st)), some (.int (nI q)), x7] [] (uI I' 2 q x) (J) (RM rd (some 6)) (rX cX12_sheet (some .int) (moP (g + 10000) (oSheet (nI k) (nI mm) f st (n, pc, b, us, kp, rw, tx, rt, hd, sw)))) := by
              intro x x7 hx
              subst hx
              refine pw_iload 109 rfl dX12_sheet_107 rfl ?_
              refine pw_iload 111 rfl dX12_sheet_109 rfl ?_
              refine pw_iadd 112 rfl dX12_sheet_111 ?_
              refine pw_istore 114 rfl dX12_sheet_112 (by decide) ?_
              refine pw_iincN 117 rfl dX12_sheet_114 (by decide) rfl ?_
              refine pw_goto (tgt := 40) dX12_sheet_117 rfl ?_
              rotate_left
              exact ih _ _ (hst I' q hq g1) (fun j hj => by rw [uI_ne (by omega)]; exact g2 j (by omega)) (fun a j z => by rw [uI_ne (by omega)]; exact g3 a j z)
            have hk3' : ¬ nI k = nI 3 := by rw [nI_eq (by omega) (by decide)]; exact hk3
            by_cases hqm : q < mm
            · rw [if_pos hqm] at fin
              have es := (shA_nI (nI k) f st q).1
              rcases (show k = 0 ∨ k = 1 ∨ k = 2 by omega) with rfl | rfl | rfl
              · rw [show entA (nI 0) (f + nI q * st) = (f + nI q * st).toInt8.toInt32 from rfl] at es
                refine pw_iload 42 rfl dX12_sheet_40 rfl ?_
                refine pw_aload_n 43 rfl dX12_sheet_42 rfl ?_
                refine pw_getI 46 rfl dX12_sheet_43 fX12_95 (by first | rfl | assumption | exact rowS hh | exact mtS hm | exact ruS hr | exact mtA1 hm | exact mtA2 hm | exact mtA3 hm | exact mtA4 hm | exact mtA5 hm | exact mtA6 hm | exact mtA7 hm | exact ruA1 hr | exact ruA2 hr | exact ruA3 hr) rfl ?_
                refine pw_icmp_ge (tgt := 120) 49 rfl dX12_sheet_46 rfl (fun h46 => absurd h46 (by rw [g3 _ _ (by omega), hn]; (simp (disch := omega) only [nI_leI, nI_ltI, nI_eq, show (0 : Int32) = nI 0 from rfl, not_true_eq_false, not_false_eq_true] <;> omega))) (fun h46 => ?_)
                refine pw_iload_n 50 rfl dX12_sheet_49 rfl ?_
                refine pw_if_ne (tgt := 59) 53 rfl dX12_sheet_50 rfl (fun h50 => absurd (by rfl) h50) (fun h50 => ?_)
                refine pw_iload 55 rfl dX12_sheet_53 rfl ?_
                refine pw_i2b 56 rfl dX12_sheet_55 ?_
                refine pw_goto (tgt := 72) dX12_sheet_56 rfl ?_
                refine pw_istore 74 rfl dX12_sheet_72 (by decide) ?_
                refine pw_aload_n 75 rfl dX12_sheet_74 rfl ?_
                refine pw_getR 78 rfl dX12_sheet_75 fX12_13 (by first | rfl | assumption | exact rowS hh | exact mtS hm | exact ruS hr | exact mtA1 hm | exact mtA2 hm | exact mtA3 hm | exact mtA4 hm | exact mtA5 hm | exact mtA6 hm | exact mtA7 hm | exact ruA1 hr | exact ruA2 hr | exact ruA3 hr) rfl (by first | rfl | assumption | exact mtR0 hm | exact mtR1 hm | exact mtR2 hm | exact mtR3 hm | exact mtR4 hm | exact mtR5 hm | exact mtR6 hm | exact ruR0 hr | exact ruR1 hr | exact ruR3 hr) ?_
                refine pw_iload 80 rfl dX12_sheet_78 rfl ?_
                refine pw_iload_n 81 rfl dX12_sheet_80 rfl ?_
                refine pw_iconst (v := nI 3) 82 rfl dX12_sheet_81 rfl ?_
                refine pw_icmp_eq (tgt := 91) 85 rfl dX12_sheet_82 rfl (fun h82 => absurd h82 hk3') (fun h82 => ?_)
                refine pw_iload 87 rfl dX12_sheet_85 rfl ?_
                refine pw_iload_n 88 rfl dX12_sheet_87 rfl ?_
                refine pw_icmp_lt (tgt := 95) 91 rfl dX12_sheet_88 rfl (fun h88 => ?_) (fun h88 => absurd (by (simp (disch := omega) only [nI_leI, nI_ltI, nI_eq, show (0 : Int32) = nI 0 from rfl, not_true_eq_false, not_false_eq_true] <;> omega)) h88)
                refine pw_iconst (v := nI 0) 96 rfl dX12_sheet_95 rfl ?_
                refine pw_bipush (v := nI 9) 98 rfl dX12_sheet_96 rfl ?_
                refine pw_iload 100 rfl dX12_sheet_98 rfl ?_
                refine pw_mmin 103 rfl dX12_sheet_100 mX12_189 (Nat.le_of_ble_eq_true rfl) ?_
                refine pw_mmax 106 rfl dX12_sheet_103 mX12_195 (Nat.le_of_ble_eq_true rfl) ?_
                rotate_left
                rw [clamp9, es]
                refine pw_iastN 107 rfl dX12_sheet_106 (by first | rfl | assumption | exact rowS hh | exact mtS hm | exact ruS hr | exact mtA1 hm | exact mtA2 hm | exact mtA3 hm | exact mtA4 hm | exact mtA5 hm | exact mtA6 hm | exact mtA7 hm | exact ruA1 hr | exact ruA2 hr | exact ruA3 hr) (by omega) (by first | decide | omega) ?_
                rotate_left
                exact fin _ _ rfl
              · rw [show entA (nI 1) (f + nI q * st) = (f + nI q * st).toInt16.toInt32 from rfl] at es
                refine pw_iload 42 rfl dX12_sheet_40 rfl ?_
                refine pw_aload_n 43 rfl dX12_sheet_42 rfl ?_
                refine pw_getI 46 rfl dX12_sheet_43 fX12_95 (by first | rfl | assumption | exact rowS hh | exact mtS hm | exact ruS hr | exact mtA1 hm | exact mtA2 hm | exact mtA3 hm | exact mtA4 hm | exact mtA5 hm | exact mtA6 hm | exact mtA7 hm | exact ruA1 hr | exact ruA2 hr | exact ruA3 hr) rfl ?_
                refine pw_icmp_ge (tgt := 120) 49 rfl dX12_sheet_46 rfl (fun h46 => absurd h46 (by rw [g3 _ _ (by omega), hn]; (simp (disch := omega) only [nI_leI, nI_ltI, nI_eq, show (0 : Int32) = nI 0 from rfl, not_true_eq_false, not_false_eq_true] <;> omega))) (fun h46 => ?_)
                refine pw_iload_n 50 rfl dX12_sheet_49 rfl ?_
                refine pw_if_ne (tgt := 59) 53 rfl dX12_sheet_50 rfl (fun h50 => ?_) (fun h50 => absurd h50 (by decide))
                refine pw_iload_n 60 rfl dX12_sheet_59 rfl ?_
                refine pw_iconst (v := nI 1) 61 rfl dX12_sheet_60 rfl ?_
                refine pw_icmp_ne (tgt := 70) 64 rfl dX12_sheet_61 rfl (fun h61 => absurd (by rfl) h61) (fun h61 => ?_)
                refine pw_iload 66 rfl dX12_sheet_64 rfl ?_
                refine pw_i2s 67 rfl dX12_sheet_66 ?_
                refine pw_goto (tgt := 72) dX12_sheet_67 rfl ?_
                refine pw_istore 74 rfl dX12_sheet_72 (by decide) ?_
                refine pw_aload_n 75 rfl dX12_sheet_74 rfl ?_
                refine pw_getR 78 rfl dX12_sheet_75 fX12_13 (by first | rfl | assumption | exact rowS hh | exact mtS hm | exact ruS hr | exact mtA1 hm | exact mtA2 hm | exact mtA3 hm | exact mtA4 hm | exact mtA5 hm | exact mtA6 hm | exact mtA7 hm | exact ruA1 hr | exact ruA2 hr | exact ruA3 hr) rfl (by first | rfl | assumption | exact mtR0 hm | exact mtR1 hm | exact mtR2 hm | exact mtR3 hm | exact mtR4 hm | exact mtR5 hm | exact mtR6 hm | exact ruR0 hr | exact ruR1 hr | exact ruR3 hr) ?_
                refine pw_iload 80 rfl dX12_sheet_78 rfl ?_
                refine pw_iload_n 81 rfl dX12_sheet_80 rfl ?_
                refine pw_iconst (v := nI 3) 82 rfl dX12_sheet_81 rfl ?_
                refine pw_icmp_eq (tgt := 91) 85 rfl dX12_sheet_82 rfl (fun h82 => absurd h82 hk3') (fun h82 => ?_)
                refine pw_iload 87 rfl dX12_sheet_85 rfl ?_
                refine pw_iload_n 88 rfl dX12_sheet_87 rfl ?_
                refine pw_icmp_lt (tgt := 95) 91 rfl dX12_sheet_88 rfl (fun h88 => ?_) (fun h88 => absurd (by (simp (disch := omega) only [nI_leI, nI_ltI, nI_eq, show (0 : Int32) = nI 0 from rfl, not_true_eq_false, not_false_eq_true] <;> omega)) h88)
                refine pw_iconst (v := nI 0) 96 rfl dX12_sheet_95 rfl ?_
                refine pw_bipush (v := nI 9) 98 rfl dX12_sheet_96 rfl ?_
                refine pw_iload 100 rfl dX12_sheet_98 rfl ?_
                refine pw_mmin 103 rfl dX12_sheet_100 mX12_189 (Nat.le_of_ble_eq_true rfl) ?_
                refine pw_mmax 106 rfl dX12_sheet_103 mX12_195 (Nat.le_of_ble_eq_true rfl) ?_
                rotate_left
                rw [clamp9, es]
                refine pw_iastN 107 rfl dX12_sheet_106 (by first | rfl | assumption | exact rowS hh | exact mtS hm | exact ruS hr | exact mtA1 hm | exact mtA2 hm | exact mtA3 hm | exact mtA4 hm | exact mtA5 hm | exact mtA6 hm | exact mtA7 hm | exact ruA1 hr | exact ruA2 hr | exact ruA3 hr) (by omega) (by first | decide | omega) ?_
                rotate_left
                exact fin _ _ rfl
              · rw [show entA (nI 2) (f + nI q * st) = f + nI q * st from rfl] at es
                refine pw_iload 42 rfl dX12_sheet_40 rfl ?_
                refine pw_aload_n 43 rfl dX12_sheet_42 rfl ?_
                refine pw_getI 46 rfl dX12_sheet_43 fX12_95 (by first | rfl | assumption | exact rowS hh | exact mtS hm | exact ruS hr | exact mtA1 hm | exact mtA2 hm | exact mtA3 hm | exact mtA4 hm | exact mtA5 hm | exact mtA6 hm | exact mtA7 hm | exact ruA1 hr | exact ruA2 hr | exact ruA3 hr) rfl ?_
                refine pw_icmp_ge (tgt := 120) 49 rfl dX12_sheet_46 rfl (fun h46 => absurd h46 (by rw [g3 _ _ (by omega), hn]; (simp (disch := omega) only [nI_leI, nI_ltI, nI_eq, show (0 : Int32) = nI 0 from rfl, not_true_eq_false, not_false_eq_true] <;> omega))) (fun h46 => ?_)
                refine pw_iload_n 50 rfl dX12_sheet_49 rfl ?_
                refine pw_if_ne (tgt := 59) 53 rfl dX12_sheet_50 rfl (fun h50 => ?_) (fun h50 => absurd h50 (by decide))
                refine pw_iload_n 60 rfl dX12_sheet_59 rfl ?_
                refine pw_iconst (v := nI 1) 61 rfl dX12_sheet_60 rfl ?_
                refine pw_icmp_ne (tgt := 70) 64 rfl dX12_sheet_61 rfl (fun h61 => ?_) (fun h61 => absurd h61 (by decide))
                refine pw_iload 72 rfl dX12_sheet_70 rfl ?_
                refine pw_istore 74 rfl dX12_sheet_72 (by decide) ?_
                refine pw_aload_n 75 rfl dX12_sheet_74 rfl ?_
                refine pw_getR 78 rfl dX12_sheet_75 fX12_13 (by first | rfl | assumption | exact rowS hh | exact mtS hm | exact ruS hr | exact mtA1 hm | exact mtA2 hm | exact mtA3 hm | exact mtA4 hm | exact mtA5 hm | exact mtA6 hm | exact mtA7 hm | exact ruA1 hr | exact ruA2 hr | exact ruA3 hr) rfl (by first | rfl | assumption | exact mtR0 hm | exact mtR1 hm | exact mtR2 hm | exact mtR3 hm | exact mtR4 hm | exact mtR5 hm | exact mtR6 hm | exact ruR0 hr | exact ruR1 hr | exact ruR3 hr) ?_
                refine pw_iload 80 rfl dX12_sheet_78 rfl ?_
                refine pw_iload_n 81 rfl dX12_sheet_80 rfl ?_
                refine pw_iconst (v := nI 3) 82 rfl dX12_sheet_81 rfl ?_
                refine pw_icmp_eq (tgt := 91) 85 rfl dX12_sheet_82 rfl (fun h82 => absurd h82 hk3') (fun h82 => ?_)
                refine pw_iload 87 rfl dX12_sheet_85 rfl ?_
                refine pw_iload_n 88 rfl dX12_sheet_87 rfl ?_
                refine pw_icmp_lt (tgt := 95) 91 rfl dX12_sheet_88 rfl (fun h88 => ?_) (fun h88 => absurd (by (simp (disch := omega) only [nI_leI, nI_ltI, nI_eq, show (0 : Int32) = nI 0 from rfl, not_true_eq_false, not_false_eq_true] <;> omega)) h88)
                refine pw_iconst (v := nI 0) 96 rfl dX12_sheet_95 rfl ?_
                refine pw_bipush (v := nI 9) 98 rfl dX12_sheet_96 rfl ?_
                refine pw_iload 100 rfl dX12_sheet_98 rfl ?_
                refine pw_mmin 103 rfl dX12_sheet_100 mX12_189 (Nat.le_of_ble_eq_true rfl) ?_
                refine pw_mmax 106 rfl dX12_sheet_103 mX12_195 (Nat.le_of_ble_eq_true rfl) ?_
                rotate_left
                rw [clamp9, es]
                refine pw_iastN 107 rfl dX12_sheet_106 (by first | rfl | assumption | exact rowS hh | exact mtS hm | exact ruS hr | exact mtA1 hm | exact mtA2 hm | exact mtA3 hm | exact mtA4 hm | exact mtA5 hm | exact mtA6 hm | exact mtA7 hm | exact ruA1 hr | exact ruA2 hr | exact ruA3 hr) (by omega) (by first | decide | omega) ?_
                rotate_left
                exact fin _ _ rfl
            · rw [if_neg hqm] at fin
              rcases (show k = 0 ∨ k = 1 ∨ k = 2 by omega) with rfl | rfl | rfl
              · refine pw_iload 42 rfl dX12_sheet_40 rfl ?_
                refine pw_aload_n 43 rfl dX12_sheet_42 rfl ?_
                refine pw_getI 46 rfl dX12_sheet_43 fX12_95 (by first | rfl | assumption | exact rowS hh | exact mtS hm | exact ruS hr | exact mtA1 hm | exact mtA2 hm | exact mtA3 hm | exact mtA4 hm | exact mtA5 hm | exact mtA6 hm | exact mtA7 hm | exact ruA1 hr | exact ruA2 hr | exact ruA3 hr) rfl ?_
                refine pw_icmp_ge (tgt := 120) 49 rfl dX12_sheet_46 rfl (fun h46 => absurd h46 (by rw [g3 _ _ (by omega), hn]; (simp (disch := omega) only [nI_leI, nI_ltI, nI_eq, show (0 : Int32) = nI 0 from rfl, not_true_eq_false, not_false_eq_true] <;> omega))) (fun h46 => ?_)
                refine pw_iload_n 50 rfl dX12_sheet_49 rfl ?_
                refine pw_if_ne (tgt := 59) 53 rfl dX12_sheet_50 rfl (fun h50 => absurd (by rfl) h50) (fun h50 => ?_)
                refine pw_iload 55 rfl dX12_sheet_53 rfl ?_
                refine pw_i2b 56 rfl dX12_sheet_55 ?_
                refine pw_goto (tgt := 72) dX12_sheet_56 rfl ?_
                refine pw_istore 74 rfl dX12_sheet_72 (by decide) ?_
                refine pw_aload_n 75 rfl dX12_sheet_74 rfl ?_
                refine pw_getR 78 rfl dX12_sheet_75 fX12_13 (by first | rfl | assumption | exact rowS hh | exact mtS hm | exact ruS hr | exact mtA1 hm | exact mtA2 hm | exact mtA3 hm | exact mtA4 hm | exact mtA5 hm | exact mtA6 hm | exact mtA7 hm | exact ruA1 hr | exact ruA2 hr | exact ruA3 hr) rfl (by first | rfl | assumption | exact mtR0 hm | exact mtR1 hm | exact mtR2 hm | exact mtR3 hm | exact mtR4 hm | exact mtR5 hm | exact mtR6 hm | exact ruR0 hr | exact ruR1 hr | exact ruR3 hr) ?_
                refine pw_iload 80 rfl dX12_sheet_78 rfl ?_
                refine pw_iload_n 81 rfl dX12_sheet_80 rfl ?_
                refine pw_iconst (v := nI 3) 82 rfl dX12_sheet_81 rfl ?_
                refine pw_icmp_eq (tgt := 91) 85 rfl dX12_sheet_82 rfl (fun h82 => absurd h82 hk3') (fun h82 => ?_)
                refine pw_iload 87 rfl dX12_sheet_85 rfl ?_
                refine pw_iload_n 88 rfl dX12_sheet_87 rfl ?_
                refine pw_icmp_lt (tgt := 95) 91 rfl dX12_sheet_88 rfl (fun h88 => absurd h88 (by (simp (disch := omega) only [nI_leI, nI_ltI, nI_eq, show (0 : Int32) = nI 0 from rfl, not_true_eq_false, not_false_eq_true] <;> omega))) (fun h88 => ?_)
                refine pw_iconst (v := nI 0) 92 rfl dX12_sheet_91 rfl ?_
                refine pw_goto (tgt := 106) dX12_sheet_92 rfl ?_
                refine pw_iastN 107 rfl dX12_sheet_106 (by first | rfl | assumption | exact rowS hh | exact mtS hm | exact ruS hr | exact mtA1 hm | exact mtA2 hm | exact mtA3 hm | exact mtA4 hm | exact mtA5 hm | exact mtA6 hm | exact mtA7 hm | exact ruA1 hr | exact ruA2 hr | exact ruA3 hr) (by omega) (by first | decide | omega) ?_
                rotate_left
                exact fin _ _ rfl
              · refine pw_iload 42 rfl dX12_sheet_40 rfl ?_
                refine pw_aload_n 43 rfl dX12_sheet_42 rfl ?_
                refine pw_getI 46 rfl dX12_sheet_43 fX12_95 (by first | rfl | assumption | exact rowS hh | exact mtS hm | exact ruS hr | exact mtA1 hm | exact mtA2 hm | exact mtA3 hm | exact mtA4 hm | exact mtA5 hm | exact mtA6 hm | exact mtA7 hm | exact ruA1 hr | exact ruA2 hr | exact ruA3 hr) rfl ?_
                refine pw_icmp_ge (tgt := 120) 49 rfl dX12_sheet_46 rfl (fun h46 => absurd h46 (by rw [g3 _ _ (by omega), hn]; (simp (disch := omega) only [nI_leI, nI_ltI, nI_eq, show (0 : Int32) = nI 0 from rfl, not_true_eq_false, not_false_eq_true] <;> omega))) (fun h46 => ?_)
                refine pw_iload_n 50 rfl dX12_sheet_49 rfl ?_
                refine pw_if_ne (tgt := 59) 53 rfl dX12_sheet_50 rfl (fun h50 => ?_) (fun h50 => absurd h50 (by decide))
                refine pw_iload_n 60 rfl dX12_sheet_59 rfl ?_
                refine pw_iconst (v := nI 1) 61 rfl dX12_sheet_60 rfl ?_
                refine pw_icmp_ne (tgt := 70) 64 rfl dX12_sheet_61 rfl (fun h61 => absurd (by rfl) h61) (fun h61 => ?_)
                refine pw_iload 66 rfl dX12_sheet_64 rfl ?_
                refine pw_i2s 67 rfl dX12_sheet_66 ?_
                refine pw_goto (tgt := 72) dX12_sheet_67 rfl ?_
                refine pw_istore 74 rfl dX12_sheet_72 (by decide) ?_
                refine pw_aload_n 75 rfl dX12_sheet_74 rfl ?_
                refine pw_getR 78 rfl dX12_sheet_75 fX12_13 (by first | rfl | assumption | exact rowS hh | exact mtS hm | exact ruS hr | exact mtA1 hm | exact mtA2 hm | exact mtA3 hm | exact mtA4 hm | exact mtA5 hm | exact mtA6 hm | exact mtA7 hm | exact ruA1 hr | exact ruA2 hr | exact ruA3 hr) rfl (by first | rfl | assumption | exact mtR0 hm | exact mtR1 hm | exact mtR2 hm | exact mtR3 hm | exact mtR4 hm | exact mtR5 hm | exact mtR6 hm | exact ruR0 hr | exact ruR1 hr | exact ruR3 hr) ?_
                refine pw_iload 80 rfl dX12_sheet_78 rfl ?_
                refine pw_iload_n 81 rfl dX12_sheet_80 rfl ?_
                refine pw_iconst (v := nI 3) 82 rfl dX12_sheet_81 rfl ?_
                refine pw_icmp_eq (tgt := 91) 85 rfl dX12_sheet_82 rfl (fun h82 => absurd h82 hk3') (fun h82 => ?_)
                refine pw_iload 87 rfl dX12_sheet_85 rfl ?_
                refine pw_iload_n 88 rfl dX12_sheet_87 rfl ?_
                refine pw_icmp_lt (tgt := 95) 91 rfl dX12_sheet_88 rfl (fun h88 => absurd h88 (by (simp (disch := omega) only [nI_leI, nI_ltI, nI_eq, show (0 : Int32) = nI 0 from rfl, not_true_eq_false, not_false_eq_true] <;> omega))) (fun h88 => ?_)
                refine pw_iconst (v := nI 0) 92 rfl dX12_sheet_91 rfl ?_
                refine pw_goto (tgt := 106) dX12_sheet_92 rfl ?_
                refine pw_iastN 107 rfl dX12_sheet_106 (by first | rfl | assumption | exact rowS hh | exact mtS hm | exact ruS hr | exact mtA1 hm | exact mtA2 hm | exact mtA3 hm | exact mtA4 hm | exact mtA5 hm | exact mtA6 hm | exact mtA7 hm | exact ruA1 hr | exact ruA2 hr | exact ruA3 hr) (by omega) (by first | decide | omega) ?_
                rotate_left
                exact fin _ _ rfl
              · refine pw_iload 42 rfl dX12_sheet_40 rfl ?_
                refine pw_aload_n 43 rfl dX12_sheet_42 rfl ?_
                refine pw_getI 46 rfl dX12_sheet_43 fX12_95 (by first | rfl | assumption | exact rowS hh | exact mtS hm | exact ruS hr | exact mtA1 hm | exact mtA2 hm | exact mtA3 hm | exact mtA4 hm | exact mtA5 hm | exact mtA6 hm | exact mtA7 hm | exact ruA1 hr | exact ruA2 hr | exact ruA3 hr) rfl ?_
                refine pw_icmp_ge (tgt := 120) 49 rfl dX12_sheet_46 rfl (fun h46 => absurd h46 (by rw [g3 _ _ (by omega), hn]; (simp (disch := omega) only [nI_leI, nI_ltI, nI_eq, show (0 : Int32) = nI 0 from rfl, not_true_eq_false, not_false_eq_true] <;> omega))) (fun h46 => ?_)
                refine pw_iload_n 50 rfl dX12_sheet_49 rfl ?_
                refine pw_if_ne (tgt := 59) 53 rfl dX12_sheet_50 rfl (fun h50 => ?_) (fun h50 => absurd h50 (by decide))
                refine pw_iload_n 60 rfl dX12_sheet_59 rfl ?_
                refine pw_iconst (v := nI 1) 61 rfl dX12_sheet_60 rfl ?_
                refine pw_icmp_ne (tgt := 70) 64 rfl dX12_sheet_61 rfl (fun h61 => ?_) (fun h61 => absurd h61 (by decide))
                refine pw_iload 72 rfl dX12_sheet_70 rfl ?_
                refine pw_istore 74 rfl dX12_sheet_72 (by decide) ?_
                refine pw_aload_n 75 rfl dX12_sheet_74 rfl ?_
                refine pw_getR 78 rfl dX12_sheet_75 fX12_13 (by first | rfl | assumption | exact rowS hh | exact mtS hm | exact ruS hr | exact mtA1 hm | exact mtA2 hm | exact mtA3 hm | exact mtA4 hm | exact mtA5 hm | exact mtA6 hm | exact mtA7 hm | exact ruA1 hr | exact ruA2 hr | exact ruA3 hr) rfl (by first | rfl | assumption | exact mtR0 hm | exact mtR1 hm | exact mtR2 hm | exact mtR3 hm | exact mtR4 hm | exact mtR5 hm | exact mtR6 hm | exact ruR0 hr | exact ruR1 hr | exact ruR3 hr) ?_
                refine pw_iload 80 rfl dX12_sheet_78 rfl ?_
                refine pw_iload_n 81 rfl dX12_sheet_80 rfl ?_
                refine pw_iconst (v := nI 3) 82 rfl dX12_sheet_81 rfl ?_
                refine pw_icmp_eq (tgt := 91) 85 rfl dX12_sheet_82 rfl (fun h82 => absurd h82 hk3') (fun h82 => ?_)
                refine pw_iload 87 rfl dX12_sheet_85 rfl ?_
                refine pw_iload_n 88 rfl dX12_sheet_87 rfl ?_
                refine pw_icmp_lt (tgt := 95) 91 rfl dX12_sheet_88 rfl (fun h88 => absurd h88 (by (simp (disch := omega) only [nI_leI, nI_ltI, nI_eq, show (0 : Int32) = nI 0 from rfl, not_true_eq_false, not_false_eq_true] <;> omega))) (fun h88 => ?_)
                refine pw_iconst (v := nI 0) 92 rfl dX12_sheet_91 rfl ?_
                refine pw_goto (tgt := 106) dX12_sheet_92 rfl ?_
                refine pw_iastN 107 rfl dX12_sheet_106 (by first | rfl | assumption | exact rowS hh | exact mtS hm | exact ruS hr | exact mtA1 hm | exact mtA2 hm | exact mtA3 hm | exact mtA4 hm | exact mtA5 hm | exact mtA6 hm | exact mtA7 hm | exact ruA1 hr | exact ruA2 hr | exact ruA3 hr) (by omega) (by first | decide | omega) ?_
                rotate_left
                exact fin _ _ rfl
  · refine pw_iload_n 6 rfl dX12_sheet_5 rfl ?_
    refine pw_iconst (v := nI 0) 7 rfl dX12_sheet_6 rfl ?_
    refine pw_iconst (v := nI 3) 8 rfl dX12_sheet_7 rfl ?_
    refine pw_callSP (as := [_, _, _]) 11 rfl dX12_sheet_8 mX12_98 sX12_in (m_in (d := d) _ _ _) ⟨rfl, by decide, by decide, show (parseMethodDescriptor yX12_in.desc).map (fun d => d.parameters.length) = some 3 by decide +kernel⟩ (by omega) (by decide) (Nat.le_of_ble_eq_true rfl) rfl ?_
    refine pw_if_eq (tgt := 20) 14 rfl dX12_sheet_11 rfl (fun h11 => ?_) (fun h11 => absurd (by rw [inV_n ho]; rfl) h11)
    refine pw_iconst (v := -1) 21 rfl dX12_sheet_20 rfl ?_
    refine pw_iret dX12_sheet_21 rfl ?_
    rotate_left
    exact no (by unfold oSheet; simp only [hi])
set_option maxRecDepth 100000 in
set_option maxHeartbeats 2000000 in
theorem m_draw {d k : Nat} {I : pI} {J : pJ} {R : pR} (x : Int32) (hx : I 0 37 = x) (hk : 0 < k) (hk7 : k ≤ 7) : PC SM (d) yX12_draw cX12_draw 2 (some .int) [.ref 0, .int (nI k)] (I) (J) (R) (fun r' I' J' R' => r' = some (.int (nI (dN (drw x) % k))) ∧ I' 0 37 = drw x ∧ (∀ a j, ¬ (a = 0 ∧ j = 37) → I' a j = I a j) ∧ J = J' ∧ R' = R) := by
  refine PC.of [some (.ref 0), some (.int (nI k))] rfl rfl (Nat.le_of_ble_eq_true rfl) ?_
  have hd := dN_lt (drw x)
  refine pw_aload_n 1 rfl dX12_draw_0 rfl ?_
  refine pw_aload_n 2 rfl dX12_draw_1 rfl ?_
  refine pw_getI 5 rfl dX12_draw_2 fX12_352 (by first | rfl | assumption | exact rowS hh | exact mtS hm | exact ruS hr | exact mtA1 hm | exact mtA2 hm | exact mtA3 hm | exact mtA4 hm | exact mtA5 hm | exact mtA6 hm | exact mtA7 hm | exact ruA1 hr | exact ruA2 hr | exact ruA3 hr) rfl ?_
  refine pw_ldcw 8 rfl dX12_draw_5 kX12_355 ?_
  first | refine pw_imulN 9 rfl dX12_draw_8 ?_ | refine pw_imul 9 rfl dX12_draw_8 ?_
  refine pw_sipush (v := nI 12345) 12 rfl dX12_draw_9 rfl ?_
  refine pw_iadd 13 rfl dX12_draw_12 ?_
  rotate_left
  rw [hx]
  show PW _ _ _ _ _ _ _ [.int (drw x), .ref 0] _ _ _ _
  refine pw_putI 16 rfl dX12_draw_13 fX12_352 w12_37 (by first | rfl | assumption | exact rowS hh | exact mtS hm | exact ruS hr | exact mtA1 hm | exact mtA2 hm | exact mtA3 hm | exact mtA4 hm | exact mtA5 hm | exact mtA6 hm | exact mtA7 hm | exact ruA1 hr | exact ruA2 hr | exact ruA3 hr) rfl rfl rfl ?_
  refine pw_aload_n 17 rfl dX12_draw_16 rfl ?_
  refine pw_getI 20 rfl dX12_draw_17 fX12_352 (by first | rfl | assumption | exact rowS hh | exact mtS hm | exact ruS hr | exact mtA1 hm | exact mtA2 hm | exact mtA3 hm | exact mtA4 hm | exact mtA5 hm | exact mtA6 hm | exact mtA7 hm | exact ruA1 hr | exact ruA2 hr | exact ruA3 hr) rfl ?_
  rotate_left
  rw [uI_eq]
  refine pw_bipush (v := nI 16) 22 rfl dX12_draw_20 rfl ?_
  refine pw_iushr 23 rfl dX12_draw_22 rfl ?_
  rotate_left
  rw [ush_16]
  refine pw_iload_n 24 rfl dX12_draw_23 rfl ?_
  refine pw_iremN 25 rfl dX12_draw_24 (by omega) (by omega) (by omega) ?_
  refine pw_iret dX12_draw_25 rfl ?_
  rotate_left
  exact ⟨rfl, uI_eq _ _ _ _, fun a j q => uI_ne (by omega), rfl, rfl⟩
def pDrM (D : Int32 → Int32) (Q : Int32 → Nat) : Prop := ∀ (d k : Nat) (I : pI) (J : pJ) (R : pR) (x : Int32), I 0 37 = x → 0 < k → k ≤ 7 → PC SM d yX12_draw cX12_draw 2 (some .int) [.ref 0, .int (nI k)] I J R (fun r' I' J' R' => r' = some (.int (nI (Q (D x) % k))) ∧ I' 0 37 = D x ∧ (∀ a j, ¬ (a = 0 ∧ j = 37) → I' a j = I a j) ∧ J = J' ∧ R' = R)
theorem pDrM_ok : pDrM drw dN := fun _ _ _ _ _ x hx h1 h2 => m_draw x hx h1 h2
theorem pop_hL {n : Nat} (h7 : n ≤ 7) (s b : Nat → Nat) : (hL s b n).length = popc (bts (hC s b) n) := by rw [hL_cnt, pop_bts _ n (by omega)]
/-- but for 'then', what an hour needs, and what was drawn -/
def mFy (I I' : pI) : Prop := ∀ a j, ¬ (a = 8 ∨ a = 11 ∨ a = 12 ∨ a = 13) → ¬ (a = 0 ∧ (j = 9 ∨ j = 10 ∨ j = 11 ∨ j = 12 ∨ j = 17 ∨ j = 24 ∨ j = 37)) → I' a j = I a j
set_option maxRecDepth 100000 in
set_option maxHeartbeats 2000000 in
theorem mo_years {D : Int32 → Int32} {Q : Int32 → Nat} (hDr : pDrM D Q) {d g : Nat} {s : aSt} {rd : Option Nat} {I : pI} {J : pJ} (hA : MA I J s) (hD : MDg g I) (hg : g ≤ 500000000) (hW : WA s) (w v : Int32) : PC SM (d + 245) yX12_years cX12_years 7 (some .int) [.ref 0, .int w, .int v] (I) (J) (RM rd (some 6)) (moP (g + 10000) (qOp (qYears D Q w v) s)) := by
  refine PC.of [some (.ref 0), some (.int w), some (.int v), none, none, none, none] rfl rfl (Nat.le_of_ble_eq_true rfl) ?_
  obtain ⟨n, pc, b, us, kp, rw, tx, rt, hd, sw⟩ := s
  refine pw_aload_n 1 rfl dX12_years_0 rfl ?_
  refine pw_iconst (v := nI 0) 2 rfl dX12_years_1 rfl ?_
  refine pw_putI 5 rfl dX12_years_2 fX12_88 w12_7 (by first | rfl | assumption | exact rowS hh | exact mtS hm | exact ruS hr | exact mtA1 hm | exact mtA2 hm | exact mtA3 hm | exact mtA4 hm | exact mtA5 hm | exact mtA6 hm | exact mtA7 hm | exact ruA1 hr | exact ruA2 hr | exact ruA3 hr) rfl rfl rfl ?_
  rotate_left
  have hA0 := MA_thr (v := nI 0) hA
  have hD0 : MDg g (uI I 0 7 (nI 0)) := MDg_f hD (uI_ne (by omega)) (fun j => uI_ne (by omega))
  clear hA hD
  generalize uI I 0 7 (nI 0) = I at hA0 hD0 ⊢
  obtain ⟨mC, mB, mT, mN, mR, mU, mK, mH, mG⟩ := id hA0
  obtain ⟨aW, aU, aK⟩ := id hW
  have hE := MSt_A hA0
  have hn7 := mC.1
  have hn := mC.2.1
  rcases inOf_cases (lo := 1) (hi := 60) (by decide) v (by decide) with ⟨N, h1, h2, rfl, hi⟩ | ⟨hi, ho⟩
  · have eq : qYears D Q w (nI N) n pc b (ruE rt) rw hd sw = (nI ((yrs D Q n pc (ruE rt) (w, b, 0) N).2.1 29), [lI (yrs D Q n pc (ruE rt) (w, b, 0) N).2.2, lI (onW n (yrs D Q n pc (ruE rt) (w, b, 0) N).2.1)]) := by unfold qYears; rw [hi]; rfl
    generalize hEE : ruE rt = E at eq hE
    refine pw_iload_n 6 rfl dX12_years_5 rfl ?_
    refine pw_iconst (v := nI 1) 7 rfl dX12_years_6 rfl ?_
    refine pw_bipush (v := nI 60) 9 rfl dX12_years_7 rfl ?_
    refine pw_callSP (as := [_, _, _]) 12 rfl dX12_years_9 mX12_98 sX12_in (m_in (d := d) _ _ _) ⟨rfl, by decide, by decide, show (parseMethodDescriptor yX12_in.desc).map (fun d => d.parameters.length) = some 3 by decide +kernel⟩ (by omega) (by decide) (Nat.le_of_ble_eq_true rfl) rfl ?_
    refine pw_if_ne (tgt := 17) 15 rfl dX12_years_12 rfl (fun h12 => ?_) (fun h12 => absurd h12 (by rw [inV_y h1 h2 (by decide)]; decide))
    refine pw_aload_n 18 rfl dX12_years_17 rfl ?_
    refine pw_iload_n 19 rfl dX12_years_18 rfl ?_
    refine pw_putI 22 rfl dX12_years_19 fX12_352 w12_37 (by first | rfl | assumption | exact rowS hh | exact mtS hm | exact ruS hr | exact mtA1 hm | exact mtA2 hm | exact mtA3 hm | exact mtA4 hm | exact mtA5 hm | exact mtA6 hm | exact mtA7 hm | exact ruA1 hr | exact ruA2 hr | exact ruA3 hr) rfl rfl rfl ?_
    refine pw_aload_n 23 rfl dX12_years_22 rfl ?_
    refine pw_getR 26 rfl dX12_years_23 fX12_9 (by first | rfl | assumption | exact rowS hh | exact mtS hm | exact ruS hr | exact mtA1 hm | exact mtA2 hm | exact mtA3 hm | exact mtA4 hm | exact mtA5 hm | exact mtA6 hm | exact mtA7 hm | exact ruA1 hr | exact ruA2 hr | exact ruA3 hr) rfl (by first | rfl | assumption | exact mtR0 hm | exact mtR1 hm | exact mtR2 hm | exact mtR3 hm | exact mtR4 hm | exact mtR5 hm | exact mtR6 hm | exact ruR0 hr | exact ruR1 hr | exact ruR3 hr) ?_
    refine pw_aload_n 27 rfl dX12_years_26 rfl ?_
    refine pw_getR 30 rfl dX12_years_27 fX12_42 (by first | rfl | assumption | exact rowS hh | exact mtS hm | exact ruS hr | exact mtA1 hm | exact mtA2 hm | exact mtA3 hm | exact mtA4 hm | exact mtA5 hm | exact mtA6 hm | exact mtA7 hm | exact ruA1 hr | exact ruA2 hr | exact ruA3 hr) rfl (by first | rfl | assumption | exact mtR0 hm | exact mtR1 hm | exact mtR2 hm | exact mtR3 hm | exact mtR4 hm | exact mtR5 hm | exact mtR6 hm | exact ruR0 hr | exact ruR1 hr | exact ruR3 hr) ?_
    refine pw_iconst (v := nI 0) 31 rfl dX12_years_30 rfl ?_
    refine pw_callS (as := [_, _, _]) 34 rfl dX12_years_31 mX12_219 sX12_lay (m_layT (d := d + 244) (b := b) (fun j hj => by rw [uI_ne (by omega)]; exact mB j hj)) ⟨rfl, by decide, by decide, show (parseMethodDescriptor yX12_lay.desc).map (fun d => d.parameters.length) = some 3 by decide +kernel⟩ (by omega) (by decide) (Nat.le_of_ble_eq_true rfl) rfl (fun r31 I31 J31 R31 c31 => ?_)
    obtain ⟨rfl, k1, k2, rfl, rfl⟩ := c31
    rotate_left
    refine pw_aload_n 35 rfl dX12_years_34 rfl ?_
    refine pw_iconst (v := nI 0) 36 rfl dX12_years_35 rfl ?_
    refine pw_putI 39 rfl dX12_years_36 fX12_223 w12_24 (by first | rfl | assumption | exact rowS hh | exact mtS hm | exact ruS hr | exact mtA1 hm | exact mtA2 hm | exact mtA3 hm | exact mtA4 hm | exact mtA5 hm | exact mtA6 hm | exact mtA7 hm | exact ruA1 hr | exact ruA2 hr | exact ruA3 hr) rfl rfl rfl ?_
    refine pw_iconst (v := nI 0) 40 rfl dX12_years_39 rfl ?_
    refine pw_istore_n 41 rfl dX12_years_40 (by decide) ?_
    rotate_left
    have L := nat_loop N (fun t => ∀ (I' : pI) (rd' : Option Nat) (dl : List Nat) (x4 x5 x6 : Option Value), WF n pc (yrs D Q n pc E (w, b, 0) t).2.1 → MB I' 11 (yrs D Q n pc E (w, b, 0) t).2.1 → I' 0 37 = (yrs D Q n pc E (w, b, 0) t).1 → MD I' dl → dl.length = (yrs D Q n pc E (w, b, 0) t).2.2 → dl.length ≤ 7 * t → mFy I I' → PW SM yX12_years.cls cX12_years 7 (d + 245) 41 [some (.ref 0), some (.int w), some (.int (nI N)), some (.int (nI t)), x4, x5, x6] [] (I') (J) (RM rd' (some 6)) (rX cX12_years (some .int) (moP (g + 10000) (qOp (qYears D Q w (nI N)) (n, pc, b, us, kp, rw, tx, rt, hd, sw))))) ?_ ?_
    · refine L _ rd [] none none none aW.1 (fun j hj => by rw [uI_ne (by omega)]; exact k1 j hj) ?_ ⟨uI_eq _ _ _ _, by show (0 : Nat) ≤ _; omega, fun j x hj hx => by cases hx⟩ rfl (Nat.zero_le _) (fun a j q1 q2 => ?_)
      · rw [uI_ne (by omega), k2 _ _ (by omega), uI_eq]; rfl
      · rw [uI_ne (by omega), k2 _ _ (by omega), uI_ne (by omega)]
    · intro I' rd' dl x4 x5 x6 g1 g2 g3 g4 g5 g6 g7
      generalize yrs D Q n pc E (w, b, 0) N = z at g1 g2 g3 g5 eq
      refine pw_iload_n 42 rfl dX12_years_41 rfl ?_
      refine pw_iload_n 43 rfl dX12_years_42 rfl ?_
      refine pw_icmp_ge (tgt := 167) 46 rfl dX12_years_43 rfl (fun h43 => ?_) (fun h43 => absurd (by (simp (disch := omega) only [nI_leI, nI_ltI, nI_eq, show (0 : Int32) = nI 0 from rfl, not_true_eq_false, not_false_eq_true] <;> omega)) h43)
      refine pw_aload_n 168 rfl dX12_years_167 rfl ?_
      refine pw_iconst (v := nI 0) 169 rfl dX12_years_168 rfl ?_
      refine pw_putI 172 rfl dX12_years_169 fX12_92 w12_6 (by first | rfl | assumption | exact rowS hh | exact mtS hm | exact ruS hr | exact mtA1 hm | exact mtA2 hm | exact mtA3 hm | exact mtA4 hm | exact mtA5 hm | exact mtA6 hm | exact mtA7 hm | exact ruA1 hr | exact ruA2 hr | exact ruA3 hr) rfl rfl rfl ?_
      refine pw_aload_n 173 rfl dX12_years_172 rfl ?_
      refine pw_aload_n 174 rfl dX12_years_173 rfl ?_
      refine pw_getI 177 rfl dX12_years_174 fX12_223 (by first | rfl | assumption | exact rowS hh | exact mtS hm | exact ruS hr | exact mtA1 hm | exact mtA2 hm | exact mtA3 hm | exact mtA4 hm | exact mtA5 hm | exact mtA6 hm | exact mtA7 hm | exact ruA1 hr | exact ruA2 hr | exact ruA3 hr) rfl ?_
      rotate_left
      rw [uI_ne (by omega), g4.1, g5]
      refine pw_i2l 178 rfl dX12_years_177 ?_
      refine pw_callV (as := [_]) 181 rfl dX12_years_178 mX12_236 vX12_tell (m_tell (d := d + 244) MN_0 (by decide)) (by first | rfl | assumption | exact rowS hh | exact mtS hm | exact ruS hr | exact mtA1 hm | exact mtA2 hm | exact mtA3 hm | exact mtA4 hm | exact mtA5 hm | exact mtA6 hm | exact mtA7 hm | exact ruA1 hr | exact ruA2 hr | exact ruA3 hr) rfl (by decide) ⟨rfl, by decide, by decide, show (parseMethodDescriptor yX12_tell.desc).map (fun d => d.parameters.length) = some 1 by decide +kernel⟩ (by omega) (by decide) (Nat.le_of_ble_eq_true rfl) rfl (fun r178 I178 J178 R178 c178 => ?_)
      obtain ⟨rfl, t1, t2, rfl⟩ := c178
      rotate_left
      have hf1 : ∀ a j, ¬ (a = 0 ∧ j = 6) → I178 a j = I' a j := fun a j q => by rw [t2 a j q, uI_ne (by omega)]
      refine pw_aload_n 182 rfl dX12_years_181 rfl ?_
      refine pw_aload_n 183 rfl dX12_years_182 rfl ?_
      refine pw_aload_n 184 rfl dX12_years_183 rfl ?_
      refine pw_getR 187 rfl dX12_years_184 fX12_42 (by first | rfl | assumption | exact rowS hh | exact mtS hm | exact ruS hr | exact mtA1 hm | exact mtA2 hm | exact mtA3 hm | exact mtA4 hm | exact mtA5 hm | exact mtA6 hm | exact mtA7 hm | exact ruA1 hr | exact ruA2 hr | exact ruA3 hr) rfl (by first | rfl | assumption | exact mtR0 hm | exact mtR1 hm | exact mtR2 hm | exact mtR3 hm | exact mtR4 hm | exact mtR5 hm | exact mtR6 hm | exact ruR0 hr | exact ruR1 hr | exact ruR3 hr) ?_
      refine pw_callVP (as := [_]) 190 rfl dX12_years_187 mX12_240 vX12_walking (m_walking (d := d + 244) (b := z.2.1) (Or.inr rfl) (by rw [hf1 _ _ (by omega), g7 _ _ (by omega) (by omega)]; exact hn) hn7 (WF_way g1) (fun j hj => by rw [hf1 _ _ (by omega)]; exact g2 j hj)) (by first | rfl | assumption | exact rowS hh | exact mtS hm | exact ruS hr | exact mtA1 hm | exact mtA2 hm | exact mtA3 hm | exact mtA4 hm | exact mtA5 hm | exact mtA6 hm | exact mtA7 hm | exact ruA1 hr | exact ruA2 hr | exact ruA3 hr) rfl (by decide) ⟨rfl, by decide, by decide, show (parseMethodDescriptor yX12_walking.desc).map (fun d => d.parameters.length) = some 1 by decide +kernel⟩ (by omega) (by decide) (Nat.le_of_ble_eq_true rfl) rfl ?_
      refine pw_callSP (as := [_]) 193 rfl dX12_years_190 mX12_244 sJ6_bitCount_0f7a4 (x_bitCount (d := d + 244) _) ⟨rfl, by decide, by decide, show (parseMethodDescriptor yJ6_bitCount_0f7a4.desc).map (fun d => d.parameters.length) = some 1 by decide +kernel⟩ (by omega) (by decide) (Nat.le_of_ble_eq_true rfl) rfl ?_
      rotate_left
      rw [bc_bts n hn7]
      refine pw_i2l 194 rfl dX12_years_193 ?_
      refine pw_callV (as := [_]) 197 rfl dX12_years_194 mX12_236 vX12_tell (m_tell (d := d + 244) t1 (by show (1 : Nat) < 12; decide)) (by first | rfl | assumption | exact rowS hh | exact mtS hm | exact ruS hr | exact mtA1 hm | exact mtA2 hm | exact mtA3 hm | exact mtA4 hm | exact mtA5 hm | exact mtA6 hm | exact mtA7 hm | exact ruA1 hr | exact ruA2 hr | exact ruA3 hr) rfl (by decide) ⟨rfl, by decide, by decide, show (parseMethodDescriptor yX12_tell.desc).map (fun d => d.parameters.length) = some 1 by decide +kernel⟩ (by omega) (by decide) (Nat.le_of_ble_eq_true rfl) rfl (fun r194 I194 J194 R194 c194 => ?_)
      obtain ⟨rfl, u1, u2, rfl⟩ := c194
      rotate_left
      have hf2 : ∀ a j, ¬ (a = 0 ∧ j = 6) → I194 a j = I' a j := fun a j q => by rw [u2 a j q, hf1 a j q]
      refine pw_aload_n 198 rfl dX12_years_197 rfl ?_
      refine pw_getR 201 rfl dX12_years_198 fX12_42 (by first | rfl | assumption | exact rowS hh | exact mtS hm | exact ruS hr | exact mtA1 hm | exact mtA2 hm | exact mtA3 hm | exact mtA4 hm | exact mtA5 hm | exact mtA6 hm | exact mtA7 hm | exact ruA1 hr | exact ruA2 hr | exact ruA3 hr) rfl (by first | rfl | assumption | exact mtR0 hm | exact mtR1 hm | exact mtR2 hm | exact mtR3 hm | exact mtR4 hm | exact mtR5 hm | exact mtR6 hm | exact ruR0 hr | exact ruR1 hr | exact ruR3 hr) ?_
      refine pw_bipush (v := nI 29) 203 rfl dX12_years_201 rfl ?_
      refine pw_ialdN 204 rfl dX12_years_203 (by first | rfl | assumption | exact rowS hh | exact mtS hm | exact ruS hr | exact mtA1 hm | exact mtA2 hm | exact mtA3 hm | exact mtA4 hm | exact mtA5 hm | exact mtA6 hm | exact mtA7 hm | exact ruA1 hr | exact ruA2 hr | exact ruA3 hr) (by omega) (by first | decide | omega) ?_
      rotate_left
      rw [hf2 _ _ (by omega), g2 29 (by omega)]
      refine pw_iret dX12_years_204 rfl ?_
      rotate_left
      refine moQ (by rw [hEE]; exact eq) rfl (MA_rw hA0 (fun a j q => by rw [hf2 a j (by omega)]; exact g7 a j (by omega) (by omega)) u1) ⟨dl, ⟨by rw [hf2 _ _ (by omega)]; exact g4.1, g4.2.1, fun j x hj hx => by rw [hf2 _ _ (by omega)]; exact g4.2.2 j x hj hx⟩, by omega⟩ ⟨rd', rfl⟩
    · intro t ht ih I' rd' dl x4 x5 x6 g1 g2 g3 g4 g5 g6 g7
      generalize hz : yrs D Q n pc E (w, b, 0) t = z at g1 g2 g3 g5
      have hz1 : yrs D Q n pc E (w, b, 0) (t + 1) = yst D Q n pc E z := by rw [← hz]; rfl
      rw [hz1] at ih
      have hC' : MC I' n pc := MC_f mC (g7 _ _ (by omega) (by omega)) (fun j => g7 _ _ (by omega) (by omega))
      refine pw_iload_n 42 rfl dX12_years_41 rfl ?_
      refine pw_iload_n 43 rfl dX12_years_42 rfl ?_
      refine pw_icmp_ge (tgt := 167) 46 rfl dX12_years_43 rfl (fun h43 => absurd h43 (by (simp (disch := omega) only [nI_leI, nI_ltI, nI_eq, show (0 : Int32) = nI 0 from rfl, not_true_eq_false, not_false_eq_true] <;> omega))) (fun h43 => ?_)
      refine pw_aload_n 47 rfl dX12_years_46 rfl ?_
      refine pw_iconst (v := nI 4) 48 rfl dX12_years_47 rfl ?_
      refine pw_callV (as := [_]) 51 rfl dX12_years_48 mX12_356 vX12_draw (hDr (d + 244) 4 _ _ _ z.1 g3 (by omega) (by omega)) (by first | rfl | assumption | exact rowS hh | exact mtS hm | exact ruS hr | exact mtA1 hm | exact mtA2 hm | exact mtA3 hm | exact mtA4 hm | exact mtA5 hm | exact mtA6 hm | exact mtA7 hm | exact ruA1 hr | exact ruA2 hr | exact ruA3 hr) rfl (by decide) ⟨rfl, by decide, by decide, show (parseMethodDescriptor yX12_draw.desc).map (fun d => d.parameters.length) = some 1 by decide +kernel⟩ (by omega) (by decide) (Nat.le_of_ble_eq_true rfl) rfl (fun r48 I48 J48 R48 c48 => ?_)
      obtain ⟨rfl, e1, e2, rfl, rfl⟩ := c48
      rotate_left
      have hm4 : Q (D z.1) % 4 < 4 := Nat.mod_lt _ (by decide)
      have mB1 : MB I48 11 z.2.1 := MB_f g2 (fun j => e2 _ _ (by omega))
      have mC1 : MC I48 n pc := MC_f hC' (e2 _ _ (by omega)) (fun j => e2 _ _ (by omega))
      have mD1 : MD I48 dl := ⟨by rw [e2 _ _ (by omega)]; exact g4.1, g4.2.1, fun j x hj hx => by rw [e2 _ _ (by omega)]; exact g4.2.2 j x hj hx⟩
      have f1 : mFy I I48 := fun a j q1 q2 => by rw [e2 a j (by omega)]; exact g7 a j q1 q2
      by_cases hw : Q (D z.1) % 4 < 2
      · rw [yst, if_pos hw] at ih
        refine pw_istore 53 rfl dX12_years_51 (by decide) ?_
        refine pw_iload 55 rfl dX12_years_53 rfl ?_
        refine pw_iconst (v := nI 2) 56 rfl dX12_years_55 rfl ?_
        refine pw_icmp_ge (tgt := 67) 59 rfl dX12_years_56 rfl (fun h56 => absurd h56 (by (simp (disch := omega) only [nI_leI, nI_ltI, nI_eq, show (0 : Int32) = nI 0 from rfl, not_true_eq_false, not_false_eq_true] <;> omega))) (fun h56 => ?_)
        refine pw_aload_n 60 rfl dX12_years_59 rfl ?_
        refine pw_aload_n 61 rfl dX12_years_60 rfl ?_
        refine pw_getR 64 rfl dX12_years_61 fX12_42 (by first | rfl | assumption | exact rowS hh | exact mtS hm | exact ruS hr | exact mtA1 hm | exact mtA2 hm | exact mtA3 hm | exact mtA4 hm | exact mtA5 hm | exact mtA6 hm | exact mtA7 hm | exact ruA1 hr | exact ruA2 hr | exact ruA3 hr) rfl (by first | rfl | assumption | exact mtR0 hm | exact mtR1 hm | exact mtR2 hm | exact mtR3 hm | exact mtR4 hm | exact mtR5 hm | exact mtR6 hm | exact ruR0 hr | exact ruR1 hr | exact ruR3 hr) ?_
        refine pw_callV (as := [_]) 67 rfl dX12_years_64 mX12_230 vX12_goHour (m_goHour (d := d + 242) (dd := 236) rfl (Or.inr rfl) mC1 mB1 g1 (hE.fr (f1 _ _ (by omega) (by omega)) (fun j => f1 _ _ (by omega) (by omega)) (fun j => f1 _ _ (by omega) (by omega))) (by omega) mD1 (by omega)) (by first | rfl | assumption | exact rowS hh | exact mtS hm | exact ruS hr | exact mtA1 hm | exact mtA2 hm | exact mtA3 hm | exact mtA4 hm | exact mtA5 hm | exact mtA6 hm | exact mtA7 hm | exact ruA1 hr | exact ruA2 hr | exact ruA3 hr) rfl (by decide) ⟨rfl, by decide, by decide, show (parseMethodDescriptor yX12_goHour.desc).map (fun d => d.parameters.length) = some 1 by decide +kernel⟩ (by omega) (by decide) (Nat.le_of_ble_eq_true rfl) rfl (fun r64 I64 J64 R64 c64 => ?_)
        obtain ⟨rfl, b1, b2, b3, rfl, rd2, rfl⟩ := c64
        rotate_left
        refine pw_iload 69 rfl dX12_years_67 rfl ?_
        refine pw_iconst (v := nI 2) 70 rfl dX12_years_69 rfl ?_
        refine pw_icmp_lt (tgt := 161) 73 rfl dX12_years_70 rfl (fun h70 => ?_) (fun h70 => absurd (by (simp (disch := omega) only [nI_leI, nI_ltI, nI_eq, show (0 : Int32) = nI 0 from rfl, not_true_eq_false, not_false_eq_true] <;> omega)) h70)
        refine pw_iincN 164 rfl dX12_years_161 (by decide) rfl ?_
        refine pw_goto (tgt := 41) dX12_years_164 rfl ?_
        rotate_left
        have hl := hL_len (sts n pc z.2.1 E) z.2.1 n
        refine ih I64 rd2 _ _ _ _ (WF_hr E g1) b1 (by rw [b2 _ _ (by omega) (by omega) (by omega) (by omega) (by omega)]; exact e1) b3 (by rw [List.length_append, g5, pop_hL hn7]; rfl) (by rw [List.length_append]; omega) (fun a j q1 q2 => by rw [b2 a j (by omega) (by omega) (by omega) (by omega) (by omega)]; exact f1 a j q1 q2)
      · rw [yst, if_neg hw] at ih
        by_cases hn0 : n = 0
        · rw [if_pos hn0] at ih
          refine pw_istore 53 rfl dX12_years_51 (by decide) ?_
          refine pw_iload 55 rfl dX12_years_53 rfl ?_
          refine pw_iconst (v := nI 2) 56 rfl dX12_years_55 rfl ?_
          refine pw_icmp_ge (tgt := 67) 59 rfl dX12_years_56 rfl (fun h56 => ?_) (fun h56 => absurd (by (simp (disch := omega) only [nI_leI, nI_ltI, nI_eq, show (0 : Int32) = nI 0 from rfl, not_true_eq_false, not_false_eq_true] <;> omega)) h56)
          refine pw_iload 69 rfl dX12_years_67 rfl ?_
          refine pw_iconst (v := nI 2) 70 rfl dX12_years_69 rfl ?_
          refine pw_icmp_lt (tgt := 161) 73 rfl dX12_years_70 rfl (fun h70 => absurd h70 (by (simp (disch := omega) only [nI_leI, nI_ltI, nI_eq, show (0 : Int32) = nI 0 from rfl, not_true_eq_false, not_false_eq_true] <;> omega))) (fun h70 => ?_)
          refine pw_aload_n 74 rfl dX12_years_73 rfl ?_
          refine pw_getI 77 rfl dX12_years_74 fX12_95 (by first | rfl | assumption | exact rowS hh | exact mtS hm | exact ruS hr | exact mtA1 hm | exact mtA2 hm | exact mtA3 hm | exact mtA4 hm | exact mtA5 hm | exact mtA6 hm | exact mtA7 hm | exact ruA1 hr | exact ruA2 hr | exact ruA3 hr) rfl ?_
          refine pw_if_ne (tgt := 83) 80 rfl dX12_years_77 rfl (fun h77 => absurd (by rw [mC1.2.1, hn0]; rfl) h77) (fun h77 => ?_)
          refine pw_goto (tgt := 161) dX12_years_80 rfl ?_
          refine pw_iincN 164 rfl dX12_years_161 (by decide) rfl ?_
          refine pw_goto (tgt := 41) dX12_years_164 rfl ?_
          rotate_left
          exact ih I48 rd' dl _ _ _ g1 mB1 e1 mD1 g5 (by omega) f1
        · rw [if_neg hn0] at ih
          refine pw_istore 53 rfl dX12_years_51 (by decide) ?_
          refine pw_iload 55 rfl dX12_years_53 rfl ?_
          refine pw_iconst (v := nI 2) 56 rfl dX12_years_55 rfl ?_
          refine pw_icmp_ge (tgt := 67) 59 rfl dX12_years_56 rfl (fun h56 => ?_) (fun h56 => absurd (by (simp (disch := omega) only [nI_leI, nI_ltI, nI_eq, show (0 : Int32) = nI 0 from rfl, not_true_eq_false, not_false_eq_true] <;> omega)) h56)
          refine pw_iload 69 rfl dX12_years_67 rfl ?_
          refine pw_iconst (v := nI 2) 70 rfl dX12_years_69 rfl ?_
          refine pw_icmp_lt (tgt := 161) 73 rfl dX12_years_70 rfl (fun h70 => absurd h70 (by (simp (disch := omega) only [nI_leI, nI_ltI, nI_eq, show (0 : Int32) = nI 0 from rfl, not_true_eq_false, not_false_eq_true] <;> omega))) (fun h70 => ?_)
          refine pw_aload_n 74 rfl dX12_years_73 rfl ?_
          refine pw_getI 77 rfl dX12_years_74 fX12_95 (by first | rfl | assumption | exact rowS hh | exact mtS hm | exact ruS hr | exact mtA1 hm | exact mtA2 hm | exact mtA3 hm | exact mtA4 hm | exact mtA5 hm | exact mtA6 hm | exact mtA7 hm | exact ruA1 hr | exact ruA2 hr | exact ruA3 hr) rfl ?_
          refine pw_if_ne (tgt := 83) 80 rfl dX12_years_77 rfl (fun h77 => ?_) (fun h77 => absurd h77 (by rw [mC1.2.1]; exact nI_ne0 (by omega) (by omega)))
          refine pw_aload_n 84 rfl dX12_years_83 rfl ?_
          refine pw_aload_n 85 rfl dX12_years_84 rfl ?_
          refine pw_getI 88 rfl dX12_years_85 fX12_95 (by first | rfl | assumption | exact rowS hh | exact mtS hm | exact ruS hr | exact mtA1 hm | exact mtA2 hm | exact mtA3 hm | exact mtA4 hm | exact mtA5 hm | exact mtA6 hm | exact mtA7 hm | exact ruA1 hr | exact ruA2 hr | exact ruA3 hr) rfl ?_
          rotate_left
          rw [mC1.2.1]
          refine pw_callV (as := [_]) 91 rfl dX12_years_88 mX12_356 vX12_draw (hDr (d + 244) n _ _ _ (D z.1) e1 (by omega) hn7) (by first | rfl | assumption | exact rowS hh | exact mtS hm | exact ruS hr | exact mtA1 hm | exact mtA2 hm | exact mtA3 hm | exact mtA4 hm | exact mtA5 hm | exact mtA6 hm | exact mtA7 hm | exact ruA1 hr | exact ruA2 hr | exact ruA3 hr) rfl (by decide) ⟨rfl, by decide, by decide, show (parseMethodDescriptor yX12_draw.desc).map (fun d => d.parameters.length) = some 1 by decide +kernel⟩ (by omega) (by decide) (Nat.le_of_ble_eq_true rfl) rfl (fun r88 I88 J88 R88 c88 => ?_)
          obtain ⟨rfl, b1, b2, rfl, rfl⟩ := c88
          rotate_left
          have hq0 : Q (D (D z.1)) % n < n := Nat.mod_lt _ (by omega)
          generalize Q (D (D z.1)) % n = q at ih hq0
          have mB2 : MB I88 11 z.2.1 := MB_f mB1 (fun j => b2 _ _ (by omega))
          have mD2 : MD I88 dl := ⟨by rw [b2 _ _ (by omega)]; exact mD1.1, mD1.2.1, fun j x hj hx => by rw [b2 _ _ (by omega)]; exact mD1.2.2 j x hj hx⟩
          have f2 : mFy I I88 := fun a j q1 q2 => by rw [b2 a j (by omega)]; exact f1 a j q1 q2
          have hn2 : I88 0 1 = nI n := by rw [f2 _ _ (by omega) (by omega)]; exact hn
          have hqo := qOf_y hq0 hn7
          by_cases h2 : Q (D z.1) % 4 = 2
          · rw [if_pos h2] at ih
            have er : rfS n z.2.1 (nI q) = if z.2.1 (7 + q) = 0 then nI 0 else -2 := by unfold rfS; rw [hqo]
            have ea := aSet_q (b := z.2.1) hqo
            refine pw_istore 93 rfl dX12_years_91 (by decide) ?_
            refine pw_iload 95 rfl dX12_years_93 rfl ?_
            refine pw_iconst (v := nI 2) 96 rfl dX12_years_95 rfl ?_
            refine pw_icmp_ne (tgt := 126) 99 rfl dX12_years_96 rfl (fun h96 => absurd (by rw [h2]) h96) (fun h96 => ?_)
            refine pw_aload_n 100 rfl dX12_years_99 rfl ?_
            refine pw_aload_n 101 rfl dX12_years_100 rfl ?_
            refine pw_getR 104 rfl dX12_years_101 fX12_42 (by first | rfl | assumption | exact rowS hh | exact mtS hm | exact ruS hr | exact mtA1 hm | exact mtA2 hm | exact mtA3 hm | exact mtA4 hm | exact mtA5 hm | exact mtA6 hm | exact mtA7 hm | exact ruA1 hr | exact ruA2 hr | exact ruA3 hr) rfl (by first | rfl | assumption | exact mtR0 hm | exact mtR1 hm | exact mtR2 hm | exact mtR3 hm | exact mtR4 hm | exact mtR5 hm | exact mtR6 hm | exact ruR0 hr | exact ruR1 hr | exact ruR3 hr) ?_
            refine pw_iload 106 rfl dX12_years_104 rfl ?_
            refine pw_callVP (as := [_, _]) 109 rfl dX12_years_106 mX12_249 vX12_refusesStart (m_refusesStart (d := d + 242) (Or.inr rfl) hn2 hn7 (WF_way g1) mB2 _) (by first | rfl | assumption | exact rowS hh | exact mtS hm | exact ruS hr | exact mtA1 hm | exact mtA2 hm | exact mtA3 hm | exact mtA4 hm | exact mtA5 hm | exact mtA6 hm | exact mtA7 hm | exact ruA1 hr | exact ruA2 hr | exact ruA3 hr) rfl (by decide) ⟨rfl, by decide, by decide, show (parseMethodDescriptor yX12_refusesStart.desc).map (fun d => d.parameters.length) = some 2 by decide +kernel⟩ (by omega) (by decide) (Nat.le_of_ble_eq_true rfl) rfl ?_
            rotate_left
            rw [er]
            by_cases c : z.2.1 (7 + q) = 0
            · rw [if_pos c]
              rw [ea, if_pos c] at ih
              refine pw_if_ne (tgt := 161) 112 rfl dX12_years_109 rfl (fun h109 => absurd (by rfl) h109) (fun h109 => ?_)
              refine pw_aload_n 113 rfl dX12_years_112 rfl ?_
              refine pw_getR 116 rfl dX12_years_113 fX12_42 (by first | rfl | assumption | exact rowS hh | exact mtS hm | exact ruS hr | exact mtA1 hm | exact mtA2 hm | exact mtA3 hm | exact mtA4 hm | exact mtA5 hm | exact mtA6 hm | exact mtA7 hm | exact ruA1 hr | exact ruA2 hr | exact ruA3 hr) rfl (by first | rfl | assumption | exact mtR0 hm | exact mtR1 hm | exact mtR2 hm | exact mtR3 hm | exact mtR4 hm | exact mtR5 hm | exact mtR6 hm | exact ruR0 hr | exact ruR1 hr | exact ruR3 hr) ?_
              refine pw_bipush (v := nI 7) 118 rfl dX12_years_116 rfl ?_
              refine pw_iload 120 rfl dX12_years_118 rfl ?_
              first | refine pw_iaddN 121 rfl dX12_years_120 ?_ | refine pw_iadd 121 rfl dX12_years_120 ?_
              refine pw_iconst (v := nI 1) 122 rfl dX12_years_121 rfl ?_
              refine pw_iastN 123 rfl dX12_years_122 (by first | rfl | assumption | exact rowS hh | exact mtS hm | exact ruS hr | exact mtA1 hm | exact mtA2 hm | exact mtA3 hm | exact mtA4 hm | exact mtA5 hm | exact mtA6 hm | exact mtA7 hm | exact ruA1 hr | exact ruA2 hr | exact ruA3 hr) (by omega) (by first | decide | omega) ?_
              refine pw_goto (tgt := 161) dX12_years_123 rfl ?_
              refine pw_iincN 164 rfl dX12_years_161 (by decide) rfl ?_
              refine pw_goto (tgt := 41) dX12_years_164 rfl ?_
              rotate_left
              refine ih _ rd' dl _ _ _ (WF_bu g1 (Or.inr (Or.inl ⟨by omega, by omega, by decide⟩))) (MB_bu mB2) (by rw [uI_ne (by omega)]; exact b1) ⟨by rw [uI_ne (by omega)]; exact mD2.1, mD2.2.1, fun j x hj hx => by rw [uI_ne (by omega)]; exact mD2.2.2 j x hj hx⟩ g5 (by omega) (fun a j q1 q2 => by rw [uI_ne (by omega)]; exact f2 a j q1 q2)
            · rw [if_neg c]
              rw [ea, if_neg c] at ih
              refine pw_if_ne (tgt := 161) 112 rfl dX12_years_109 rfl (fun h109 => ?_) (fun h109 => absurd h109 (by decide))
              refine pw_iincN 164 rfl dX12_years_161 (by decide) rfl ?_
              refine pw_goto (tgt := 41) dX12_years_164 rfl ?_
              rotate_left
              exact ih I88 rd' dl _ _ _ g1 mB2 b1 mD2 g5 (by omega) f2
          · rw [if_neg h2] at ih
            refine pw_istore 93 rfl dX12_years_91 (by decide) ?_
            refine pw_iload 95 rfl dX12_years_93 rfl ?_
            refine pw_iconst (v := nI 2) 96 rfl dX12_years_95 rfl ?_
            refine pw_icmp_ne (tgt := 126) 99 rfl dX12_years_96 rfl (fun h96 => ?_) (fun h96 => absurd h96 (by rw [nI_eq (by omega) (by decide)]; exact h2))
            refine pw_iconst (v := nI 1) 127 rfl dX12_years_126 rfl ?_
            refine pw_aload_n 128 rfl dX12_years_127 rfl ?_
            refine pw_iconst (v := nI 3) 129 rfl dX12_years_128 rfl ?_
            refine pw_callV (as := [_]) 132 rfl dX12_years_129 mX12_356 vX12_draw (hDr (d + 244) 3 _ _ _ (D (D z.1)) b1 (by omega) (by omega)) (by first | rfl | assumption | exact rowS hh | exact mtS hm | exact ruS hr | exact mtA1 hm | exact mtA2 hm | exact mtA3 hm | exact mtA4 hm | exact mtA5 hm | exact mtA6 hm | exact mtA7 hm | exact ruA1 hr | exact ruA2 hr | exact ruA3 hr) rfl (by decide) ⟨rfl, by decide, by decide, show (parseMethodDescriptor yX12_draw.desc).map (fun d => d.parameters.length) = some 1 by decide +kernel⟩ (by omega) (by decide) (Nat.le_of_ble_eq_true rfl) rfl (fun r129 I129 J129 R129 c129 => ?_)
            obtain ⟨rfl, c1, c2, rfl, rfl⟩ := c129
            rotate_left
            have hr3 : Q (D (D (D z.1))) % 3 < 3 := Nat.mod_lt _ (by decide)
            generalize Q (D (D (D z.1))) % 3 = r at ih hr3
            have mB3 : MB I129 11 z.2.1 := MB_f mB2 (fun j => c2 _ _ (by omega))
            have mD3 : MD I129 dl := ⟨by rw [c2 _ _ (by omega)]; exact mD2.1, mD2.2.1, fun j x hj hx => by rw [c2 _ _ (by omega)]; exact mD2.2.2 j x hj hx⟩
            have f3 : mFy I I129 := fun a j q1 q2 => by rw [c2 a j (by omega)]; exact f2 a j q1 q2
            have hn3 : I129 0 1 = nI n := by rw [f3 _ _ (by omega) (by omega)]; exact hn
            have hno := nOf_y (k := 1 + r) (by omega) (by omega)
            rw [Nat.add_comm r 1] at ih
            have er : rfF n z.2.1 (nI q) (nI (1 + r)) = if z.2.1 (7 + q) = 0 then -2 else nI 0 := by unfold rfF; simp only [hqo, hno]
            have ea := aSlip_q (b := z.2.1) hqo hno
            have hbq := (g1.2.2.2.2 q (by omega)).2.1
            have htz := g1.2.1
            first | refine pw_iaddN 133 rfl dX12_years_132 ?_ | refine pw_iadd 133 rfl dX12_years_132 ?_
            refine pw_istore 135 rfl dX12_years_133 (by decide) ?_
            refine pw_aload_n 136 rfl dX12_years_135 rfl ?_
            refine pw_aload_n 137 rfl dX12_years_136 rfl ?_
            refine pw_getR 140 rfl dX12_years_137 fX12_42 (by first | rfl | assumption | exact rowS hh | exact mtS hm | exact ruS hr | exact mtA1 hm | exact mtA2 hm | exact mtA3 hm | exact mtA4 hm | exact mtA5 hm | exact mtA6 hm | exact mtA7 hm | exact ruA1 hr | exact ruA2 hr | exact ruA3 hr) rfl (by first | rfl | assumption | exact mtR0 hm | exact mtR1 hm | exact mtR2 hm | exact mtR3 hm | exact mtR4 hm | exact mtR5 hm | exact mtR6 hm | exact ruR0 hr | exact ruR1 hr | exact ruR3 hr) ?_
            refine pw_iload 142 rfl dX12_years_140 rfl ?_
            refine pw_iload 144 rfl dX12_years_142 rfl ?_
            refine pw_callVP (as := [_, _, _]) 147 rfl dX12_years_144 mX12_263 vX12_refusesSlip (m_refusesSlip (d := d + 242) (Or.inr rfl) hn3 hn7 (WF_way g1) mB3 _ _) (by first | rfl | assumption | exact rowS hh | exact mtS hm | exact ruS hr | exact mtA1 hm | exact mtA2 hm | exact mtA3 hm | exact mtA4 hm | exact mtA5 hm | exact mtA6 hm | exact mtA7 hm | exact ruA1 hr | exact ruA2 hr | exact ruA3 hr) rfl (by decide) ⟨rfl, by decide, by decide, show (parseMethodDescriptor yX12_refusesSlip.desc).map (fun d => d.parameters.length) = some 3 by decide +kernel⟩ (by omega) (by decide) (Nat.le_of_ble_eq_true rfl) rfl ?_
            rotate_left
            rw [er]
            by_cases c : z.2.1 (7 + q) = 0
            · rw [if_pos c]
              rw [ea, if_pos c] at ih
              refine pw_if_ne (tgt := 161) 150 rfl dX12_years_147 rfl (fun h147 => ?_) (fun h147 => absurd h147 (by decide))
              refine pw_iincN 164 rfl dX12_years_161 (by decide) rfl ?_
              refine pw_goto (tgt := 41) dX12_years_164 rfl ?_
              rotate_left
              exact ih I129 rd' dl _ _ _ g1 mB3 c1 mD3 g5 (by omega) f3
            · rw [if_neg c]
              rw [ea, if_neg c] at ih
              refine pw_if_ne (tgt := 161) 150 rfl dX12_years_147 rfl (fun h147 => absurd (by rfl) h147) (fun h147 => ?_)
              refine pw_aload_n 151 rfl dX12_years_150 rfl ?_
              refine pw_getR 154 rfl dX12_years_151 fX12_42 (by first | rfl | assumption | exact rowS hh | exact mtS hm | exact ruS hr | exact mtA1 hm | exact mtA2 hm | exact mtA3 hm | exact mtA4 hm | exact mtA5 hm | exact mtA6 hm | exact mtA7 hm | exact ruA1 hr | exact ruA2 hr | exact ruA3 hr) rfl (by first | rfl | assumption | exact mtR0 hm | exact mtR1 hm | exact mtR2 hm | exact mtR3 hm | exact mtR4 hm | exact mtR5 hm | exact mtR6 hm | exact ruR0 hr | exact ruR1 hr | exact ruR3 hr) ?_
              refine pw_iload 156 rfl dX12_years_154 rfl ?_
              refine pw_iload 158 rfl dX12_years_156 rfl ?_
              refine pw_callS (as := [_, _, _]) 161 rfl dX12_years_158 mX12_267 sX12_goSlip (m_goSlip (d := d + 243) (Or.inr rfl) (show q < 7 by omega) (by omega) (by omega) mB3) ⟨rfl, by decide, by decide, show (parseMethodDescriptor yX12_goSlip.desc).map (fun d => d.parameters.length) = some 3 by decide +kernel⟩ (by omega) (by decide) (Nat.le_of_ble_eq_true rfl) rfl (fun r158 I158 J158 R158 c158 => ?_)
              obtain ⟨rfl, u1, u2, rfl, rfl⟩ := c158
              rotate_left
              refine pw_iincN 164 rfl dX12_years_161 (by decide) rfl ?_
              refine pw_goto (tgt := 41) dX12_years_164 rfl ?_
              rotate_left
              refine ih I158 rd' dl _ _ _ (WF_bu (WF_bu g1 (Or.inl ⟨by omega, by omega⟩)) (Or.inr (Or.inl ⟨by omega, by omega, by decide⟩))) u1 (by rw [u2 _ _ (by omega)]; exact c1) ⟨by rw [u2 _ _ (by omega)]; exact mD3.1, mD3.2.1, fun j x hj hx => by rw [u2 _ _ (by omega)]; exact mD3.2.2 j x hj hx⟩ g5 (by omega) (fun a j q1 q2 => by rw [u2 a j (by omega)]; exact f3 a j q1 q2)
  · refine pw_iload_n 6 rfl dX12_years_5 rfl ?_
    refine pw_iconst (v := nI 1) 7 rfl dX12_years_6 rfl ?_
    refine pw_bipush (v := nI 60) 9 rfl dX12_years_7 rfl ?_
    refine pw_callSP (as := [_, _, _]) 12 rfl dX12_years_9 mX12_98 sX12_in (m_in (d := d) _ _ _) ⟨rfl, by decide, by decide, show (parseMethodDescriptor yX12_in.desc).map (fun d => d.parameters.length) = some 3 by decide +kernel⟩ (by omega) (by decide) (Nat.le_of_ble_eq_true rfl) rfl ?_
    refine pw_if_ne (tgt := 17) 15 rfl dX12_years_12 rfl (fun h12 => absurd (by rw [inV_n ho]; rfl) h12) (fun h12 => ?_)
    refine pw_iconst (v := -1) 16 rfl dX12_years_15 rfl ?_
    refine pw_iret dX12_years_16 rfl ?_
    rotate_left
    exact moQ (by unfold qYears; rw [hi]; rfl) rfl hA0 (hD0.mono (by omega)) ⟨rd, rfl⟩
