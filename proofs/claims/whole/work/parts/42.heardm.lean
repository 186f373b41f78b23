/-! the reference: what was heard -/
theorem moE {g : Nat} {x y : Int32 × aSt} {r' : Option Value} {I' : pI} {J' : pJ} {R' : pR} (e : x = y) (h : moP g y r' I' J' R') : moP g x r' I' J' R' := e ▸ h
theorem MA_hd {I I' : pI} {J : pJ} {n : Nat} {pc b : Nat → Nat} {us : List (Nat → Nat)} {kp : Nat → Option (Nat → Nat)} {rw : List Int64} {tx rt : List Nat} {hd hd' sw : List (Nat × Nat)} (h : MA I J (n, pc, b, us, kp, rw, tx, rt, hd, sw)) (f : ∀ a j, a ≠ 18 → a ≠ 19 → ¬ (a = 0 ∧ j = 32) → I' a j = I a j) (hH : MH I' hd') : MA I' J (n, pc, b, us, kp, rw, tx, rt, hd', sw) := by
  obtain ⟨a1, a2, a3, a4, a5, a6, a7, a8, a9⟩ := h
  exact ⟨MC_f a1 (f _ _ (by omega) (by omega) (by omega)) (fun j => f _ _ (by omega) (by omega) (by omega)), MB_f a2 (fun j => f _ _ (by omega) (by omega) (by omega)), MT_f a3 (f _ _ (by omega) (by omega) (by omega)) (fun j => f _ _ (by omega) (by omega) (by omega)), MN_f a4 (f _ _ (by omega) (by omega) (by omega)), MRl_f a5 (f _ _ (by omega) (by omega) (by omega)) (fun j => f _ _ (by omega) (by omega) (by omega)), MU_f a6 (f _ _ (by omega) (by omega) (by omega)) (fun j => f _ _ (by omega) (by omega) (by omega)), MK_f a7 (f _ _ (by omega) (by omega) (by omega)) (fun j => f _ _ (by omega) (by omega) (by omega)) (fun j => f _ _ (by omega) (by omega) (by omega)) (fun j => f _ _ (by omega) (by omega) (by omega)), hH, MG_f a9 (f _ _ (by omega) (by omega) (by omega)) (fun j => f _ _ (by omega) (by omega) (by omega)) (fun j => f _ _ (by omega) (by omega) (by omega))⟩
theorem MA_sw {I I' : pI} {J : pJ} {n : Nat} {pc b : Nat → Nat} {us : List (Nat → Nat)} {kp : Nat → Option (Nat → Nat)} {rw : List Int64} {tx rt : List Nat} {hd sw sw' : List (Nat × Nat)} (h : MA I J (n, pc, b, us, kp, rw, tx, rt, hd, sw)) (f : ∀ a j, a ≠ 20 → a ≠ 21 → ¬ (a = 0 ∧ j = 35) → I' a j = I a j) (hG : MG I' sw') : MA I' J (n, pc, b, us, kp, rw, tx, rt, hd, sw') := by
  obtain ⟨a1, a2, a3, a4, a5, a6, a7, a8, a9⟩ := h
  exact ⟨MC_f a1 (f _ _ (by omega) (by omega) (by omega)) (fun j => f _ _ (by omega) (by omega) (by omega)), MB_f a2 (fun j => f _ _ (by omega) (by omega) (by omega)), MT_f a3 (f _ _ (by omega) (by omega) (by omega)) (fun j => f _ _ (by omega) (by omega) (by omega)), MN_f a4 (f _ _ (by omega) (by omega) (by omega)), MRl_f a5 (f _ _ (by omega) (by omega) (by omega)) (fun j => f _ _ (by omega) (by omega) (by omega)), MU_f a6 (f _ _ (by omega) (by omega) (by omega)) (fun j => f _ _ (by omega) (by omega) (by omega)), MK_f a7 (f _ _ (by omega) (by omega) (by omega)) (fun j => f _ _ (by omega) (by omega) (by omega)) (fun j => f _ _ (by omega) (by omega) (by omega)) (fun j => f _ _ (by omega) (by omega) (by omega)), MH_f a8 (f _ _ (by omega) (by omega) (by omega)) (fun j => f _ _ (by omega) (by omega) (by omega)) (fun j => f _ _ (by omega) (by omega) (by omega)), hG⟩
theorem snoc_at {α : Type} {l : List α} {x p : α} {j : Nat} (h : (l ++ [x])[j]? = some p) : (j = l.length ∧ p = x) ∨ (j < l.length ∧ l[j]? = some p) := by
  have hj := (List.getElem?_eq_some_iff.mp h).1
  rw [List.length_append] at hj
  have hj' : j < l.length + 1 := hj
  by_cases e : j = l.length
  · subst e
    rw [List.getElem?_append_right (Nat.le_refl _), Nat.sub_self] at h
    cases h
    exact Or.inl ⟨rfl, rfl⟩
  · rw [List.getElem?_append_left (by omega)] at h
    exact Or.inr ⟨by omega, h⟩
theorem MH_add {I : pI} {hd : List (Nat × Nat)} {k x : Nat} (h : MH I hd) (hl : hd.length < 12) (hk : k < 5) (hx : x ≤ moN k) : MH (uI (uI (uI I 18 hd.length (nI k)) 19 hd.length (nI x)) 0 32 (nI (hd.length + 1))) (hd ++ [(k, x)]) := by
  refine ⟨?_, ?_, fun j p hj => ?_⟩
  · rw [uI_eq, List.length_append]; rfl
  · rw [List.length_append]; show hd.length + 1 ≤ 12; omega
  · rcases snoc_at hj with ⟨rfl, rfl⟩ | ⟨h1, h2⟩
    · refine ⟨?_, ?_, hk, hx⟩
      · rw [uI_ne (by omega), uI_ne (by omega), uI_eq]
      · rw [uI_ne (by omega), uI_eq]
    · obtain ⟨a1, a2, a3⟩ := h.2.2 j p h2
      refine ⟨?_, ?_, a3⟩
      · rw [uI_ne (by omega), uI_ne (by omega), uI_ne (by omega)]; exact a1
      · rw [uI_ne (by omega), uI_ne (by omega), uI_ne (by omega)]; exact a2
theorem MG_add {I : pI} {sw : List (Nat × Nat)} {k x : Nat} (h : MG I sw) (hl : sw.length < 10) (hk : k ≤ 9) (hx : x ≤ 3) : MG (uI (uI (uI I 20 sw.length (nI k)) 21 sw.length (nI x)) 0 35 (nI (sw.length + 1))) (sw ++ [(k, x)]) := by
  refine ⟨?_, ?_, fun j p hj => ?_⟩
  · rw [uI_eq, List.length_append]; rfl
  · rw [List.length_append]; show sw.length + 1 ≤ 10; omega
  · rcases snoc_at hj with ⟨rfl, rfl⟩ | ⟨h1, h2⟩
    · refine ⟨?_, ?_, hk, hx⟩
      · rw [uI_ne (by omega), uI_ne (by omega), uI_eq]
      · rw [uI_ne (by omega), uI_eq]
    · obtain ⟨a1, a2, a3⟩ := h.2.2 j p h2
      refine ⟨?_, ?_, a3⟩
      · rw [uI_ne (by omega), uI_ne (by omega), uI_ne (by omega)]; exact a1
      · rw [uI_ne (by omega), uI_ne (by omega), uI_ne (by omega)]; exact a2
set_option maxRecDepth 100000 in
set_option maxHeartbeats 2000000 in
theorem mo_heard {d g : Nat} {s : aSt} {rd : Option Nat} {I : pI} {J : pJ} (hA : MA I J s) (hD : MDg g I) (hg : g ≤ 500000000) (hW : WA s) (w v : Int32) : PC SM (d + 245) yX12_heard cX12_heard 4 (some .int) [.ref 0, .int w, .int v] (I) (J) (RM rd (some 6)) (moP (g + 10000) (oHeard w v s)) := by
  refine PC.of [some (.ref 0), some (.int w), some (.int v), none] rfl rfl (Nat.le_of_ble_eq_true rfl) ?_
  obtain ⟨n, pc, b, us, kp, rw, tx, rt, hd, sw⟩ := s
  refine pw_aload_n 1 rfl dX12_heard_0 rfl ?_
  refine pw_iconst (v := nI 0) 2 rfl dX12_heard_1 rfl ?_
  refine pw_putI 5 rfl dX12_heard_2 fX12_88 w12_7 (by first | rfl | assumption | exact rowS hh | exact mtS hm | exact ruS hr | exact mtA1 hm | exact mtA2 hm | exact mtA3 hm | exact mtA4 hm | exact mtA5 hm | exact mtA6 hm | exact mtA7 hm | exact ruA1 hr | exact ruA2 hr | exact ruA3 hr) rfl rfl rfl ?_
  rotate_left
  have hA0 := MA_thr (v := nI 0) hA
  have hD0 : MDg g (uI I 0 7 (nI 0)) := MDg_f hD (uI_ne (by omega)) (fun j => uI_ne (by omega))
  clear hA hD
  generalize uI I 0 7 (nI 0) = I at hA0 hD0 ⊢
  obtain ⟨mC, mB, mT, mN, mR, mU, mK, mH, mG⟩ := id hA0
  obtain ⟨aW, aU, aK⟩ := id hW
  have hE := MSt_A hA0
  have hn7 := mC.1
  have hn := mC.2.1
  have hl12 := mH.2.1
  have e32 := mH.1
  have no : ∀ {w v : Int32}, aHear hd w v = (-1, hd) → moP (g + 10000) (oHeard w v (n, pc, b, us, kp, rw, tx, rt, hd, sw)) (some (.int (-1))) I J (RM rd (some 6)) := fun {w v} e => moE (y := (-1, (n, pc, b, us, kp, rw, tx, rt, hd, sw))) (by show ((aHear hd w v).1, _) = _; rw [e]) ⟨rfl, hA0, hD0.mono (by omega), rd, rfl⟩
  rcases inOf_cases (lo := 0) (hi := 4) (by decide) w (by decide) with ⟨k, h1, h2, rfl, hi⟩ | ⟨hi, ho⟩
  · rcases (show k = 0 ∨ k = 1 ∨ k = 2 ∨ k = 3 ∨ k = 4 by omega) with rfl | rfl | rfl | rfl | rfl
    · rcases inOf_cases (lo := 0) (hi := 9) (by decide) v (by decide) with ⟨x, g1, g2, rfl, hj⟩ | ⟨hj, ho⟩
      · by_cases hl : hd.length < 12
        · have e : aHear hd (nI 0) (nI x) = (nI (hd.length + 1), hd ++ [(0, x)]) := by unfold aHear; simp only [hi, (show inOf 0 (moN 0) (nI x) = some x from hj)]; exact if_pos hl
          refine pw_iload_n 6 rfl dX12_heard_5 rfl ?_
          refine pw_iconst (v := nI 1) 7 rfl dX12_heard_6 rfl ?_
          refine pw_icmp_ne (tgt := 15) 10 rfl dX12_heard_7 rfl (fun h7 => ?_) (fun h7 => absurd h7 (by decide))
          refine pw_iload_n 16 rfl dX12_heard_15 rfl ?_
          refine pw_iconst (v := nI 2) 17 rfl dX12_heard_16 rfl ?_
          refine pw_icmp_ne (tgt := 24) 20 rfl dX12_heard_17 rfl (fun h17 => ?_) (fun h17 => absurd h17 (by decide))
          refine pw_iload_n 25 rfl dX12_heard_24 rfl ?_
          refine pw_iconst (v := nI 4) 26 rfl dX12_heard_25 rfl ?_
          refine pw_icmp_ne (tgt := 33) 29 rfl dX12_heard_26 rfl (fun h26 => ?_) (fun h26 => absurd h26 (by decide))
          refine pw_bipush (v := nI 9) 35 rfl dX12_heard_33 rfl ?_
          refine pw_istore_n 36 rfl dX12_heard_35 (by decide) ?_
          refine pw_iload_n 37 rfl dX12_heard_36 rfl ?_
          refine pw_iconst (v := nI 0) 38 rfl dX12_heard_37 rfl ?_
          refine pw_iconst (v := nI 4) 39 rfl dX12_heard_38 rfl ?_
          refine pw_callSP (as := [_, _, _]) 42 rfl dX12_heard_39 mX12_98 sX12_in (m_in (d := d) _ _ _) ⟨rfl, by decide, by decide, show (parseMethodDescriptor yX12_in.desc).map (fun d => d.parameters.length) = some 3 by decide +kernel⟩ (by omega) (by decide) (Nat.le_of_ble_eq_true rfl) rfl ?_
          refine pw_if_eq (tgt := 63) 45 rfl dX12_heard_42 rfl (fun h42 => absurd h42 (by decide)) (fun h42 => ?_)
          refine pw_iload_n 46 rfl dX12_heard_45 rfl ?_
          refine pw_iconst (v := nI 0) 47 rfl dX12_heard_46 rfl ?_
          refine pw_iload_n 48 rfl dX12_heard_47 rfl ?_
          refine pw_callSP (as := [_, _, _]) 51 rfl dX12_heard_48 mX12_98 sX12_in (m_in (d := d) _ _ _) ⟨rfl, by decide, by decide, show (parseMethodDescriptor yX12_in.desc).map (fun d => d.parameters.length) = some 3 by decide +kernel⟩ (by omega) (by decide) (Nat.le_of_ble_eq_true rfl) rfl ?_
          refine pw_if_eq (tgt := 63) 54 rfl dX12_heard_51 rfl (fun h51 => absurd h51 (by rw [inV_y g1 g2 (by decide)]; decide)) (fun h51 => ?_)
          refine pw_aload_n 55 rfl dX12_heard_54 rfl ?_
          refine pw_getI 58 rfl dX12_heard_55 fX12_314 (by first | rfl | assumption | exact rowS hh | exact mtS hm | exact ruS hr | exact mtA1 hm | exact mtA2 hm | exact mtA3 hm | exact mtA4 hm | exact mtA5 hm | exact mtA6 hm | exact mtA7 hm | exact ruA1 hr | exact ruA2 hr | exact ruA3 hr) rfl ?_
          refine pw_bipush (v := nI 12) 60 rfl dX12_heard_58 rfl ?_
          refine pw_icmp_ne (tgt := 65) 63 rfl dX12_heard_60 rfl (fun h60 => ?_) (fun h60 => absurd h60 (by rw [e32, nI_eq (by omega) (by decide)]; omega))
          refine pw_aload_n 66 rfl dX12_heard_65 rfl ?_
          refine pw_getR 69 rfl dX12_heard_66 fX12_63 (by first | rfl | assumption | exact rowS hh | exact mtS hm | exact ruS hr | exact mtA1 hm | exact mtA2 hm | exact mtA3 hm | exact mtA4 hm | exact mtA5 hm | exact mtA6 hm | exact mtA7 hm | exact ruA1 hr | exact ruA2 hr | exact ruA3 hr) rfl (by first | rfl | assumption | exact mtR0 hm | exact mtR1 hm | exact mtR2 hm | exact mtR3 hm | exact mtR4 hm | exact mtR5 hm | exact mtR6 hm | exact ruR0 hr | exact ruR1 hr | exact ruR3 hr) ?_
          refine pw_aload_n 70 rfl dX12_heard_69 rfl ?_
          refine pw_getI 73 rfl dX12_heard_70 fX12_314 (by first | rfl | assumption | exact rowS hh | exact mtS hm | exact ruS hr | exact mtA1 hm | exact mtA2 hm | exact mtA3 hm | exact mtA4 hm | exact mtA5 hm | exact mtA6 hm | exact mtA7 hm | exact ruA1 hr | exact ruA2 hr | exact ruA3 hr) rfl ?_
          rotate_left
          rw [e32]
          refine pw_iload_n 74 rfl dX12_heard_73 rfl ?_
          refine pw_iastN 75 rfl dX12_heard_74 (by first | rfl | assumption | exact rowS hh | exact mtS hm | exact ruS hr | exact mtA1 hm | exact mtA2 hm | exact mtA3 hm | exact mtA4 hm | exact mtA5 hm | exact mtA6 hm | exact mtA7 hm | exact ruA1 hr | exact ruA2 hr | exact ruA3 hr) (by omega) (by first | decide | omega) ?_
          refine pw_aload_n 76 rfl dX12_heard_75 rfl ?_
          refine pw_getR 79 rfl dX12_heard_76 fX12_66 (by first | rfl | assumption | exact rowS hh | exact mtS hm | exact ruS hr | exact mtA1 hm | exact mtA2 hm | exact mtA3 hm | exact mtA4 hm | exact mtA5 hm | exact mtA6 hm | exact mtA7 hm | exact ruA1 hr | exact ruA2 hr | exact ruA3 hr) rfl (by first | rfl | assumption | exact mtR0 hm | exact mtR1 hm | exact mtR2 hm | exact mtR3 hm | exact mtR4 hm | exact mtR5 hm | exact mtR6 hm | exact ruR0 hr | exact ruR1 hr | exact ruR3 hr) ?_
          refine pw_aload_n 80 rfl dX12_heard_79 rfl ?_
          refine pw_getI 83 rfl dX12_heard_80 fX12_314 (by first | rfl | assumption | exact rowS hh | exact mtS hm | exact ruS hr | exact mtA1 hm | exact mtA2 hm | exact mtA3 hm | exact mtA4 hm | exact mtA5 hm | exact mtA6 hm | exact mtA7 hm | exact ruA1 hr | exact ruA2 hr | exact ruA3 hr) rfl ?_
          rotate_left
          rw [uI_ne (by omega), e32]
          refine pw_iload_n 84 rfl dX12_heard_83 rfl ?_
          refine pw_iastN 85 rfl dX12_heard_84 (by first | rfl | assumption | exact rowS hh | exact mtS hm | exact ruS hr | exact mtA1 hm | exact mtA2 hm | exact mtA3 hm | exact mtA4 hm | exact mtA5 hm | exact mtA6 hm | exact mtA7 hm | exact ruA1 hr | exact ruA2 hr | exact ruA3 hr) (by omega) (by first | decide | omega) ?_
          refine pw_aload_n 86 rfl dX12_heard_85 rfl ?_
          refine pw_dup 87 rfl dX12_heard_86 rfl ?_
          refine pw_getI 90 rfl dX12_heard_87 fX12_314 (by first | rfl | assumption | exact rowS hh | exact mtS hm | exact ruS hr | exact mtA1 hm | exact mtA2 hm | exact mtA3 hm | exact mtA4 hm | exact mtA5 hm | exact mtA6 hm | exact mtA7 hm | exact ruA1 hr | exact ruA2 hr | exact ruA3 hr) rfl ?_
          rotate_left
          rw [uI_ne (by omega), uI_ne (by omega), e32]
          refine pw_iconst (v := nI 1) 91 rfl dX12_heard_90 rfl ?_
          first | refine pw_iaddN 92 rfl dX12_heard_91 ?_ | refine pw_iadd 92 rfl dX12_heard_91 ?_
          refine pw_putI 95 rfl dX12_heard_92 fX12_314 w12_32 (by first | rfl | assumption | exact rowS hh | exact mtS hm | exact ruS hr | exact mtA1 hm | exact mtA2 hm | exact mtA3 hm | exact mtA4 hm | exact mtA5 hm | exact mtA6 hm | exact mtA7 hm | exact ruA1 hr | exact ruA2 hr | exact ruA3 hr) rfl rfl rfl ?_
          refine pw_aload_n 96 rfl dX12_heard_95 rfl ?_
          refine pw_getI 99 rfl dX12_heard_96 fX12_314 (by first | rfl | assumption | exact rowS hh | exact mtS hm | exact ruS hr | exact mtA1 hm | exact mtA2 hm | exact mtA3 hm | exact mtA4 hm | exact mtA5 hm | exact mtA6 hm | exact mtA7 hm | exact ruA1 hr | exact ruA2 hr | exact ruA3 hr) rfl ?_
          rotate_left
          rw [uI_eq]
          refine pw_iret dX12_heard_99 rfl ?_
          rotate_left
          refine moE (y := (nI (hd.length + 1), (n, pc, b, us, kp, rw, tx, rt, hd ++ [(0, x)], sw))) (by show ((aHear hd (nI 0) (nI x)).1, _) = _; rw [e]) ⟨rfl, MA_hd hA0 (fun a j q1 q2 q3 => by rw [uI_ne (by omega), uI_ne (by omega), uI_ne (by omega)]) (MH_add mH hl (by decide) g2), (MDg_f hD0 (by rw [uI_ne (by omega), uI_ne (by omega), uI_ne (by omega)]) (fun j => by rw [uI_ne (by omega), uI_ne (by omega), uI_ne (by omega)])).mono (by omega), rd, rfl⟩
        · have e : aHear hd (nI 0) (nI x) = (-1, hd) := by unfold aHear; simp only [hi, (show inOf 0 (moN 0) (nI x) = some x from hj)]; exact if_neg hl
          refine pw_iload_n 6 rfl dX12_heard_5 rfl ?_
          refine pw_iconst (v := nI 1) 7 rfl dX12_heard_6 rfl ?_
          refine pw_icmp_ne (tgt := 15) 10 rfl dX12_heard_7 rfl (fun h7 => ?_) (fun h7 => absurd h7 (by decide))
          refine pw_iload_n 16 rfl dX12_heard_15 rfl ?_
          refine pw_iconst (v := nI 2) 17 rfl dX12_heard_16 rfl ?_
          refine pw_icmp_ne (tgt := 24) 20 rfl dX12_heard_17 rfl (fun h17 => ?_) (fun h17 => absurd h17 (by decide))
          refine pw_iload_n 25 rfl dX12_heard_24 rfl ?_
          refine pw_iconst (v := nI 4) 26 rfl dX12_heard_25 rfl ?_
          refine pw_icmp_ne (tgt := 33) 29 rfl dX12_heard_26 rfl (fun h26 => ?_) (fun h26 => absurd h26 (by decide))
          refine pw_bipush (v := nI 9) 35 rfl dX12_heard_33 rfl ?_
          refine pw_istore_n 36 rfl dX12_heard_35 (by decide) ?_
          refine pw_iload_n 37 rfl dX12_heard_36 rfl ?_
          refine pw_iconst (v := nI 0) 38 rfl dX12_heard_37 rfl ?_
          refine pw_iconst (v := nI 4) 39 rfl dX12_heard_38 rfl ?_
          refine pw_callSP (as := [_, _, _]) 42 rfl dX12_heard_39 mX12_98 sX12_in (m_in (d := d) _ _ _) ⟨rfl, by decide, by decide, show (parseMethodDescriptor yX12_in.desc).map (fun d => d.parameters.length) = some 3 by decide +kernel⟩ (by omega) (by decide) (Nat.le_of_ble_eq_true rfl) rfl ?_
          refine pw_if_eq (tgt := 63) 45 rfl dX12_heard_42 rfl (fun h42 => absurd h42 (by decide)) (fun h42 => ?_)
          refine pw_iload_n 46 rfl dX12_heard_45 rfl ?_
          refine pw_iconst (v := nI 0) 47 rfl dX12_heard_46 rfl ?_
          refine pw_iload_n 48 rfl dX12_heard_47 rfl ?_
          refine pw_callSP (as := [_, _, _]) 51 rfl dX12_heard_48 mX12_98 sX12_in (m_in (d := d) _ _ _) ⟨rfl, by decide, by decide, show (parseMethodDescriptor yX12_in.desc).map (fun d => d.parameters.length) = some 3 by decide +kernel⟩ (by omega) (by decide) (Nat.le_of_ble_eq_true rfl) rfl ?_
          refine pw_if_eq (tgt := 63) 54 rfl dX12_heard_51 rfl (fun h51 => absurd h51 (by rw [inV_y g1 g2 (by decide)]; decide)) (fun h51 => ?_)
          refine pw_aload_n 55 rfl dX12_heard_54 rfl ?_
          refine pw_getI 58 rfl dX12_heard_55 fX12_314 (by first | rfl | assumption | exact rowS hh | exact mtS hm | exact ruS hr | exact mtA1 hm | exact mtA2 hm | exact mtA3 hm | exact mtA4 hm | exact mtA5 hm | exact mtA6 hm | exact mtA7 hm | exact ruA1 hr | exact ruA2 hr | exact ruA3 hr) rfl ?_
          refine pw_bipush (v := nI 12) 60 rfl dX12_heard_58 rfl ?_
          refine pw_icmp_ne (tgt := 65) 63 rfl dX12_heard_60 rfl (fun h60 => absurd (by rw [e32, show hd.length = 12 by omega]) h60) (fun h60 => ?_)
          refine pw_iconst (v := -1) 64 rfl dX12_heard_63 rfl ?_
          refine pw_iret dX12_heard_64 rfl ?_
          rotate_left
          exact no e
      · have e : aHear hd (nI 0) v = (-1, hd) := by unfold aHear; simp only [hi, (show inOf 0 (moN 0) v = none from hj)]
        refine pw_iload_n 6 rfl dX12_heard_5 rfl ?_
        refine pw_iconst (v := nI 1) 7 rfl dX12_heard_6 rfl ?_
        refine pw_icmp_ne (tgt := 15) 10 rfl dX12_heard_7 rfl (fun h7 => ?_) (fun h7 => absurd h7 (by decide))
        refine pw_iload_n 16 rfl dX12_heard_15 rfl ?_
        refine pw_iconst (v := nI 2) 17 rfl dX12_heard_16 rfl ?_
        refine pw_icmp_ne (tgt := 24) 20 rfl dX12_heard_17 rfl (fun h17 => ?_) (fun h17 => absurd h17 (by decide))
        refine pw_iload_n 25 rfl dX12_heard_24 rfl ?_
        refine pw_iconst (v := nI 4) 26 rfl dX12_heard_25 rfl ?_
        refine pw_icmp_ne (tgt := 33) 29 rfl dX12_heard_26 rfl (fun h26 => ?_) (fun h26 => absurd h26 (by decide))
        refine pw_bipush (v := nI 9) 35 rfl dX12_heard_33 rfl ?_
        refine pw_istore_n 36 rfl dX12_heard_35 (by decide) ?_
        refine pw_iload_n 37 rfl dX12_heard_36 rfl ?_
        refine pw_iconst (v := nI 0) 38 rfl dX12_heard_37 rfl ?_
        refine pw_iconst (v := nI 4) 39 rfl dX12_heard_38 rfl ?_
        refine pw_callSP (as := [_, _, _]) 42 rfl dX12_heard_39 mX12_98 sX12_in (m_in (d := d) _ _ _) ⟨rfl, by decide, by decide, show (parseMethodDescriptor yX12_in.desc).map (fun d => d.parameters.length) = some 3 by decide +kernel⟩ (by omega) (by decide) (Nat.le_of_ble_eq_true rfl) rfl ?_
        refine pw_if_eq (tgt := 63) 45 rfl dX12_heard_42 rfl (fun h42 => absurd h42 (by decide)) (fun h42 => ?_)
        refine pw_iload_n 46 rfl dX12_heard_45 rfl ?_
        refine pw_iconst (v := nI 0) 47 rfl dX12_heard_46 rfl ?_
        refine pw_iload_n 48 rfl dX12_heard_47 rfl ?_
        refine pw_callSP (as := [_, _, _]) 51 rfl dX12_heard_48 mX12_98 sX12_in (m_in (d := d) _ _ _) ⟨rfl, by decide, by decide, show (parseMethodDescriptor yX12_in.desc).map (fun d => d.parameters.length) = some 3 by decide +kernel⟩ (by omega) (by decide) (Nat.le_of_ble_eq_true rfl) rfl ?_
        refine pw_if_eq (tgt := 63) 54 rfl dX12_heard_51 rfl (fun h51 => ?_) (fun h51 => absurd (by rw [inV_n ho]; rfl) h51)
        refine pw_iconst (v := -1) 64 rfl dX12_heard_63 rfl ?_
        refine pw_iret dX12_heard_64 rfl ?_
        rotate_left
        exact no e
    · rcases inOf_cases (lo := 0) (hi := 99) (by decide) v (by decide) with ⟨x, g1, g2, rfl, hj⟩ | ⟨hj, ho⟩
      · by_cases hl : hd.length < 12
        · have e : aHear hd (nI 1) (nI x) = (nI (hd.length + 1), hd ++ [(1, x)]) := by unfold aHear; simp only [hi, (show inOf 0 (moN 1) (nI x) = some x from hj)]; exact if_pos hl
          refine pw_iload_n 6 rfl dX12_heard_5 rfl ?_
          refine pw_iconst (v := nI 1) 7 rfl dX12_heard_6 rfl ?_
          refine pw_icmp_ne (tgt := 15) 10 rfl dX12_heard_7 rfl (fun h7 => absurd (by rfl) h7) (fun h7 => ?_)
          refine pw_bipush (v := nI 99) 12 rfl dX12_heard_10 rfl ?_
          refine pw_goto (tgt := 35) dX12_heard_12 rfl ?_
          refine pw_istore_n 36 rfl dX12_heard_35 (by decide) ?_
          refine pw_iload_n 37 rfl dX12_heard_36 rfl ?_
          refine pw_iconst (v := nI 0) 38 rfl dX12_heard_37 rfl ?_
          refine pw_iconst (v := nI 4) 39 rfl dX12_heard_38 rfl ?_
          refine pw_callSP (as := [_, _, _]) 42 rfl dX12_heard_39 mX12_98 sX12_in (m_in (d := d) _ _ _) ⟨rfl, by decide, by decide, show (parseMethodDescriptor yX12_in.desc).map (fun d => d.parameters.length) = some 3 by decide +kernel⟩ (by omega) (by decide) (Nat.le_of_ble_eq_true rfl) rfl ?_
          refine pw_if_eq (tgt := 63) 45 rfl dX12_heard_42 rfl (fun h42 => absurd h42 (by decide)) (fun h42 => ?_)
          refine pw_iload_n 46 rfl dX12_heard_45 rfl ?_
          refine pw_iconst (v := nI 0) 47 rfl dX12_heard_46 rfl ?_
          refine pw_iload_n 48 rfl dX12_heard_47 rfl ?_
          refine pw_callSP (as := [_, _, _]) 51 rfl dX12_heard_48 mX12_98 sX12_in (m_in (d := d) _ _ _) ⟨rfl, by decide, by decide, show (parseMethodDescriptor yX12_in.desc).map (fun d => d.parameters.length) = some 3 by decide +kernel⟩ (by omega) (by decide) (Nat.le_of_ble_eq_true rfl) rfl ?_
          refine pw_if_eq (tgt := 63) 54 rfl dX12_heard_51 rfl (fun h51 => absurd h51 (by rw [inV_y g1 g2 (by decide)]; decide)) (fun h51 => ?_)
          refine pw_aload_n 55 rfl dX12_heard_54 rfl ?_
          refine pw_getI 58 rfl dX12_heard_55 fX12_314 (by first | rfl | assumption | exact rowS hh | exact mtS hm | exact ruS hr | exact mtA1 hm | exact mtA2 hm | exact mtA3 hm | exact mtA4 hm | exact mtA5 hm | exact mtA6 hm | exact mtA7 hm | exact ruA1 hr | exact ruA2 hr | exact ruA3 hr) rfl ?_
          refine pw_bipush (v := nI 12) 60 rfl dX12_heard_58 rfl ?_
          refine pw_icmp_ne (tgt := 65) 63 rfl dX12_heard_60 rfl (fun h60 => ?_) (fun h60 => absurd h60 (by rw [e32, nI_eq (by omega) (by decide)]; omega))
          refine pw_aload_n 66 rfl dX12_heard_65 rfl ?_
          refine pw_getR 69 rfl dX12_heard_66 fX12_63 (by first | rfl | assumption | exact rowS hh | exact mtS hm | exact ruS hr | exact mtA1 hm | exact mtA2 hm | exact mtA3 hm | exact mtA4 hm | exact mtA5 hm | exact mtA6 hm | exact mtA7 hm | exact ruA1 hr | exact ruA2 hr | exact ruA3 hr) rfl (by first | rfl | assumption | exact mtR0 hm | exact mtR1 hm | exact mtR2 hm | exact mtR3 hm | exact mtR4 hm | exact mtR5 hm | exact mtR6 hm | exact ruR0 hr | exact ruR1 hr | exact ruR3 hr) ?_
          refine pw_aload_n 70 rfl dX12_heard_69 rfl ?_
          refine pw_getI 73 rfl dX12_heard_70 fX12_314 (by first | rfl | assumption | exact rowS hh | exact mtS hm | exact ruS hr | exact mtA1 hm | exact mtA2 hm | exact mtA3 hm | exact mtA4 hm | exact mtA5 hm | exact mtA6 hm | exact mtA7 hm | exact ruA1 hr | exact ruA2 hr | exact ruA3 hr) rfl ?_
          rotate_left
          rw [e32]
          refine pw_iload_n 74 rfl dX12_heard_73 rfl ?_
          refine pw_iastN 75 rfl dX12_heard_74 (by first | rfl | assumption | exact rowS hh | exact mtS hm | exact ruS hr | exact mtA1 hm | exact mtA2 hm | exact mtA3 hm | exact mtA4 hm | exact mtA5 hm | exact mtA6 hm | exact mtA7 hm | exact ruA1 hr | exact ruA2 hr | exact ruA3 hr) (by omega) (by first | decide | omega) ?_
          refine pw_aload_n 76 rfl dX12_heard_75 rfl ?_
          refine pw_getR 79 rfl dX12_heard_76 fX12_66 (by first | rfl | assumption | exact rowS hh | exact mtS hm | exact ruS hr | exact mtA1 hm | exact mtA2 hm | exact mtA3 hm | exact mtA4 hm | exact mtA5 hm | exact mtA6 hm | exact mtA7 hm | exact ruA1 hr | exact ruA2 hr | exact ruA3 hr) rfl (by first | rfl | assumption | exact mtR0 hm | exact mtR1 hm | exact mtR2 hm | exact mtR3 hm | exact mtR4 hm | exact mtR5 hm | exact mtR6 hm | exact ruR0 hr | exact ruR1 hr | exact ruR3 hr) ?_
          refine pw_aload_n 80 rfl dX12_heard_79 rfl ?_
          refine pw_getI 83 rfl dX12_heard_80 fX12_314 (by first | rfl | assumption | exact rowS hh | exact mtS hm | exact ruS hr | exact mtA1 hm | exact mtA2 hm | exact mtA3 hm | exact mtA4 hm | exact mtA5 hm | exact mtA6 hm | exact mtA7 hm | exact ruA1 hr | exact ruA2 hr | exact ruA3 hr) rfl ?_
          rotate_left
          rw [uI_ne (by omega), e32]
          refine pw_iload_n 84 rfl dX12_heard_83 rfl ?_
          refine pw_iastN 85 rfl dX12_heard_84 (by first | rfl | assumption | exact rowS hh | exact mtS hm | exact ruS hr | exact mtA1 hm | exact mtA2 hm | exact mtA3 hm | exact mtA4 hm | exact mtA5 hm | exact mtA6 hm | exact mtA7 hm | exact ruA1 hr | exact ruA2 hr | exact ruA3 hr) (by omega) (by first | decide | omega) ?_
          refine pw_aload_n 86 rfl dX12_heard_85 rfl ?_
          refine pw_dup 87 rfl dX12_heard_86 rfl ?_
          refine pw_getI 90 rfl dX12_heard_87 fX12_314 (by first | rfl | assumption | exact rowS hh | exact mtS hm | exact ruS hr | exact mtA1 hm | exact mtA2 hm | exact mtA3 hm | exact mtA4 hm | exact mtA5 hm | exact mtA6 hm | exact mtA7 hm | exact ruA1 hr | exact ruA2 hr | exact ruA3 hr) rfl ?_
          rotate_left
          rw [uI_ne (by omega), uI_ne (by omega), e32]
          refine pw_iconst (v := nI 1) 91 rfl dX12_heard_90 rfl ?_
          first | refine pw_iaddN 92 rfl dX12_heard_91 ?_ | refine pw_iadd 92 rfl dX12_heard_91 ?_
          refine pw_putI 95 rfl dX12_heard_92 fX12_314 w12_32 (by first | rfl | assumption | exact rowS hh | exact mtS hm | exact ruS hr | exact mtA1 hm | exact mtA2 hm | exact mtA3 hm | exact mtA4 hm | exact mtA5 hm | exact mtA6 hm | exact mtA7 hm | exact ruA1 hr | exact ruA2 hr | exact ruA3 hr) rfl rfl rfl ?_
          refine pw_aload_n 96 rfl dX12_heard_95 rfl ?_
          refine pw_getI 99 rfl dX12_heard_96 fX12_314 (by first | rfl | assumption | exact rowS hh | exact mtS hm | exact ruS hr | exact mtA1 hm | exact mtA2 hm | exact mtA3 hm | exact mtA4 hm | exact mtA5 hm | exact mtA6 hm | exact mtA7 hm | exact ruA1 hr | exact ruA2 hr | exact ruA3 hr) rfl ?_
          rotate_left
          rw [uI_eq]
          refine pw_iret dX12_heard_99 rfl ?_
          rotate_left
          refine moE (y := (nI (hd.length + 1), (n, pc, b, us, kp, rw, tx, rt, hd ++ [(1, x)], sw))) (by show ((aHear hd (nI 1) (nI x)).1, _) = _; rw [e]) ⟨rfl, MA_hd hA0 (fun a j q1 q2 q3 => by rw [uI_ne (by omega), uI_ne (by omega), uI_ne (by omega)]) (MH_add mH hl (by decide) g2), (MDg_f hD0 (by rw [uI_ne (by omega), uI_ne (by omega), uI_ne (by omega)]) (fun j => by rw [uI_ne (by omega), uI_ne (by omega), uI_ne (by omega)])).mono (by omega), rd, rfl⟩
        · have e : aHear hd (nI 1) (nI x) = (-1, hd) := by unfold aHear; simp only [hi, (show inOf 0 (moN 1) (nI x) = some x from hj)]; exact if_neg hl
          refine pw_iload_n 6 rfl dX12_heard_5 rfl ?_
          refine pw_iconst (v := nI 1) 7 rfl dX12_heard_6 rfl ?_
          refine pw_icmp_ne (tgt := 15) 10 rfl dX12_heard_7 rfl (fun h7 => absurd (by rfl) h7) (fun h7 => ?_)
          refine pw_bipush (v := nI 99) 12 rfl dX12_heard_10 rfl ?_
          refine pw_goto (tgt := 35) dX12_heard_12 rfl ?_
          refine pw_istore_n 36 rfl dX12_heard_35 (by decide) ?_
          refine pw_iload_n 37 rfl dX12_heard_36 rfl ?_
          refine pw_iconst (v := nI 0) 38 rfl dX12_heard_37 rfl ?_
          refine pw_iconst (v := nI 4) 39 rfl dX12_heard_38 rfl ?_
          refine pw_callSP (as := [_, _, _]) 42 rfl dX12_heard_39 mX12_98 sX12_in (m_in (d := d) _ _ _) ⟨rfl, by decide, by decide, show (parseMethodDescriptor yX12_in.desc).map (fun d => d.parameters.length) = some 3 by decide +kernel⟩ (by omega) (by decide) (Nat.le_of_ble_eq_true rfl) rfl ?_
          refine pw_if_eq (tgt := 63) 45 rfl dX12_heard_42 rfl (fun h42 => absurd h42 (by decide)) (fun h42 => ?_)
          refine pw_iload_n 46 rfl dX12_heard_45 rfl ?_
          refine pw_iconst (v := nI 0) 47 rfl dX12_heard_46 rfl ?_
          refine pw_iload_n 48 rfl dX12_heard_47 rfl ?_
          refine pw_callSP (as := [_, _, _]) 51 rfl dX12_heard_48 mX12_98 sX12_in (m_in (d := d) _ _ _) ⟨rfl, by decide, by decide, show (parseMethodDescriptor yX12_in.desc).map (fun d => d.parameters.length) = some 3 by decide +kernel⟩ (by omega) (by decide) (Nat.le_of_ble_eq_true rfl) rfl ?_
          refine pw_if_eq (tgt := 63) 54 rfl dX12_heard_51 rfl (fun h51 => absurd h51 (by rw [inV_y g1 g2 (by decide)]; decide)) (fun h51 => ?_)
          refine pw_aload_n 55 rfl dX12_heard_54 rfl ?_
          refine pw_getI 58 rfl dX12_heard_55 fX12_314 (by first | rfl | assumption | exact rowS hh | exact mtS hm | exact ruS hr | exact mtA1 hm | exact mtA2 hm | exact mtA3 hm | exact mtA4 hm | exact mtA5 hm | exact mtA6 hm | exact mtA7 hm | exact ruA1 hr | exact ruA2 hr | exact ruA3 hr) rfl ?_
          refine pw_bipush (v := nI 12) 60 rfl dX12_heard_58 rfl ?_
          refine pw_icmp_ne (tgt := 65) 63 rfl dX12_heard_60 rfl (fun h60 => absurd (by rw [e32, show hd.length = 12 by omega]) h60) (fun h60 => ?_)
          refine pw_iconst (v := -1) 64 rfl dX12_heard_63 rfl ?_
          refine pw_iret dX12_heard_64 rfl ?_
          rotate_left
          exact no e
      · have e : aHear hd (nI 1) v = (-1, hd) := by unfold aHear; simp only [hi, (show inOf 0 (moN 1) v = none from hj)]
        refine pw_iload_n 6 rfl dX12_heard_5 rfl ?_
        refine pw_iconst (v := nI 1) 7 rfl dX12_heard_6 rfl ?_
        refine pw_icmp_ne (tgt := 15) 10 rfl dX12_heard_7 rfl (fun h7 => absurd (by rfl) h7) (fun h7 => ?_)
        refine pw_bipush (v := nI 99) 12 rfl dX12_heard_10 rfl ?_
        refine pw_goto (tgt := 35) dX12_heard_12 rfl ?_
        refine pw_istore_n 36 rfl dX12_heard_35 (by decide) ?_
        refine pw_iload_n 37 rfl dX12_heard_36 rfl ?_
        refine pw_iconst (v := nI 0) 38 rfl dX12_heard_37 rfl ?_
        refine pw_iconst (v := nI 4) 39 rfl dX12_heard_38 rfl ?_
        refine pw_callSP (as := [_, _, _]) 42 rfl dX12_heard_39 mX12_98 sX12_in (m_in (d := d) _ _ _) ⟨rfl, by decide, by decide, show (parseMethodDescriptor yX12_in.desc).map (fun d => d.parameters.length) = some 3 by decide +kernel⟩ (by omega) (by decide) (Nat.le_of_ble_eq_true rfl) rfl ?_
        refine pw_if_eq (tgt := 63) 45 rfl dX12_heard_42 rfl (fun h42 => absurd h42 (by decide)) (fun h42 => ?_)
        refine pw_iload_n 46 rfl dX12_heard_45 rfl ?_
        refine pw_iconst (v := nI 0) 47 rfl dX12_heard_46 rfl ?_
        refine pw_iload_n 48 rfl dX12_heard_47 rfl ?_
        refine pw_callSP (as := [_, _, _]) 51 rfl dX12_heard_48 mX12_98 sX12_in (m_in (d := d) _ _ _) ⟨rfl, by decide, by decide, show (parseMethodDescriptor yX12_in.desc).map (fun d => d.parameters.length) = some 3 by decide +kernel⟩ (by omega) (by decide) (Nat.le_of_ble_eq_true rfl) rfl ?_
        refine pw_if_eq (tgt := 63) 54 rfl dX12_heard_51 rfl (fun h51 => ?_) (fun h51 => absurd (by rw [inV_n ho]; rfl) h51)
        refine pw_iconst (v := -1) 64 rfl dX12_heard_63 rfl ?_
        refine pw_iret dX12_heard_64 rfl ?_
        rotate_left
        exact no e
    · rcases inOf_cases (lo := 0) (hi := 2) (by decide) v (by decide) with ⟨x, g1, g2, rfl, hj⟩ | ⟨hj, ho⟩
      · by_cases hl : hd.length < 12
        · have e : aHear hd (nI 2) (nI x) = (nI (hd.length + 1), hd ++ [(2, x)]) := by unfold aHear; simp only [hi, (show inOf 0 (moN 2) (nI x) = some x from hj)]; exact if_pos hl
          refine pw_iload_n 6 rfl dX12_heard_5 rfl ?_
          refine pw_iconst (v := nI 1) 7 rfl dX12_heard_6 rfl ?_
          refine pw_icmp_ne (tgt := 15) 10 rfl dX12_heard_7 rfl (fun h7 => ?_) (fun h7 => absurd h7 (by decide))
          refine pw_iload_n 16 rfl dX12_heard_15 rfl ?_
          refine pw_iconst (v := nI 2) 17 rfl dX12_heard_16 rfl ?_
          refine pw_icmp_ne (tgt := 24) 20 rfl dX12_heard_17 rfl (fun h17 => absurd (by rfl) h17) (fun h17 => ?_)
          refine pw_iconst (v := nI 2) 21 rfl dX12_heard_20 rfl ?_
          refine pw_goto (tgt := 35) dX12_heard_21 rfl ?_
          refine pw_istore_n 36 rfl dX12_heard_35 (by decide) ?_
          refine pw_iload_n 37 rfl dX12_heard_36 rfl ?_
          refine pw_iconst (v := nI 0) 38 rfl dX12_heard_37 rfl ?_
          refine pw_iconst (v := nI 4) 39 rfl dX12_heard_38 rfl ?_
          refine pw_callSP (as := [_, _, _]) 42 rfl dX12_heard_39 mX12_98 sX12_in (m_in (d := d) _ _ _) ⟨rfl, by decide, by decide, show (parseMethodDescriptor yX12_in.desc).map (fun d => d.parameters.length) = some 3 by decide +kernel⟩ (by omega) (by decide) (Nat.le_of_ble_eq_true rfl) rfl ?_
          refine pw_if_eq (tgt := 63) 45 rfl dX12_heard_42 rfl (fun h42 => absurd h42 (by decide)) (fun h42 => ?_)
          refine pw_iload_n 46 rfl dX12_heard_45 rfl ?_
          refine pw_iconst (v := nI 0) 47 rfl dX12_heard_46 rfl ?_
          refine pw_iload_n 48 rfl dX12_heard_47 rfl ?_
          refine pw_callSP (as := [_, _, _]) 51 rfl dX12_heard_48 mX12_98 sX12_in (m_in (d := d) _ _ _) ⟨rfl, by decide, by decide, show (parseMethodDescriptor yX12_in.desc).map (fun d => d.parameters.length) = some 3 by decide +kernel⟩ (by omega) (by decide) (Nat.le_of_ble_eq_true rfl) rfl ?_
          refine pw_if_eq (tgt := 63) 54 rfl dX12_heard_51 rfl (fun h51 => absurd h51 (by rw [inV_y g1 g2 (by decide)]; decide)) (fun h51 => ?_)
          refine pw_aload_n 55 rfl dX12_heard_54 rfl ?_
          refine pw_getI 58 rfl dX12_heard_55 fX12_314 (by first | rfl | assumption | exact rowS hh | exact mtS hm | exact ruS hr | exact mtA1 hm | exact mtA2 hm | exact mtA3 hm | exact mtA4 hm | exact mtA5 hm | exact mtA6 hm | exact mtA7 hm | exact ruA1 hr | exact ruA2 hr | exact ruA3 hr) rfl ?_
          refine pw_bipush (v := nI 12) 60 rfl dX12_heard_58 rfl ?_
          refine pw_icmp_ne (tgt := 65) 63 rfl dX12_heard_60 rfl (fun h60 => ?_) (fun h60 => absurd h60 (by rw [e32, nI_eq (by omega) (by decide)]; omega))
          refine pw_aload_n 66 rfl dX12_heard_65 rfl ?_
          refine pw_getR 69 rfl dX12_heard_66 fX12_63 (by first | rfl | assumption | exact rowS hh | exact mtS hm | exact ruS hr | exact mtA1 hm | exact mtA2 hm | exact mtA3 hm | exact mtA4 hm | exact mtA5 hm | exact mtA6 hm | exact mtA7 hm | exact ruA1 hr | exact ruA2 hr | exact ruA3 hr) rfl (by first | rfl | assumption | exact mtR0 hm | exact mtR1 hm | exact mtR2 hm | exact mtR3 hm | exact mtR4 hm | exact mtR5 hm | exact mtR6 hm | exact ruR0 hr | exact ruR1 hr | exact ruR3 hr) ?_
          refine pw_aload_n 70 rfl dX12_heard_69 rfl ?_
          refine pw_getI 73 rfl dX12_heard_70 fX12_314 (by first | rfl | assumption | exact rowS hh | exact mtS hm | exact ruS hr | exact mtA1 hm | exact mtA2 hm | exact mtA3 hm | exact mtA4 hm | exact mtA5 hm | exact mtA6 hm | exact mtA7 hm | exact ruA1 hr | exact ruA2 hr | exact ruA3 hr) rfl ?_
          rotate_left
          rw [e32]
          refine pw_iload_n 74 rfl dX12_heard_73 rfl ?_
          refine pw_iastN 75 rfl dX12_heard_74 (by first | rfl | assumption | exact rowS hh | exact mtS hm | exact ruS hr | exact mtA1 hm | exact mtA2 hm | exact mtA3 hm | exact mtA4 hm | exact mtA5 hm | exact mtA6 hm | exact mtA7 hm | exact ruA1 hr | exact ruA2 hr | exact ruA3 hr) (by omega) (by first | decide | omega) ?_
          refine pw_aload_n 76 rfl dX12_heard_75 rfl ?_
          refine pw_getR 79 rfl dX12_heard_76 fX12_66 (by first | rfl | assumption | exact rowS hh | exact mtS hm | exact ruS hr | exact mtA1 hm | exact mtA2 hm | exact mtA3 hm | exact mtA4 hm | exact mtA5 hm | exact mtA6 hm | exact mtA7 hm | exact ruA1 hr | exact ruA2 hr | exact ruA3 hr) rfl (by first | rfl | assumption | exact mtR0 hm | exact mtR1 hm | exact mtR2 hm | exact mtR3 hm | exact mtR4 hm | exact mtR5 hm | exact mtR6 hm | exact ruR0 hr | exact ruR1 hr | exact ruR3 hr) ?_
          refine pw_aload_n 80 rfl dX12_heard_79 rfl ?_
          refine pw_getI 83 rfl dX12_heard_80 fX12_314 (by first | rfl | assumption | exact rowS hh | exact mtS hm | exact ruS hr | exact mtA1 hm | exact mtA2 hm | exact mtA3 hm | exact mtA4 hm | exact mtA5 hm | exact mtA6 hm | exact mtA7 hm | exact ruA1 hr | exact ruA2 hr | exact ruA3 hr) rfl ?_
          rotate_left
          rw [uI_ne (by omega), e32]
          refine pw_iload_n 84 rfl dX12_heard_83 rfl ?_
          refine pw_iastN 85 rfl dX12_heard_84 (by first | rfl | assumption | exact rowS hh | exact mtS hm | exact ruS hr | exact mtA1 hm | exact mtA2 hm | exact mtA3 hm | exact mtA4 hm | exact mtA5 hm | exact mtA6 hm | exact mtA7 hm | exact ruA1 hr | exact ruA2 hr | exact ruA3 hr) (by omega) (by first | decide | omega) ?_
          refine pw_aload_n 86 rfl dX12_heard_85 rfl ?_
          refine pw_dup 87 rfl dX12_heard_86 rfl ?_
          refine pw_getI 90 rfl dX12_heard_87 fX12_314 (by first | rfl | assumption | exact rowS hh | exact mtS hm | exact ruS hr | exact mtA1 hm | exact mtA2 hm | exact mtA3 hm | exact mtA4 hm | exact mtA5 hm | exact mtA6 hm | exact mtA7 hm | exact ruA1 hr | exact ruA2 hr | exact ruA3 hr) rfl ?_
          rotate_left
          rw [uI_ne (by omega), uI_ne (by omega), e32]
          refine pw_iconst (v := nI 1) 91 rfl dX12_heard_90 rfl ?_
          first | refine pw_iaddN 92 rfl dX12_heard_91 ?_ | refine pw_iadd 92 rfl dX12_heard_91 ?_
          refine pw_putI 95 rfl dX12_heard_92 fX12_314 w12_32 (by first | rfl | assumption | exact rowS hh | exact mtS hm | exact ruS hr | exact mtA1 hm | exact mtA2 hm | exact mtA3 hm | exact mtA4 hm | exact mtA5 hm | exact mtA6 hm | exact mtA7 hm | exact ruA1 hr | exact ruA2 hr | exact ruA3 hr) rfl rfl rfl ?_
          refine pw_aload_n 96 rfl dX12_heard_95 rfl ?_
          refine pw_getI 99 rfl dX12_heard_96 fX12_314 (by first | rfl | assumption | exact rowS hh | exact mtS hm | exact ruS hr | exact mtA1 hm | exact mtA2 hm | exact mtA3 hm | exact mtA4 hm | exact mtA5 hm | exact mtA6 hm | exact mtA7 hm | exact ruA1 hr | exact ruA2 hr | exact ruA3 hr) rfl ?_
          rotate_left
          rw [uI_eq]
          refine pw_iret dX12_heard_99 rfl ?_
          rotate_left
          refine moE (y := (nI (hd.length + 1), (n, pc, b, us, kp, rw, tx, rt, hd ++ [(2, x)], sw))) (by show ((aHear hd (nI 2) (nI x)).1, _) = _; rw [e]) ⟨rfl, MA_hd hA0 (fun a j q1 q2 q3 => by rw [uI_ne (by omega), uI_ne (by omega), uI_ne (by omega)]) (MH_add mH hl (by decide) g2), (MDg_f hD0 (by rw [uI_ne (by omega), uI_ne (by omega), uI_ne (by omega)]) (fun j => by rw [uI_ne (by omega), uI_ne (by omega), uI_ne (by omega)])).mono (by omega), rd, rfl⟩
        · have e : aHear hd (nI 2) (nI x) = (-1, hd) := by unfold aHear; simp only [hi, (show inOf 0 (moN 2) (nI x) = some x from hj)]; exact if_neg hl
          refine pw_iload_n 6 rfl dX12_heard_5 rfl ?_
          refine pw_iconst (v := nI 1) 7 rfl dX12_heard_6 rfl ?_
          refine pw_icmp_ne (tgt := 15) 10 rfl dX12_heard_7 rfl (fun h7 => ?_) (fun h7 => absurd h7 (by decide))
          refine pw_iload_n 16 rfl dX12_heard_15 rfl ?_
          refine pw_iconst (v := nI 2) 17 rfl dX12_heard_16 rfl ?_
          refine pw_icmp_ne (tgt := 24) 20 rfl dX12_heard_17 rfl (fun h17 => absurd (by rfl) h17) (fun h17 => ?_)
          refine pw_iconst (v := nI 2) 21 rfl dX12_heard_20 rfl ?_
          refine pw_goto (tgt := 35) dX12_heard_21 rfl ?_
          refine pw_istore_n 36 rfl dX12_heard_35 (by decide) ?_
          refine pw_iload_n 37 rfl dX12_heard_36 rfl ?_
          refine pw_iconst (v := nI 0) 38 rfl dX12_heard_37 rfl ?_
          refine pw_iconst (v := nI 4) 39 rfl dX12_heard_38 rfl ?_
          refine pw_callSP (as := [_, _, _]) 42 rfl dX12_heard_39 mX12_98 sX12_in (m_in (d := d) _ _ _) ⟨rfl, by decide, by decide, show (parseMethodDescriptor yX12_in.desc).map (fun d => d.parameters.length) = some 3 by decide +kernel⟩ (by omega) (by decide) (Nat.le_of_ble_eq_true rfl) rfl ?_
          refine pw_if_eq (tgt := 63) 45 rfl dX12_heard_42 rfl (fun h42 => absurd h42 (by decide)) (fun h42 => ?_)
          refine pw_iload_n 46 rfl dX12_heard_45 rfl ?_
          refine pw_iconst (v := nI 0) 47 rfl dX12_heard_46 rfl ?_
          refine pw_iload_n 48 rfl dX12_heard_47 rfl ?_
          refine pw_callSP (as := [_, _, _]) 51 rfl dX12_heard_48 mX12_98 sX12_in (m_in (d := d) _ _ _) ⟨rfl, by decide, by decide, show (parseMethodDescriptor yX12_in.desc).map (fun d => d.parameters.length) = some 3 by decide +kernel⟩ (by omega) (by decide) (Nat.le_of_ble_eq_true rfl) rfl ?_
          refine pw_if_eq (tgt := 63) 54 rfl dX12_heard_51 rfl (fun h51 => absurd h51 (by rw [inV_y g1 g2 (by decide)]; decide)) (fun h51 => ?_)
          refine pw_aload_n 55 rfl dX12_heard_54 rfl ?_
          refine pw_getI 58 rfl dX12_heard_55 fX12_314 (by first | rfl | assumption | exact rowS hh | exact mtS hm | exact ruS hr | exact mtA1 hm | exact mtA2 hm | exact mtA3 hm | exact mtA4 hm | exact mtA5 hm | exact mtA6 hm | exact mtA7 hm | exact ruA1 hr | exact ruA2 hr | exact ruA3 hr) rfl ?_
          refine pw_bipush (v := nI 12) 60 rfl dX12_heard_58 rfl ?_
          refine pw_icmp_ne (tgt := 65) 63 rfl dX12_heard_60 rfl (fun h60 => absurd (by rw [e32, show hd.length = 12 by omega]) h60) (fun h60 => ?_)
          refine pw_iconst (v := -1) 64 rfl dX12_heard_63 rfl ?_
          refine pw_iret dX12_heard_64 rfl ?_
          rotate_left
          exact no e
      · have e : aHear hd (nI 2) v = (-1, hd) := by unfold aHear; simp only [hi, (show inOf 0 (moN 2) v = none from hj)]
        refine pw_iload_n 6 rfl dX12_heard_5 rfl ?_
        refine pw_iconst (v := nI 1) 7 rfl dX12_heard_6 rfl ?_
        refine pw_icmp_ne (tgt := 15) 10 rfl dX12_heard_7 rfl (fun h7 => ?_) (fun h7 => absurd h7 (by decide))
        refine pw_iload_n 16 rfl dX12_heard_15 rfl ?_
        refine pw_iconst (v := nI 2) 17 rfl dX12_heard_16 rfl ?_
        refine pw_icmp_ne (tgt := 24) 20 rfl dX12_heard_17 rfl (fun h17 => absurd (by rfl) h17) (fun h17 => ?_)
        refine pw_iconst (v := nI 2) 21 rfl dX12_heard_20 rfl ?_
        refine pw_goto (tgt := 35) dX12_heard_21 rfl ?_
        refine pw_istore_n 36 rfl dX12_heard_35 (by decide) ?_
        refine pw_iload_n 37 rfl dX12_heard_36 rfl ?_
        refine pw_iconst (v := nI 0) 38 rfl dX12_heard_37 rfl ?_
        refine pw_iconst (v := nI 4) 39 rfl dX12_heard_38 rfl ?_
        refine pw_callSP (as := [_, _, _]) 42 rfl dX12_heard_39 mX12_98 sX12_in (m_in (d := d) _ _ _) ⟨rfl, by decide, by decide, show (parseMethodDescriptor yX12_in.desc).map (fun d => d.parameters.length) = some 3 by decide +kernel⟩ (by omega) (by decide) (Nat.le_of_ble_eq_true rfl) rfl ?_
        refine pw_if_eq (tgt := 63) 45 rfl dX12_heard_42 rfl (fun h42 => absurd h42 (by decide)) (fun h42 => ?_)
        refine pw_iload_n 46 rfl dX12_heard_45 rfl ?_
        refine pw_iconst (v := nI 0) 47 rfl dX12_heard_46 rfl ?_
        refine pw_iload_n 48 rfl dX12_heard_47 rfl ?_
        refine pw_callSP (as := [_, _, _]) 51 rfl dX12_heard_48 mX12_98 sX12_in (m_in (d := d) _ _ _) ⟨rfl, by decide, by decide, show (parseMethodDescriptor yX12_in.desc).map (fun d => d.parameters.length) = some 3 by decide +kernel⟩ (by omega) (by decide) (Nat.le_of_ble_eq_true rfl) rfl ?_
        refine pw_if_eq (tgt := 63) 54 rfl dX12_heard_51 rfl (fun h51 => ?_) (fun h51 => absurd (by rw [inV_n ho]; rfl) h51)
        refine pw_iconst (v := -1) 64 rfl dX12_heard_63 rfl ?_
        refine pw_iret dX12_heard_64 rfl ?_
        rotate_left
        exact no e
    · rcases inOf_cases (lo := 0) (hi := 9) (by decide) v (by decide) with ⟨x, g1, g2, rfl, hj⟩ | ⟨hj, ho⟩
      · by_cases hl : hd.length < 12
        · have e : aHear hd (nI 3) (nI x) = (nI (hd.length + 1), hd ++ [(3, x)]) := by unfold aHear; simp only [hi, (show inOf 0 (moN 3) (nI x) = some x from hj)]; exact if_pos hl
          refine pw_iload_n 6 rfl dX12_heard_5 rfl ?_
          refine pw_iconst (v := nI 1) 7 rfl dX12_heard_6 rfl ?_
          refine pw_icmp_ne (tgt := 15) 10 rfl dX12_heard_7 rfl (fun h7 => ?_) (fun h7 => absurd h7 (by decide))
          refine pw_iload_n 16 rfl dX12_heard_15 rfl ?_
          refine pw_iconst (v := nI 2) 17 rfl dX12_heard_16 rfl ?_
          refine pw_icmp_ne (tgt := 24) 20 rfl dX12_heard_17 rfl (fun h17 => ?_) (fun h17 => absurd h17 (by decide))
          refine pw_iload_n 25 rfl dX12_heard_24 rfl ?_
          refine pw_iconst (v := nI 4) 26 rfl dX12_heard_25 rfl ?_
          refine pw_icmp_ne (tgt := 33) 29 rfl dX12_heard_26 rfl (fun h26 => ?_) (fun h26 => absurd h26 (by decide))
          refine pw_bipush (v := nI 9) 35 rfl dX12_heard_33 rfl ?_
          refine pw_istore_n 36 rfl dX12_heard_35 (by decide) ?_
          refine pw_iload_n 37 rfl dX12_heard_36 rfl ?_
          refine pw_iconst (v := nI 0) 38 rfl dX12_heard_37 rfl ?_
          refine pw_iconst (v := nI 4) 39 rfl dX12_heard_38 rfl ?_
          refine pw_callSP (as := [_, _, _]) 42 rfl dX12_heard_39 mX12_98 sX12_in (m_in (d := d) _ _ _) ⟨rfl, by decide, by decide, show (parseMethodDescriptor yX12_in.desc).map (fun d => d.parameters.length) = some 3 by decide +kernel⟩ (by omega) (by decide) (Nat.le_of_ble_eq_true rfl) rfl ?_
          refine pw_if_eq (tgt := 63) 45 rfl dX12_heard_42 rfl (fun h42 => absurd h42 (by decide)) (fun h42 => ?_)
          refine pw_iload_n 46 rfl dX12_heard_45 rfl ?_
          refine pw_iconst (v := nI 0) 47 rfl dX12_heard_46 rfl ?_
          refine pw_iload_n 48 rfl dX12_heard_47 rfl ?_
          refine pw_callSP (as := [_, _, _]) 51 rfl dX12_heard_48 mX12_98 sX12_in (m_in (d := d) _ _ _) ⟨rfl, by decide, by decide, show (parseMethodDescriptor yX12_in.desc).map (fun d => d.parameters.length) = some 3 by decide +kernel⟩ (by omega) (by decide) (Nat.le_of_ble_eq_true rfl) rfl ?_
          refine pw_if_eq (tgt := 63) 54 rfl dX12_heard_51 rfl (fun h51 => absurd h51 (by rw [inV_y g1 g2 (by decide)]; decide)) (fun h51 => ?_)
          refine pw_aload_n 55 rfl dX12_heard_54 rfl ?_
          refine pw_getI 58 rfl dX12_heard_55 fX12_314 (by first | rfl | assumption | exact rowS hh | exact mtS hm | exact ruS hr | exact mtA1 hm | exact mtA2 hm | exact mtA3 hm | exact mtA4 hm | exact mtA5 hm | exact mtA6 hm | exact mtA7 hm | exact ruA1 hr | exact ruA2 hr | exact ruA3 hr) rfl ?_
          refine pw_bipush (v := nI 12) 60 rfl dX12_heard_58 rfl ?_
          refine pw_icmp_ne (tgt := 65) 63 rfl dX12_heard_60 rfl (fun h60 => ?_) (fun h60 => absurd h60 (by rw [e32, nI_eq (by omega) (by decide)]; omega))
          refine pw_aload_n 66 rfl dX12_heard_65 rfl ?_
          refine pw_getR 69 rfl dX12_heard_66 fX12_63 (by first | rfl | assumption | exact rowS hh | exact mtS hm | exact ruS hr | exact mtA1 hm | exact mtA2 hm | exact mtA3 hm | exact mtA4 hm | exact mtA5 hm | exact mtA6 hm | exact mtA7 hm | exact ruA1 hr | exact ruA2 hr | exact ruA3 hr) rfl (by first | rfl | assumption | exact mtR0 hm | exact mtR1 hm | exact mtR2 hm | exact mtR3 hm | exact mtR4 hm | exact mtR5 hm | exact mtR6 hm | exact ruR0 hr | exact ruR1 hr | exact ruR3 hr) ?_
          refine pw_aload_n 70 rfl dX12_heard_69 rfl ?_
          refine pw_getI 73 rfl dX12_heard_70 fX12_314 (by first | rfl | assumption | exact rowS hh | exact mtS hm | exact ruS hr | exact mtA1 hm | exact mtA2 hm | exact mtA3 hm | exact mtA4 hm | exact mtA5 hm | exact mtA6 hm | exact mtA7 hm | exact ruA1 hr | exact ruA2 hr | exact ruA3 hr) rfl ?_
          rotate_left
          rw [e32]
          refine pw_iload_n 74 rfl dX12_heard_73 rfl ?_
          refine pw_iastN 75 rfl dX12_heard_74 (by first | rfl | assumption | exact rowS hh | exact mtS hm | exact ruS hr | exact mtA1 hm | exact mtA2 hm | exact mtA3 hm | exact mtA4 hm | exact mtA5 hm | exact mtA6 hm | exact mtA7 hm | exact ruA1 hr | exact ruA2 hr | exact ruA3 hr) (by omega) (by first | decide | omega) ?_
          refine pw_aload_n 76 rfl dX12_heard_75 rfl ?_
          refine pw_getR 79 rfl dX12_heard_76 fX12_66 (by first | rfl | assumption | exact rowS hh | exact mtS hm | exact ruS hr | exact mtA1 hm | exact mtA2 hm | exact mtA3 hm | exact mtA4 hm | exact mtA5 hm | exact mtA6 hm | exact mtA7 hm | exact ruA1 hr | exact ruA2 hr | exact ruA3 hr) rfl (by first | rfl | assumption | exact mtR0 hm | exact mtR1 hm | exact mtR2 hm | exact mtR3 hm | exact mtR4 hm | exact mtR5 hm | exact mtR6 hm | exact ruR0 hr | exact ruR1 hr | exact ruR3 hr) ?_
          refine pw_aload_n 80 rfl dX12_heard_79 rfl ?_
          refine pw_getI 83 rfl dX12_heard_80 fX12_314 (by first | rfl | assumption | exact rowS hh | exact mtS hm | exact ruS hr | exact mtA1 hm | exact mtA2 hm | exact mtA3 hm | exact mtA4 hm | exact mtA5 hm | exact mtA6 hm | exact mtA7 hm | exact ruA1 hr | exact ruA2 hr | exact ruA3 hr) rfl ?_
          rotate_left
          rw [uI_ne (by omega), e32]
          refine pw_iload_n 84 rfl dX12_heard_83 rfl ?_
          refine pw_iastN 85 rfl dX12_heard_84 (by first | rfl | assumption | exact rowS hh | exact mtS hm | exact ruS hr | exact mtA1 hm | exact mtA2 hm | exact mtA3 hm | exact mtA4 hm | exact mtA5 hm | exact mtA6 hm | exact mtA7 hm | exact ruA1 hr | exact ruA2 hr | exact ruA3 hr) (by omega) (by first | decide | omega) ?_
          refine pw_aload_n 86 rfl dX12_heard_85 rfl ?_
          refine pw_dup 87 rfl dX12_heard_86 rfl ?_
          refine pw_getI 90 rfl dX12_heard_87 fX12_314 (by first | rfl | assumption | exact rowS hh | exact mtS hm | exact ruS hr | exact mtA1 hm | exact mtA2 hm | exact mtA3 hm | exact mtA4 hm | exact mtA5 hm | exact mtA6 hm | exact mtA7 hm | exact ruA1 hr | exact ruA2 hr | exact ruA3 hr) rfl ?_
          rotate_left
          rw [uI_ne (by omega), uI_ne (by omega), e32]
          refine pw_iconst (v := nI 1) 91 rfl dX12_heard_90 rfl ?_
          first | refine pw_iaddN 92 rfl dX12_heard_91 ?_ | refine pw_iadd 92 rfl dX12_heard_91 ?_
          refine pw_putI 95 rfl dX12_heard_92 fX12_314 w12_32 (by first | rfl | assumption | exact rowS hh | exact mtS hm | exact ruS hr | exact mtA1 hm | exact mtA2 hm | exact mtA3 hm | exact mtA4 hm | exact mtA5 hm | exact mtA6 hm | exact mtA7 hm | exact ruA1 hr | exact ruA2 hr | exact ruA3 hr) rfl rfl rfl ?_
          refine pw_aload_n 96 rfl dX12_heard_95 rfl ?_
          refine pw_getI 99 rfl dX12_heard_96 fX12_314 (by first | rfl | assumption | exact rowS hh | exact mtS hm | exact ruS hr | exact mtA1 hm | exact mtA2 hm | exact mtA3 hm | exact mtA4 hm | exact mtA5 hm | exact mtA6 hm | exact mtA7 hm | exact ruA1 hr | exact ruA2 hr | exact ruA3 hr) rfl ?_
          rotate_left
          rw [uI_eq]
          refine pw_iret dX12_heard_99 rfl ?_
          rotate_left
          refine moE (y := (nI (hd.length + 1), (n, pc, b, us, kp, rw, tx, rt, hd ++ [(3, x)], sw))) (by show ((aHear hd (nI 3) (nI x)).1, _) = _; rw [e]) ⟨rfl, MA_hd hA0 (fun a j q1 q2 q3 => by rw [uI_ne (by omega), uI_ne (by omega), uI_ne (by omega)]) (MH_add mH hl (by decide) g2), (MDg_f hD0 (by rw [uI_ne (by omega), uI_ne (by omega), uI_ne (by omega)]) (fun j => by rw [uI_ne (by omega), uI_ne (by omega), uI_ne (by omega)])).mono (by omega), rd, rfl⟩
        · have e : aHear hd (nI 3) (nI x) = (-1, hd) := by unfold aHear; simp only [hi, (show inOf 0 (moN 3) (nI x) = some x from hj)]; exact if_neg hl
          refine pw_iload_n 6 rfl dX12_heard_5 rfl ?_
          refine pw_iconst (v := nI 1) 7 rfl dX12_heard_6 rfl ?_
          refine pw_icmp_ne (tgt := 15) 10 rfl dX12_heard_7 rfl (fun h7 => ?_) (fun h7 => absurd h7 (by decide))
          refine pw_iload_n 16 rfl dX12_heard_15 rfl ?_
          refine pw_iconst (v := nI 2) 17 rfl dX12_heard_16 rfl ?_
          refine pw_icmp_ne (tgt := 24) 20 rfl dX12_heard_17 rfl (fun h17 => ?_) (fun h17 => absurd h17 (by decide))
          refine pw_iload_n 25 rfl dX12_heard_24 rfl ?_
          refine pw_iconst (v := nI 4) 26 rfl dX12_heard_25 rfl ?_
          refine pw_icmp_ne (tgt := 33) 29 rfl dX12_heard_26 rfl (fun h26 => ?_) (fun h26 => absurd h26 (by decide))
          refine pw_bipush (v := nI 9) 35 rfl dX12_heard_33 rfl ?_
          refine pw_istore_n 36 rfl dX12_heard_35 (by decide) ?_
          refine pw_iload_n 37 rfl dX12_heard_36 rfl ?_
          refine pw_iconst (v := nI 0) 38 rfl dX12_heard_37 rfl ?_
          refine pw_iconst (v := nI 4) 39 rfl dX12_heard_38 rfl ?_
          refine pw_callSP (as := [_, _, _]) 42 rfl dX12_heard_39 mX12_98 sX12_in (m_in (d := d) _ _ _) ⟨rfl, by decide, by decide, show (parseMethodDescriptor yX12_in.desc).map (fun d => d.parameters.length) = some 3 by decide +kernel⟩ (by omega) (by decide) (Nat.le_of_ble_eq_true rfl) rfl ?_
          refine pw_if_eq (tgt := 63) 45 rfl dX12_heard_42 rfl (fun h42 => absurd h42 (by decide)) (fun h42 => ?_)
          refine pw_iload_n 46 rfl dX12_heard_45 rfl ?_
          refine pw_iconst (v := nI 0) 47 rfl dX12_heard_46 rfl ?_
          refine pw_iload_n 48 rfl dX12_heard_47 rfl ?_
          refine pw_callSP (as := [_, _, _]) 51 rfl dX12_heard_48 mX12_98 sX12_in (m_in (d := d) _ _ _) ⟨rfl, by decide, by decide, show (parseMethodDescriptor yX12_in.desc).map (fun d => d.parameters.length) = some 3 by decide +kernel⟩ (by omega) (by decide) (Nat.le_of_ble_eq_true rfl) rfl ?_
          refine pw_if_eq (tgt := 63) 54 rfl dX12_heard_51 rfl (fun h51 => absurd h51 (by rw [inV_y g1 g2 (by decide)]; decide)) (fun h51 => ?_)
          refine pw_aload_n 55 rfl dX12_heard_54 rfl ?_
          refine pw_getI 58 rfl dX12_heard_55 fX12_314 (by first | rfl | assumption | exact rowS hh | exact mtS hm | exact ruS hr | exact mtA1 hm | exact mtA2 hm | exact mtA3 hm | exact mtA4 hm | exact mtA5 hm | exact mtA6 hm | exact mtA7 hm | exact ruA1 hr | exact ruA2 hr | exact ruA3 hr) rfl ?_
          refine pw_bipush (v := nI 12) 60 rfl dX12_heard_58 rfl ?_
          refine pw_icmp_ne (tgt := 65) 63 rfl dX12_heard_60 rfl (fun h60 => absurd (by rw [e32, show hd.length = 12 by omega]) h60) (fun h60 => ?_)
          refine pw_iconst (v := -1) 64 rfl dX12_heard_63 rfl ?_
          refine pw_iret dX12_heard_64 rfl ?_
          rotate_left
          exact no e
      · have e : aHear hd (nI 3) v = (-1, hd) := by unfold aHear; simp only [hi, (show inOf 0 (moN 3) v = none from hj)]
        refine pw_iload_n 6 rfl dX12_heard_5 rfl ?_
        refine pw_iconst (v := nI 1) 7 rfl dX12_heard_6 rfl ?_
        refine pw_icmp_ne (tgt := 15) 10 rfl dX12_heard_7 rfl (fun h7 => ?_) (fun h7 => absurd h7 (by decide))
        refine pw_iload_n 16 rfl dX12_heard_15 rfl ?_
        refine pw_iconst (v := nI 2) 17 rfl dX12_heard_16 rfl ?_
        refine pw_icmp_ne (tgt := 24) 20 rfl dX12_heard_17 rfl (fun h17 => ?_) (fun h17 => absurd h17 (by decide))
        refine pw_iload_n 25 rfl dX12_heard_24 rfl ?_
        refine pw_iconst (v := nI 4) 26 rfl dX12_heard_25 rfl ?_
        refine pw_icmp_ne (tgt := 33) 29 rfl dX12_heard_26 rfl (fun h26 => ?_) (fun h26 => absurd h26 (by decide))
        refine pw_bipush (v := nI 9) 35 rfl dX12_heard_33 rfl ?_
        refine pw_istore_n 36 rfl dX12_heard_35 (by decide) ?_
        refine pw_iload_n 37 rfl dX12_heard_36 rfl ?_
        refine pw_iconst (v := nI 0) 38 rfl dX12_heard_37 rfl ?_
        refine pw_iconst (v := nI 4) 39 rfl dX12_heard_38 rfl ?_
        refine pw_callSP (as := [_, _, _]) 42 rfl dX12_heard_39 mX12_98 sX12_in (m_in (d := d) _ _ _) ⟨rfl, by decide, by decide, show (parseMethodDescriptor yX12_in.desc).map (fun d => d.parameters.length) = some 3 by decide +kernel⟩ (by omega) (by decide) (Nat.le_of_ble_eq_true rfl) rfl ?_
        refine pw_if_eq (tgt := 63) 45 rfl dX12_heard_42 rfl (fun h42 => absurd h42 (by decide)) (fun h42 => ?_)
        refine pw_iload_n 46 rfl dX12_heard_45 rfl ?_
        refine pw_iconst (v := nI 0) 47 rfl dX12_heard_46 rfl ?_
        refine pw_iload_n 48 rfl dX12_heard_47 rfl ?_
        refine pw_callSP (as := [_, _, _]) 51 rfl dX12_heard_48 mX12_98 sX12_in (m_in (d := d) _ _ _) ⟨rfl, by decide, by decide, show (parseMethodDescriptor yX12_in.desc).map (fun d => d.parameters.length) = some 3 by decide +kernel⟩ (by omega) (by decide) (Nat.le_of_ble_eq_true rfl) rfl ?_
        refine pw_if_eq (tgt := 63) 54 rfl dX12_heard_51 rfl (fun h51 => ?_) (fun h51 => absurd (by rw [inV_n ho]; rfl) h51)
        refine pw_iconst (v := -1) 64 rfl dX12_heard_63 rfl ?_
        refine pw_iret dX12_heard_64 rfl ?_
        rotate_left
        exact no e
    · rcases inOf_cases (lo := 0) (hi := 1) (by decide) v (by decide) with ⟨x, g1, g2, rfl, hj⟩ | ⟨hj, ho⟩
      · by_cases hl : hd.length < 12
        · have e : aHear hd (nI 4) (nI x) = (nI (hd.length + 1), hd ++ [(4, x)]) := by unfold aHear; simp only [hi, (show inOf 0 (moN 4) (nI x) = some x from hj)]; exact if_pos hl
          refine pw_iload_n 6 rfl dX12_heard_5 rfl ?_
          refine pw_iconst (v := nI 1) 7 rfl dX12_heard_6 rfl ?_
          refine pw_icmp_ne (tgt := 15) 10 rfl dX12_heard_7 rfl (fun h7 => ?_) (fun h7 => absurd h7 (by decide))
          refine pw_iload_n 16 rfl dX12_heard_15 rfl ?_
          refine pw_iconst (v := nI 2) 17 rfl dX12_heard_16 rfl ?_
          refine pw_icmp_ne (tgt := 24) 20 rfl dX12_heard_17 rfl (fun h17 => ?_) (fun h17 => absurd h17 (by decide))
          refine pw_iload_n 25 rfl dX12_heard_24 rfl ?_
          refine pw_iconst (v := nI 4) 26 rfl dX12_heard_25 rfl ?_
          refine pw_icmp_ne (tgt := 33) 29 rfl dX12_heard_26 rfl (fun h26 => absurd (by rfl) h26) (fun h26 => ?_)
          refine pw_iconst (v := nI 1) 30 rfl dX12_heard_29 rfl ?_
          refine pw_goto (tgt := 35) dX12_heard_30 rfl ?_
          refine pw_istore_n 36 rfl dX12_heard_35 (by decide) ?_
          refine pw_iload_n 37 rfl dX12_heard_36 rfl ?_
          refine pw_iconst (v := nI 0) 38 rfl dX12_heard_37 rfl ?_
          refine pw_iconst (v := nI 4) 39 rfl dX12_heard_38 rfl ?_
          refine pw_callSP (as := [_, _, _]) 42 rfl dX12_heard_39 mX12_98 sX12_in (m_in (d := d) _ _ _) ⟨rfl, by decide, by decide, show (parseMethodDescriptor yX12_in.desc).map (fun d => d.parameters.length) = some 3 by decide +kernel⟩ (by omega) (by decide) (Nat.le_of_ble_eq_true rfl) rfl ?_
          refine pw_if_eq (tgt := 63) 45 rfl dX12_heard_42 rfl (fun h42 => absurd h42 (by decide)) (fun h42 => ?_)
          refine pw_iload_n 46 rfl dX12_heard_45 rfl ?_
          refine pw_iconst (v := nI 0) 47 rfl dX12_heard_46 rfl ?_
          refine pw_iload_n 48 rfl dX12_heard_47 rfl ?_
          refine pw_callSP (as := [_, _, _]) 51 rfl dX12_heard_48 mX12_98 sX12_in (m_in (d := d) _ _ _) ⟨rfl, by decide, by decide, show (parseMethodDescriptor yX12_in.desc).map (fun d => d.parameters.length) = some 3 by decide +kernel⟩ (by omega) (by decide) (Nat.le_of_ble_eq_true rfl) rfl ?_
          refine pw_if_eq (tgt := 63) 54 rfl dX12_heard_51 rfl (fun h51 => absurd h51 (by rw [inV_y g1 g2 (by decide)]; decide)) (fun h51 => ?_)
          refine pw_aload_n 55 rfl dX12_heard_54 rfl ?_
          refine pw_getI 58 rfl dX12_heard_55 fX12_314 (by first | rfl | assumption | exact rowS hh | exact mtS hm | exact ruS hr | exact mtA1 hm | exact mtA2 hm | exact mtA3 hm | exact mtA4 hm | exact mtA5 hm | exact mtA6 hm | exact mtA7 hm | exact ruA1 hr | exact ruA2 hr | exact ruA3 hr) rfl ?_
          refine pw_bipush (v := nI 12) 60 rfl dX12_heard_58 rfl ?_
          refine pw_icmp_ne (tgt := 65) 63 rfl dX12_heard_60 rfl (fun h60 => ?_) (fun h60 => absurd h60 (by rw [e32, nI_eq (by omega) (by decide)]; omega))
          refine pw_aload_n 66 rfl dX12_heard_65 rfl ?_
          refine pw_getR 69 rfl dX12_heard_66 fX12_63 (by first | rfl | assumption | exact rowS hh | exact mtS hm | exact ruS hr | exact mtA1 hm | exact mtA2 hm | exact mtA3 hm | exact mtA4 hm | exact mtA5 hm | exact mtA6 hm | exact mtA7 hm | exact ruA1 hr | exact ruA2 hr | exact ruA3 hr) rfl (by first | rfl | assumption | exact mtR0 hm | exact mtR1 hm | exact mtR2 hm | exact mtR3 hm | exact mtR4 hm | exact mtR5 hm | exact mtR6 hm | exact ruR0 hr | exact ruR1 hr | exact ruR3 hr) ?_
          refine pw_aload_n 70 rfl dX12_heard_69 rfl ?_
          refine pw_getI 73 rfl dX12_heard_70 fX12_314 (by first | rfl | assumption | exact rowS hh | exact mtS hm | exact ruS hr | exact mtA1 hm | exact mtA2 hm | exact mtA3 hm | exact mtA4 hm | exact mtA5 hm | exact mtA6 hm | exact mtA7 hm | exact ruA1 hr | exact ruA2 hr | exact ruA3 hr) rfl ?_
          rotate_left
          rw [e32]
          refine pw_iload_n 74 rfl dX12_heard_73 rfl ?_
          refine pw_iastN 75 rfl dX12_heard_74 (by first | rfl | assumption | exact rowS hh | exact mtS hm | exact ruS hr | exact mtA1 hm | exact mtA2 hm | exact mtA3 hm | exact mtA4 hm | exact mtA5 hm | exact mtA6 hm | exact mtA7 hm | exact ruA1 hr | exact ruA2 hr | exact ruA3 hr) (by omega) (by first | decide | omega) ?_
          refine pw_aload_n 76 rfl dX12_heard_75 rfl ?_
          refine pw_getR 79 rfl dX12_heard_76 fX12_66 (by first | rfl | assumption | exact rowS hh | exact mtS hm | exact ruS hr | exact mtA1 hm | exact mtA2 hm | exact mtA3 hm | exact mtA4 hm | exact mtA5 hm | exact mtA6 hm | exact mtA7 hm | exact ruA1 hr | exact ruA2 hr | exact ruA3 hr) rfl (by first | rfl | assumption | exact mtR0 hm | exact mtR1 hm | exact mtR2 hm | exact mtR3 hm | exact mtR4 hm | exact mtR5 hm | exact mtR6 hm | exact ruR0 hr | exact ruR1 hr | exact ruR3 hr) ?_
          refine pw_aload_n 80 rfl dX12_heard_79 rfl ?_
          refine pw_getI 83 rfl dX12_heard_80 fX12_314 (by first | rfl | assumption | exact rowS hh | exact mtS hm | exact ruS hr | exact mtA1 hm | exact mtA2 hm | exact mtA3 hm | exact mtA4 hm | exact mtA5 hm | exact mtA6 hm | exact mtA7 hm | exact ruA1 hr | exact ruA2 hr | exact ruA3 hr) rfl ?_
          rotate_left
          rw [uI_ne (by omega), e32]
          refine pw_iload_n 84 rfl dX12_heard_83 rfl ?_
          refine pw_iastN 85 rfl dX12_heard_84 (by first | rfl | assumption | exact rowS hh | exact mtS hm | exact ruS hr | exact mtA1 hm | exact mtA2 hm | exact mtA3 hm | exact mtA4 hm | exact mtA5 hm | exact mtA6 hm | exact mtA7 hm | exact ruA1 hr | exact ruA2 hr | exact ruA3 hr) (by omega) (by first | decide | omega) ?_
          refine pw_aload_n 86 rfl dX12_heard_85 rfl ?_
          refine pw_dup 87 rfl dX12_heard_86 rfl ?_
          refine pw_getI 90 rfl dX12_heard_87 fX12_314 (by first | rfl | assumption | exact rowS hh | exact mtS hm | exact ruS hr | exact mtA1 hm | exact mtA2 hm | exact mtA3 hm | exact mtA4 hm | exact mtA5 hm | exact mtA6 hm | exact mtA7 hm | exact ruA1 hr | exact ruA2 hr | exact ruA3 hr) rfl ?_
          rotate_left
          rw [uI_ne (by omega), uI_ne (by omega), e32]
          refine pw_iconst (v := nI 1) 91 rfl dX12_heard_90 rfl ?_
          first | refine pw_iaddN 92 rfl dX12_heard_91 ?_ | refine pw_iadd 92 rfl dX12_heard_91 ?_
          refine pw_putI 95 rfl dX12_heard_92 fX12_314 w12_32 (by first | rfl | assumption | exact rowS hh | exact mtS hm | exact ruS hr | exact mtA1 hm | exact mtA2 hm | exact mtA3 hm | exact mtA4 hm | exact mtA5 hm | exact mtA6 hm | exact mtA7 hm | exact ruA1 hr | exact ruA2 hr | exact ruA3 hr) rfl rfl rfl ?_
          refine pw_aload_n 96 rfl dX12_heard_95 rfl ?_
          refine pw_getI 99 rfl dX12_heard_96 fX12_314 (by first | rfl | assumption | exact rowS hh | exact mtS hm | exact ruS hr | exact mtA1 hm | exact mtA2 hm | exact mtA3 hm | exact mtA4 hm | exact mtA5 hm | exact mtA6 hm | exact mtA7 hm | exact ruA1 hr | exact ruA2 hr | exact ruA3 hr) rfl ?_
          rotate_left
          rw [uI_eq]
          refine pw_iret dX12_heard_99 rfl ?_
          rotate_left
          refine moE (y := (nI (hd.length + 1), (n, pc, b, us, kp, rw, tx, rt, hd ++ [(4, x)], sw))) (by show ((aHear hd (nI 4) (nI x)).1, _) = _; rw [e]) ⟨rfl, MA_hd hA0 (fun a j q1 q2 q3 => by rw [uI_ne (by omega), uI_ne (by omega), uI_ne (by omega)]) (MH_add mH hl (by decide) g2), (MDg_f hD0 (by rw [uI_ne (by omega), uI_ne (by omega), uI_ne (by omega)]) (fun j => by rw [uI_ne (by omega), uI_ne (by omega), uI_ne (by omega)])).mono (by omega), rd, rfl⟩
        · have e : aHear hd (nI 4) (nI x) = (-1, hd) := by unfold aHear; simp only [hi, (show inOf 0 (moN 4) (nI x) = some x from hj)]; exact if_neg hl
          refine pw_iload_n 6 rfl dX12_heard_5 rfl ?_
          refine pw_iconst (v := nI 1) 7 rfl dX12_heard_6 rfl ?_
          refine pw_icmp_ne (tgt := 15) 10 rfl dX12_heard_7 rfl (fun h7 => ?_) (fun h7 => absurd h7 (by decide))
          refine pw_iload_n 16 rfl dX12_heard_15 rfl ?_
          refine pw_iconst (v := nI 2) 17 rfl dX12_heard_16 rfl ?_
          refine pw_icmp_ne (tgt := 24) 20 rfl dX12_heard_17 rfl (fun h17 => ?_) (fun h17 => absurd h17 (by decide))
          refine pw_iload_n 25 rfl dX12_heard_24 rfl ?_
          refine pw_iconst (v := nI 4) 26 rfl dX12_heard_25 rfl ?_
          refine pw_icmp_ne (tgt := 33) 29 rfl dX12_heard_26 rfl (fun h26 => absurd (by rfl) h26) (fun h26 => ?_)
          refine pw_iconst (v := nI 1) 30 rfl dX12_heard_29 rfl ?_
          refine pw_goto (tgt := 35) dX12_heard_30 rfl ?_
          refine pw_istore_n 36 rfl dX12_heard_35 (by decide) ?_
          refine pw_iload_n 37 rfl dX12_heard_36 rfl ?_
          refine pw_iconst (v := nI 0) 38 rfl dX12_heard_37 rfl ?_
          refine pw_iconst (v := nI 4) 39 rfl dX12_heard_38 rfl ?_
          refine pw_callSP (as := [_, _, _]) 42 rfl dX12_heard_39 mX12_98 sX12_in (m_in (d := d) _ _ _) ⟨rfl, by decide, by decide, show (parseMethodDescriptor yX12_in.desc).map (fun d => d.parameters.length) = some 3 by decide +kernel⟩ (by omega) (by decide) (Nat.le_of_ble_eq_true rfl) rfl ?_
          refine pw_if_eq (tgt := 63) 45 rfl dX12_heard_42 rfl (fun h42 => absurd h42 (by decide)) (fun h42 => ?_)
          refine pw_iload_n 46 rfl dX12_heard_45 rfl ?_
          refine pw_iconst (v := nI 0) 47 rfl dX12_heard_46 rfl ?_
          refine pw_iload_n 48 rfl dX12_heard_47 rfl ?_
          refine pw_callSP (as := [_, _, _]) 51 rfl dX12_heard_48 mX12_98 sX12_in (m_in (d := d) _ _ _) ⟨rfl, by decide, by decide, show (parseMethodDescriptor yX12_in.desc).map (fun d => d.parameters.length) = some 3 by decide +kernel⟩ (by omega) (by decide) (Nat.le_of_ble_eq_true rfl) rfl ?_
          refine pw_if_eq (tgt := 63) 54 rfl dX12_heard_51 rfl (fun h51 => absurd h51 (by rw [inV_y g1 g2 (by decide)]; decide)) (fun h51 => ?_)
          refine pw_aload_n 55 rfl dX12_heard_54 rfl ?_
          refine pw_getI 58 rfl dX12_heard_55 fX12_314 (by first | rfl | assumption | exact rowS hh | exact mtS hm | exact ruS hr | exact mtA1 hm | exact mtA2 hm | exact mtA3 hm | exact mtA4 hm | exact mtA5 hm | exact mtA6 hm | exact mtA7 hm | exact ruA1 hr | exact ruA2 hr | exact ruA3 hr) rfl ?_
          refine pw_bipush (v := nI 12) 60 rfl dX12_heard_58 rfl ?_
          refine pw_icmp_ne (tgt := 65) 63 rfl dX12_heard_60 rfl (fun h60 => absurd (by rw [e32, show hd.length = 12 by omega]) h60) (fun h60 => ?_)
          refine pw_iconst (v := -1) 64 rfl dX12_heard_63 rfl ?_
          refine pw_iret dX12_heard_64 rfl ?_
          rotate_left
          exact no e
      · have e : aHear hd (nI 4) v = (-1, hd) := by unfold aHear; simp only [hi, (show inOf 0 (moN 4) v = none from hj)]
        refine pw_iload_n 6 rfl dX12_heard_5 rfl ?_
        refine pw_iconst (v := nI 1) 7 rfl dX12_heard_6 rfl ?_
        refine pw_icmp_ne (tgt := 15) 10 rfl dX12_heard_7 rfl (fun h7 => ?_) (fun h7 => absurd h7 (by decide))
        refine pw_iload_n 16 rfl dX12_heard_15 rfl ?_
        refine pw_iconst (v := nI 2) 17 rfl dX12_heard_16 rfl ?_
        refine pw_icmp_ne (tgt := 24) 20 rfl dX12_heard_17 rfl (fun h17 => ?_) (fun h17 => absurd h17 (by decide))
        refine pw_iload_n 25 rfl dX12_heard_24 rfl ?_
        refine pw_iconst (v := nI 4) 26 rfl dX12_heard_25 rfl ?_
        refine pw_icmp_ne (tgt := 33) 29 rfl dX12_heard_26 rfl (fun h26 => absurd (by rfl) h26) (fun h26 => ?_)
        refine pw_iconst (v := nI 1) 30 rfl dX12_heard_29 rfl ?_
        refine pw_goto (tgt := 35) dX12_heard_30 rfl ?_
        refine pw_istore_n 36 rfl dX12_heard_35 (by decide) ?_
        refine pw_iload_n 37 rfl dX12_heard_36 rfl ?_
        refine pw_iconst (v := nI 0) 38 rfl dX12_heard_37 rfl ?_
        refine pw_iconst (v := nI 4) 39 rfl dX12_heard_38 rfl ?_
        refine pw_callSP (as := [_, _, _]) 42 rfl dX12_heard_39 mX12_98 sX12_in (m_in (d := d) _ _ _) ⟨rfl, by decide, by decide, show (parseMethodDescriptor yX12_in.desc).map (fun d => d.parameters.length) = some 3 by decide +kernel⟩ (by omega) (by decide) (Nat.le_of_ble_eq_true rfl) rfl ?_
        refine pw_if_eq (tgt := 63) 45 rfl dX12_heard_42 rfl (fun h42 => absurd h42 (by decide)) (fun h42 => ?_)
        refine pw_iload_n 46 rfl dX12_heard_45 rfl ?_
        refine pw_iconst (v := nI 0) 47 rfl dX12_heard_46 rfl ?_
        refine pw_iload_n 48 rfl dX12_heard_47 rfl ?_
        refine pw_callSP (as := [_, _, _]) 51 rfl dX12_heard_48 mX12_98 sX12_in (m_in (d := d) _ _ _) ⟨rfl, by decide, by decide, show (parseMethodDescriptor yX12_in.desc).map (fun d => d.parameters.length) = some 3 by decide +kernel⟩ (by omega) (by decide) (Nat.le_of_ble_eq_true rfl) rfl ?_
        refine pw_if_eq (tgt := 63) 54 rfl dX12_heard_51 rfl (fun h51 => ?_) (fun h51 => absurd (by rw [inV_n ho]; rfl) h51)
        refine pw_iconst (v := -1) 64 rfl dX12_heard_63 rfl ?_
        refine pw_iret dX12_heard_64 rfl ?_
        rotate_left
        exact no e
  · have e : aHear hd w v = (-1, hd) := by unfold aHear; rw [hi]
    refine pw_iload_n 6 rfl dX12_heard_5 rfl ?_
    refine pw_iconst (v := nI 1) 7 rfl dX12_heard_6 rfl ?_
    refine pw_icmp_ne (tgt := 15) 10 rfl dX12_heard_7 rfl (fun h7 => ?_) (fun h7 => absurd h7 (fun z => by subst z; revert ho; decide))
    refine pw_iload_n 16 rfl dX12_heard_15 rfl ?_
    refine pw_iconst (v := nI 2) 17 rfl dX12_heard_16 rfl ?_
    refine pw_icmp_ne (tgt := 24) 20 rfl dX12_heard_17 rfl (fun h17 => ?_) (fun h17 => absurd h17 (fun z => by subst z; revert ho; decide))
    refine pw_iload_n 25 rfl dX12_heard_24 rfl ?_
    refine pw_iconst (v := nI 4) 26 rfl dX12_heard_25 rfl ?_
    refine pw_icmp_ne (tgt := 33) 29 rfl dX12_heard_26 rfl (fun h26 => ?_) (fun h26 => absurd h26 (fun z => by subst z; revert ho; decide))
    refine pw_bipush (v := nI 9) 35 rfl dX12_heard_33 rfl ?_
    refine pw_istore_n 36 rfl dX12_heard_35 (by decide) ?_
    refine pw_iload_n 37 rfl dX12_heard_36 rfl ?_
    refine pw_iconst (v := nI 0) 38 rfl dX12_heard_37 rfl ?_
    refine pw_iconst (v := nI 4) 39 rfl dX12_heard_38 rfl ?_
    refine pw_callSP (as := [_, _, _]) 42 rfl dX12_heard_39 mX12_98 sX12_in (m_in (d := d) _ _ _) ⟨rfl, by decide, by decide, show (parseMethodDescriptor yX12_in.desc).map (fun d => d.parameters.length) = some 3 by decide +kernel⟩ (by omega) (by decide) (Nat.le_of_ble_eq_true rfl) rfl ?_
    refine pw_if_eq (tgt := 63) 45 rfl dX12_heard_42 rfl (fun h42 => ?_) (fun h42 => absurd (by rw [inV_n ho]; rfl) h42)
    refine pw_iconst (v := -1) 64 rfl dX12_heard_63 rfl ?_
    refine pw_iret dX12_heard_64 rfl ?_
    rotate_left
    exact no e
set_option maxRecDepth 100000 in
set_option maxHeartbeats 2000000 in
theorem mo_forget {d g : Nat} {s : aSt} {rd : Option Nat} {I : pI} {J : pJ} (hA : MA I J s) (hD : MDg g I) (hg : g ≤ 500000000) (hW : WA s)  : PC SM (d + 245) yX12_forget cX12_forget 2 (some .int) [.ref 0] (I) (J) (RM rd (some 6)) (moP (g + 10000) (oForget s)) := by
  refine PC.of [some (.ref 0), none] rfl rfl (Nat.le_of_ble_eq_true rfl) ?_
  obtain ⟨n, pc, b, us, kp, rw, tx, rt, hd, sw⟩ := s
  refine pw_aload_n 1 rfl dX12_forget_0 rfl ?_
  refine pw_iconst (v := nI 0) 2 rfl dX12_forget_1 rfl ?_
  refine pw_putI 5 rfl dX12_forget_2 fX12_88 w12_7 (by first | rfl | assumption | exact rowS hh | exact mtS hm | exact ruS hr | exact mtA1 hm | exact mtA2 hm | exact mtA3 hm | exact mtA4 hm | exact mtA5 hm | exact mtA6 hm | exact mtA7 hm | exact ruA1 hr | exact ruA2 hr | exact ruA3 hr) rfl rfl rfl ?_
  rotate_left
  have hA0 := MA_thr (v := nI 0) hA
  have hD0 : MDg g (uI I 0 7 (nI 0)) := MDg_f hD (uI_ne (by omega)) (fun j => uI_ne (by omega))
  clear hA hD
  generalize uI I 0 7 (nI 0) = I at hA0 hD0 ⊢
  obtain ⟨mC, mB, mT, mN, mR, mU, mK, mH, mG⟩ := id hA0
  obtain ⟨aW, aU, aK⟩ := id hW
  have hE := MSt_A hA0
  have hn7 := mC.1
  have hn := mC.2.1
  refine pw_aload_n 6 rfl dX12_forget_5 rfl ?_
  refine pw_getI 9 rfl dX12_forget_6 fX12_314 (by first | rfl | assumption | exact rowS hh | exact mtS hm | exact ruS hr | exact mtA1 hm | exact mtA2 hm | exact mtA3 hm | exact mtA4 hm | exact mtA5 hm | exact mtA6 hm | exact mtA7 hm | exact ruA1 hr | exact ruA2 hr | exact ruA3 hr) rfl ?_
  rotate_left
  rw [mH.1]
  refine pw_istore_n 10 rfl dX12_forget_9 (by decide) ?_
  refine pw_aload_n 11 rfl dX12_forget_10 rfl ?_
  refine pw_iconst (v := nI 0) 12 rfl dX12_forget_11 rfl ?_
  refine pw_putI 15 rfl dX12_forget_12 fX12_314 w12_32 (by first | rfl | assumption | exact rowS hh | exact mtS hm | exact ruS hr | exact mtA1 hm | exact mtA2 hm | exact mtA3 hm | exact mtA4 hm | exact mtA5 hm | exact mtA6 hm | exact mtA7 hm | exact ruA1 hr | exact ruA2 hr | exact ruA3 hr) rfl rfl rfl ?_
  refine pw_iload_n 16 rfl dX12_forget_15 rfl ?_
  refine pw_iret dX12_forget_16 rfl ?_
  rotate_left
  exact ⟨rfl, MA_hd hA0 (fun a j q1 q2 q3 => uI_ne (by omega)) ⟨uI_eq _ _ _ _, by show (0 : Nat) ≤ 12; omega, fun j p hj => by cases hj⟩, (MDg_f hD0 (uI_ne (by omega)) (fun j => uI_ne (by omega))).mono (by omega), rd, rfl⟩
set_option maxRecDepth 100000 in
set_option maxHeartbeats 2000000 in
theorem mo_saw {d g : Nat} {s : aSt} {rd : Option Nat} {I : pI} {J : pJ} (hA : MA I J s) (hD : MDg g I) (hg : g ≤ 500000000) (hW : WA s) (w v : Int32) : PC SM (d + 245) yX12_saw cX12_saw 3 (some .int) [.ref 0, .int w, .int v] (I) (J) (RM rd (some 6)) (moP (g + 10000) (oSaw w v s)) := by
  refine PC.of [some (.ref 0), some (.int w), some (.int v)] rfl rfl (Nat.le_of_ble_eq_true rfl) ?_
  obtain ⟨n, pc, b, us, kp, rw, tx, rt, hd, sw⟩ := s
  refine pw_aload_n 1 rfl dX12_saw_0 rfl ?_
  refine pw_iconst (v := nI 0) 2 rfl dX12_saw_1 rfl ?_
  refine pw_putI 5 rfl dX12_saw_2 fX12_88 w12_7 (by first | rfl | assumption | exact rowS hh | exact mtS hm | exact ruS hr | exact mtA1 hm | exact mtA2 hm | exact mtA3 hm | exact mtA4 hm | exact mtA5 hm | exact mtA6 hm | exact mtA7 hm | exact ruA1 hr | exact ruA2 hr | exact ruA3 hr) rfl rfl rfl ?_
  rotate_left
  have hA0 := MA_thr (v := nI 0) hA
  have hD0 : MDg g (uI I 0 7 (nI 0)) := MDg_f hD (uI_ne (by omega)) (fun j => uI_ne (by omega))
  clear hA hD
  generalize uI I 0 7 (nI 0) = I at hA0 hD0 ⊢
  obtain ⟨mC, mB, mT, mN, mR, mU, mK, mH, mG⟩ := id hA0
  obtain ⟨aW, aU, aK⟩ := id hW
  have hE := MSt_A hA0
  have hn7 := mC.1
  have hn := mC.2.1
  have hl12 := mG.2.1
  have e35 := mG.1
  have no : ∀ {w v : Int32}, aSee sw w v = (-1, sw) → moP (g + 10000) (oSaw w v (n, pc, b, us, kp, rw, tx, rt, hd, sw)) (some (.int (-1))) I J (RM rd (some 6)) := fun {w v} e => moE (y := (-1, (n, pc, b, us, kp, rw, tx, rt, hd, sw))) (by show ((aSee sw w v).1, _) = _; rw [e]) ⟨rfl, hA0, hD0.mono (by omega), rd, rfl⟩
  rcases inOf_cases (lo := 0) (hi := 9) (by decide) w (by decide) with ⟨k, h1, h2, rfl, hi⟩ | ⟨hi, ho⟩
  · rcases inOf_cases (lo := 0) (hi := 3) (by decide) v (by decide) with ⟨x, g1, g2, rfl, hj⟩ | ⟨hj, ho⟩
    · by_cases hl : sw.length < 10
      · have e : aSee sw (nI k) (nI x) = (nI (sw.length + 1), sw ++ [(k, x)]) := by unfold aSee; simp only [hi, hj]; exact if_pos hl
        refine pw_iload_n 6 rfl dX12_saw_5 rfl ?_
        refine pw_iconst (v := nI 0) 7 rfl dX12_saw_6 rfl ?_
        refine pw_bipush (v := nI 9) 9 rfl dX12_saw_7 rfl ?_
        refine pw_callSP (as := [_, _, _]) 12 rfl dX12_saw_9 mX12_98 sX12_in (m_in (d := d) _ _ _) ⟨rfl, by decide, by decide, show (parseMethodDescriptor yX12_in.desc).map (fun d => d.parameters.length) = some 3 by decide +kernel⟩ (by omega) (by decide) (Nat.le_of_ble_eq_true rfl) rfl ?_
        refine pw_if_eq (tgt := 33) 15 rfl dX12_saw_12 rfl (fun h12 => absurd h12 (by rw [inV_y h1 h2 (by decide)]; decide)) (fun h12 => ?_)
        refine pw_iload_n 16 rfl dX12_saw_15 rfl ?_
        refine pw_iconst (v := nI 0) 17 rfl dX12_saw_16 rfl ?_
        refine pw_iconst (v := nI 3) 18 rfl dX12_saw_17 rfl ?_
        refine pw_callSP (as := [_, _, _]) 21 rfl dX12_saw_18 mX12_98 sX12_in (m_in (d := d) _ _ _) ⟨rfl, by decide, by decide, show (parseMethodDescriptor yX12_in.desc).map (fun d => d.parameters.length) = some 3 by decide +kernel⟩ (by omega) (by decide) (Nat.le_of_ble_eq_true rfl) rfl ?_
        refine pw_if_eq (tgt := 33) 24 rfl dX12_saw_21 rfl (fun h21 => absurd h21 (by rw [inV_y g1 g2 (by decide)]; decide)) (fun h21 => ?_)
        refine pw_aload_n 25 rfl dX12_saw_24 rfl ?_
        refine pw_getI 28 rfl dX12_saw_25 fX12_323 (by first | rfl | assumption | exact rowS hh | exact mtS hm | exact ruS hr | exact mtA1 hm | exact mtA2 hm | exact mtA3 hm | exact mtA4 hm | exact mtA5 hm | exact mtA6 hm | exact mtA7 hm | exact ruA1 hr | exact ruA2 hr | exact ruA3 hr) rfl ?_
        refine pw_bipush (v := nI 10) 30 rfl dX12_saw_28 rfl ?_
        refine pw_icmp_ne (tgt := 35) 33 rfl dX12_saw_30 rfl (fun h30 => ?_) (fun h30 => absurd h30 (by rw [e35, nI_eq (by omega) (by decide)]; omega))
        refine pw_aload_n 36 rfl dX12_saw_35 rfl ?_
        refine pw_getR 39 rfl dX12_saw_36 fX12_69 (by first | rfl | assumption | exact rowS hh | exact mtS hm | exact ruS hr | exact mtA1 hm | exact mtA2 hm | exact mtA3 hm | exact mtA4 hm | exact mtA5 hm | exact mtA6 hm | exact mtA7 hm | exact ruA1 hr | exact ruA2 hr | exact ruA3 hr) rfl (by first | rfl | assumption | exact mtR0 hm | exact mtR1 hm | exact mtR2 hm | exact mtR3 hm | exact mtR4 hm | exact mtR5 hm | exact mtR6 hm | exact ruR0 hr | exact ruR1 hr | exact ruR3 hr) ?_
        refine pw_aload_n 40 rfl dX12_saw_39 rfl ?_
        refine pw_getI 43 rfl dX12_saw_40 fX12_323 (by first | rfl | assumption | exact rowS hh | exact mtS hm | exact ruS hr | exact mtA1 hm | exact mtA2 hm | exact mtA3 hm | exact mtA4 hm | exact mtA5 hm | exact mtA6 hm | exact mtA7 hm | exact ruA1 hr | exact ruA2 hr | exact ruA3 hr) rfl ?_
        rotate_left
        rw [e35]
        refine pw_iload_n 44 rfl dX12_saw_43 rfl ?_
        refine pw_iastN 45 rfl dX12_saw_44 (by first | rfl | assumption | exact rowS hh | exact mtS hm | exact ruS hr | exact mtA1 hm | exact mtA2 hm | exact mtA3 hm | exact mtA4 hm | exact mtA5 hm | exact mtA6 hm | exact mtA7 hm | exact ruA1 hr | exact ruA2 hr | exact ruA3 hr) (by omega) (by first | decide | omega) ?_
        refine pw_aload_n 46 rfl dX12_saw_45 rfl ?_
        refine pw_getR 49 rfl dX12_saw_46 fX12_72 (by first | rfl | assumption | exact rowS hh | exact mtS hm | exact ruS hr | exact mtA1 hm | exact mtA2 hm | exact mtA3 hm | exact mtA4 hm | exact mtA5 hm | exact mtA6 hm | exact mtA7 hm | exact ruA1 hr | exact ruA2 hr | exact ruA3 hr) rfl (by first | rfl | assumption | exact mtR0 hm | exact mtR1 hm | exact mtR2 hm | exact mtR3 hm | exact mtR4 hm | exact mtR5 hm | exact mtR6 hm | exact ruR0 hr | exact ruR1 hr | exact ruR3 hr) ?_
        refine pw_aload_n 50 rfl dX12_saw_49 rfl ?_
        refine pw_getI 53 rfl dX12_saw_50 fX12_323 (by first | rfl | assumption | exact rowS hh | exact mtS hm | exact ruS hr | exact mtA1 hm | exact mtA2 hm | exact mtA3 hm | exact mtA4 hm | exact mtA5 hm | exact mtA6 hm | exact mtA7 hm | exact ruA1 hr | exact ruA2 hr | exact ruA3 hr) rfl ?_
        rotate_left
        rw [uI_ne (by omega), e35]
        refine pw_iload_n 54 rfl dX12_saw_53 rfl ?_
        refine pw_iastN 55 rfl dX12_saw_54 (by first | rfl | assumption | exact rowS hh | exact mtS hm | exact ruS hr | exact mtA1 hm | exact mtA2 hm | exact mtA3 hm | exact mtA4 hm | exact mtA5 hm | exact mtA6 hm | exact mtA7 hm | exact ruA1 hr | exact ruA2 hr | exact ruA3 hr) (by omega) (by first | decide | omega) ?_
        refine pw_aload_n 56 rfl dX12_saw_55 rfl ?_
        refine pw_dup 57 rfl dX12_saw_56 rfl ?_
        refine pw_getI 60 rfl dX12_saw_57 fX12_323 (by first | rfl | assumption | exact rowS hh | exact mtS hm | exact ruS hr | exact mtA1 hm | exact mtA2 hm | exact mtA3 hm | exact mtA4 hm | exact mtA5 hm | exact mtA6 hm | exact mtA7 hm | exact ruA1 hr | exact ruA2 hr | exact ruA3 hr) rfl ?_
        rotate_left
        rw [uI_ne (by omega), uI_ne (by omega), e35]
        refine pw_iconst (v := nI 1) 61 rfl dX12_saw_60 rfl ?_
        first | refine pw_iaddN 62 rfl dX12_saw_61 ?_ | refine pw_iadd 62 rfl dX12_saw_61 ?_
        refine pw_putI 65 rfl dX12_saw_62 fX12_323 w12_35 (by first | rfl | assumption | exact rowS hh | exact mtS hm | exact ruS hr | exact mtA1 hm | exact mtA2 hm | exact mtA3 hm | exact mtA4 hm | exact mtA5 hm | exact mtA6 hm | exact mtA7 hm | exact ruA1 hr | exact ruA2 hr | exact ruA3 hr) rfl rfl rfl ?_
        refine pw_aload_n 66 rfl dX12_saw_65 rfl ?_
        refine pw_getI 69 rfl dX12_saw_66 fX12_323 (by first | rfl | assumption | exact rowS hh | exact mtS hm | exact ruS hr | exact mtA1 hm | exact mtA2 hm | exact mtA3 hm | exact mtA4 hm | exact mtA5 hm | exact mtA6 hm | exact mtA7 hm | exact ruA1 hr | exact ruA2 hr | exact ruA3 hr) rfl ?_
        rotate_left
        rw [uI_eq]
        refine pw_iret dX12_saw_69 rfl ?_
        rotate_left
        refine moE (y := (nI (sw.length + 1), (n, pc, b, us, kp, rw, tx, rt, hd, sw ++ [(k, x)]))) (by show ((aSee sw (nI k) (nI x)).1, _) = _; rw [e]) ⟨rfl, MA_sw hA0 (fun a j q1 q2 q3 => by rw [uI_ne (by omega), uI_ne (by omega), uI_ne (by omega)]) (MG_add mG hl h2 g2), (MDg_f hD0 (by rw [uI_ne (by omega), uI_ne (by omega), uI_ne (by omega)]) (fun j => by rw [uI_ne (by omega), uI_ne (by omega), uI_ne (by omega)])).mono (by omega), rd, rfl⟩
      · have e : aSee sw (nI k) (nI x) = (-1, sw) := by unfold aSee; simp only [hi, hj]; exact if_neg hl
        refine pw_iload_n 6 rfl dX12_saw_5 rfl ?_
        refine pw_iconst (v := nI 0) 7 rfl dX12_saw_6 rfl ?_
        refine pw_bipush (v := nI 9) 9 rfl dX12_saw_7 rfl ?_
        refine pw_callSP (as := [_, _, _]) 12 rfl dX12_saw_9 mX12_98 sX12_in (m_in (d := d) _ _ _) ⟨rfl, by decide, by decide, show (parseMethodDescriptor yX12_in.desc).map (fun d => d.parameters.length) = some 3 by decide +kernel⟩ (by omega) (by decide) (Nat.le_of_ble_eq_true rfl) rfl ?_
        refine pw_if_eq (tgt := 33) 15 rfl dX12_saw_12 rfl (fun h12 => absurd h12 (by rw [inV_y h1 h2 (by decide)]; decide)) (fun h12 => ?_)
        refine pw_iload_n 16 rfl dX12_saw_15 rfl ?_
        refine pw_iconst (v := nI 0) 17 rfl dX12_saw_16 rfl ?_
        refine pw_iconst (v := nI 3) 18 rfl dX12_saw_17 rfl ?_
        refine pw_callSP (as := [_, _, _]) 21 rfl dX12_saw_18 mX12_98 sX12_in (m_in (d := d) _ _ _) ⟨rfl, by decide, by decide, show (parseMethodDescriptor yX12_in.desc).map (fun d => d.parameters.length) = some 3 by decide +kernel⟩ (by omega) (by decide) (Nat.le_of_ble_eq_true rfl) rfl ?_
        refine pw_if_eq (tgt := 33) 24 rfl dX12_saw_21 rfl (fun h21 => absurd h21 (by rw [inV_y g1 g2 (by decide)]; decide)) (fun h21 => ?_)
        refine pw_aload_n 25 rfl dX12_saw_24 rfl ?_
        refine pw_getI 28 rfl dX12_saw_25 fX12_323 (by first | rfl | assumption | exact rowS hh | exact mtS hm | exact ruS hr | exact mtA1 hm | exact mtA2 hm | exact mtA3 hm | exact mtA4 hm | exact mtA5 hm | exact mtA6 hm | exact mtA7 hm | exact ruA1 hr | exact ruA2 hr | exact ruA3 hr) rfl ?_
        refine pw_bipush (v := nI 10) 30 rfl dX12_saw_28 rfl ?_
        refine pw_icmp_ne (tgt := 35) 33 rfl dX12_saw_30 rfl (fun h30 => absurd (by rw [e35, show sw.length = 10 by omega]) h30) (fun h30 => ?_)
        refine pw_iconst (v := -1) 34 rfl dX12_saw_33 rfl ?_
        refine pw_iret dX12_saw_34 rfl ?_
        rotate_left
        exact no e
    · have e : aSee sw (nI k) v = (-1, sw) := by unfold aSee; simp only [hi, hj]
      refine pw_iload_n 6 rfl dX12_saw_5 rfl ?_
      refine pw_iconst (v := nI 0) 7 rfl dX12_saw_6 rfl ?_
      refine pw_bipush (v := nI 9) 9 rfl dX12_saw_7 rfl ?_
      refine pw_callSP (as := [_, _, _]) 12 rfl dX12_saw_9 mX12_98 sX12_in (m_in (d := d) _ _ _) ⟨rfl, by decide, by decide, show (parseMethodDescriptor yX12_in.desc).map (fun d => d.parameters.length) = some 3 by decide +kernel⟩ (by omega) (by decide) (Nat.le_of_ble_eq_true rfl) rfl ?_
      refine pw_if_eq (tgt := 33) 15 rfl dX12_saw_12 rfl (fun h12 => absurd h12 (by rw [inV_y h1 h2 (by decide)]; decide)) (fun h12 => ?_)
      refine pw_iload_n 16 rfl dX12_saw_15 rfl ?_
      refine pw_iconst (v := nI 0) 17 rfl dX12_saw_16 rfl ?_
      refine pw_iconst (v := nI 3) 18 rfl dX12_saw_17 rfl ?_
      refine pw_callSP (as := [_, _, _]) 21 rfl dX12_saw_18 mX12_98 sX12_in (m_in (d := d) _ _ _) ⟨rfl, by decide, by decide, show (parseMethodDescriptor yX12_in.desc).map (fun d => d.parameters.length) = some 3 by decide +kernel⟩ (by omega) (by decide) (Nat.le_of_ble_eq_true rfl) rfl ?_
      refine pw_if_eq (tgt := 33) 24 rfl dX12_saw_21 rfl (fun h21 => ?_) (fun h21 => absurd (by rw [inV_n ho]; rfl) h21)
      refine pw_iconst (v := -1) 34 rfl dX12_saw_33 rfl ?_
      refine pw_iret dX12_saw_34 rfl ?_
      rotate_left
      exact no e
  · have e : aSee sw w v = (-1, sw) := by unfold aSee; rw [hi]
    refine pw_iload_n 6 rfl dX12_saw_5 rfl ?_
    refine pw_iconst (v := nI 0) 7 rfl dX12_saw_6 rfl ?_
    refine pw_bipush (v := nI 9) 9 rfl dX12_saw_7 rfl ?_
    refine pw_callSP (as := [_, _, _]) 12 rfl dX12_saw_9 mX12_98 sX12_in (m_in (d := d) _ _ _) ⟨rfl, by decide, by decide, show (parseMethodDescriptor yX12_in.desc).map (fun d => d.parameters.length) = some 3 by decide +kernel⟩ (by omega) (by decide) (Nat.le_of_ble_eq_true rfl) rfl ?_
    refine pw_if_eq (tgt := 33) 15 rfl dX12_saw_12 rfl (fun h12 => ?_) (fun h12 => absurd (by rw [inV_n ho]; rfl) h12)
    refine pw_iconst (v := -1) 34 rfl dX12_saw_33 rfl ?_
    refine pw_iret dX12_saw_34 rfl ?_
    rotate_left
    exact no e
set_option maxRecDepth 100000 in
set_option maxHeartbeats 2000000 in
theorem mo_denies {d g : Nat} {s : aSt} {rd : Option Nat} {I : pI} {J : pJ} (hA : MA I J s) (hD : MDg g I) (hg : g ≤ 500000000) (hW : WA s)  : PC SM (d + 245) yX12_denies cX12_denies 2 (some .int) [.ref 0] (I) (J) (RM rd (some 6)) (moP (g + 10000) (oDenies s)) := by
  refine PC.of [some (.ref 0), none] rfl rfl (Nat.le_of_ble_eq_true rfl) ?_
  obtain ⟨n, pc, b, us, kp, rw, tx, rt, hd, sw⟩ := s
  refine pw_aload_n 1 rfl dX12_denies_0 rfl ?_
  refine pw_iconst (v := nI 0) 2 rfl dX12_denies_1 rfl ?_
  refine pw_putI 5 rfl dX12_denies_2 fX12_88 w12_7 (by first | rfl | assumption | exact rowS hh | exact mtS hm | exact ruS hr | exact mtA1 hm | exact mtA2 hm | exact mtA3 hm | exact mtA4 hm | exact mtA5 hm | exact mtA6 hm | exact mtA7 hm | exact ruA1 hr | exact ruA2 hr | exact ruA3 hr) rfl rfl rfl ?_
  rotate_left
  have hA0 := MA_thr (v := nI 0) hA
  have hD0 : MDg g (uI I 0 7 (nI 0)) := MDg_f hD (uI_ne (by omega)) (fun j => uI_ne (by omega))
  clear hA hD
  generalize uI I 0 7 (nI 0) = I at hA0 hD0 ⊢
  obtain ⟨mC, mB, mT, mN, mR, mU, mK, mH, mG⟩ := id hA0
  obtain ⟨aW, aU, aK⟩ := id hW
  have hE := MSt_A hA0
  have hn7 := mC.1
  have hn := mC.2.1
  refine pw_aload_n 6 rfl dX12_denies_5 rfl ?_
  refine pw_getI 9 rfl dX12_denies_6 fX12_323 (by first | rfl | assumption | exact rowS hh | exact mtS hm | exact ruS hr | exact mtA1 hm | exact mtA2 hm | exact mtA3 hm | exact mtA4 hm | exact mtA5 hm | exact mtA6 hm | exact mtA7 hm | exact ruA1 hr | exact ruA2 hr | exact ruA3 hr) rfl ?_
  rotate_left
  rw [mG.1]
  refine pw_istore_n 10 rfl dX12_denies_9 (by decide) ?_
  refine pw_aload_n 11 rfl dX12_denies_10 rfl ?_
  refine pw_iconst (v := nI 0) 12 rfl dX12_denies_11 rfl ?_
  refine pw_putI 15 rfl dX12_denies_12 fX12_323 w12_35 (by first | rfl | assumption | exact rowS hh | exact mtS hm | exact ruS hr | exact mtA1 hm | exact mtA2 hm | exact mtA3 hm | exact mtA4 hm | exact mtA5 hm | exact mtA6 hm | exact mtA7 hm | exact ruA1 hr | exact ruA2 hr | exact ruA3 hr) rfl rfl rfl ?_
  refine pw_iload_n 16 rfl dX12_denies_15 rfl ?_
  refine pw_iret dX12_denies_16 rfl ?_
  rotate_left
  exact ⟨rfl, MA_sw hA0 (fun a j q1 q2 q3 => uI_ne (by omega)) ⟨uI_eq _ _ _ _, by show (0 : Nat) ≤ 10; omega, fun j p hj => by cases hj⟩, (MDg_f hD0 (uI_ne (by omega)) (fun j => uI_ne (by omega))).mono (by omega), rd, rfl⟩
