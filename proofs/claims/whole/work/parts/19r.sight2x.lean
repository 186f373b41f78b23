def aSee (sw : List (Nat × Nat)) (w v : Int32) : Int32 × List (Nat × Nat) := match inOf 0 9 w with
  | none => (-1, sw)
  | some k => match inOf 0 3 v with
    | none => (-1, sw)
    | some x => if sw.length < 10 then (nI (sw.length + 1), sw ++ [(k, x)]) else (-1, sw)
theorem aSee_0 {sw : List (Nat × Nat)} {w v : Int32} (h : inOf 0 9 w = none) : aSee sw w v = (-1, sw) := by unfold aSee; rw [h]
theorem aSee_1 {sw : List (Nat × Nat)} {w v : Int32} {k : Nat} (h : inOf 0 9 w = some k) (h2 : inOf 0 3 v = none) : aSee sw w v = (-1, sw) := by unfold aSee; rw [h, h2]
theorem aSee_2 {sw : List (Nat × Nat)} {w v : Int32} {k x : Nat} (h : inOf 0 9 w = some k) (h2 : inOf 0 3 v = some x) : aSee sw w v = if sw.length < 10 then (nI (sw.length + 1), sw ++ [(k, x)]) else (-1, sw) := by unfold aSee; rw [h, h2]
set_option maxRecDepth 100000 in
set_option maxHeartbeats 2000000 in
theorem x_see {d : Nat} {I : pI} {J : pJ} {sw : List (Nat × Nat)} (hH : XG I sw) (w v : Int32) : PC SX (d + 1) yX8_see cX8_see 3 (some .int) [.ref 64, .int w, .int v] (I) (J) (RX) (fun r' I' J' R' => r' = some (.int (aSee sw w v).1) ∧ XG I' (aSee sw w v).2 ∧ (∀ a, a ≠ 64 → a ≠ 65 → I' a = I a) ∧ J = J' ∧ R' = RX) := by
  refine PC.of [some (.ref 64), some (.int w), some (.int v)] rfl rfl (Nat.le_of_ble_eq_true rfl) ?_
  obtain ⟨n1, n2, n3⟩ := id hH
  rcases inOf_cases (lo := 0) (hi := 9) (by decide) w (by decide) with ⟨k, k0, k4, rfl, hk⟩ | ⟨hk, ho⟩
  · rcases inOf_cases (lo := 0) (hi := 3) (by omega) v (Nat.zero_le _) with ⟨x, x0, x4, rfl, hx⟩ | ⟨hx, ho⟩
    · rw [aSee_2 hk hx]
      by_cases h12 : sw.length < 10
      · rw [if_pos h12]
        refine pw_iload_n 1 rfl dX8_see_0 rfl ?_
        refine pw_iconst (v := nI 0) 2 rfl dX8_see_1 rfl ?_
        refine pw_bipush (v := nI 9) 4 rfl dX8_see_2 rfl ?_
        refine pw_callNP (as := [_, _, _]) 7 rfl dX8_see_4 nX8_38 sX11_outside (x_outside (d := d) _ _ _) ⟨rfl, by decide, by decide, show (parseMethodDescriptor yX11_outside.desc).map (fun d => d.parameters.length) = some 3 by decide +kernel⟩ (by omega) (by decide) (Nat.le_of_ble_eq_true rfl) rfl ?_
        refine pw_if_ne (tgt := 32) 10 rfl dX8_see_7 rfl (fun h7 => absurd (by rw [outV_nI k0 k4 (by decide)]; rfl) h7) (fun h7 => ?_)
        refine pw_iload_n 11 rfl dX8_see_10 rfl ?_
        refine pw_iconst (v := nI 0) 12 rfl dX8_see_11 rfl ?_
        refine pw_iconst (v := nI 3) 13 rfl dX8_see_12 rfl ?_
        refine pw_callNP (as := [_, _, _]) 16 rfl dX8_see_13 nX8_38 sX11_outside (x_outside (d := d) _ _ _) ⟨rfl, by decide, by decide, show (parseMethodDescriptor yX11_outside.desc).map (fun d => d.parameters.length) = some 3 by decide +kernel⟩ (by omega) (by decide) (Nat.le_of_ble_eq_true rfl) rfl ?_
        refine pw_if_ne (tgt := 32) 19 rfl dX8_see_16 rfl (fun h16 => absurd (by rw [outV_nI x0 x4 (by omega)]; rfl) h16) (fun h16 => ?_)
        refine pw_aload_n 20 rfl dX8_see_19 rfl ?_
        refine pw_getI 23 rfl dX8_see_20 fX8_15 (by first | rfl | assumption | exact rowS hh | exact mtS hm | exact ruS hr | exact mtA1 hm | exact mtA2 hm | exact mtA3 hm | exact mtA4 hm | exact mtA5 hm | exact mtA6 hm | exact mtA7 hm | exact ruA1 hr | exact ruA2 hr | exact ruA3 hr) rfl ?_
        rotate_left
        rw [n1]
        refine pw_iconst (v := nI 0) 24 rfl dX8_see_23 rfl ?_
        refine pw_bipush (v := nI 9) 26 rfl dX8_see_24 rfl ?_
        refine pw_callNP (as := [_, _, _]) 29 rfl dX8_see_26 nX8_38 sX11_outside (x_outside (d := d) _ _ _) ⟨rfl, by decide, by decide, show (parseMethodDescriptor yX11_outside.desc).map (fun d => d.parameters.length) = some 3 by decide +kernel⟩ (by omega) (by decide) (Nat.le_of_ble_eq_true rfl) rfl ?_
        refine pw_if_eq (tgt := 34) 32 rfl dX8_see_29 rfl (fun h29 => ?_) (fun h29 => absurd (by rw [outV_nI (Nat.zero_le _) (by omega) (by decide)]; rfl) h29)
        refine pw_aload_n 35 rfl dX8_see_34 rfl ?_
        refine pw_getR 38 rfl dX8_see_35 fX8_11 (by first | rfl | assumption | exact rowS hh | exact mtS hm | exact ruS hr | exact mtA1 hm | exact mtA2 hm | exact mtA3 hm | exact mtA4 hm | exact mtA5 hm | exact mtA6 hm | exact mtA7 hm | exact ruA1 hr | exact ruA2 hr | exact ruA3 hr) rfl (by first | rfl | assumption | exact mtR0 hm | exact mtR1 hm | exact mtR2 hm | exact mtR3 hm | exact mtR4 hm | exact mtR5 hm | exact mtR6 hm | exact ruR0 hr | exact ruR1 hr | exact ruR3 hr) ?_
        refine pw_aload_n 39 rfl dX8_see_38 rfl ?_
        refine pw_getI 42 rfl dX8_see_39 fX8_15 (by first | rfl | assumption | exact rowS hh | exact mtS hm | exact ruS hr | exact mtA1 hm | exact mtA2 hm | exact mtA3 hm | exact mtA4 hm | exact mtA5 hm | exact mtA6 hm | exact mtA7 hm | exact ruA1 hr | exact ruA2 hr | exact ruA3 hr) rfl ?_
        rotate_left
        rw [n1]
        refine pw_bipush (v := nI 10) 44 rfl dX8_see_42 rfl ?_
        refine pw_iload_n 45 rfl dX8_see_44 rfl ?_
        first | refine pw_imulN 46 rfl dX8_see_45 ?_ | refine pw_imul 46 rfl dX8_see_45 ?_
        refine pw_iload_n 47 rfl dX8_see_46 rfl ?_
        first | refine pw_iaddN 48 rfl dX8_see_47 ?_ | refine pw_iadd 48 rfl dX8_see_47 ?_
        refine pw_iastN 49 rfl dX8_see_48 (by first | rfl | assumption | exact rowS hh | exact mtS hm | exact ruS hr | exact mtA1 hm | exact mtA2 hm | exact mtA3 hm | exact mtA4 hm | exact mtA5 hm | exact mtA6 hm | exact mtA7 hm | exact ruA1 hr | exact ruA2 hr | exact ruA3 hr) (by omega) (by decide) ?_
        refine pw_aload_n 50 rfl dX8_see_49 rfl ?_
        refine pw_dup 51 rfl dX8_see_50 rfl ?_
        refine pw_getI 54 rfl dX8_see_51 fX8_15 (by first | rfl | assumption | exact rowS hh | exact mtS hm | exact ruS hr | exact mtA1 hm | exact mtA2 hm | exact mtA3 hm | exact mtA4 hm | exact mtA5 hm | exact mtA6 hm | exact mtA7 hm | exact ruA1 hr | exact ruA2 hr | exact ruA3 hr) rfl ?_
        rotate_left
        rw [uI_ne (by omega), n1]
        refine pw_iconst (v := nI 1) 55 rfl dX8_see_54 rfl ?_
        first | refine pw_iaddN 56 rfl dX8_see_55 ?_ | refine pw_iadd 56 rfl dX8_see_55 ?_
        refine pw_putI 59 rfl dX8_see_56 fX8_15 w8_2 (by first | rfl | assumption | exact rowS hh | exact mtS hm | exact ruS hr | exact mtA1 hm | exact mtA2 hm | exact mtA3 hm | exact mtA4 hm | exact mtA5 hm | exact mtA6 hm | exact mtA7 hm | exact ruA1 hr | exact ruA2 hr | exact ruA3 hr) rfl rfl rfl ?_
        refine pw_aload_n 60 rfl dX8_see_59 rfl ?_
        refine pw_getI 63 rfl dX8_see_60 fX8_15 (by first | rfl | assumption | exact rowS hh | exact mtS hm | exact ruS hr | exact mtA1 hm | exact mtA2 hm | exact mtA3 hm | exact mtA4 hm | exact mtA5 hm | exact mtA6 hm | exact mtA7 hm | exact ruA1 hr | exact ruA2 hr | exact ruA3 hr) rfl ?_
        rotate_left
        rw [uI_eq]
        refine pw_iret dX8_see_63 rfl ?_
        rotate_left
        refine ⟨rfl, ⟨?_, ?_, fun j p hj => ?_⟩, fun a h1 h2 => ?_, rfl, rfl⟩
        · rw [uI_eq, List.length_append]; rfl
        · rw [List.length_append]; show _ + 1 ≤ _; omega
        · by_cases e : j = sw.length
          · subst e
            rw [uI_ne (by omega), uI_eq]
            simp at hj
            subst hj
            exact ⟨rfl, k4, x4⟩
          · have hlt : j < sw.length := by
              have h1 := (List.getElem?_eq_some_iff.mp hj).1
              rw [List.length_append] at h1
              have : j < sw.length + 1 := h1
              omega
            rw [List.getElem?_append_left hlt] at hj
            rw [uI_ne (by omega), uI_ne (by omega)]
            exact n3 j p hj
        · rw [uI, if_neg h1, uI, if_neg h2]
      · rw [if_neg h12]
        refine pw_iload_n 1 rfl dX8_see_0 rfl ?_
        refine pw_iconst (v := nI 0) 2 rfl dX8_see_1 rfl ?_
        refine pw_bipush (v := nI 9) 4 rfl dX8_see_2 rfl ?_
        refine pw_callNP (as := [_, _, _]) 7 rfl dX8_see_4 nX8_38 sX11_outside (x_outside (d := d) _ _ _) ⟨rfl, by decide, by decide, show (parseMethodDescriptor yX11_outside.desc).map (fun d => d.parameters.length) = some 3 by decide +kernel⟩ (by omega) (by decide) (Nat.le_of_ble_eq_true rfl) rfl ?_
        refine pw_if_ne (tgt := 32) 10 rfl dX8_see_7 rfl (fun h7 => absurd (by rw [outV_nI k0 k4 (by decide)]; rfl) h7) (fun h7 => ?_)
        refine pw_iload_n 11 rfl dX8_see_10 rfl ?_
        refine pw_iconst (v := nI 0) 12 rfl dX8_see_11 rfl ?_
        refine pw_iconst (v := nI 3) 13 rfl dX8_see_12 rfl ?_
        refine pw_callNP (as := [_, _, _]) 16 rfl dX8_see_13 nX8_38 sX11_outside (x_outside (d := d) _ _ _) ⟨rfl, by decide, by decide, show (parseMethodDescriptor yX11_outside.desc).map (fun d => d.parameters.length) = some 3 by decide +kernel⟩ (by omega) (by decide) (Nat.le_of_ble_eq_true rfl) rfl ?_
        refine pw_if_ne (tgt := 32) 19 rfl dX8_see_16 rfl (fun h16 => absurd (by rw [outV_nI x0 x4 (by omega)]; rfl) h16) (fun h16 => ?_)
        refine pw_aload_n 20 rfl dX8_see_19 rfl ?_
        refine pw_getI 23 rfl dX8_see_20 fX8_15 (by first | rfl | assumption | exact rowS hh | exact mtS hm | exact ruS hr | exact mtA1 hm | exact mtA2 hm | exact mtA3 hm | exact mtA4 hm | exact mtA5 hm | exact mtA6 hm | exact mtA7 hm | exact ruA1 hr | exact ruA2 hr | exact ruA3 hr) rfl ?_
        rotate_left
        rw [n1]
        refine pw_iconst (v := nI 0) 24 rfl dX8_see_23 rfl ?_
        refine pw_bipush (v := nI 9) 26 rfl dX8_see_24 rfl ?_
        refine pw_callNP (as := [_, _, _]) 29 rfl dX8_see_26 nX8_38 sX11_outside (x_outside (d := d) _ _ _) ⟨rfl, by decide, by decide, show (parseMethodDescriptor yX11_outside.desc).map (fun d => d.parameters.length) = some 3 by decide +kernel⟩ (by omega) (by decide) (Nat.le_of_ble_eq_true rfl) rfl ?_
        refine pw_if_eq (tgt := 34) 32 rfl dX8_see_29 rfl (fun h29 => absurd h29 (by rw [outV_y (Or.inr (nI_lt (by omega) (by omega)))]; decide)) (fun h29 => ?_)
        refine pw_iconst (v := -1) 33 rfl dX8_see_32 rfl ?_
        refine pw_iret dX8_see_33 rfl ?_
        rotate_left
        exact ⟨rfl, hH, fun _ _ _ => rfl, rfl, rfl⟩
    · rw [aSee_1 hk hx]
      refine pw_iload_n 1 rfl dX8_see_0 rfl ?_
      refine pw_iconst (v := nI 0) 2 rfl dX8_see_1 rfl ?_
      refine pw_bipush (v := nI 9) 4 rfl dX8_see_2 rfl ?_
      refine pw_callNP (as := [_, _, _]) 7 rfl dX8_see_4 nX8_38 sX11_outside (x_outside (d := d) _ _ _) ⟨rfl, by decide, by decide, show (parseMethodDescriptor yX11_outside.desc).map (fun d => d.parameters.length) = some 3 by decide +kernel⟩ (by omega) (by decide) (Nat.le_of_ble_eq_true rfl) rfl ?_
      refine pw_if_ne (tgt := 32) 10 rfl dX8_see_7 rfl (fun h7 => absurd (by rw [outV_nI k0 k4 (by decide)]; rfl) h7) (fun h7 => ?_)
      refine pw_iload_n 11 rfl dX8_see_10 rfl ?_
      refine pw_iconst (v := nI 0) 12 rfl dX8_see_11 rfl ?_
      refine pw_iconst (v := nI 3) 13 rfl dX8_see_12 rfl ?_
      refine pw_callNP (as := [_, _, _]) 16 rfl dX8_see_13 nX8_38 sX11_outside (x_outside (d := d) _ _ _) ⟨rfl, by decide, by decide, show (parseMethodDescriptor yX11_outside.desc).map (fun d => d.parameters.length) = some 3 by decide +kernel⟩ (by omega) (by decide) (Nat.le_of_ble_eq_true rfl) rfl ?_
      refine pw_if_ne (tgt := 32) 19 rfl dX8_see_16 rfl (fun h16 => ?_) (fun h16 => absurd h16 (by rw [outV_y ho]; decide))
      refine pw_iconst (v := -1) 33 rfl dX8_see_32 rfl ?_
      refine pw_iret dX8_see_33 rfl ?_
      rotate_left
      exact ⟨rfl, hH, fun _ _ _ => rfl, rfl, rfl⟩
  · rw [aSee_0 hk]
    refine pw_iload_n 1 rfl dX8_see_0 rfl ?_
    refine pw_iconst (v := nI 0) 2 rfl dX8_see_1 rfl ?_
    refine pw_bipush (v := nI 9) 4 rfl dX8_see_2 rfl ?_
    refine pw_callNP (as := [_, _, _]) 7 rfl dX8_see_4 nX8_38 sX11_outside (x_outside (d := d) _ _ _) ⟨rfl, by decide, by decide, show (parseMethodDescriptor yX11_outside.desc).map (fun d => d.parameters.length) = some 3 by decide +kernel⟩ (by omega) (by decide) (Nat.le_of_ble_eq_true rfl) rfl ?_
    refine pw_if_ne (tgt := 32) 10 rfl dX8_see_7 rfl (fun h7 => ?_) (fun h7 => absurd h7 (by rw [outV_y ho]; decide))
    refine pw_iconst (v := -1) 33 rfl dX8_see_32 rfl ?_
    refine pw_iret dX8_see_33 rfl ?_
    rotate_left
    exact ⟨rfl, hH, fun _ _ _ => rfl, rfl, rfl⟩
set_option maxRecDepth 100000 in
set_option maxHeartbeats 2000000 in
theorem x_dropS {d : Nat} {I : pI} {J : pJ} {sw : List (Nat × Nat)} (hH : XG I sw) : PC SX (d) yX8_drop cX8_drop 2 (some .int) [.ref 64] (I) (J) (RX) (fun r' I' J' R' => r' = some (.int (nI sw.length)) ∧ XG I' [] ∧ (∀ a, a ≠ 64 → I' a = I a) ∧ J = J' ∧ R' = RX) := by
  refine PC.of [some (.ref 64), none] rfl rfl (Nat.le_of_ble_eq_true rfl) ?_
  refine pw_aload_n 1 rfl dX8_drop_0 rfl ?_
  refine pw_getI 4 rfl dX8_drop_1 fX8_15 (by first | rfl | assumption | exact rowS hh | exact mtS hm | exact ruS hr | exact mtA1 hm | exact mtA2 hm | exact mtA3 hm | exact mtA4 hm | exact mtA5 hm | exact mtA6 hm | exact mtA7 hm | exact ruA1 hr | exact ruA2 hr | exact ruA3 hr) rfl ?_
  rotate_left
  rw [hH.1]
  refine pw_istore_n 5 rfl dX8_drop_4 (by decide) ?_
  refine pw_aload_n 6 rfl dX8_drop_5 rfl ?_
  refine pw_iconst (v := nI 0) 7 rfl dX8_drop_6 rfl ?_
  refine pw_putI 10 rfl dX8_drop_7 fX8_15 w8_2 (by first | rfl | assumption | exact rowS hh | exact mtS hm | exact ruS hr | exact mtA1 hm | exact mtA2 hm | exact mtA3 hm | exact mtA4 hm | exact mtA5 hm | exact mtA6 hm | exact mtA7 hm | exact ruA1 hr | exact ruA2 hr | exact ruA3 hr) rfl rfl rfl ?_
  refine pw_iload_n 11 rfl dX8_drop_10 rfl ?_
  refine pw_iret dX8_drop_11 rfl ?_
  rotate_left
  exact ⟨rfl, ⟨uI_eq _ _ _ _, Nat.zero_le _, fun j p h => by cases h⟩, fun a ha => by rw [uI, if_neg ha], rfl, rfl⟩
def lwO (o : Option Nat) : List Int64 := match o with
  | none => []
  | some f => [lI (f / 20), lI (f / 4 % 5 + 1), lI (f % 4)]
set_option maxRecDepth 100000 in
set_option maxHeartbeats 2000000 in
theorem x_fittingLaws {d : Nat} {I : pI} {J : pJ} {sw : List (Nat × Nat)} (hG : XG I sw) : PC SX (d + 4) yX8_fittingLaws cX8_fittingLaws 1 (some .int) [.ref 64] (I) (J) (RX) (fun r' I' J' R' => r' = some (.int (nI (cntP (okL sw) 80))) ∧ XN I' J' (lwO (fstL (okL sw) 80)) ∧ XG I' sw ∧ (∀ a, a ≠ 19 → a ≠ 64 → a ≠ 66 → I' a = I a) ∧ R' = RX) := by
  refine PC.of [some (.ref 64)] rfl rfl (Nat.le_of_ble_eq_true rfl) ?_
  have hcl := cntP_le (okL sw) 80
  refine pw_aload_n 1 rfl dX8_fittingLaws_0 rfl ?_
  refine pw_callV (as := []) 4 rfl dX8_fittingLaws_1 mX8_42 vX8_findLaws (x_findLaws (d := d) hG) (by first | rfl | assumption | exact rowS hh | exact mtS hm | exact ruS hr | exact mtA1 hm | exact mtA2 hm | exact mtA3 hm | exact mtA4 hm | exact mtA5 hm | exact mtA6 hm | exact mtA7 hm | exact ruA1 hr | exact ruA2 hr | exact ruA3 hr) rfl (by decide) ⟨rfl, by decide, by decide, show (parseMethodDescriptor yX8_findLaws.desc).map (fun d => d.parameters.length) = some 0 by decide +kernel⟩ (by omega) (by decide) (Nat.le_of_ble_eq_true rfl) rfl (fun r1 I1 J1 R1 c1 => ?_)
  obtain ⟨rfl, g, rfl, rfl⟩ := c1
  refine pw_aload_n 5 rfl dX8_fittingLaws_4 rfl ?_
  refine pw_getR 8 rfl dX8_fittingLaws_5 fX8_34 (by first | rfl | assumption | exact rowS hh | exact mtS hm | exact ruS hr | exact mtA1 hm | exact mtA2 hm | exact mtA3 hm | exact mtA4 hm | exact mtA5 hm | exact mtA6 hm | exact mtA7 hm | exact ruA1 hr | exact ruA2 hr | exact ruA3 hr) rfl (by first | rfl | assumption | exact mtR0 hm | exact mtR1 hm | exact mtR2 hm | exact mtR3 hm | exact mtR4 hm | exact mtR5 hm | exact mtR6 hm | exact ruR0 hr | exact ruR1 hr | exact ruR3 hr) ?_
  refine pw_callV (as := []) 11 rfl dX8_fittingLaws_8 mX8_45 vX2_clear (x_clear (d := d + 3)) (by first | rfl | assumption | exact rowS hh | exact mtS hm | exact ruS hr | exact mtA1 hm | exact mtA2 hm | exact mtA3 hm | exact mtA4 hm | exact mtA5 hm | exact mtA6 hm | exact mtA7 hm | exact ruA1 hr | exact ruA2 hr | exact ruA3 hr) rfl (by decide) ⟨rfl, by decide, by decide, show (parseMethodDescriptor yX2_clear.desc).map (fun d => d.parameters.length) = some 0 by decide +kernel⟩ (by omega) (by decide) (Nat.le_of_ble_eq_true rfl) rfl (fun r8 I8 J8 R8 c8 => ?_)
  obtain ⟨rfl, a1, a2, rfl⟩ := c8
  rotate_left
  obtain ⟨g1, g2, g3, g4, g5⟩ := id g
  have g5' := g5
  have hG' : XG I1 sw := XG_fr hG g5 (g4 65 (by omega) (by omega))
  have hfc := fstL_cnt (okL sw) 80
  generalize fstL (okL sw) 80 = o at g2 hfc ⊢
  cases o with
  | none =>
    have h0 := hfc.mp rfl
    refine pw_aload_n 12 rfl dX8_fittingLaws_11 rfl ?_
    refine pw_getI 15 rfl dX8_fittingLaws_12 fX8_22 (by first | rfl | assumption | exact rowS hh | exact mtS hm | exact ruS hr | exact mtA1 hm | exact mtA2 hm | exact mtA3 hm | exact mtA4 hm | exact mtA5 hm | exact mtA6 hm | exact mtA7 hm | exact ruA1 hr | exact ruA2 hr | exact ruA3 hr) rfl ?_
    refine pw_if_le (tgt := 47) 18 rfl dX8_fittingLaws_15 rfl (fun h15 => ?_) (fun h15 => absurd (by rw [a2 64 (by omega), g1, h0]; decide) h15)
    refine pw_aload_n 48 rfl dX8_fittingLaws_47 rfl ?_
    refine pw_getI 51 rfl dX8_fittingLaws_48 fX8_22 (by first | rfl | assumption | exact rowS hh | exact mtS hm | exact ruS hr | exact mtA1 hm | exact mtA2 hm | exact mtA3 hm | exact mtA4 hm | exact mtA5 hm | exact mtA6 hm | exact mtA7 hm | exact ruA1 hr | exact ruA2 hr | exact ruA3 hr) rfl ?_
    rotate_left
    rw [a2 64 (by omega), g1]
    refine pw_iret dX8_fittingLaws_51 rfl ?_
    rotate_left
    refine ⟨rfl, ?_, XG_fr hG' (by rw [a2 64 (by omega)]) (a2 65 (by omega)), fun a h1 h2 h3 => by rw [a2 a h1, g4 a h2 h3], rfl⟩
    exact a1
  | some f =>
    have h0 : cntP (okL sw) 80 ≠ 0 := fun z => by have := hfc.mpr z; cases this
    obtain ⟨k1, k2, k3⟩ := g2 f rfl
    refine pw_aload_n 12 rfl dX8_fittingLaws_11 rfl ?_
    refine pw_getI 15 rfl dX8_fittingLaws_12 fX8_22 (by first | rfl | assumption | exact rowS hh | exact mtS hm | exact ruS hr | exact mtA1 hm | exact mtA2 hm | exact mtA3 hm | exact mtA4 hm | exact mtA5 hm | exact mtA6 hm | exact mtA7 hm | exact ruA1 hr | exact ruA2 hr | exact ruA3 hr) rfl ?_
    refine pw_if_le (tgt := 47) 18 rfl dX8_fittingLaws_15 rfl (fun h15 => absurd h15 (by rw [a2 64 (by omega), g1]; exact nI_nle (by omega) (by omega))) (fun h15 => ?_)
    refine pw_aload_n 19 rfl dX8_fittingLaws_18 rfl ?_
    refine pw_getR 22 rfl dX8_fittingLaws_19 fX8_34 (by first | rfl | assumption | exact rowS hh | exact mtS hm | exact ruS hr | exact mtA1 hm | exact mtA2 hm | exact mtA3 hm | exact mtA4 hm | exact mtA5 hm | exact mtA6 hm | exact mtA7 hm | exact ruA1 hr | exact ruA2 hr | exact ruA3 hr) rfl (by first | rfl | assumption | exact mtR0 hm | exact mtR1 hm | exact mtR2 hm | exact mtR3 hm | exact mtR4 hm | exact mtR5 hm | exact mtR6 hm | exact ruR0 hr | exact ruR1 hr | exact ruR3 hr) ?_
    refine pw_aload_n 23 rfl dX8_fittingLaws_22 rfl ?_
    refine pw_getI 26 rfl dX8_fittingLaws_23 fX8_25 (by first | rfl | assumption | exact rowS hh | exact mtS hm | exact ruS hr | exact mtA1 hm | exact mtA2 hm | exact mtA3 hm | exact mtA4 hm | exact mtA5 hm | exact mtA6 hm | exact mtA7 hm | exact ruA1 hr | exact ruA2 hr | exact ruA3 hr) rfl ?_
    rotate_left
    rw [a2 64 (by omega), k1]
    refine pw_i2l 27 rfl dX8_fittingLaws_26 ?_
    refine pw_aload_n 28 rfl dX8_fittingLaws_27 rfl ?_
    refine pw_getI 31 rfl dX8_fittingLaws_28 fX8_28 (by first | rfl | assumption | exact rowS hh | exact mtS hm | exact ruS hr | exact mtA1 hm | exact mtA2 hm | exact mtA3 hm | exact mtA4 hm | exact mtA5 hm | exact mtA6 hm | exact mtA7 hm | exact ruA1 hr | exact ruA2 hr | exact ruA3 hr) rfl ?_
    rotate_left
    rw [a2 64 (by omega), k2]
    refine pw_i2l 32 rfl dX8_fittingLaws_31 ?_
    refine pw_callV (as := [_, _]) 35 rfl dX8_fittingLaws_32 mX8_50 vX2_tellTwo (x_tellTwo (d := d + 1) _ _) (by first | rfl | assumption | exact rowS hh | exact mtS hm | exact ruS hr | exact mtA1 hm | exact mtA2 hm | exact mtA3 hm | exact mtA4 hm | exact mtA5 hm | exact mtA6 hm | exact mtA7 hm | exact ruA1 hr | exact ruA2 hr | exact ruA3 hr) rfl (by decide) ⟨rfl, by decide, by decide, show (parseMethodDescriptor yX2_tellTwo.desc).map (fun d => d.parameters.length) = some 2 by decide +kernel⟩ (by omega) (by decide) (Nat.le_of_ble_eq_true rfl) rfl (fun r32 I32 J32 R32 c32 => ?_)
    obtain ⟨rfl, b1, b2, rfl⟩ := c32
    refine pw_aload_n 36 rfl dX8_fittingLaws_35 rfl ?_
    refine pw_getR 39 rfl dX8_fittingLaws_36 fX8_34 (by first | rfl | assumption | exact rowS hh | exact mtS hm | exact ruS hr | exact mtA1 hm | exact mtA2 hm | exact mtA3 hm | exact mtA4 hm | exact mtA5 hm | exact mtA6 hm | exact mtA7 hm | exact ruA1 hr | exact ruA2 hr | exact ruA3 hr) rfl (by first | rfl | assumption | exact mtR0 hm | exact mtR1 hm | exact mtR2 hm | exact mtR3 hm | exact mtR4 hm | exact mtR5 hm | exact mtR6 hm | exact ruR0 hr | exact ruR1 hr | exact ruR3 hr) ?_
    refine pw_aload_n 40 rfl dX8_fittingLaws_39 rfl ?_
    refine pw_getI 43 rfl dX8_fittingLaws_40 fX8_31 (by first | rfl | assumption | exact rowS hh | exact mtS hm | exact ruS hr | exact mtA1 hm | exact mtA2 hm | exact mtA3 hm | exact mtA4 hm | exact mtA5 hm | exact mtA6 hm | exact mtA7 hm | exact ruA1 hr | exact ruA2 hr | exact ruA3 hr) rfl ?_
    rotate_left
    rw [b2 64 (by omega), a2 64 (by omega), k3]
    refine pw_i2l 44 rfl dX8_fittingLaws_43 ?_
    refine pw_callV (as := [_]) 47 rfl dX8_fittingLaws_44 mX8_54 vX2_add (x_add (d := d + 3) _ b1) (by first | rfl | assumption | exact rowS hh | exact mtS hm | exact ruS hr | exact mtA1 hm | exact mtA2 hm | exact mtA3 hm | exact mtA4 hm | exact mtA5 hm | exact mtA6 hm | exact mtA7 hm | exact ruA1 hr | exact ruA2 hr | exact ruA3 hr) rfl (by decide) ⟨rfl, by decide, by decide, show (parseMethodDescriptor yX2_add.desc).map (fun d => d.parameters.length) = some 1 by decide +kernel⟩ (by omega) (by decide) (Nat.le_of_ble_eq_true rfl) rfl (fun r44 I44 J44 R44 c44 => ?_)
    obtain ⟨rfl, e1, e2, rfl⟩ := c44
    refine pw_aload_n 48 rfl dX8_fittingLaws_47 rfl ?_
    refine pw_getI 51 rfl dX8_fittingLaws_48 fX8_22 (by first | rfl | assumption | exact rowS hh | exact mtS hm | exact ruS hr | exact mtA1 hm | exact mtA2 hm | exact mtA3 hm | exact mtA4 hm | exact mtA5 hm | exact mtA6 hm | exact mtA7 hm | exact ruA1 hr | exact ruA2 hr | exact ruA3 hr) rfl ?_
    rotate_left
    rw [e2 64 (by omega), b2 64 (by omega), a2 64 (by omega), g1]
    refine pw_iret dX8_fittingLaws_51 rfl ?_
    rotate_left
    refine ⟨rfl, ?_, XG_fr hG' (by rw [e2 64 (by omega), b2 64 (by omega), a2 64 (by omega)]) (by rw [e2 65 (by omega), b2 65 (by omega), a2 65 (by omega)]), fun a h1 h2 h3 => by rw [e2 a h1, b2 a h1, a2 a h1, g4 a h2 h3], rfl⟩
    exact e1
def mxG (sw : List (Nat × Nat)) (p : Nat) : Nat → Nat := mxf (fun s => cntP (fun L => okL sw L && decide (sb L p = s)) 80)
set_option maxRecDepth 100000 in
set_option maxHeartbeats 2000000 in
theorem x_mostLeft {d p : Nat} {I : pI} {J : pJ} {ok : Nat → Bool} (hp : p < 10) (h : ∀ p s, p < 10 → s < 4 → I 66 (p * 4 + s) = nI (cntP (fun L => ok L && decide (sb L p = s)) 80)) : PC SX (d + 1) yX8_mostLeft cX8_mostLeft 5 (some .int) [.ref 64, .int (nI p)] (I) (J) (RX) (pPu (.int (nI (mxf (fun s => cntP (fun L => ok L && decide (sb L p = s)) 80) 4))) I J RX) := by
  refine PC.of [some (.ref 64), some (.int (nI p)), none, none, none] rfl rfl (Nat.le_of_ble_eq_true rfl) ?_
  refine pw_iconst (v := nI 0) 1 rfl dX8_mostLeft_0 rfl ?_
  refine pw_istore_n 2 rfl dX8_mostLeft_1 (by decide) ?_
  refine pw_iconst (v := nI 0) 3 rfl dX8_mostLeft_2 rfl ?_
  refine pw_istore_n 4 rfl dX8_mostLeft_3 (by decide) ?_
  rotate_left
  have hle : ∀ k, mxf (fun s => cntP (fun L => ok L && decide (sb L p = s)) 80) k ≤ 80 := fun k => mxf_le (fun j _ => cntP_le _ 80)
  have L := nat_loop 4 (fun k => ∀ (x4 : Option Value), PW SX yX8_mostLeft.cls cX8_mostLeft 5 (d + 1) 4 [some (.ref 64), some (.int (nI p)), some (.int (nI (mxf (fun s => cntP (fun L => ok L && decide (sb L p = s)) 80) k))), some (.int (nI k)), x4] [] (I) (J) (RX) (rX cX8_mostLeft (some .int) (pPu (.int (nI (mxf (fun s => cntP (fun L => ok L && decide (sb L p = s)) 80) 4))) I J RX))) ?_ ?_
  · exact L _
  · intro x4
    refine pw_iload_n 5 rfl dX8_mostLeft_4 rfl ?_
    refine pw_iconst (v := nI 3) 6 rfl dX8_mostLeft_5 rfl ?_
    refine pw_icmp_gt (tgt := 49) 9 rfl dX8_mostLeft_6 rfl (fun h6 => ?_) (fun h6 => absurd (by (simp (disch := omega) only [nI_leI, nI_ltI, nI_eq, show (0 : Int32) = nI 0 from rfl, not_true_eq_false, not_false_eq_true] <;> omega)) h6)
    refine pw_iload_n 50 rfl dX8_mostLeft_49 rfl ?_
    refine pw_iret dX8_mostLeft_50 rfl ?_
    rotate_left
    exact ⟨rfl, rfl, rfl, rfl⟩
  · intro k hk ih x4
    have h1 := hle k
    have h2 := cntP_le (fun L => ok L && decide (sb L p = k)) 80
    refine pw_iload_n 5 rfl dX8_mostLeft_4 rfl ?_
    refine pw_iconst (v := nI 3) 6 rfl dX8_mostLeft_5 rfl ?_
    refine pw_icmp_gt (tgt := 49) 9 rfl dX8_mostLeft_6 rfl (fun h6 => absurd h6 (by (simp (disch := omega) only [nI_leI, nI_ltI, nI_eq, show (0 : Int32) = nI 0 from rfl, not_true_eq_false, not_false_eq_true] <;> omega))) (fun h6 => ?_)
    refine pw_iload_n 10 rfl dX8_mostLeft_9 rfl ?_
    refine pw_iconst (v := nI 4) 11 rfl dX8_mostLeft_10 rfl ?_
    first | refine pw_imulN 12 rfl dX8_mostLeft_11 ?_ | refine pw_imul 12 rfl dX8_mostLeft_11 ?_
    refine pw_iload_n 13 rfl dX8_mostLeft_12 rfl ?_
    first | refine pw_iaddN 14 rfl dX8_mostLeft_13 ?_ | refine pw_iadd 14 rfl dX8_mostLeft_13 ?_
    refine pw_istore 16 rfl dX8_mostLeft_14 (by decide) ?_
    refine pw_iload 18 rfl dX8_mostLeft_16 rfl ?_
    refine pw_if_lt (tgt := 43) 21 rfl dX8_mostLeft_18 rfl (fun h18 => absurd h18 (nI_pos (by omega))) (fun h18 => ?_)
    refine pw_iload 23 rfl dX8_mostLeft_21 rfl ?_
    refine pw_aload_n 24 rfl dX8_mostLeft_23 rfl ?_
    refine pw_getR 27 rfl dX8_mostLeft_24 fX8_19 (by first | rfl | assumption | exact rowS hh | exact mtS hm | exact ruS hr | exact mtA1 hm | exact mtA2 hm | exact mtA3 hm | exact mtA4 hm | exact mtA5 hm | exact mtA6 hm | exact mtA7 hm | exact ruA1 hr | exact ruA2 hr | exact ruA3 hr) rfl (by first | rfl | assumption | exact mtR0 hm | exact mtR1 hm | exact mtR2 hm | exact mtR3 hm | exact mtR4 hm | exact mtR5 hm | exact mtR6 hm | exact ruR0 hr | exact ruR1 hr | exact ruR3 hr) ?_
    refine pw_alen 28 rfl dX8_mostLeft_27 (by first | rfl | assumption | exact rowS hh | exact mtS hm | exact ruS hr | exact mtA1 hm | exact mtA2 hm | exact mtA3 hm | exact mtA4 hm | exact mtA5 hm | exact mtA6 hm | exact mtA7 hm | exact ruA1 hr | exact ruA2 hr | exact ruA3 hr) rfl (by decide) rfl ?_
    refine pw_icmp_ge (tgt := 43) 31 rfl dX8_mostLeft_28 rfl (fun h28 => absurd h28 (by show ¬ nI 40 ≤ nI _; (simp (disch := omega) only [nI_leI, nI_ltI, nI_eq, show (0 : Int32) = nI 0 from rfl, not_true_eq_false, not_false_eq_true] <;> omega))) (fun h28 => ?_)
    refine pw_iload_n 32 rfl dX8_mostLeft_31 rfl ?_
    refine pw_aload_n 33 rfl dX8_mostLeft_32 rfl ?_
    refine pw_getR 36 rfl dX8_mostLeft_33 fX8_19 (by first | rfl | assumption | exact rowS hh | exact mtS hm | exact ruS hr | exact mtA1 hm | exact mtA2 hm | exact mtA3 hm | exact mtA4 hm | exact mtA5 hm | exact mtA6 hm | exact mtA7 hm | exact ruA1 hr | exact ruA2 hr | exact ruA3 hr) rfl (by first | rfl | assumption | exact mtR0 hm | exact mtR1 hm | exact mtR2 hm | exact mtR3 hm | exact mtR4 hm | exact mtR5 hm | exact mtR6 hm | exact ruR0 hr | exact ruR1 hr | exact ruR3 hr) ?_
    refine pw_iload 38 rfl dX8_mostLeft_36 rfl ?_
    refine pw_ialdN 39 rfl dX8_mostLeft_38 (by first | rfl | assumption | exact rowS hh | exact mtS hm | exact ruS hr | exact mtA1 hm | exact mtA2 hm | exact mtA3 hm | exact mtA4 hm | exact mtA5 hm | exact mtA6 hm | exact mtA7 hm | exact ruA1 hr | exact ruA2 hr | exact ruA3 hr) (by omega) (by decide) ?_
    rotate_left
    rw [h p k hp hk]
    refine pw_mmax 42 rfl dX8_mostLeft_39 mX8_65 (Nat.le_of_ble_eq_true rfl) ?_
    rotate_left
    rw [nI_max (by omega) (by omega)]
    refine pw_istore_n 43 rfl dX8_mostLeft_42 (by decide) ?_
    refine pw_iincN 46 rfl dX8_mostLeft_43 (by decide) rfl ?_
    refine pw_goto (tgt := 4) dX8_mostLeft_46 rfl ?_
    rotate_left
    exact ih _
def bpI (g : Nat → Nat) (A k : Nat) : Int32 := if k = 0 then -2 else nI (evp A g k).2
def lkG (sw : List (Nat × Nat)) (p : Nat) : Nat := mxf (fun s => cntP (fun L => okL sw L && decide (sb L p = s)) 80) 4
theorem cnt_and' {P Q : Nat → Bool} : ∀ k, cntP (fun i => P i && Q i) k ≤ cntP P k := fun k => cnt_and k
theorem lkG_le (sw : List (Nat × Nat)) (p : Nat) : lkG sw p ≤ cntP (okL sw) 80 := mxf_le (fun _ _ => cnt_and 80)
set_option maxRecDepth 100000 in
set_option maxHeartbeats 2000000 in
theorem x_bestPace {d : Nat} {I : pI} {J : pJ} {sw : List (Nat × Nat)} {rw : List Int64} (hG : XG I sw) (hR : XN I J rw) : PC SX (d + 4) yX8_bestPace cX8_bestPace 5 (some .int) [.ref 64] (I) (J) (RX) (fun r' I' J' R' => r' = some (.int (if cntP (okL sw) 80 = 0 then -2 else bpI (lkG sw) (cntP (okL sw) 80 + 1) 10)) ∧ XN I' J' (if cntP (okL sw) 80 = 0 then rw else [lI (evp (cntP (okL sw) 80 + 1) (lkG sw) 10).1]) ∧ XG I' sw ∧ (∀ a, a ≠ 19 → a ≠ 64 → a ≠ 66 → I' a = I a) ∧ R' = RX) := by
  refine PC.of [some (.ref 64), none, none, none, none] rfl rfl (Nat.le_of_ble_eq_true rfl) ?_
  have hcl := cntP_le (okL sw) 80
  refine pw_aload_n 1 rfl dX8_bestPace_0 rfl ?_
  refine pw_callV (as := []) 4 rfl dX8_bestPace_1 mX8_42 vX8_findLaws (x_findLaws (d := d) hG) (by first | rfl | assumption | exact rowS hh | exact mtS hm | exact ruS hr | exact mtA1 hm | exact mtA2 hm | exact mtA3 hm | exact mtA4 hm | exact mtA5 hm | exact mtA6 hm | exact mtA7 hm | exact ruA1 hr | exact ruA2 hr | exact ruA3 hr) rfl (by decide) ⟨rfl, by decide, by decide, show (parseMethodDescriptor yX8_findLaws.desc).map (fun d => d.parameters.length) = some 0 by decide +kernel⟩ (by omega) (by decide) (Nat.le_of_ble_eq_true rfl) rfl (fun r1 I1 J1 R1 c1 => ?_)
  obtain ⟨rfl, g, rfl, rfl⟩ := c1
  refine pw_aload_n 5 rfl dX8_bestPace_4 rfl ?_
  refine pw_getI 8 rfl dX8_bestPace_5 fX8_22 (by first | rfl | assumption | exact rowS hh | exact mtS hm | exact ruS hr | exact mtA1 hm | exact mtA2 hm | exact mtA3 hm | exact mtA4 hm | exact mtA5 hm | exact mtA6 hm | exact mtA7 hm | exact ruA1 hr | exact ruA2 hr | exact ruA3 hr) rfl ?_
  rotate_left
  obtain ⟨g1, g2, g3, g4, g5⟩ := id g
  have hG' : XG I1 sw := XG_fr hG g5 (g4 65 (by omega) (by omega))
  have hR' : XN I1 J rw := XN_fr hR (g4 19 (by omega) (by omega))
  have hlk := lkG_le sw
  rw [g1]
  by_cases h0 : cntP (okL sw) 80 = 0
  · rw [if_pos h0, if_pos h0]
    refine pw_if_ne (tgt := 14) 11 rfl dX8_bestPace_8 rfl (fun h8 => absurd (by rw [h0]; rfl) h8) (fun h8 => ?_)
    refine pw_bipush (v := -2) 13 rfl dX8_bestPace_11 rfl ?_
    refine pw_iret dX8_bestPace_13 rfl ?_
    rotate_left
    exact ⟨rfl, hR', hG', fun a h1 h2 h3 => g4 a h2 h3, rfl⟩
  · rw [if_neg h0, if_neg h0]
    refine pw_if_ne (tgt := 14) 11 rfl dX8_bestPace_8 rfl (fun h8 => ?_) (fun h8 => absurd h8 (nI_ne0 (by omega) (by omega)))
    refine pw_bipush (v := -2) 16 rfl dX8_bestPace_14 rfl ?_
    refine pw_istore_n 17 rfl dX8_bestPace_16 (by decide) ?_
    refine pw_aload_n 18 rfl dX8_bestPace_17 rfl ?_
    refine pw_getI 21 rfl dX8_bestPace_18 fX8_22 (by first | rfl | assumption | exact rowS hh | exact mtS hm | exact ruS hr | exact mtA1 hm | exact mtA2 hm | exact mtA3 hm | exact mtA4 hm | exact mtA5 hm | exact mtA6 hm | exact mtA7 hm | exact ruA1 hr | exact ruA2 hr | exact ruA3 hr) rfl ?_
    rotate_left
    rw [g1]
    refine pw_iconst (v := nI 1) 22 rfl dX8_bestPace_21 rfl ?_
    first | refine pw_iaddN 23 rfl dX8_bestPace_22 ?_ | refine pw_iadd 23 rfl dX8_bestPace_22 ?_
    refine pw_istore_n 24 rfl dX8_bestPace_23 (by decide) ?_
    refine pw_iconst (v := nI 0) 25 rfl dX8_bestPace_24 rfl ?_
    refine pw_istore_n 26 rfl dX8_bestPace_25 (by decide) ?_
    rotate_left
    generalize hA : cntP (okL sw) 80 = A at hcl h0 hlk
    have hel := evp_le (A + 1) (lkG sw)
    have L := nat_loop 10 (fun k => ∀ (x4 : Option Value), PW SX yX8_bestPace.cls cX8_bestPace 5 (d + 4) 26 [some (.ref 64), some (.int (bpI (lkG sw) (A + 1) k)), some (.int (nI (evp (A + 1) (lkG sw) k).1)), some (.int (nI k)), x4] [] I1 J RX (rX cX8_bestPace (some .int) (fun r' I' J' R' => r' = some (.int (bpI (lkG sw) (A + 1) 10)) ∧ XN I' J' [lI (evp (A + 1) (lkG sw) 10).1] ∧ XG I' sw ∧ (∀ a, a ≠ 19 → a ≠ 64 → a ≠ 66 → I' a = I a) ∧ R' = RX))) ?_ ?_
    · exact L _
    · intro x4
      refine pw_iload_n 27 rfl dX8_bestPace_26 rfl ?_
      refine pw_bipush (v := nI 9) 29 rfl dX8_bestPace_27 rfl ?_
      refine pw_icmp_gt (tgt := 56) 32 rfl dX8_bestPace_29 rfl (fun h29 => ?_) (fun h29 => absurd (by (simp (disch := omega) only [nI_leI, nI_ltI, nI_eq, show (0 : Int32) = nI 0 from rfl, not_true_eq_false, not_false_eq_true] <;> omega)) h29)
      refine pw_aload_n 57 rfl dX8_bestPace_56 rfl ?_
      refine pw_getR 60 rfl dX8_bestPace_57 fX8_34 (by first | rfl | assumption | exact rowS hh | exact mtS hm | exact ruS hr | exact mtA1 hm | exact mtA2 hm | exact mtA3 hm | exact mtA4 hm | exact mtA5 hm | exact mtA6 hm | exact mtA7 hm | exact ruA1 hr | exact ruA2 hr | exact ruA3 hr) rfl (by first | rfl | assumption | exact mtR0 hm | exact mtR1 hm | exact mtR2 hm | exact mtR3 hm | exact mtR4 hm | exact mtR5 hm | exact mtR6 hm | exact ruR0 hr | exact ruR1 hr | exact ruR3 hr) ?_
      refine pw_iload_n 61 rfl dX8_bestPace_60 rfl ?_
      refine pw_i2l 62 rfl dX8_bestPace_61 ?_
      refine pw_callV (as := [_]) 65 rfl dX8_bestPace_62 mX8_62 vX2_tellOne (x_tellOne (d := d + 2) _) (by first | rfl | assumption | exact rowS hh | exact mtS hm | exact ruS hr | exact mtA1 hm | exact mtA2 hm | exact mtA3 hm | exact mtA4 hm | exact mtA5 hm | exact mtA6 hm | exact mtA7 hm | exact ruA1 hr | exact ruA2 hr | exact ruA3 hr) rfl (by decide) ⟨rfl, by decide, by decide, show (parseMethodDescriptor yX2_tellOne.desc).map (fun d => d.parameters.length) = some 1 by decide +kernel⟩ (by omega) (by decide) (Nat.le_of_ble_eq_true rfl) rfl (fun r62 I62 J62 R62 c62 => ?_)
      obtain ⟨rfl, b1, b2, rfl⟩ := c62
      rotate_left
      refine pw_iload_n 66 rfl dX8_bestPace_65 rfl ?_
      refine pw_iret dX8_bestPace_66 rfl ?_
      rotate_left
      exact ⟨rfl, b1, XG_fr hG' (by rw [b2 64 (by omega)]) (b2 65 (by omega)), fun a h1 h2 h3 => by rw [b2 a h1, g4 a h2 h3], rfl⟩
    · intro k hk ih x4
      have h1 := hel k
      have h2 := hlk k
      refine pw_iload_n 27 rfl dX8_bestPace_26 rfl ?_
      refine pw_bipush (v := nI 9) 29 rfl dX8_bestPace_27 rfl ?_
      refine pw_icmp_gt (tgt := 56) 32 rfl dX8_bestPace_29 rfl (fun h29 => absurd h29 (by (simp (disch := omega) only [nI_leI, nI_ltI, nI_eq, show (0 : Int32) = nI 0 from rfl, not_true_eq_false, not_false_eq_true] <;> omega))) (fun h29 => ?_)
      refine pw_aload_n 33 rfl dX8_bestPace_32 rfl ?_
      refine pw_iload_n 34 rfl dX8_bestPace_33 rfl ?_
      refine pw_callVP (as := [_]) 37 rfl dX8_bestPace_34 mX8_58 vX8_mostLeft (x_mostLeft (d := d + 2) (ok := okL sw) hk g3) (by first | rfl | assumption | exact rowS hh | exact mtS hm | exact ruS hr | exact mtA1 hm | exact mtA2 hm | exact mtA3 hm | exact mtA4 hm | exact mtA5 hm | exact mtA6 hm | exact mtA7 hm | exact ruA1 hr | exact ruA2 hr | exact ruA3 hr) rfl (by decide) ⟨rfl, by decide, by decide, show (parseMethodDescriptor yX8_mostLeft.desc).map (fun d => d.parameters.length) = some 1 by decide +kernel⟩ (by omega) (by decide) (Nat.le_of_ble_eq_true rfl) rfl ?_
      refine pw_istore 39 rfl dX8_bestPace_37 (by decide) ?_
      rotate_left
      show PW SX yX8_bestPace.cls cX8_bestPace 5 (d + 4) 39 [some (.ref 64), some (.int (bpI (lkG sw) (A + 1) k)), some (.int (nI (evp (A + 1) (lkG sw) k).1)), some (.int (nI k)), some (.int (nI (lkG sw k)))] [] I1 J RX (rX cX8_bestPace (some .int) (fun r' I' J' R' => r' = some (.int (bpI (lkG sw) (A + 1) 10)) ∧ XN I' J' [lI (evp (A + 1) (lkG sw) 10).1] ∧ XG I' sw ∧ (∀ a, a ≠ 19 → a ≠ 64 → a ≠ 66 → I' a = I a) ∧ R' = RX))
      by_cases hc : lkG sw k < (evp (A + 1) (lkG sw) k).1
      · have e1 : evp (A + 1) (lkG sw) (k + 1) = (lkG sw k, k) := if_pos hc
        have e2 : bpI (lkG sw) (A + 1) (k + 1) = nI k := by rw [bpI, if_neg (by omega), e1]
        rw [e1, e2] at ih
        refine pw_iload 41 rfl dX8_bestPace_39 rfl ?_
        refine pw_iload_n 42 rfl dX8_bestPace_41 rfl ?_
        refine pw_icmp_ge (tgt := 50) 45 rfl dX8_bestPace_42 rfl (fun h42 => absurd h42 (by (simp (disch := omega) only [nI_leI, nI_ltI, nI_eq, show (0 : Int32) = nI 0 from rfl, not_true_eq_false, not_false_eq_true] <;> omega))) (fun h42 => ?_)
        refine pw_iload 47 rfl dX8_bestPace_45 rfl ?_
        refine pw_istore_n 48 rfl dX8_bestPace_47 (by decide) ?_
        refine pw_iload_n 49 rfl dX8_bestPace_48 rfl ?_
        refine pw_istore_n 50 rfl dX8_bestPace_49 (by decide) ?_
        refine pw_iincN 53 rfl dX8_bestPace_50 (by decide) rfl ?_
        refine pw_goto (tgt := 26) dX8_bestPace_53 rfl ?_
        rotate_left
        exact ih _
      · have e1 : evp (A + 1) (lkG sw) (k + 1) = evp (A + 1) (lkG sw) k := if_neg hc
        have e2 : bpI (lkG sw) (A + 1) (k + 1) = bpI (lkG sw) (A + 1) k := by
          by_cases z : k = 0
          · exfalso
            apply hc
            subst z
            show lkG sw 0 < A + 1
            have := hlk 0
            omega
          · rw [bpI, bpI, if_neg (by omega), if_neg z, e1]
        rw [e1, e2] at ih
        refine pw_iload 41 rfl dX8_bestPace_39 rfl ?_
        refine pw_iload_n 42 rfl dX8_bestPace_41 rfl ?_
        refine pw_icmp_ge (tgt := 50) 45 rfl dX8_bestPace_42 rfl (fun h42 => ?_) (fun h42 => absurd (by (simp (disch := omega) only [nI_leI, nI_ltI, nI_eq, show (0 : Int32) = nI 0 from rfl, not_true_eq_false, not_false_eq_true] <;> omega)) h42)
        refine pw_iincN 53 rfl dX8_bestPace_50 (by decide) rfl ?_
        refine pw_goto (tgt := 26) dX8_bestPace_53 rfl ?_
        rotate_left
        exact ih _
