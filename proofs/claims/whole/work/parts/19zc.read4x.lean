theorem w257 {w : Nat} (h : w = 40 ∨ w = 256 ∨ isOp w) : w < 257 := by
  rcases h with rfl | rfl | rfl | rfl | rfl | rfl | rfl | rfl | rfl <;> decide
theorem isDg_b {c : Nat} (h : isDg c = true) : 48 ≤ c ∧ c ≤ 57 := by simp [isDg] at h; exact h
theorem XQ_thing {I : pI} {cd wt : List Nat} {dp dg g : Nat} {cm : Nat → Bool} (h : XQ I (cd, wt, dp, cm, true, dg)) : XQ (uI (uI I 13 8 (nI g)) 13 7 (nI 0)) (cd, wt, dp, cm, false, g) := by
  obtain ⟨a1, a2, a3, a4, a5, a6, a7, a8⟩ := h
  refine ⟨?_, ?_, ?_, ?_, uI_eq _ _ _ _, ?_, fun j c hj => ?_, fun j c hj => ?_⟩
  · rw [uI_ne (by omega), uI_ne (by omega)]; exact a1
  · rw [uI_ne (by omega), uI_ne (by omega)]; exact a2
  · rw [uI_ne (by omega), uI_ne (by omega)]; exact a3
  · rw [uI_ne (by omega), uI_ne (by omega)]; exact a4
  · rw [uI_ne (by omega), uI_eq]
  · rw [uI_ne (by omega), uI_ne (by omega)]; exact a7 j c hj
  · rw [uI_ne (by omega), uI_ne (by omega)]; exact a8 j c hj
set_option maxRecDepth 100000 in
set_option maxHeartbeats 2000000 in
theorem x_takesThing {d c p : Nat} {cd wt : List Nat} {dp dg : Nat} {cm : Nat → Bool} {I : pI} {J : pJ} (hQ : XQ I (cd, wt, dp, cm, true, dg)) (hW : WQ p (cd, wt, dp, cm, true, dg)) (hp : p < 40) (hc : c < 256) : PC SX (d + 3) yX6_takesThing cX6_takesThing 2 (some .boolean) [.ref 13, .int (nI c)] (I) (J) (RX) (tkP I J (mSp (cd, wt, dp, cm, true, dg) c)) := by
  refine PC.of [some (.ref 13), some (.int (nI c))] rfl rfl (Nat.le_of_ble_eq_true rfl) ?_
  obtain ⟨w1, w2, w3, w4, w5, w6⟩ := id hW
  simp only at w1 w2 w3 w4 w5 w6
  have e0 : mSp (cd, wt, dp, cm, true, dg) c = (if c = 45 then some (cd, 256 :: wt, dp, cm, true, dg)
      else if c = 40 then (if 4 ≤ dp then none else some (cd, 40 :: wt, dp + 1, fun i => if i = dp + 1 then false else cm i, true, dg))
      else if isDg c = true then some (cd ++ [c - 48], wt, dp, cm, false, 1)
      else if letB c = true then some (cd ++ [1000 + c], wt, dp, cm, false, 0) else none) := by rw [mSp, if_pos rfl]
  rw [e0]
  by_cases e45 : c = 45
  · subst e45
    rw [if_pos rfl]
    refine pw_iload_n 1 rfl dX6_takesThing_0 rfl ?_
    refine pw_bipush (v := nI 45) 3 rfl dX6_takesThing_1 rfl ?_
    refine pw_icmp_ne (tgt := 15) 6 rfl dX6_takesThing_3 rfl (fun h3 => absurd rfl h3) (fun h3 => ?_)
    refine pw_aload_n 7 rfl dX6_takesThing_6 rfl ?_
    refine pw_sipush (v := nI 256) 10 rfl dX6_takesThing_7 rfl ?_
    refine pw_callV (as := [_]) 13 rfl dX6_takesThing_10 mX6_93 vX6_hold (x_hold (d := d + 2) (k := wt.length) (v := nI 256) hQ.2.1 (by omega)) (by first | rfl | assumption | exact rowS hh | exact mtS hm | exact ruS hr | exact mtA1 hm | exact mtA2 hm | exact mtA3 hm | exact mtA4 hm | exact mtA5 hm | exact mtA6 hm | exact mtA7 hm | exact ruA1 hr | exact ruA2 hr | exact ruA3 hr) rfl (by decide) ⟨rfl, by decide, by decide, show (parseMethodDescriptor yX6_hold.desc).map (fun d => d.parameters.length) = some 1 by decide +kernel⟩ (by omega) (by decide) (Nat.le_of_ble_eq_true rfl) rfl (fun r10 I10 J10 R10 c10 => ?_)
    obtain ⟨rfl, rfl, rfl, rfl⟩ := c10
    refine pw_iconst (v := nI 1) 14 rfl dX6_takesThing_13 rfl ?_
    refine pw_iret dX6_takesThing_14 rfl ?_
    rotate_left
    exact ⟨⟨rfl, XQ_hold hQ⟩, fR_hold, rfl, rfl⟩
  · rw [if_neg e45]
    by_cases e40 : c = 40
    · subst e40
      rw [if_pos rfl]
      refine pw_iload_n 1 rfl dX6_takesThing_0 rfl ?_
      refine pw_bipush (v := nI 45) 3 rfl dX6_takesThing_1 rfl ?_
      refine pw_icmp_ne (tgt := 15) 6 rfl dX6_takesThing_3 rfl (fun h3 => ?_) (fun h3 => absurd h3 (by decide))
      refine pw_iload_n 16 rfl dX6_takesThing_15 rfl ?_
      refine pw_bipush (v := nI 40) 18 rfl dX6_takesThing_16 rfl ?_
      refine pw_icmp_ne (tgt := 26) 21 rfl dX6_takesThing_18 rfl (fun h18 => absurd rfl h18) (fun h18 => ?_)
      refine pw_aload_n 22 rfl dX6_takesThing_21 rfl ?_
      refine pw_callV (as := []) 25 rfl dX6_takesThing_22 mX6_96 vX6_opens (x_opens (d := d + 1) hQ (by omega) w2) (by first | rfl | assumption | exact rowS hh | exact mtS hm | exact ruS hr | exact mtA1 hm | exact mtA2 hm | exact mtA3 hm | exact mtA4 hm | exact mtA5 hm | exact mtA6 hm | exact mtA7 hm | exact ruA1 hr | exact ruA2 hr | exact ruA3 hr) rfl (by decide) ⟨rfl, by decide, by decide, show (parseMethodDescriptor yX6_opens.desc).map (fun d => d.parameters.length) = some 0 by decide +kernel⟩ (by omega) (by decide) (Nat.le_of_ble_eq_true rfl) rfl (fun r22 I22 J22 R22 c22 => ?_)
      rotate_left
      have hn : ∃ v : Int32, r22 = some (.int v) ∧ narrow .boolean (.int v) = .int v := by
        revert c22
        by_cases h4 : 4 ≤ dp
        · rw [if_pos h4]; rintro ⟨rfl, -⟩; exact ⟨_, rfl, rfl⟩
        · rw [if_neg h4]; rintro ⟨⟨rfl, -⟩, -⟩; exact ⟨_, rfl, rfl⟩
      obtain ⟨v, rfl, hv⟩ := hn
      refine pw_iret dX6_takesThing_25 hv ?_
      rotate_left
      exact c22
    · rw [if_neg e40]
      by_cases hd : isDg c = true
      · rw [if_pos hd]
        have hb := isDg_b hd
        have hv : nI (if isDg c = true then 1 else 0) = nI 1 := by rw [if_pos hd]
        refine pw_iload_n 1 rfl dX6_takesThing_0 rfl ?_
        refine pw_bipush (v := nI 45) 3 rfl dX6_takesThing_1 rfl ?_
        refine pw_icmp_ne (tgt := 15) 6 rfl dX6_takesThing_3 rfl (fun h3 => ?_) (fun h3 => absurd h3 (by (simp (disch := omega) only [nI_leI, nI_ltI, nI_eq, show (0 : Int32) = nI 0 from rfl, not_true_eq_false, not_false_eq_true] <;> omega)))
        refine pw_iload_n 16 rfl dX6_takesThing_15 rfl ?_
        refine pw_bipush (v := nI 40) 18 rfl dX6_takesThing_16 rfl ?_
        refine pw_icmp_ne (tgt := 26) 21 rfl dX6_takesThing_18 rfl (fun h18 => ?_) (fun h18 => absurd h18 (by (simp (disch := omega) only [nI_leI, nI_ltI, nI_eq, show (0 : Int32) = nI 0 from rfl, not_true_eq_false, not_false_eq_true] <;> omega)))
        refine pw_iload_n 27 rfl dX6_takesThing_26 rfl ?_
        refine pw_callSP (as := [_]) 30 rfl dX6_takesThing_27 mX6_100 sX10_isDigit (x_isDigit (d := d + 2) (show c < 65536 by omega)) ⟨rfl, by decide, by decide, show (parseMethodDescriptor yX10_isDigit.desc).map (fun d => d.parameters.length) = some 1 by decide +kernel⟩ (by omega) (by decide) (Nat.le_of_ble_eq_true rfl) rfl ?_
        refine pw_if_eq (tgt := 49) 33 rfl dX6_takesThing_30 rfl (fun h30 => absurd h30 (by rw [hv]; decide)) (fun h30 => ?_)
        refine pw_aload_n 34 rfl dX6_takesThing_33 rfl ?_
        refine pw_iload_n 35 rfl dX6_takesThing_34 rfl ?_
        refine pw_bipush (v := nI 48) 37 rfl dX6_takesThing_35 rfl ?_
        refine pw_isubN 38 rfl dX6_takesThing_37 (by omega) ?_
        rotate_left
        refine pw_callV (as := [_]) 41 rfl dX6_takesThing_38 mX6_44 vX6_addNumber (x_addNumber (d := d + 2) (k := cd.length) (v := nI (c - 48)) rfl rfl rfl (by decide) hQ.1 (by omega)) (by first | rfl | assumption | exact rowS hh | exact mtS hm | exact ruS hr | exact mtA1 hm | exact mtA2 hm | exact mtA3 hm | exact mtA4 hm | exact mtA5 hm | exact mtA6 hm | exact mtA7 hm | exact ruA1 hr | exact ruA2 hr | exact ruA3 hr) rfl (by decide) ⟨rfl, by decide, by decide, show (parseMethodDescriptor yX6_addNumber.desc).map (fun d => d.parameters.length) = some 1 by decide +kernel⟩ (by omega) (by decide) (Nat.le_of_ble_eq_true rfl) rfl (fun r38 I38 J38 R38 c38 => ?_)
        obtain ⟨rfl, rfl, rfl, rfl⟩ := c38
        refine pw_aload_n 42 rfl dX6_takesThing_41 rfl ?_
        refine pw_iconst (v := nI 1) 43 rfl dX6_takesThing_42 rfl ?_
        refine pw_putI 46 rfl dX6_takesThing_43 fX6_38 w6_8 (by first | rfl | assumption | exact rowS hh | exact mtS hm | exact ruS hr | exact mtA1 hm | exact mtA2 hm | exact mtA3 hm | exact mtA4 hm | exact mtA5 hm | exact mtA6 hm | exact mtA7 hm | exact ruA1 hr | exact ruA2 hr | exact ruA3 hr) rfl rfl rfl ?_
        refine pw_goto (tgt := 71) dX6_takesThing_46 rfl ?_
        refine pw_aload_n 72 rfl dX6_takesThing_71 rfl ?_
        refine pw_iconst (v := nI 0) 73 rfl dX6_takesThing_72 rfl ?_
        refine pw_putI 76 rfl dX6_takesThing_73 fX6_34 w6_7 (by first | rfl | assumption | exact rowS hh | exact mtS hm | exact ruS hr | exact mtA1 hm | exact mtA2 hm | exact mtA3 hm | exact mtA4 hm | exact mtA5 hm | exact mtA6 hm | exact mtA7 hm | exact ruA1 hr | exact ruA2 hr | exact ruA3 hr) rfl rfl rfl ?_
        refine pw_iconst (v := nI 1) 77 rfl dX6_takesThing_76 rfl ?_
        refine pw_iret dX6_takesThing_77 rfl ?_
        rotate_left
        exact ⟨⟨rfl, XQ_thing (XQ_code hQ)⟩, fun a h1 h2 h3 => by rw [uI, if_neg h1, uI, if_neg h1, uI, if_neg h1, uI, if_neg h2], rfl, rfl⟩
      · rw [if_neg hd]
        have hv : nI (if isDg c = true then 1 else 0) = nI 0 := by rw [if_neg hd]
        by_cases hl : letB c = true
        · rw [if_pos hl]
          have hv2 : nI (if letB c = true then 1 else 0) = nI 1 := by rw [if_pos hl]
          refine pw_iload_n 1 rfl dX6_takesThing_0 rfl ?_
          refine pw_bipush (v := nI 45) 3 rfl dX6_takesThing_1 rfl ?_
          refine pw_icmp_ne (tgt := 15) 6 rfl dX6_takesThing_3 rfl (fun h3 => ?_) (fun h3 => absurd h3 (by (simp (disch := omega) only [nI_leI, nI_ltI, nI_eq, show (0 : Int32) = nI 0 from rfl, not_true_eq_false, not_false_eq_true] <;> omega)))
          refine pw_iload_n 16 rfl dX6_takesThing_15 rfl ?_
          refine pw_bipush (v := nI 40) 18 rfl dX6_takesThing_16 rfl ?_
          refine pw_icmp_ne (tgt := 26) 21 rfl dX6_takesThing_18 rfl (fun h18 => ?_) (fun h18 => absurd h18 (by (simp (disch := omega) only [nI_leI, nI_ltI, nI_eq, show (0 : Int32) = nI 0 from rfl, not_true_eq_false, not_false_eq_true] <;> omega)))
          refine pw_iload_n 27 rfl dX6_takesThing_26 rfl ?_
          refine pw_callSP (as := [_]) 30 rfl dX6_takesThing_27 mX6_100 sX10_isDigit (x_isDigit (d := d + 2) (show c < 65536 by omega)) ⟨rfl, by decide, by decide, show (parseMethodDescriptor yX10_isDigit.desc).map (fun d => d.parameters.length) = some 1 by decide +kernel⟩ (by omega) (by decide) (Nat.le_of_ble_eq_true rfl) rfl ?_
          refine pw_if_eq (tgt := 49) 33 rfl dX6_takesThing_30 rfl (fun h30 => ?_) (fun h30 => absurd (by rw [hv]; rfl) h30)
          refine pw_iload_n 50 rfl dX6_takesThing_49 rfl ?_
          refine pw_callSP (as := [_]) 53 rfl dX6_takesThing_50 mX6_57 sX6_isLetter (x_isLetter (d := d + 2) (show c < 2147483648 by omega)) ⟨rfl, by decide, by decide, show (parseMethodDescriptor yX6_isLetter.desc).map (fun d => d.parameters.length) = some 1 by decide +kernel⟩ (by omega) (by decide) (Nat.le_of_ble_eq_true rfl) rfl ?_
          refine pw_if_eq (tgt := 69) 56 rfl dX6_takesThing_53 rfl (fun h53 => absurd h53 (by rw [hv2]; decide)) (fun h53 => ?_)
          refine pw_aload_n 57 rfl dX6_takesThing_56 rfl ?_
          refine pw_iload_n 58 rfl dX6_takesThing_57 rfl ?_
          refine pw_callV (as := [_]) 61 rfl dX6_takesThing_58 mX6_48 vX6_addSign (x_addSign (d := d + 1) (s := c) (k := cd.length) rfl rfl rfl (by decide) hQ.1 (by omega)) (by first | rfl | assumption | exact rowS hh | exact mtS hm | exact ruS hr | exact mtA1 hm | exact mtA2 hm | exact mtA3 hm | exact mtA4 hm | exact mtA5 hm | exact mtA6 hm | exact mtA7 hm | exact ruA1 hr | exact ruA2 hr | exact ruA3 hr) rfl (by decide) ⟨rfl, by decide, by decide, show (parseMethodDescriptor yX6_addSign.desc).map (fun d => d.parameters.length) = some 1 by decide +kernel⟩ (by omega) (by decide) (Nat.le_of_ble_eq_true rfl) rfl (fun r58 I58 J58 R58 c58 => ?_)
          obtain ⟨rfl, rfl, rfl, rfl⟩ := c58
          refine pw_aload_n 62 rfl dX6_takesThing_61 rfl ?_
          refine pw_iconst (v := nI 0) 63 rfl dX6_takesThing_62 rfl ?_
          refine pw_putI 66 rfl dX6_takesThing_63 fX6_38 w6_8 (by first | rfl | assumption | exact rowS hh | exact mtS hm | exact ruS hr | exact mtA1 hm | exact mtA2 hm | exact mtA3 hm | exact mtA4 hm | exact mtA5 hm | exact mtA6 hm | exact mtA7 hm | exact ruA1 hr | exact ruA2 hr | exact ruA3 hr) rfl rfl rfl ?_
          refine pw_goto (tgt := 71) dX6_takesThing_66 rfl ?_
          refine pw_aload_n 72 rfl dX6_takesThing_71 rfl ?_
          refine pw_iconst (v := nI 0) 73 rfl dX6_takesThing_72 rfl ?_
          refine pw_putI 76 rfl dX6_takesThing_73 fX6_34 w6_7 (by first | rfl | assumption | exact rowS hh | exact mtS hm | exact ruS hr | exact mtA1 hm | exact mtA2 hm | exact mtA3 hm | exact mtA4 hm | exact mtA5 hm | exact mtA6 hm | exact mtA7 hm | exact ruA1 hr | exact ruA2 hr | exact ruA3 hr) rfl rfl rfl ?_
          refine pw_iconst (v := nI 1) 77 rfl dX6_takesThing_76 rfl ?_
          refine pw_iret dX6_takesThing_77 rfl ?_
          rotate_left
          exact ⟨⟨rfl, XQ_thing (XQ_code hQ)⟩, fun a h1 h2 h3 => by rw [uI, if_neg h1, uI, if_neg h1, uI, if_neg h1, uI, if_neg h2], rfl, rfl⟩
        · rw [if_neg hl]
          have hv2 : nI (if letB c = true then 1 else 0) = nI 0 := by rw [if_neg hl]
          refine pw_iload_n 1 rfl dX6_takesThing_0 rfl ?_
          refine pw_bipush (v := nI 45) 3 rfl dX6_takesThing_1 rfl ?_
          refine pw_icmp_ne (tgt := 15) 6 rfl dX6_takesThing_3 rfl (fun h3 => ?_) (fun h3 => absurd h3 (by (simp (disch := omega) only [nI_leI, nI_ltI, nI_eq, show (0 : Int32) = nI 0 from rfl, not_true_eq_false, not_false_eq_true] <;> omega)))
          refine pw_iload_n 16 rfl dX6_takesThing_15 rfl ?_
          refine pw_bipush (v := nI 40) 18 rfl dX6_takesThing_16 rfl ?_
          refine pw_icmp_ne (tgt := 26) 21 rfl dX6_takesThing_18 rfl (fun h18 => ?_) (fun h18 => absurd h18 (by (simp (disch := omega) only [nI_leI, nI_ltI, nI_eq, show (0 : Int32) = nI 0 from rfl, not_true_eq_false, not_false_eq_true] <;> omega)))
          refine pw_iload_n 27 rfl dX6_takesThing_26 rfl ?_
          refine pw_callSP (as := [_]) 30 rfl dX6_takesThing_27 mX6_100 sX10_isDigit (x_isDigit (d := d + 2) (show c < 65536 by omega)) ⟨rfl, by decide, by decide, show (parseMethodDescriptor yX10_isDigit.desc).map (fun d => d.parameters.length) = some 1 by decide +kernel⟩ (by omega) (by decide) (Nat.le_of_ble_eq_true rfl) rfl ?_
          refine pw_if_eq (tgt := 49) 33 rfl dX6_takesThing_30 rfl (fun h30 => ?_) (fun h30 => absurd (by rw [hv]; rfl) h30)
          refine pw_iload_n 50 rfl dX6_takesThing_49 rfl ?_
          refine pw_callSP (as := [_]) 53 rfl dX6_takesThing_50 mX6_57 sX6_isLetter (x_isLetter (d := d + 2) (show c < 2147483648 by omega)) ⟨rfl, by decide, by decide, show (parseMethodDescriptor yX6_isLetter.desc).map (fun d => d.parameters.length) = some 1 by decide +kernel⟩ (by omega) (by decide) (Nat.le_of_ble_eq_true rfl) rfl ?_
          refine pw_if_eq (tgt := 69) 56 rfl dX6_takesThing_53 rfl (fun h53 => ?_) (fun h53 => absurd (by rw [hv2]; rfl) h53)
          refine pw_iconst (v := nI 0) 70 rfl dX6_takesThing_69 rfl ?_
          refine pw_iret dX6_takesThing_70 rfl ?_
          rotate_left
          exact ⟨rfl, fR.refl, rfl, rfl⟩
