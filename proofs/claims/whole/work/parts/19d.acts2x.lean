theorem aTurn_q {n q : Nat} {b : Nat → Nat} {w : Int32} (h : qOf n w = some q) : aTurn n b w = if b (7 + q) = 0 then (-2, b) else if b (7 + q) = 1 then (nI 2, bu b (7 + q) 2) else (nI 1, bu b (7 + q) 1) := by unfold aTurn; rw [h]
theorem aTurn_0 {n : Nat} {b : Nat → Nat} {w : Int32} (h : qOf n w = none) : aTurn n b w = (-1, b) := by unfold aTurn; rw [h]
theorem aSet_q {n q : Nat} {b : Nat → Nat} {w : Int32} (h : qOf n w = some q) : aSet n b w = if b (7 + q) = 0 then (nI (onW n (bu b (7 + q) 1)), bu b (7 + q) 1) else (-2, b) := by unfold aSet; rw [h]
theorem aSet_0 {n : Nat} {b : Nat → Nat} {w : Int32} (h : qOf n w = none) : aSet n b w = (-1, b) := by unfold aSet; rw [h]
theorem aWait_q {n q k : Nat} {b : Nat → Nat} {w v : Int32} (h : qOf n w = some q) (hk : nOf v = some k) : aWait n b w v = (nI (min 99 (b (14 + q) + k)), bu b (14 + q) (min 99 (b (14 + q) + k))) := by unfold aWait; rw [h, hk]
theorem aWait_0 {n : Nat} {b : Nat → Nat} {w v : Int32} (h : qOf n w = none) : aWait n b w v = (-1, b) := by unfold aWait; rw [h]
theorem aWait_1 {n : Nat} {b : Nat → Nat} {w v : Int32} (h : nOf v = none) : aWait n b w v = (-1, b) := by unfold aWait; rw [h]; cases qOf n w <;> rfl
theorem aSlip_q {n q k : Nat} {b : Nat → Nat} {w v : Int32} (h : qOf n w = some q) (hk : nOf v = some k) : aSlip n b w v = if b (7 + q) = 0 then (-2, b) else (nI (b q - k), bu (bu b q (b q - k)) (7 + q) 2) := by unfold aSlip; rw [h, hk]
theorem aSlip_0 {n : Nat} {b : Nat → Nat} {w v : Int32} (h : qOf n w = none) : aSlip n b w v = (-1, b) := by unfold aSlip; rw [h]
theorem aSlip_1 {n : Nat} {b : Nat → Nat} {w v : Int32} (h : nOf v = none) : aSlip n b w v = (-1, b) := by unfold aSlip; rw [h]; cases qOf n w <;> rfl
set_option maxRecDepth 100000 in
set_option maxHeartbeats 2000000 in
theorem x_turnRound {m d n : Nat} {pc b : Nat → Nat} (hm : isMt m) {I : pI} {J : pJ} (hM : XM I m n pc b) (hW : WF n pc b) (w : Int32) : PC SX (d + 1) yX1_turnRound cX1_turnRound 2 (some .int) [.ref m, .int w] (I) (J) (RX) (fun r' I' J' R' => r' = some (.int (aTurn n b w).1) ∧ XM I' m n pc (aTurn n b w).2 ∧ WF n pc (aTurn n b w).2 ∧ fM m I I' ∧ J = J' ∧ R' = RX) := by
  refine PC.of [some (.ref m), some (.int w)] rfl rfl (Nat.le_of_ble_eq_true rfl) ?_
  have h7 := hW.1
  rcases pk_ix w (n := n) (by omega) with h | h | ⟨q, hq, rfl⟩
  · rw [aTurn_0 (qOf_no (Or.inl h))]
    refine pw_aload_n 1 rfl dX1_turnRound_0 rfl ?_
    refine pw_iload_n 2 rfl dX1_turnRound_1 rfl ?_
    refine pw_callVP (as := [_]) 5 rfl dX1_turnRound_2 mX1_68 vX1_has (x_has (d := d) hm hM.2.1 h7 _) (by first | rfl | assumption | exact rowS hh | exact mtS hm | exact ruS hr | exact mtA1 hm | exact mtA2 hm | exact mtA3 hm | exact mtA4 hm | exact mtA5 hm | exact mtA6 hm | exact mtA7 hm | exact ruA1 hr | exact ruA2 hr | exact ruA3 hr) rfl (by decide) ⟨rfl, by decide, by decide, show (parseMethodDescriptor yX1_has.desc).map (fun d => d.parameters.length) = some 1 by decide +kernel⟩ (by omega) (by decide) (Nat.le_of_ble_eq_true rfl) rfl ?_
    refine pw_if_ne (tgt := 10) 8 rfl dX1_turnRound_5 rfl (fun h5 => absurd (by rw [hasV_no (Or.inl h)]; rfl) h5) (fun h5 => ?_)
    refine pw_iconst (v := -1) 9 rfl dX1_turnRound_8 rfl ?_
    refine pw_iret dX1_turnRound_9 rfl ?_
    rotate_left
    exact ⟨rfl, hM, hW, fun _ _ => rfl, rfl, rfl⟩
  · rw [aTurn_0 (qOf_no (Or.inr h))]
    refine pw_aload_n 1 rfl dX1_turnRound_0 rfl ?_
    refine pw_iload_n 2 rfl dX1_turnRound_1 rfl ?_
    refine pw_callVP (as := [_]) 5 rfl dX1_turnRound_2 mX1_68 vX1_has (x_has (d := d) hm hM.2.1 h7 _) (by first | rfl | assumption | exact rowS hh | exact mtS hm | exact ruS hr | exact mtA1 hm | exact mtA2 hm | exact mtA3 hm | exact mtA4 hm | exact mtA5 hm | exact mtA6 hm | exact mtA7 hm | exact ruA1 hr | exact ruA2 hr | exact ruA3 hr) rfl (by decide) ⟨rfl, by decide, by decide, show (parseMethodDescriptor yX1_has.desc).map (fun d => d.parameters.length) = some 1 by decide +kernel⟩ (by omega) (by decide) (Nat.le_of_ble_eq_true rfl) rfl ?_
    refine pw_if_ne (tgt := 10) 8 rfl dX1_turnRound_5 rfl (fun h5 => absurd (by rw [hasV_no (Or.inr h)]; rfl) h5) (fun h5 => ?_)
    refine pw_iconst (v := -1) 9 rfl dX1_turnRound_8 rfl ?_
    refine pw_iret dX1_turnRound_9 rfl ?_
    rotate_left
    exact ⟨rfl, hM, hW, fun _ _ => rfl, rfl, rfl⟩
  · have hb := hW.2.2.2.2 q (by omega)
    have e3 := (hM.2.2.2.2.2.2 q (by omega)).2.2.1
    rw [aTurn_q (qOf_y hq h7)]
    by_cases h0 : b (7 + q) = 0
    · rw [if_pos h0]
      refine pw_aload_n 1 rfl dX1_turnRound_0 rfl ?_
      refine pw_iload_n 2 rfl dX1_turnRound_1 rfl ?_
      refine pw_callVP (as := [_]) 5 rfl dX1_turnRound_2 mX1_68 vX1_has (x_has (d := d) hm hM.2.1 h7 _) (by first | rfl | assumption | exact rowS hh | exact mtS hm | exact ruS hr | exact mtA1 hm | exact mtA2 hm | exact mtA3 hm | exact mtA4 hm | exact mtA5 hm | exact mtA6 hm | exact mtA7 hm | exact ruA1 hr | exact ruA2 hr | exact ruA3 hr) rfl (by decide) ⟨rfl, by decide, by decide, show (parseMethodDescriptor yX1_has.desc).map (fun d => d.parameters.length) = some 1 by decide +kernel⟩ (by omega) (by decide) (Nat.le_of_ble_eq_true rfl) rfl ?_
      refine pw_if_ne (tgt := 10) 8 rfl dX1_turnRound_5 rfl (fun h5 => ?_) (fun h5 => absurd h5 (by rw [hasV_y hq h7]; decide))
      refine pw_aload_n 11 rfl dX1_turnRound_10 rfl ?_
      refine pw_getR 14 rfl dX1_turnRound_11 fX1_18 (by first | rfl | assumption | exact rowS hh | exact mtS hm | exact ruS hr | exact mtA1 hm | exact mtA2 hm | exact mtA3 hm | exact mtA4 hm | exact mtA5 hm | exact mtA6 hm | exact mtA7 hm | exact ruA1 hr | exact ruA2 hr | exact ruA3 hr) rfl (by first | rfl | assumption | exact mtR0 hm | exact mtR1 hm | exact mtR2 hm | exact mtR3 hm | exact mtR4 hm | exact mtR5 hm | exact mtR6 hm | exact ruR0 hr | exact ruR1 hr | exact ruR3 hr) ?_
      refine pw_iload_n 15 rfl dX1_turnRound_14 rfl ?_
      refine pw_ialdN 16 rfl dX1_turnRound_15 (by first | rfl | assumption | exact rowS hh | exact mtS hm | exact ruS hr | exact mtA1 hm | exact mtA2 hm | exact mtA3 hm | exact mtA4 hm | exact mtA5 hm | exact mtA6 hm | exact mtA7 hm | exact ruA1 hr | exact ruA2 hr | exact ruA3 hr) (by omega) (by decide) ?_
      refine pw_if_ne (tgt := 22) 19 rfl dX1_turnRound_16 rfl (fun h16 => absurd (by rw [e3, h0]; rfl) h16) (fun h16 => ?_)
      refine pw_bipush (v := -2) 21 rfl dX1_turnRound_19 rfl ?_
      refine pw_iret dX1_turnRound_21 rfl ?_
      rotate_left
      exact ⟨rfl, hM, hW, fun _ _ => rfl, rfl, rfl⟩
    · rw [if_neg h0]
      by_cases h1 : b (7 + q) = 1
      · rw [if_pos h1]
        refine pw_aload_n 1 rfl dX1_turnRound_0 rfl ?_
        refine pw_iload_n 2 rfl dX1_turnRound_1 rfl ?_
        refine pw_callVP (as := [_]) 5 rfl dX1_turnRound_2 mX1_68 vX1_has (x_has (d := d) hm hM.2.1 h7 _) (by first | rfl | assumption | exact rowS hh | exact mtS hm | exact ruS hr | exact mtA1 hm | exact mtA2 hm | exact mtA3 hm | exact mtA4 hm | exact mtA5 hm | exact mtA6 hm | exact mtA7 hm | exact ruA1 hr | exact ruA2 hr | exact ruA3 hr) rfl (by decide) ⟨rfl, by decide, by decide, show (parseMethodDescriptor yX1_has.desc).map (fun d => d.parameters.length) = some 1 by decide +kernel⟩ (by omega) (by decide) (Nat.le_of_ble_eq_true rfl) rfl ?_
        refine pw_if_ne (tgt := 10) 8 rfl dX1_turnRound_5 rfl (fun h5 => ?_) (fun h5 => absurd h5 (by rw [hasV_y hq h7]; decide))
        refine pw_aload_n 11 rfl dX1_turnRound_10 rfl ?_
        refine pw_getR 14 rfl dX1_turnRound_11 fX1_18 (by first | rfl | assumption | exact rowS hh | exact mtS hm | exact ruS hr | exact mtA1 hm | exact mtA2 hm | exact mtA3 hm | exact mtA4 hm | exact mtA5 hm | exact mtA6 hm | exact mtA7 hm | exact ruA1 hr | exact ruA2 hr | exact ruA3 hr) rfl (by first | rfl | assumption | exact mtR0 hm | exact mtR1 hm | exact mtR2 hm | exact mtR3 hm | exact mtR4 hm | exact mtR5 hm | exact mtR6 hm | exact ruR0 hr | exact ruR1 hr | exact ruR3 hr) ?_
        refine pw_iload_n 15 rfl dX1_turnRound_14 rfl ?_
        refine pw_ialdN 16 rfl dX1_turnRound_15 (by first | rfl | assumption | exact rowS hh | exact mtS hm | exact ruS hr | exact mtA1 hm | exact mtA2 hm | exact mtA3 hm | exact mtA4 hm | exact mtA5 hm | exact mtA6 hm | exact mtA7 hm | exact ruA1 hr | exact ruA2 hr | exact ruA3 hr) (by omega) (by decide) ?_
        refine pw_if_ne (tgt := 22) 19 rfl dX1_turnRound_16 rfl (fun h16 => ?_) (fun h16 => absurd h16 (by rw [e3]; exact nI_ne0 (by omega) (by omega)))
        refine pw_aload_n 23 rfl dX1_turnRound_22 rfl ?_
        refine pw_getR 26 rfl dX1_turnRound_23 fX1_18 (by first | rfl | assumption | exact rowS hh | exact mtS hm | exact ruS hr | exact mtA1 hm | exact mtA2 hm | exact mtA3 hm | exact mtA4 hm | exact mtA5 hm | exact mtA6 hm | exact mtA7 hm | exact ruA1 hr | exact ruA2 hr | exact ruA3 hr) rfl (by first | rfl | assumption | exact mtR0 hm | exact mtR1 hm | exact mtR2 hm | exact mtR3 hm | exact mtR4 hm | exact mtR5 hm | exact mtR6 hm | exact ruR0 hr | exact ruR1 hr | exact ruR3 hr) ?_
        refine pw_iload_n 27 rfl dX1_turnRound_26 rfl ?_
        refine pw_aload_n 28 rfl dX1_turnRound_27 rfl ?_
        refine pw_getR 31 rfl dX1_turnRound_28 fX1_18 (by first | rfl | assumption | exact rowS hh | exact mtS hm | exact ruS hr | exact mtA1 hm | exact mtA2 hm | exact mtA3 hm | exact mtA4 hm | exact mtA5 hm | exact mtA6 hm | exact mtA7 hm | exact ruA1 hr | exact ruA2 hr | exact ruA3 hr) rfl (by first | rfl | assumption | exact mtR0 hm | exact mtR1 hm | exact mtR2 hm | exact mtR3 hm | exact mtR4 hm | exact mtR5 hm | exact mtR6 hm | exact ruR0 hr | exact ruR1 hr | exact ruR3 hr) ?_
        refine pw_iload_n 32 rfl dX1_turnRound_31 rfl ?_
        refine pw_ialdN 33 rfl dX1_turnRound_32 (by first | rfl | assumption | exact rowS hh | exact mtS hm | exact ruS hr | exact mtA1 hm | exact mtA2 hm | exact mtA3 hm | exact mtA4 hm | exact mtA5 hm | exact mtA6 hm | exact mtA7 hm | exact ruA1 hr | exact ruA2 hr | exact ruA3 hr) (by omega) (by decide) ?_
        refine pw_iconst (v := nI 1) 34 rfl dX1_turnRound_33 rfl ?_
        refine pw_icmp_ne (tgt := 41) 37 rfl dX1_turnRound_34 rfl (fun h34 => absurd (by rw [e3, h1]) h34) (fun h34 => ?_)
        refine pw_iconst (v := nI 2) 38 rfl dX1_turnRound_37 rfl ?_
        refine pw_goto (tgt := 42) dX1_turnRound_38 rfl ?_
        refine pw_iastN 43 rfl dX1_turnRound_42 (by first | rfl | assumption | exact rowS hh | exact mtS hm | exact ruS hr | exact mtA1 hm | exact mtA2 hm | exact mtA3 hm | exact mtA4 hm | exact mtA5 hm | exact mtA6 hm | exact mtA7 hm | exact ruA1 hr | exact ruA2 hr | exact ruA3 hr) (by omega) (by decide) ?_
        refine pw_aload_n 44 rfl dX1_turnRound_43 rfl ?_
        refine pw_getR 47 rfl dX1_turnRound_44 fX1_18 (by first | rfl | assumption | exact rowS hh | exact mtS hm | exact ruS hr | exact mtA1 hm | exact mtA2 hm | exact mtA3 hm | exact mtA4 hm | exact mtA5 hm | exact mtA6 hm | exact mtA7 hm | exact ruA1 hr | exact ruA2 hr | exact ruA3 hr) rfl (by first | rfl | assumption | exact mtR0 hm | exact mtR1 hm | exact mtR2 hm | exact mtR3 hm | exact mtR4 hm | exact mtR5 hm | exact mtR6 hm | exact ruR0 hr | exact ruR1 hr | exact ruR3 hr) ?_
        refine pw_iload_n 48 rfl dX1_turnRound_47 rfl ?_
        refine pw_ialdN 49 rfl dX1_turnRound_48 (by first | rfl | assumption | exact rowS hh | exact mtS hm | exact ruS hr | exact mtA1 hm | exact mtA2 hm | exact mtA3 hm | exact mtA4 hm | exact mtA5 hm | exact mtA6 hm | exact mtA7 hm | exact ruA1 hr | exact ruA2 hr | exact ruA3 hr) (by omega) (by decide) ?_
        rotate_left
        rw [uI_eq]
        refine pw_iret dX1_turnRound_49 rfl ?_
        rotate_left
        exact ⟨rfl, XM_way hM (by omega), WF_bu hW (by omega), fun a ha => by rw [uI, if_neg (by omega)], rfl, rfl⟩
      · rw [if_neg h1]
        refine pw_aload_n 1 rfl dX1_turnRound_0 rfl ?_
        refine pw_iload_n 2 rfl dX1_turnRound_1 rfl ?_
        refine pw_callVP (as := [_]) 5 rfl dX1_turnRound_2 mX1_68 vX1_has (x_has (d := d) hm hM.2.1 h7 _) (by first | rfl | assumption | exact rowS hh | exact mtS hm | exact ruS hr | exact mtA1 hm | exact mtA2 hm | exact mtA3 hm | exact mtA4 hm | exact mtA5 hm | exact mtA6 hm | exact mtA7 hm | exact ruA1 hr | exact ruA2 hr | exact ruA3 hr) rfl (by decide) ⟨rfl, by decide, by decide, show (parseMethodDescriptor yX1_has.desc).map (fun d => d.parameters.length) = some 1 by decide +kernel⟩ (by omega) (by decide) (Nat.le_of_ble_eq_true rfl) rfl ?_
        refine pw_if_ne (tgt := 10) 8 rfl dX1_turnRound_5 rfl (fun h5 => ?_) (fun h5 => absurd h5 (by rw [hasV_y hq h7]; decide))
        refine pw_aload_n 11 rfl dX1_turnRound_10 rfl ?_
        refine pw_getR 14 rfl dX1_turnRound_11 fX1_18 (by first | rfl | assumption | exact rowS hh | exact mtS hm | exact ruS hr | exact mtA1 hm | exact mtA2 hm | exact mtA3 hm | exact mtA4 hm | exact mtA5 hm | exact mtA6 hm | exact mtA7 hm | exact ruA1 hr | exact ruA2 hr | exact ruA3 hr) rfl (by first | rfl | assumption | exact mtR0 hm | exact mtR1 hm | exact mtR2 hm | exact mtR3 hm | exact mtR4 hm | exact mtR5 hm | exact mtR6 hm | exact ruR0 hr | exact ruR1 hr | exact ruR3 hr) ?_
        refine pw_iload_n 15 rfl dX1_turnRound_14 rfl ?_
        refine pw_ialdN 16 rfl dX1_turnRound_15 (by first | rfl | assumption | exact rowS hh | exact mtS hm | exact ruS hr | exact mtA1 hm | exact mtA2 hm | exact mtA3 hm | exact mtA4 hm | exact mtA5 hm | exact mtA6 hm | exact mtA7 hm | exact ruA1 hr | exact ruA2 hr | exact ruA3 hr) (by omega) (by decide) ?_
        refine pw_if_ne (tgt := 22) 19 rfl dX1_turnRound_16 rfl (fun h16 => ?_) (fun h16 => absurd h16 (by rw [e3]; exact nI_ne0 (by omega) (by omega)))
        refine pw_aload_n 23 rfl dX1_turnRound_22 rfl ?_
        refine pw_getR 26 rfl dX1_turnRound_23 fX1_18 (by first | rfl | assumption | exact rowS hh | exact mtS hm | exact ruS hr | exact mtA1 hm | exact mtA2 hm | exact mtA3 hm | exact mtA4 hm | exact mtA5 hm | exact mtA6 hm | exact mtA7 hm | exact ruA1 hr | exact ruA2 hr | exact ruA3 hr) rfl (by first | rfl | assumption | exact mtR0 hm | exact mtR1 hm | exact mtR2 hm | exact mtR3 hm | exact mtR4 hm | exact mtR5 hm | exact mtR6 hm | exact ruR0 hr | exact ruR1 hr | exact ruR3 hr) ?_
        refine pw_iload_n 27 rfl dX1_turnRound_26 rfl ?_
        refine pw_aload_n 28 rfl dX1_turnRound_27 rfl ?_
        refine pw_getR 31 rfl dX1_turnRound_28 fX1_18 (by first | rfl | assumption | exact rowS hh | exact mtS hm | exact ruS hr | exact mtA1 hm | exact mtA2 hm | exact mtA3 hm | exact mtA4 hm | exact mtA5 hm | exact mtA6 hm | exact mtA7 hm | exact ruA1 hr | exact ruA2 hr | exact ruA3 hr) rfl (by first | rfl | assumption | exact mtR0 hm | exact mtR1 hm | exact mtR2 hm | exact mtR3 hm | exact mtR4 hm | exact mtR5 hm | exact mtR6 hm | exact ruR0 hr | exact ruR1 hr | exact ruR3 hr) ?_
        refine pw_iload_n 32 rfl dX1_turnRound_31 rfl ?_
        refine pw_ialdN 33 rfl dX1_turnRound_32 (by first | rfl | assumption | exact rowS hh | exact mtS hm | exact ruS hr | exact mtA1 hm | exact mtA2 hm | exact mtA3 hm | exact mtA4 hm | exact mtA5 hm | exact mtA6 hm | exact mtA7 hm | exact ruA1 hr | exact ruA2 hr | exact ruA3 hr) (by omega) (by decide) ?_
        refine pw_iconst (v := nI 1) 34 rfl dX1_turnRound_33 rfl ?_
        refine pw_icmp_ne (tgt := 41) 37 rfl dX1_turnRound_34 rfl (fun h34 => ?_) (fun h34 => absurd h34 (by rw [e3, nI_eq (by omega) (by decide)]; exact h1))
        refine pw_iconst (v := nI 1) 42 rfl dX1_turnRound_41 rfl ?_
        refine pw_iastN 43 rfl dX1_turnRound_42 (by first | rfl | assumption | exact rowS hh | exact mtS hm | exact ruS hr | exact mtA1 hm | exact mtA2 hm | exact mtA3 hm | exact mtA4 hm | exact mtA5 hm | exact mtA6 hm | exact mtA7 hm | exact ruA1 hr | exact ruA2 hr | exact ruA3 hr) (by omega) (by decide) ?_
        refine pw_aload_n 44 rfl dX1_turnRound_43 rfl ?_
        refine pw_getR 47 rfl dX1_turnRound_44 fX1_18 (by first | rfl | assumption | exact rowS hh | exact mtS hm | exact ruS hr | exact mtA1 hm | exact mtA2 hm | exact mtA3 hm | exact mtA4 hm | exact mtA5 hm | exact mtA6 hm | exact mtA7 hm | exact ruA1 hr | exact ruA2 hr | exact ruA3 hr) rfl (by first | rfl | assumption | exact mtR0 hm | exact mtR1 hm | exact mtR2 hm | exact mtR3 hm | exact mtR4 hm | exact mtR5 hm | exact mtR6 hm | exact ruR0 hr | exact ruR1 hr | exact ruR3 hr) ?_
        refine pw_iload_n 48 rfl dX1_turnRound_47 rfl ?_
        refine pw_ialdN 49 rfl dX1_turnRound_48 (by first | rfl | assumption | exact rowS hh | exact mtS hm | exact ruS hr | exact mtA1 hm | exact mtA2 hm | exact mtA3 hm | exact mtA4 hm | exact mtA5 hm | exact mtA6 hm | exact mtA7 hm | exact ruA1 hr | exact ruA2 hr | exact ruA3 hr) (by omega) (by decide) ?_
        rotate_left
        rw [uI_eq]
        refine pw_iret dX1_turnRound_49 rfl ?_
        rotate_left
        exact ⟨rfl, XM_way hM (by omega), WF_bu hW (by omega), fun a ha => by rw [uI, if_neg (by omega)], rfl, rfl⟩
set_option maxRecDepth 100000 in
set_option maxHeartbeats 2000000 in
theorem x_waitMore {m d n : Nat} {pc b : Nat → Nat} (hm : isMt m) {I : pI} {J : pJ} (hM : XM I m n pc b) (hW : WF n pc b) (w v : Int32) : PC SX (d + 1) yX1_waitMore cX1_waitMore 3 (some .int) [.ref m, .int w, .int v] (I) (J) (RX) (fun r' I' J' R' => r' = some (.int (aWait n b w v).1) ∧ XM I' m n pc (aWait n b w v).2 ∧ WF n pc (aWait n b w v).2 ∧ fM m I I' ∧ J = J' ∧ R' = RX) := by
  refine PC.of [some (.ref m), some (.int w), some (.int v)] rfl rfl (Nat.le_of_ble_eq_true rfl) ?_
  have h7 := hW.1
  rcases pk_ix w (n := n) (by omega) with h | h | ⟨q, hq, rfl⟩
  · rw [aWait_0 (qOf_no (Or.inl h))]
    refine pw_aload_n 1 rfl dX1_waitMore_0 rfl ?_
    refine pw_iload_n 2 rfl dX1_waitMore_1 rfl ?_
    refine pw_callVP (as := [_]) 5 rfl dX1_waitMore_2 mX1_68 vX1_has (x_has (d := d) hm hM.2.1 h7 _) (by first | rfl | assumption | exact rowS hh | exact mtS hm | exact ruS hr | exact mtA1 hm | exact mtA2 hm | exact mtA3 hm | exact mtA4 hm | exact mtA5 hm | exact mtA6 hm | exact mtA7 hm | exact ruA1 hr | exact ruA2 hr | exact ruA3 hr) rfl (by decide) ⟨rfl, by decide, by decide, show (parseMethodDescriptor yX1_has.desc).map (fun d => d.parameters.length) = some 1 by decide +kernel⟩ (by omega) (by decide) (Nat.le_of_ble_eq_true rfl) rfl ?_
    refine pw_if_eq (tgt := 18) 8 rfl dX1_waitMore_5 rfl (fun h5 => ?_) (fun h5 => absurd (by rw [hasV_no (Or.inl h)]; rfl) h5)
    refine pw_iconst (v := -1) 19 rfl dX1_waitMore_18 rfl ?_
    refine pw_iret dX1_waitMore_19 rfl ?_
    rotate_left
    exact ⟨rfl, hM, hW, fun _ _ => rfl, rfl, rfl⟩
  · rw [aWait_0 (qOf_no (Or.inr h))]
    refine pw_aload_n 1 rfl dX1_waitMore_0 rfl ?_
    refine pw_iload_n 2 rfl dX1_waitMore_1 rfl ?_
    refine pw_callVP (as := [_]) 5 rfl dX1_waitMore_2 mX1_68 vX1_has (x_has (d := d) hm hM.2.1 h7 _) (by first | rfl | assumption | exact rowS hh | exact mtS hm | exact ruS hr | exact mtA1 hm | exact mtA2 hm | exact mtA3 hm | exact mtA4 hm | exact mtA5 hm | exact mtA6 hm | exact mtA7 hm | exact ruA1 hr | exact ruA2 hr | exact ruA3 hr) rfl (by decide) ⟨rfl, by decide, by decide, show (parseMethodDescriptor yX1_has.desc).map (fun d => d.parameters.length) = some 1 by decide +kernel⟩ (by omega) (by decide) (Nat.le_of_ble_eq_true rfl) rfl ?_
    refine pw_if_eq (tgt := 18) 8 rfl dX1_waitMore_5 rfl (fun h5 => ?_) (fun h5 => absurd (by rw [hasV_no (Or.inr h)]; rfl) h5)
    refine pw_iconst (v := -1) 19 rfl dX1_waitMore_18 rfl ?_
    refine pw_iret dX1_waitMore_19 rfl ?_
    rotate_left
    exact ⟨rfl, hM, hW, fun _ _ => rfl, rfl, rfl⟩
  · have hb := hW.2.2.2.2 q (by omega)
    have e4 := (hM.2.2.2.2.2.2 q (by omega)).2.2.2.1
    rcases nOf_cases v with ⟨k, k1, k9, rfl⟩ | ⟨hv, ho⟩
    · rw [aWait_q (qOf_y hq h7) (nOf_y k1 k9)]
      refine pw_aload_n 1 rfl dX1_waitMore_0 rfl ?_
      refine pw_iload_n 2 rfl dX1_waitMore_1 rfl ?_
      refine pw_callVP (as := [_]) 5 rfl dX1_waitMore_2 mX1_68 vX1_has (x_has (d := d) hm hM.2.1 h7 _) (by first | rfl | assumption | exact rowS hh | exact mtS hm | exact ruS hr | exact mtA1 hm | exact mtA2 hm | exact mtA3 hm | exact mtA4 hm | exact mtA5 hm | exact mtA6 hm | exact mtA7 hm | exact ruA1 hr | exact ruA2 hr | exact ruA3 hr) rfl (by decide) ⟨rfl, by decide, by decide, show (parseMethodDescriptor yX1_has.desc).map (fun d => d.parameters.length) = some 1 by decide +kernel⟩ (by omega) (by decide) (Nat.le_of_ble_eq_true rfl) rfl ?_
      refine pw_if_eq (tgt := 18) 8 rfl dX1_waitMore_5 rfl (fun h5 => absurd h5 (by rw [hasV_y hq h7]; decide)) (fun h5 => ?_)
      refine pw_iload_n 9 rfl dX1_waitMore_8 rfl ?_
      refine pw_iconst (v := nI 1) 10 rfl dX1_waitMore_9 rfl ?_
      refine pw_bipush (v := nI 9) 12 rfl dX1_waitMore_10 rfl ?_
      refine pw_callNP (as := [_, _, _]) 15 rfl dX1_waitMore_12 nX1_60 sX11_outside (x_outside (d := d) _ _ _) ⟨rfl, by decide, by decide, show (parseMethodDescriptor yX11_outside.desc).map (fun d => d.parameters.length) = some 3 by decide +kernel⟩ (by omega) (by decide) (Nat.le_of_ble_eq_true rfl) rfl ?_
      refine pw_if_eq (tgt := 20) 18 rfl dX1_waitMore_15 rfl (fun h15 => ?_) (fun h15 => absurd (by rw [outV_nI k1 k9 (by decide)]; rfl) h15)
      refine pw_aload_n 21 rfl dX1_waitMore_20 rfl ?_
      refine pw_getR 24 rfl dX1_waitMore_21 fX1_21 (by first | rfl | assumption | exact rowS hh | exact mtS hm | exact ruS hr | exact mtA1 hm | exact mtA2 hm | exact mtA3 hm | exact mtA4 hm | exact mtA5 hm | exact mtA6 hm | exact mtA7 hm | exact ruA1 hr | exact ruA2 hr | exact ruA3 hr) rfl (by first | rfl | assumption | exact mtR0 hm | exact mtR1 hm | exact mtR2 hm | exact mtR3 hm | exact mtR4 hm | exact mtR5 hm | exact mtR6 hm | exact ruR0 hr | exact ruR1 hr | exact ruR3 hr) ?_
      refine pw_iload_n 25 rfl dX1_waitMore_24 rfl ?_
      refine pw_bipush (v := nI 99) 27 rfl dX1_waitMore_25 rfl ?_
      refine pw_aload_n 28 rfl dX1_waitMore_27 rfl ?_
      refine pw_getR 31 rfl dX1_waitMore_28 fX1_21 (by first | rfl | assumption | exact rowS hh | exact mtS hm | exact ruS hr | exact mtA1 hm | exact mtA2 hm | exact mtA3 hm | exact mtA4 hm | exact mtA5 hm | exact mtA6 hm | exact mtA7 hm | exact ruA1 hr | exact ruA2 hr | exact ruA3 hr) rfl (by first | rfl | assumption | exact mtR0 hm | exact mtR1 hm | exact mtR2 hm | exact mtR3 hm | exact mtR4 hm | exact mtR5 hm | exact mtR6 hm | exact ruR0 hr | exact ruR1 hr | exact ruR3 hr) ?_
      refine pw_iload_n 32 rfl dX1_waitMore_31 rfl ?_
      refine pw_ialdN 33 rfl dX1_waitMore_32 (by first | rfl | assumption | exact rowS hh | exact mtS hm | exact ruS hr | exact mtA1 hm | exact mtA2 hm | exact mtA3 hm | exact mtA4 hm | exact mtA5 hm | exact mtA6 hm | exact mtA7 hm | exact ruA1 hr | exact ruA2 hr | exact ruA3 hr) (by omega) (by decide) ?_
      rotate_left
      rw [e4]
      refine pw_iload_n 34 rfl dX1_waitMore_33 rfl ?_
      first | refine pw_iaddN 35 rfl dX1_waitMore_34 ?_ | refine pw_iadd 35 rfl dX1_waitMore_34 ?_
      refine pw_mmin 38 rfl dX1_waitMore_35 mX1_75 (Nat.le_of_ble_eq_true rfl) ?_
      rotate_left
      rw [nI_min (by decide) (by omega)]
      refine pw_iastN 39 rfl dX1_waitMore_38 (by first | rfl | assumption | exact rowS hh | exact mtS hm | exact ruS hr | exact mtA1 hm | exact mtA2 hm | exact mtA3 hm | exact mtA4 hm | exact mtA5 hm | exact mtA6 hm | exact mtA7 hm | exact ruA1 hr | exact ruA2 hr | exact ruA3 hr) (by omega) (by decide) ?_
      refine pw_aload_n 40 rfl dX1_waitMore_39 rfl ?_
      refine pw_getR 43 rfl dX1_waitMore_40 fX1_21 (by first | rfl | assumption | exact rowS hh | exact mtS hm | exact ruS hr | exact mtA1 hm | exact mtA2 hm | exact mtA3 hm | exact mtA4 hm | exact mtA5 hm | exact mtA6 hm | exact mtA7 hm | exact ruA1 hr | exact ruA2 hr | exact ruA3 hr) rfl (by first | rfl | assumption | exact mtR0 hm | exact mtR1 hm | exact mtR2 hm | exact mtR3 hm | exact mtR4 hm | exact mtR5 hm | exact mtR6 hm | exact ruR0 hr | exact ruR1 hr | exact ruR3 hr) ?_
      refine pw_iload_n 44 rfl dX1_waitMore_43 rfl ?_
      refine pw_ialdN 45 rfl dX1_waitMore_44 (by first | rfl | assumption | exact rowS hh | exact mtS hm | exact ruS hr | exact mtA1 hm | exact mtA2 hm | exact mtA3 hm | exact mtA4 hm | exact mtA5 hm | exact mtA6 hm | exact mtA7 hm | exact ruA1 hr | exact ruA2 hr | exact ruA3 hr) (by omega) (by decide) ?_
      rotate_left
      rw [uI_eq]
      refine pw_iret dX1_waitMore_45 rfl ?_
      rotate_left
      exact ⟨rfl, XM_wait hM (by omega), WF_bu hW (by omega), fun a ha => by rw [uI, if_neg (by omega)], rfl, rfl⟩
    · rw [aWait_1 hv]
      refine pw_aload_n 1 rfl dX1_waitMore_0 rfl ?_
      refine pw_iload_n 2 rfl dX1_waitMore_1 rfl ?_
      refine pw_callVP (as := [_]) 5 rfl dX1_waitMore_2 mX1_68 vX1_has (x_has (d := d) hm hM.2.1 h7 _) (by first | rfl | assumption | exact rowS hh | exact mtS hm | exact ruS hr | exact mtA1 hm | exact mtA2 hm | exact mtA3 hm | exact mtA4 hm | exact mtA5 hm | exact mtA6 hm | exact mtA7 hm | exact ruA1 hr | exact ruA2 hr | exact ruA3 hr) rfl (by decide) ⟨rfl, by decide, by decide, show (parseMethodDescriptor yX1_has.desc).map (fun d => d.parameters.length) = some 1 by decide +kernel⟩ (by omega) (by decide) (Nat.le_of_ble_eq_true rfl) rfl ?_
      refine pw_if_eq (tgt := 18) 8 rfl dX1_waitMore_5 rfl (fun h5 => absurd h5 (by rw [hasV_y hq h7]; decide)) (fun h5 => ?_)
      refine pw_iload_n 9 rfl dX1_waitMore_8 rfl ?_
      refine pw_iconst (v := nI 1) 10 rfl dX1_waitMore_9 rfl ?_
      refine pw_bipush (v := nI 9) 12 rfl dX1_waitMore_10 rfl ?_
      refine pw_callNP (as := [_, _, _]) 15 rfl dX1_waitMore_12 nX1_60 sX11_outside (x_outside (d := d) _ _ _) ⟨rfl, by decide, by decide, show (parseMethodDescriptor yX11_outside.desc).map (fun d => d.parameters.length) = some 3 by decide +kernel⟩ (by omega) (by decide) (Nat.le_of_ble_eq_true rfl) rfl ?_
      refine pw_if_eq (tgt := 20) 18 rfl dX1_waitMore_15 rfl (fun h15 => absurd h15 (by rw [outV_y ho]; decide)) (fun h15 => ?_)
      refine pw_iconst (v := -1) 19 rfl dX1_waitMore_18 rfl ?_
      refine pw_iret dX1_waitMore_19 rfl ?_
      rotate_left
      exact ⟨rfl, hM, hW, fun _ _ => rfl, rfl, rfl⟩
set_option maxRecDepth 100000 in
set_option maxHeartbeats 2000000 in
theorem x_slipDown {m d n : Nat} {pc b : Nat → Nat} (hm : isMt m) {I : pI} {J : pJ} (hM : XM I m n pc b) (hW : WF n pc b) (w v : Int32) : PC SX (d + 1) yX1_slipDown cX1_slipDown 3 (some .int) [.ref m, .int w, .int v] (I) (J) (RX) (fun r' I' J' R' => r' = some (.int (aSlip n b w v).1) ∧ XM I' m n pc (aSlip n b w v).2 ∧ WF n pc (aSlip n b w v).2 ∧ fM m I I' ∧ J = J' ∧ R' = RX) := by
  refine PC.of [some (.ref m), some (.int w), some (.int v)] rfl rfl (Nat.le_of_ble_eq_true rfl) ?_
  have h7 := hW.1
  rcases pk_ix w (n := n) (by omega) with h | h | ⟨q, hq, rfl⟩
  · rw [aSlip_0 (qOf_no (Or.inl h))]
    refine pw_aload_n 1 rfl dX1_slipDown_0 rfl ?_
    refine pw_iload_n 2 rfl dX1_slipDown_1 rfl ?_
    refine pw_callVP (as := [_]) 5 rfl dX1_slipDown_2 mX1_68 vX1_has (x_has (d := d) hm hM.2.1 h7 _) (by first | rfl | assumption | exact rowS hh | exact mtS hm | exact ruS hr | exact mtA1 hm | exact mtA2 hm | exact mtA3 hm | exact mtA4 hm | exact mtA5 hm | exact mtA6 hm | exact mtA7 hm | exact ruA1 hr | exact ruA2 hr | exact ruA3 hr) rfl (by decide) ⟨rfl, by decide, by decide, show (parseMethodDescriptor yX1_has.desc).map (fun d => d.parameters.length) = some 1 by decide +kernel⟩ (by omega) (by decide) (Nat.le_of_ble_eq_true rfl) rfl ?_
    refine pw_if_eq (tgt := 18) 8 rfl dX1_slipDown_5 rfl (fun h5 => ?_) (fun h5 => absurd (by rw [hasV_no (Or.inl h)]; rfl) h5)
    refine pw_iconst (v := -1) 19 rfl dX1_slipDown_18 rfl ?_
    refine pw_iret dX1_slipDown_19 rfl ?_
    rotate_left
    exact ⟨rfl, hM, hW, fun _ _ => rfl, rfl, rfl⟩
  · rw [aSlip_0 (qOf_no (Or.inr h))]
    refine pw_aload_n 1 rfl dX1_slipDown_0 rfl ?_
    refine pw_iload_n 2 rfl dX1_slipDown_1 rfl ?_
    refine pw_callVP (as := [_]) 5 rfl dX1_slipDown_2 mX1_68 vX1_has (x_has (d := d) hm hM.2.1 h7 _) (by first | rfl | assumption | exact rowS hh | exact mtS hm | exact ruS hr | exact mtA1 hm | exact mtA2 hm | exact mtA3 hm | exact mtA4 hm | exact mtA5 hm | exact mtA6 hm | exact mtA7 hm | exact ruA1 hr | exact ruA2 hr | exact ruA3 hr) rfl (by decide) ⟨rfl, by decide, by decide, show (parseMethodDescriptor yX1_has.desc).map (fun d => d.parameters.length) = some 1 by decide +kernel⟩ (by omega) (by decide) (Nat.le_of_ble_eq_true rfl) rfl ?_
    refine pw_if_eq (tgt := 18) 8 rfl dX1_slipDown_5 rfl (fun h5 => ?_) (fun h5 => absurd (by rw [hasV_no (Or.inr h)]; rfl) h5)
    refine pw_iconst (v := -1) 19 rfl dX1_slipDown_18 rfl ?_
    refine pw_iret dX1_slipDown_19 rfl ?_
    rotate_left
    exact ⟨rfl, hM, hW, fun _ _ => rfl, rfl, rfl⟩
  · have hb := hW.2.2.2.2 q (by omega)
    have ht := hW.2.1
    have e2 := (hM.2.2.2.2.2.2 q (by omega)).2.1
    have e3 := (hM.2.2.2.2.2.2 q (by omega)).2.2.1
    rcases nOf_cases v with ⟨k, k1, k9, rfl⟩ | ⟨hv, ho⟩
    · rw [aSlip_q (qOf_y hq h7) (nOf_y k1 k9)]
      by_cases h0 : b (7 + q) = 0
      · rw [if_pos h0]
        refine pw_aload_n 1 rfl dX1_slipDown_0 rfl ?_
        refine pw_iload_n 2 rfl dX1_slipDown_1 rfl ?_
        refine pw_callVP (as := [_]) 5 rfl dX1_slipDown_2 mX1_68 vX1_has (x_has (d := d) hm hM.2.1 h7 _) (by first | rfl | assumption | exact rowS hh | exact mtS hm | exact ruS hr | exact mtA1 hm | exact mtA2 hm | exact mtA3 hm | exact mtA4 hm | exact mtA5 hm | exact mtA6 hm | exact mtA7 hm | exact ruA1 hr | exact ruA2 hr | exact ruA3 hr) rfl (by decide) ⟨rfl, by decide, by decide, show (parseMethodDescriptor yX1_has.desc).map (fun d => d.parameters.length) = some 1 by decide +kernel⟩ (by omega) (by decide) (Nat.le_of_ble_eq_true rfl) rfl ?_
        refine pw_if_eq (tgt := 18) 8 rfl dX1_slipDown_5 rfl (fun h5 => absurd h5 (by rw [hasV_y hq h7]; decide)) (fun h5 => ?_)
        refine pw_iload_n 9 rfl dX1_slipDown_8 rfl ?_
        refine pw_iconst (v := nI 1) 10 rfl dX1_slipDown_9 rfl ?_
        refine pw_bipush (v := nI 9) 12 rfl dX1_slipDown_10 rfl ?_
        refine pw_callNP (as := [_, _, _]) 15 rfl dX1_slipDown_12 nX1_60 sX11_outside (x_outside (d := d) _ _ _) ⟨rfl, by decide, by decide, show (parseMethodDescriptor yX11_outside.desc).map (fun d => d.parameters.length) = some 3 by decide +kernel⟩ (by omega) (by decide) (Nat.le_of_ble_eq_true rfl) rfl ?_
        refine pw_if_eq (tgt := 20) 18 rfl dX1_slipDown_15 rfl (fun h15 => ?_) (fun h15 => absurd (by rw [outV_nI k1 k9 (by decide)]; rfl) h15)
        refine pw_aload_n 21 rfl dX1_slipDown_20 rfl ?_
        refine pw_getR 24 rfl dX1_slipDown_21 fX1_18 (by first | rfl | assumption | exact rowS hh | exact mtS hm | exact ruS hr | exact mtA1 hm | exact mtA2 hm | exact mtA3 hm | exact mtA4 hm | exact mtA5 hm | exact mtA6 hm | exact mtA7 hm | exact ruA1 hr | exact ruA2 hr | exact ruA3 hr) rfl (by first | rfl | assumption | exact mtR0 hm | exact mtR1 hm | exact mtR2 hm | exact mtR3 hm | exact mtR4 hm | exact mtR5 hm | exact mtR6 hm | exact ruR0 hr | exact ruR1 hr | exact ruR3 hr) ?_
        refine pw_iload_n 25 rfl dX1_slipDown_24 rfl ?_
        refine pw_ialdN 26 rfl dX1_slipDown_25 (by first | rfl | assumption | exact rowS hh | exact mtS hm | exact ruS hr | exact mtA1 hm | exact mtA2 hm | exact mtA3 hm | exact mtA4 hm | exact mtA5 hm | exact mtA6 hm | exact mtA7 hm | exact ruA1 hr | exact ruA2 hr | exact ruA3 hr) (by omega) (by decide) ?_
        refine pw_if_ne (tgt := 32) 29 rfl dX1_slipDown_26 rfl (fun h26 => absurd (by rw [e3, h0]; rfl) h26) (fun h26 => ?_)
        refine pw_bipush (v := -2) 31 rfl dX1_slipDown_29 rfl ?_
        refine pw_iret dX1_slipDown_31 rfl ?_
        rotate_left
        exact ⟨rfl, hM, hW, fun _ _ => rfl, rfl, rfl⟩
      · rw [if_neg h0]
        refine pw_aload_n 1 rfl dX1_slipDown_0 rfl ?_
        refine pw_iload_n 2 rfl dX1_slipDown_1 rfl ?_
        refine pw_callVP (as := [_]) 5 rfl dX1_slipDown_2 mX1_68 vX1_has (x_has (d := d) hm hM.2.1 h7 _) (by first | rfl | assumption | exact rowS hh | exact mtS hm | exact ruS hr | exact mtA1 hm | exact mtA2 hm | exact mtA3 hm | exact mtA4 hm | exact mtA5 hm | exact mtA6 hm | exact mtA7 hm | exact ruA1 hr | exact ruA2 hr | exact ruA3 hr) rfl (by decide) ⟨rfl, by decide, by decide, show (parseMethodDescriptor yX1_has.desc).map (fun d => d.parameters.length) = some 1 by decide +kernel⟩ (by omega) (by decide) (Nat.le_of_ble_eq_true rfl) rfl ?_
        refine pw_if_eq (tgt := 18) 8 rfl dX1_slipDown_5 rfl (fun h5 => absurd h5 (by rw [hasV_y hq h7]; decide)) (fun h5 => ?_)
        refine pw_iload_n 9 rfl dX1_slipDown_8 rfl ?_
        refine pw_iconst (v := nI 1) 10 rfl dX1_slipDown_9 rfl ?_
        refine pw_bipush (v := nI 9) 12 rfl dX1_slipDown_10 rfl ?_
        refine pw_callNP (as := [_, _, _]) 15 rfl dX1_slipDown_12 nX1_60 sX11_outside (x_outside (d := d) _ _ _) ⟨rfl, by decide, by decide, show (parseMethodDescriptor yX11_outside.desc).map (fun d => d.parameters.length) = some 3 by decide +kernel⟩ (by omega) (by decide) (Nat.le_of_ble_eq_true rfl) rfl ?_
        refine pw_if_eq (tgt := 20) 18 rfl dX1_slipDown_15 rfl (fun h15 => ?_) (fun h15 => absurd (by rw [outV_nI k1 k9 (by decide)]; rfl) h15)
        refine pw_aload_n 21 rfl dX1_slipDown_20 rfl ?_
        refine pw_getR 24 rfl dX1_slipDown_21 fX1_18 (by first | rfl | assumption | exact rowS hh | exact mtS hm | exact ruS hr | exact mtA1 hm | exact mtA2 hm | exact mtA3 hm | exact mtA4 hm | exact mtA5 hm | exact mtA6 hm | exact mtA7 hm | exact ruA1 hr | exact ruA2 hr | exact ruA3 hr) rfl (by first | rfl | assumption | exact mtR0 hm | exact mtR1 hm | exact mtR2 hm | exact mtR3 hm | exact mtR4 hm | exact mtR5 hm | exact mtR6 hm | exact ruR0 hr | exact ruR1 hr | exact ruR3 hr) ?_
        refine pw_iload_n 25 rfl dX1_slipDown_24 rfl ?_
        refine pw_ialdN 26 rfl dX1_slipDown_25 (by first | rfl | assumption | exact rowS hh | exact mtS hm | exact ruS hr | exact mtA1 hm | exact mtA2 hm | exact mtA3 hm | exact mtA4 hm | exact mtA5 hm | exact mtA6 hm | exact mtA7 hm | exact ruA1 hr | exact ruA2 hr | exact ruA3 hr) (by omega) (by decide) ?_
        refine pw_if_ne (tgt := 32) 29 rfl dX1_slipDown_26 rfl (fun h26 => ?_) (fun h26 => absurd h26 (by rw [e3]; exact nI_ne0 (by omega) (by omega)))
        refine pw_aload_n 33 rfl dX1_slipDown_32 rfl ?_
        refine pw_getR 36 rfl dX1_slipDown_33 fX1_15 (by first | rfl | assumption | exact rowS hh | exact mtS hm | exact ruS hr | exact mtA1 hm | exact mtA2 hm | exact mtA3 hm | exact mtA4 hm | exact mtA5 hm | exact mtA6 hm | exact mtA7 hm | exact ruA1 hr | exact ruA2 hr | exact ruA3 hr) rfl (by first | rfl | assumption | exact mtR0 hm | exact mtR1 hm | exact mtR2 hm | exact mtR3 hm | exact mtR4 hm | exact mtR5 hm | exact mtR6 hm | exact ruR0 hr | exact ruR1 hr | exact ruR3 hr) ?_
        refine pw_iload_n 37 rfl dX1_slipDown_36 rfl ?_
        refine pw_iconst (v := nI 0) 38 rfl dX1_slipDown_37 rfl ?_
        refine pw_aload_n 39 rfl dX1_slipDown_38 rfl ?_
        refine pw_getR 42 rfl dX1_slipDown_39 fX1_15 (by first | rfl | assumption | exact rowS hh | exact mtS hm | exact ruS hr | exact mtA1 hm | exact mtA2 hm | exact mtA3 hm | exact mtA4 hm | exact mtA5 hm | exact mtA6 hm | exact mtA7 hm | exact ruA1 hr | exact ruA2 hr | exact ruA3 hr) rfl (by first | rfl | assumption | exact mtR0 hm | exact mtR1 hm | exact mtR2 hm | exact mtR3 hm | exact mtR4 hm | exact mtR5 hm | exact mtR6 hm | exact ruR0 hr | exact ruR1 hr | exact ruR3 hr) ?_
        refine pw_iload_n 43 rfl dX1_slipDown_42 rfl ?_
        refine pw_ialdN 44 rfl dX1_slipDown_43 (by first | rfl | assumption | exact rowS hh | exact mtS hm | exact ruS hr | exact mtA1 hm | exact mtA2 hm | exact mtA3 hm | exact mtA4 hm | exact mtA5 hm | exact mtA6 hm | exact mtA7 hm | exact ruA1 hr | exact ruA2 hr | exact ruA3 hr) (by omega) (by decide) ?_
        refine pw_iload_n 45 rfl dX1_slipDown_44 rfl ?_
        rotate_left
        rw [e2]
        refine pw_isub 46 rfl dX1_slipDown_45 ?_
        refine pw_mmax 49 rfl dX1_slipDown_46 mX1_80 (Nat.le_of_ble_eq_true rfl) ?_
        rotate_left
        rw [nI_subm (by omega) (by omega)]
        refine pw_iastN 50 rfl dX1_slipDown_49 (by first | rfl | assumption | exact rowS hh | exact mtS hm | exact ruS hr | exact mtA1 hm | exact mtA2 hm | exact mtA3 hm | exact mtA4 hm | exact mtA5 hm | exact mtA6 hm | exact mtA7 hm | exact ruA1 hr | exact ruA2 hr | exact ruA3 hr) (by omega) (by decide) ?_
        refine pw_aload_n 51 rfl dX1_slipDown_50 rfl ?_
        refine pw_getR 54 rfl dX1_slipDown_51 fX1_18 (by first | rfl | assumption | exact rowS hh | exact mtS hm | exact ruS hr | exact mtA1 hm | exact mtA2 hm | exact mtA3 hm | exact mtA4 hm | exact mtA5 hm | exact mtA6 hm | exact mtA7 hm | exact ruA1 hr | exact ruA2 hr | exact ruA3 hr) rfl (by first | rfl | assumption | exact mtR0 hm | exact mtR1 hm | exact mtR2 hm | exact mtR3 hm | exact mtR4 hm | exact mtR5 hm | exact mtR6 hm | exact ruR0 hr | exact ruR1 hr | exact ruR3 hr) ?_
        refine pw_iload_n 55 rfl dX1_slipDown_54 rfl ?_
        refine pw_iconst (v := nI 2) 56 rfl dX1_slipDown_55 rfl ?_
        refine pw_iastN 57 rfl dX1_slipDown_56 (by first | rfl | assumption | exact rowS hh | exact mtS hm | exact ruS hr | exact mtA1 hm | exact mtA2 hm | exact mtA3 hm | exact mtA4 hm | exact mtA5 hm | exact mtA6 hm | exact mtA7 hm | exact ruA1 hr | exact ruA2 hr | exact ruA3 hr) (by omega) (by decide) ?_
        refine pw_aload_n 58 rfl dX1_slipDown_57 rfl ?_
        refine pw_getR 61 rfl dX1_slipDown_58 fX1_15 (by first | rfl | assumption | exact rowS hh | exact mtS hm | exact ruS hr | exact mtA1 hm | exact mtA2 hm | exact mtA3 hm | exact mtA4 hm | exact mtA5 hm | exact mtA6 hm | exact mtA7 hm | exact ruA1 hr | exact ruA2 hr | exact ruA3 hr) rfl (by first | rfl | assumption | exact mtR0 hm | exact mtR1 hm | exact mtR2 hm | exact mtR3 hm | exact mtR4 hm | exact mtR5 hm | exact mtR6 hm | exact ruR0 hr | exact ruR1 hr | exact ruR3 hr) ?_
        refine pw_iload_n 62 rfl dX1_slipDown_61 rfl ?_
        refine pw_ialdN 63 rfl dX1_slipDown_62 (by first | rfl | assumption | exact rowS hh | exact mtS hm | exact ruS hr | exact mtA1 hm | exact mtA2 hm | exact mtA3 hm | exact mtA4 hm | exact mtA5 hm | exact mtA6 hm | exact mtA7 hm | exact ruA1 hr | exact ruA2 hr | exact ruA3 hr) (by omega) (by decide) ?_
        rotate_left
        rw [uI_ne (by omega), uI_eq]
        refine pw_iret dX1_slipDown_63 rfl ?_
        rotate_left
        have hW1 : WF n pc (bu b q (b q - k)) := WF_bu hW (by omega)
        exact ⟨rfl, XM_way (XM_height hM (by omega)) (by omega), WF_bu hW1 (by omega), fun a ha => by rw [uI, if_neg (by omega), uI, if_neg (by omega)], rfl, rfl⟩
    · rw [aSlip_1 hv]
      refine pw_aload_n 1 rfl dX1_slipDown_0 rfl ?_
      refine pw_iload_n 2 rfl dX1_slipDown_1 rfl ?_
      refine pw_callVP (as := [_]) 5 rfl dX1_slipDown_2 mX1_68 vX1_has (x_has (d := d) hm hM.2.1 h7 _) (by first | rfl | assumption | exact rowS hh | exact mtS hm | exact ruS hr | exact mtA1 hm | exact mtA2 hm | exact mtA3 hm | exact mtA4 hm | exact mtA5 hm | exact mtA6 hm | exact mtA7 hm | exact ruA1 hr | exact ruA2 hr | exact ruA3 hr) rfl (by decide) ⟨rfl, by decide, by decide, show (parseMethodDescriptor yX1_has.desc).map (fun d => d.parameters.length) = some 1 by decide +kernel⟩ (by omega) (by decide) (Nat.le_of_ble_eq_true rfl) rfl ?_
      refine pw_if_eq (tgt := 18) 8 rfl dX1_slipDown_5 rfl (fun h5 => absurd h5 (by rw [hasV_y hq h7]; decide)) (fun h5 => ?_)
      refine pw_iload_n 9 rfl dX1_slipDown_8 rfl ?_
      refine pw_iconst (v := nI 1) 10 rfl dX1_slipDown_9 rfl ?_
      refine pw_bipush (v := nI 9) 12 rfl dX1_slipDown_10 rfl ?_
      refine pw_callNP (as := [_, _, _]) 15 rfl dX1_slipDown_12 nX1_60 sX11_outside (x_outside (d := d) _ _ _) ⟨rfl, by decide, by decide, show (parseMethodDescriptor yX11_outside.desc).map (fun d => d.parameters.length) = some 3 by decide +kernel⟩ (by omega) (by decide) (Nat.le_of_ble_eq_true rfl) rfl ?_
      refine pw_if_eq (tgt := 20) 18 rfl dX1_slipDown_15 rfl (fun h15 => absurd h15 (by rw [outV_y ho]; decide)) (fun h15 => ?_)
      refine pw_iconst (v := -1) 19 rfl dX1_slipDown_18 rfl ?_
      refine pw_iret dX1_slipDown_19 rfl ?_
      rotate_left
      exact ⟨rfl, hM, hW, fun _ _ => rfl, rfl, rfl⟩
/-- a TOP 2 .. 9 -/
def tOf (v : Int32) : Option Nat := if nI 2 ≤ v ∧ v ≤ nI 9 then some v.toNatClampNeg else none
theorem tOf_cases (v : Int32) : (∃ k, 2 ≤ k ∧ k ≤ 9 ∧ v = nI k ∧ tOf v = some k) ∨ (tOf v = none ∧ (v < nI 2 ∨ nI 9 < v)) := by
  by_cases h : nI 2 ≤ v ∧ v ≤ nI 9
  · left
    have hp : ¬ v < 0 := by
      intro z
      rw [Int32.lt_iff_toInt_lt] at z
      have := h.1
      rw [Int32.le_iff_toInt_le] at this
      rw [show (nI 2).toInt = 2 from by decide] at this
      rw [show (0 : Int32).toInt = 0 from by decide] at z
      omega
    obtain ⟨j, hj, rfl⟩ := nI_of hp
    exact ⟨j, (nI_leI (by decide) hj).mp h.1, (nI_leI hj (by decide)).mp h.2, rfl, by rw [tOf, if_pos h, nI_clamp hj]⟩
  · right
    refine ⟨if_neg h, ?_⟩
    rw [Int32.le_iff_toInt_le, Int32.le_iff_toInt_le] at h
    rw [Int32.lt_iff_toInt_lt, Int32.lt_iff_toInt_lt]
    omega
def aTop (n : Nat) (b : Nat → Nat) (v : Int32) : Int32 × (Nat → Nat) := match tOf v with
  | none => (-1, b)
  | some t => if t = b 28 then (-2, b) else if t < mxf b n then (-3, b) else (nI (10 + b 28), bu b 28 t)
theorem aTop_q {n t : Nat} {b : Nat → Nat} {v : Int32} (h : tOf v = some t) : aTop n b v = if t = b 28 then (-2, b) else if t < mxf b n then (-3, b) else (nI (10 + b 28), bu b 28 t) := by unfold aTop; rw [h]
theorem aTop_0 {n : Nat} {b : Nat → Nat} {v : Int32} (h : tOf v = none) : aTop n b v = (-1, b) := by unfold aTop; rw [h]
theorem mxf_ge {f : Nat → Nat} {n : Nat} : ∀ {k}, k < n → f k ≤ mxf f n := by
  induction n with
  | zero => intro k h; omega
  | succ n ih =>
    intro k h
    rw [mxf]
    by_cases e : k = n
    · rw [e]; exact Nat.le_max_right _ _
    · exact Nat.le_trans (ih (show k < n by omega)) (Nat.le_max_left _ _)
/-- no climber, no height -/
def WZ (n : Nat) (b : Nat → Nat) : Prop := ∀ k, n ≤ k → k < 7 → b k = 0 ∧ b (7 + k) = 0 ∧ b (14 + k) = 0 ∧ b (21 + k) = 0
theorem WF_top {n t : Nat} {pc b : Nat → Nat} (h : WF n pc b) (hz : WZ n b) (h2 : 2 ≤ t) (h9 : t ≤ 9) (hm : mxf b n ≤ t) : WF n pc (bu b 28 t) := by
  obtain ⟨h7, ht, ho, hd, hB⟩ := h
  refine ⟨h7, by rw [bu_eq]; exact ⟨h2, h9⟩, by rw [bu_ne (by omega)]; exact ho, by rw [bu_ne (by omega)]; exact hd, fun k hk => ?_⟩
  have hb := hB k hk
  rw [bu_eq, bu_ne (by omega), bu_ne (by omega), bu_ne (by omega), bu_ne (by omega)]
  refine ⟨hb.1, ?_, hb.2.2⟩
  by_cases e : k < n
  · exact Nat.le_trans (mxf_ge e) hm
  · rw [(hz k (by omega) hk).1]; omega
set_option maxRecDepth 100000 in
set_option maxHeartbeats 2000000 in
theorem x_changeTop {m d n : Nat} {pc b : Nat → Nat} (hm : isMt m) {I : pI} {J : pJ} (hM : XM I m n pc b) (hW : WF n pc b) (hZ : WZ n b) (v : Int32) : PC SX (d + 2) yX1_changeTop cX1_changeTop 3 (some .int) [.ref m, .int v] (I) (J) (RX) (fun r' I' J' R' => r' = some (.int (aTop n b v).1) ∧ XM I' m n pc (aTop n b v).2 ∧ WF n pc (aTop n b v).2 ∧ fM m I I' ∧ J = J' ∧ R' = RX) := by
  refine PC.of [some (.ref m), some (.int v), none] rfl rfl (Nat.le_of_ble_eq_true rfl) ?_
  have ht := hW.2.1
  rcases tOf_cases v with ⟨t, t2, t9, rfl, hv⟩ | ⟨hv, ho⟩
  · have hx : mxf b n ≤ 9 := mxf_le (fun j hj => by have h7 := hW.1; have := hW.2.2.2.2 j (by omega); omega)
    rw [aTop_q hv]
    by_cases e1 : t = b 28
    · rw [if_pos e1]
      refine pw_iload_n 1 rfl dX1_changeTop_0 rfl ?_
      refine pw_iconst (v := nI 2) 2 rfl dX1_changeTop_1 rfl ?_
      refine pw_bipush (v := nI 9) 4 rfl dX1_changeTop_2 rfl ?_
      refine pw_callNP (as := [_, _, _]) 7 rfl dX1_changeTop_4 nX1_60 sX11_outside (x_outside (d := d) _ _ _) ⟨rfl, by decide, by decide, show (parseMethodDescriptor yX11_outside.desc).map (fun d => d.parameters.length) = some 3 by decide +kernel⟩ (by omega) (by decide) (Nat.le_of_ble_eq_true rfl) rfl ?_
      refine pw_if_eq (tgt := 12) 10 rfl dX1_changeTop_7 rfl (fun h7 => ?_) (fun h7 => absurd (by rw [outV_nI t2 t9 (by decide)]; rfl) h7)
      refine pw_iload_n 13 rfl dX1_changeTop_12 rfl ?_
      refine pw_aload_n 14 rfl dX1_changeTop_13 rfl ?_
      refine pw_getI 17 rfl dX1_changeTop_14 fX1_37 (by first | rfl | assumption | exact rowS hh | exact mtS hm | exact ruS hr | exact mtA1 hm | exact mtA2 hm | exact mtA3 hm | exact mtA4 hm | exact mtA5 hm | exact mtA6 hm | exact mtA7 hm | exact ruA1 hr | exact ruA2 hr | exact ruA3 hr) rfl ?_
      refine pw_icmp_ne (tgt := 23) 20 rfl dX1_changeTop_17 rfl (fun h17 => absurd (by rw [hM.2.2.1, e1]) h17) (fun h17 => ?_)
      refine pw_bipush (v := -2) 22 rfl dX1_changeTop_20 rfl ?_
      refine pw_iret dX1_changeTop_22 rfl ?_
      rotate_left
      exact ⟨rfl, hM, hW, fun _ _ => rfl, rfl, rfl⟩
    · rw [if_neg e1]
      by_cases e2 : t < mxf b n
      · rw [if_pos e2]
        refine pw_iload_n 1 rfl dX1_changeTop_0 rfl ?_
        refine pw_iconst (v := nI 2) 2 rfl dX1_changeTop_1 rfl ?_
        refine pw_bipush (v := nI 9) 4 rfl dX1_changeTop_2 rfl ?_
        refine pw_callNP (as := [_, _, _]) 7 rfl dX1_changeTop_4 nX1_60 sX11_outside (x_outside (d := d) _ _ _) ⟨rfl, by decide, by decide, show (parseMethodDescriptor yX11_outside.desc).map (fun d => d.parameters.length) = some 3 by decide +kernel⟩ (by omega) (by decide) (Nat.le_of_ble_eq_true rfl) rfl ?_
        refine pw_if_eq (tgt := 12) 10 rfl dX1_changeTop_7 rfl (fun h7 => ?_) (fun h7 => absurd (by rw [outV_nI t2 t9 (by decide)]; rfl) h7)
        refine pw_iload_n 13 rfl dX1_changeTop_12 rfl ?_
        refine pw_aload_n 14 rfl dX1_changeTop_13 rfl ?_
        refine pw_getI 17 rfl dX1_changeTop_14 fX1_37 (by first | rfl | assumption | exact rowS hh | exact mtS hm | exact ruS hr | exact mtA1 hm | exact mtA2 hm | exact mtA3 hm | exact mtA4 hm | exact mtA5 hm | exact mtA6 hm | exact mtA7 hm | exact ruA1 hr | exact ruA2 hr | exact ruA3 hr) rfl ?_
        refine pw_icmp_ne (tgt := 23) 20 rfl dX1_changeTop_17 rfl (fun h17 => ?_) (fun h17 => absurd h17 (by rw [hM.2.2.1, nI_eq (by omega) (by omega)]; exact e1))
        refine pw_aload_n 24 rfl dX1_changeTop_23 rfl ?_
        refine pw_callVP (as := []) 27 rfl dX1_changeTop_24 mX1_64 vX1_highest (x_highest (d := d) hm hM hW) (by first | rfl | assumption | exact rowS hh | exact mtS hm | exact ruS hr | exact mtA1 hm | exact mtA2 hm | exact mtA3 hm | exact mtA4 hm | exact mtA5 hm | exact mtA6 hm | exact mtA7 hm | exact ruA1 hr | exact ruA2 hr | exact ruA3 hr) rfl (by decide) ⟨rfl, by decide, by decide, show (parseMethodDescriptor yX1_highest.desc).map (fun d => d.parameters.length) = some 0 by decide +kernel⟩ (by omega) (by decide) (Nat.le_of_ble_eq_true rfl) rfl ?_
        refine pw_iload_n 28 rfl dX1_changeTop_27 rfl ?_
        refine pw_icmp_le (tgt := 34) 31 rfl dX1_changeTop_28 rfl (fun h28 => absurd h28 (by (simp (disch := omega) only [nI_leI, nI_ltI, nI_eq, show (0 : Int32) = nI 0 from rfl, not_true_eq_false, not_false_eq_true] <;> omega))) (fun h28 => ?_)
        refine pw_bipush (v := -3) 33 rfl dX1_changeTop_31 rfl ?_
        refine pw_iret dX1_changeTop_33 rfl ?_
        rotate_left
        exact ⟨rfl, hM, hW, fun _ _ => rfl, rfl, rfl⟩
      · rw [if_neg e2]
        refine pw_iload_n 1 rfl dX1_changeTop_0 rfl ?_
        refine pw_iconst (v := nI 2) 2 rfl dX1_changeTop_1 rfl ?_
        refine pw_bipush (v := nI 9) 4 rfl dX1_changeTop_2 rfl ?_
        refine pw_callNP (as := [_, _, _]) 7 rfl dX1_changeTop_4 nX1_60 sX11_outside (x_outside (d := d) _ _ _) ⟨rfl, by decide, by decide, show (parseMethodDescriptor yX11_outside.desc).map (fun d => d.parameters.length) = some 3 by decide +kernel⟩ (by omega) (by decide) (Nat.le_of_ble_eq_true rfl) rfl ?_
        refine pw_if_eq (tgt := 12) 10 rfl dX1_changeTop_7 rfl (fun h7 => ?_) (fun h7 => absurd (by rw [outV_nI t2 t9 (by decide)]; rfl) h7)
        refine pw_iload_n 13 rfl dX1_changeTop_12 rfl ?_
        refine pw_aload_n 14 rfl dX1_changeTop_13 rfl ?_
        refine pw_getI 17 rfl dX1_changeTop_14 fX1_37 (by first | rfl | assumption | exact rowS hh | exact mtS hm | exact ruS hr | exact mtA1 hm | exact mtA2 hm | exact mtA3 hm | exact mtA4 hm | exact mtA5 hm | exact mtA6 hm | exact mtA7 hm | exact ruA1 hr | exact ruA2 hr | exact ruA3 hr) rfl ?_
        refine pw_icmp_ne (tgt := 23) 20 rfl dX1_changeTop_17 rfl (fun h17 => ?_) (fun h17 => absurd h17 (by rw [hM.2.2.1, nI_eq (by omega) (by omega)]; exact e1))
        refine pw_aload_n 24 rfl dX1_changeTop_23 rfl ?_
        refine pw_callVP (as := []) 27 rfl dX1_changeTop_24 mX1_64 vX1_highest (x_highest (d := d) hm hM hW) (by first | rfl | assumption | exact rowS hh | exact mtS hm | exact ruS hr | exact mtA1 hm | exact mtA2 hm | exact mtA3 hm | exact mtA4 hm | exact mtA5 hm | exact mtA6 hm | exact mtA7 hm | exact ruA1 hr | exact ruA2 hr | exact ruA3 hr) rfl (by decide) ⟨rfl, by decide, by decide, show (parseMethodDescriptor yX1_highest.desc).map (fun d => d.parameters.length) = some 0 by decide +kernel⟩ (by omega) (by decide) (Nat.le_of_ble_eq_true rfl) rfl ?_
        refine pw_iload_n 28 rfl dX1_changeTop_27 rfl ?_
        refine pw_icmp_le (tgt := 34) 31 rfl dX1_changeTop_28 rfl (fun h28 => ?_) (fun h28 => absurd (by (simp (disch := omega) only [nI_leI, nI_ltI, nI_eq, show (0 : Int32) = nI 0 from rfl, not_true_eq_false, not_false_eq_true] <;> omega)) h28)
        refine pw_aload_n 35 rfl dX1_changeTop_34 rfl ?_
        refine pw_getI 38 rfl dX1_changeTop_35 fX1_37 (by first | rfl | assumption | exact rowS hh | exact mtS hm | exact ruS hr | exact mtA1 hm | exact mtA2 hm | exact mtA3 hm | exact mtA4 hm | exact mtA5 hm | exact mtA6 hm | exact mtA7 hm | exact ruA1 hr | exact ruA2 hr | exact ruA3 hr) rfl ?_
        rotate_left
        rw [hM.2.2.1]
        refine pw_istore_n 39 rfl dX1_changeTop_38 (by decide) ?_
        refine pw_aload_n 40 rfl dX1_changeTop_39 rfl ?_
        refine pw_iload_n 41 rfl dX1_changeTop_40 rfl ?_
        refine pw_putI 44 rfl dX1_changeTop_41 fX1_37 w1_8 (by first | rfl | assumption | exact rowS hh | exact mtS hm | exact ruS hr | exact mtA1 hm | exact mtA2 hm | exact mtA3 hm | exact mtA4 hm | exact mtA5 hm | exact mtA6 hm | exact mtA7 hm | exact ruA1 hr | exact ruA2 hr | exact ruA3 hr) rfl rfl rfl ?_
        refine pw_bipush (v := nI 10) 46 rfl dX1_changeTop_44 rfl ?_
        refine pw_iload_n 47 rfl dX1_changeTop_46 rfl ?_
        first | refine pw_iaddN 48 rfl dX1_changeTop_47 ?_ | refine pw_iadd 48 rfl dX1_changeTop_47 ?_
        refine pw_iret dX1_changeTop_48 rfl ?_
        rotate_left
        exact ⟨rfl, XM_top hM, WF_top hW hZ t2 t9 (by omega), fun a ha => by rw [uI, if_neg (by omega)], rfl, rfl⟩
  · rw [aTop_0 hv]
    refine pw_iload_n 1 rfl dX1_changeTop_0 rfl ?_
    refine pw_iconst (v := nI 2) 2 rfl dX1_changeTop_1 rfl ?_
    refine pw_bipush (v := nI 9) 4 rfl dX1_changeTop_2 rfl ?_
    refine pw_callNP (as := [_, _, _]) 7 rfl dX1_changeTop_4 nX1_60 sX11_outside (x_outside (d := d) _ _ _) ⟨rfl, by decide, by decide, show (parseMethodDescriptor yX11_outside.desc).map (fun d => d.parameters.length) = some 3 by decide +kernel⟩ (by omega) (by decide) (Nat.le_of_ble_eq_true rfl) rfl ?_
    refine pw_if_eq (tgt := 12) 10 rfl dX1_changeTop_7 rfl (fun h7 => absurd h7 (by rw [outV_y ho]; decide)) (fun h7 => ?_)
    refine pw_iconst (v := -1) 11 rfl dX1_changeTop_10 rfl ?_
    refine pw_iret dX1_changeTop_11 rfl ?_
    rotate_left
    exact ⟨rfl, hM, hW, fun _ _ => rfl, rfl, rfl⟩
