theorem XQ_join {I : pI} {cd wt : List Nat} {dp dg c : Nat} {cm : Nat → Bool} (h : XQ I (cd, wt, dp, cm, false, dg)) : XQ (uI (uI (uI I 16 wt.length (nI c)) 13 4 (nI (wt.length + 1))) 13 7 (nI 1)) (cd, c :: wt, dp, cm, true, dg) := by
  obtain ⟨a1, a2, a3, a4, a5, a6, a7, a8⟩ := XQ_hold (w := c) h
  refine ⟨?_, ?_, ?_, ?_, uI_eq _ _ _ _, ?_, fun j c hj => ?_, fun j c hj => ?_⟩
  · rw [uI_ne (by omega)]; exact a1
  · rw [uI_ne (by omega)]; exact a2
  · rw [uI_ne (by omega)]; exact a3
  · rw [uI_ne (by omega)]; exact a4
  · rw [uI_ne (by omega)]; exact a6
  · rw [uI_ne (by omega)]; exact a7 j c hj
  · rw [uI_ne (by omega)]; exact a8 j c hj
set_option maxRecDepth 100000 in
set_option maxHeartbeats 2000000 in
theorem x_takesBehind {d c p : Nat} {cd wt : List Nat} {dp dg : Nat} {cm : Nat → Bool} {I : pI} {J : pJ} (hQ : XQ I (cd, wt, dp, cm, false, dg)) (hW : WQ p (cd, wt, dp, cm, false, dg)) (hp : p < 40) (hc : c < 256) : PC SX (d + 4) yX6_takesBehindThing cX6_takesBehindThing 3 (some .boolean) [.ref 13, .int (nI c)] (I) (J) (RX) (tkP I J (mSp (cd, wt, dp, cm, false, dg) c)) := by
  refine PC.of [some (.ref 13), some (.int (nI c)), none] rfl rfl (Nat.le_of_ble_eq_true rfl) ?_
  obtain ⟨w1, w2, w3, w4, w5, w6⟩ := id hW
  simp only at w1 w2 w3 w4 w5 w6
  have e0 : mSp (cd, wt, dp, cm, false, dg) c = (if isDg c = true then (if dg < 1 ∨ 2 < dg then none else some (cd.dropLast ++ [cd.getLastD 0 * 10 + (c - 48)], wt, dp, cm, false, dg + 1))
      else if c = 41 then (if dp < 1 then none else some ((rls 1 wt cd).2, (rls 1 wt cd).1.tail, dp - 1, cm, false, 0))
      else if c = 256 ∨ strn c < 1 ∨ (strn c = 1 ∧ cm dp = true) then none
      else some ((rls (strn c) wt cd).2, c :: (rls (strn c) wt cd).1, dp, if strn c = 1 then (fun i => if i = dp then true else cm i) else cm, true, dg)) := by rw [mSp, if_neg (by decide)]
  rw [e0]
  have hret : ∀ {r : Option Value} {I' : pI} {J' : pJ} {R' : pR} {o : Option mSt}, tkP I J o r I' J' R' → ∃ v : Int32, r = some (.int v) ∧ narrow .boolean (.int v) = .int v := by
    intro r I' J' R' o h
    rcases o with _ | z
    · obtain ⟨rfl, -⟩ := h; exact ⟨_, rfl, rfl⟩
    · obtain ⟨⟨rfl, -⟩, -⟩ := h; exact ⟨_, rfl, rfl⟩
  by_cases hd : isDg c = true
  · rw [if_pos hd]
    have hb := isDg_b hd
    have hv : nI (if isDg c = true then 1 else 0) = nI 1 := by rw [if_pos hd]
    refine pw_iload_n 1 rfl dX6_takesBehindThing_0 rfl ?_
    refine pw_callSP (as := [_]) 4 rfl dX6_takesBehindThing_1 mX6_100 sX10_isDigit (x_isDigit (d := d + 3) (show c < 65536 by omega)) ⟨rfl, by decide, by decide, show (parseMethodDescriptor yX10_isDigit.desc).map (fun d => d.parameters.length) = some 1 by decide +kernel⟩ (by omega) (by decide) (Nat.le_of_ble_eq_true rfl) rfl ?_
    refine pw_if_eq (tgt := 16) 7 rfl dX6_takesBehindThing_4 rfl (fun h4 => absurd h4 (by rw [hv]; decide)) (fun h4 => ?_)
    refine pw_aload_n 8 rfl dX6_takesBehindThing_7 rfl ?_
    refine pw_iload_n 9 rfl dX6_takesBehindThing_8 rfl ?_
    refine pw_bipush (v := nI 48) 11 rfl dX6_takesBehindThing_9 rfl ?_
    refine pw_isubN 12 rfl dX6_takesBehindThing_11 (by omega) ?_
    rotate_left
    refine pw_callV (as := [_]) 15 rfl dX6_takesBehindThing_12 mX6_103 vX6_lengthensNumber (x_lengthens (d := d + 3) (t := c - 48) hQ (by omega) w3 (by omega) (w6 trivial)) (by first | rfl | assumption | exact rowS hh | exact mtS hm | exact ruS hr | exact mtA1 hm | exact mtA2 hm | exact mtA3 hm | exact mtA4 hm | exact mtA5 hm | exact mtA6 hm | exact mtA7 hm | exact ruA1 hr | exact ruA2 hr | exact ruA3 hr) rfl (by decide) ⟨rfl, by decide, by decide, show (parseMethodDescriptor yX6_lengthensNumber.desc).map (fun d => d.parameters.length) = some 1 by decide +kernel⟩ (by omega) (by decide) (Nat.le_of_ble_eq_true rfl) rfl (fun r12 I12 J12 R12 c12 => ?_)
    rotate_left
    obtain ⟨v, rfl, hv⟩ := hret c12
    refine pw_iret dX6_takesBehindThing_15 hv ?_
    rotate_left
    exact c12
  · rw [if_neg hd]
    have hv : nI (if isDg c = true then 1 else 0) = nI 0 := by rw [if_neg hd]
    by_cases e41 : c = 41
    · subst e41
      rw [if_pos rfl]
      refine pw_iload_n 1 rfl dX6_takesBehindThing_0 rfl ?_
      refine pw_callSP (as := [_]) 4 rfl dX6_takesBehindThing_1 mX6_100 sX10_isDigit (x_isDigit (d := d + 3) (show 41 < 65536 by omega)) ⟨rfl, by decide, by decide, show (parseMethodDescriptor yX10_isDigit.desc).map (fun d => d.parameters.length) = some 1 by decide +kernel⟩ (by omega) (by decide) (Nat.le_of_ble_eq_true rfl) rfl ?_
      refine pw_if_eq (tgt := 16) 7 rfl dX6_takesBehindThing_4 rfl (fun h4 => ?_) (fun h4 => absurd (by rw [hv]; rfl) h4)
      refine pw_iload_n 17 rfl dX6_takesBehindThing_16 rfl ?_
      refine pw_bipush (v := nI 41) 19 rfl dX6_takesBehindThing_17 rfl ?_
      refine pw_icmp_ne (tgt := 27) 22 rfl dX6_takesBehindThing_19 rfl (fun h19 => absurd rfl h19) (fun h19 => ?_)
      refine pw_aload_n 23 rfl dX6_takesBehindThing_22 rfl ?_
      refine pw_callV (as := []) 26 rfl dX6_takesBehindThing_23 mX6_106 vX6_closes (x_closes (d := d) hQ (by omega) w2 (fun w hw => w257 (w5 w hw))) (by first | rfl | assumption | exact rowS hh | exact mtS hm | exact ruS hr | exact mtA1 hm | exact mtA2 hm | exact mtA3 hm | exact mtA4 hm | exact mtA5 hm | exact mtA6 hm | exact mtA7 hm | exact ruA1 hr | exact ruA2 hr | exact ruA3 hr) rfl (by decide) ⟨rfl, by decide, by decide, show (parseMethodDescriptor yX6_closes.desc).map (fun d => d.parameters.length) = some 0 by decide +kernel⟩ (by omega) (by decide) (Nat.le_of_ble_eq_true rfl) rfl (fun r23 I23 J23 R23 c23 => ?_)
      rotate_left
      obtain ⟨v, rfl, hv⟩ := hret c23
      refine pw_iret dX6_takesBehindThing_26 hv ?_
      rotate_left
      exact c23
    · rw [if_neg e41]
      have hsl := strn_le c
      have hgo : ∀ (I1 : pI) (cm1 : Nat → Bool), 1 ≤ strn c → XQ I1 (cd, wt, dp, cm1, false, dg) → fR I I1 → PW SX yX6_takesBehindThing.cls cX6_takesBehindThing 3 (d + 4) 79 [some (.ref 13), some (.int (nI c)), some (.int (nI (strn c)))] [] I1 J RX (rX cX6_takesBehindThing (some .boolean) (tkP I J (some ((rls (strn c) wt cd).2, c :: (rls (strn c) wt cd).1, dp, cm1, true, dg)))) := by
        intro I1 cm1 h1 hQ1 hf
        refine pw_aload_n 80 rfl dX6_takesBehindThing_79 rfl ?_
        refine pw_iload_n 81 rfl dX6_takesBehindThing_80 rfl ?_
        refine pw_callV (as := [_]) 84 rfl dX6_takesBehindThing_81 mX6_90 vX6_release (x_release (d := d + 1) (s := strn c) hQ1 hsl (by omega) (fun w hw => w257 (w5 w hw))) (by first | rfl | assumption | exact rowS hh | exact mtS hm | exact ruS hr | exact mtA1 hm | exact mtA2 hm | exact mtA3 hm | exact mtA4 hm | exact mtA5 hm | exact mtA6 hm | exact mtA7 hm | exact ruA1 hr | exact ruA2 hr | exact ruA3 hr) rfl (by decide) ⟨rfl, by decide, by decide, show (parseMethodDescriptor yX6_release.desc).map (fun d => d.parameters.length) = some 1 by decide +kernel⟩ (by omega) (by decide) (Nat.le_of_ble_eq_true rfl) rfl (fun r81 I81 J81 R81 c81 => ?_)
        obtain ⟨rfl, q1, q2, rfl, rfl⟩ := c81
        rotate_left
        have hrl := rls_len (strn c) wt cd
        generalize rls (strn c) wt cd = q at q1 hrl ⊢
        obtain ⟨ws, cs⟩ := q
        simp only at hrl
        refine pw_aload_n 85 rfl dX6_takesBehindThing_84 rfl ?_
        refine pw_iload_n 86 rfl dX6_takesBehindThing_85 rfl ?_
        refine pw_callV (as := [_]) 89 rfl dX6_takesBehindThing_86 mX6_93 vX6_hold (x_hold (d := d + 3) (k := ws.length) (v := nI c) q1.2.1 (by omega)) (by first | rfl | assumption | exact rowS hh | exact mtS hm | exact ruS hr | exact mtA1 hm | exact mtA2 hm | exact mtA3 hm | exact mtA4 hm | exact mtA5 hm | exact mtA6 hm | exact mtA7 hm | exact ruA1 hr | exact ruA2 hr | exact ruA3 hr) rfl (by decide) ⟨rfl, by decide, by decide, show (parseMethodDescriptor yX6_hold.desc).map (fun d => d.parameters.length) = some 1 by decide +kernel⟩ (by omega) (by decide) (Nat.le_of_ble_eq_true rfl) rfl (fun r86 I86 J86 R86 c86 => ?_)
        obtain ⟨rfl, rfl, rfl, rfl⟩ := c86
        refine pw_aload_n 90 rfl dX6_takesBehindThing_89 rfl ?_
        refine pw_iconst (v := nI 1) 91 rfl dX6_takesBehindThing_90 rfl ?_
        refine pw_putI 94 rfl dX6_takesBehindThing_91 fX6_34 w6_7 (by first | rfl | assumption | exact rowS hh | exact mtS hm | exact ruS hr | exact mtA1 hm | exact mtA2 hm | exact mtA3 hm | exact mtA4 hm | exact mtA5 hm | exact mtA6 hm | exact mtA7 hm | exact ruA1 hr | exact ruA2 hr | exact ruA3 hr) rfl rfl rfl ?_
        refine pw_iconst (v := nI 1) 95 rfl dX6_takesBehindThing_94 rfl ?_
        refine pw_iret dX6_takesBehindThing_95 rfl ?_
        rotate_left
        exact ⟨⟨rfl, XQ_join q1⟩, (hf.trans q2).trans (fun a h1 h2 h3 => by rw [uI, if_neg h1, uI, if_neg h1, uI, if_neg h3]), rfl, rfl⟩
      by_cases h0 : strn c < 1
      · rw [if_pos (Or.inr (Or.inl h0))]
        refine pw_iload_n 1 rfl dX6_takesBehindThing_0 rfl ?_
        refine pw_callSP (as := [_]) 4 rfl dX6_takesBehindThing_1 mX6_100 sX10_isDigit (x_isDigit (d := d + 3) (show c < 65536 by omega)) ⟨rfl, by decide, by decide, show (parseMethodDescriptor yX10_isDigit.desc).map (fun d => d.parameters.length) = some 1 by decide +kernel⟩ (by omega) (by decide) (Nat.le_of_ble_eq_true rfl) rfl ?_
        refine pw_if_eq (tgt := 16) 7 rfl dX6_takesBehindThing_4 rfl (fun h4 => ?_) (fun h4 => absurd (by rw [hv]; rfl) h4)
        refine pw_iload_n 17 rfl dX6_takesBehindThing_16 rfl ?_
        refine pw_bipush (v := nI 41) 19 rfl dX6_takesBehindThing_17 rfl ?_
        refine pw_icmp_ne (tgt := 27) 22 rfl dX6_takesBehindThing_19 rfl (fun h19 => ?_) (fun h19 => absurd h19 (by (simp (disch := omega) only [nI_leI, nI_ltI, nI_eq, show (0 : Int32) = nI 0 from rfl, not_true_eq_false, not_false_eq_true] <;> omega)))
        refine pw_iload_n 28 rfl dX6_takesBehindThing_27 rfl ?_
        refine pw_callSP (as := [_]) 31 rfl dX6_takesBehindThing_28 mX6_109 sX6_strengthOf (x_strengthOf (d := d + 3) (show c < 257 by omega)) ⟨rfl, by decide, by decide, show (parseMethodDescriptor yX6_strengthOf.desc).map (fun d => d.parameters.length) = some 1 by decide +kernel⟩ (by omega) (by decide) (Nat.le_of_ble_eq_true rfl) rfl ?_
        refine pw_istore_n 32 rfl dX6_takesBehindThing_31 (by decide) ?_
        refine pw_iload_n 33 rfl dX6_takesBehindThing_32 rfl ?_
        refine pw_iconst (v := nI 1) 34 rfl dX6_takesBehindThing_33 rfl ?_
        refine pw_icmp_lt (tgt := 57) 37 rfl dX6_takesBehindThing_34 rfl (fun h34 => ?_) (fun h34 => absurd (by (simp (disch := omega) only [nI_leI, nI_ltI, nI_eq, show (0 : Int32) = nI 0 from rfl, not_true_eq_false, not_false_eq_true] <;> omega)) h34)
        refine pw_iconst (v := nI 0) 58 rfl dX6_takesBehindThing_57 rfl ?_
        refine pw_iret dX6_takesBehindThing_58 rfl ?_
        rotate_left
        exact ⟨rfl, fR.refl, rfl, rfl⟩
      · by_cases hs1 : strn c = 1
        · have ebit := cm_get cm (show dp < 5 by omega)
          have a4' : I 13 6 = nI (bts cm 5) := hQ.2.2.2.1
          have a3' : I 13 5 = nI dp := hQ.2.2.1
          by_cases hcm : cm dp = true
          · rw [if_pos (Or.inr (Or.inr ⟨hs1, hcm⟩))]
            rw [if_pos hcm] at ebit
            refine pw_iload_n 1 rfl dX6_takesBehindThing_0 rfl ?_
            refine pw_callSP (as := [_]) 4 rfl dX6_takesBehindThing_1 mX6_100 sX10_isDigit (x_isDigit (d := d + 3) (show c < 65536 by omega)) ⟨rfl, by decide, by decide, show (parseMethodDescriptor yX10_isDigit.desc).map (fun d => d.parameters.length) = some 1 by decide +kernel⟩ (by omega) (by decide) (Nat.le_of_ble_eq_true rfl) rfl ?_
            refine pw_if_eq (tgt := 16) 7 rfl dX6_takesBehindThing_4 rfl (fun h4 => ?_) (fun h4 => absurd (by rw [hv]; rfl) h4)
            refine pw_iload_n 17 rfl dX6_takesBehindThing_16 rfl ?_
            refine pw_bipush (v := nI 41) 19 rfl dX6_takesBehindThing_17 rfl ?_
            refine pw_icmp_ne (tgt := 27) 22 rfl dX6_takesBehindThing_19 rfl (fun h19 => ?_) (fun h19 => absurd h19 (by (simp (disch := omega) only [nI_leI, nI_ltI, nI_eq, show (0 : Int32) = nI 0 from rfl, not_true_eq_false, not_false_eq_true] <;> omega)))
            refine pw_iload_n 28 rfl dX6_takesBehindThing_27 rfl ?_
            refine pw_callSP (as := [_]) 31 rfl dX6_takesBehindThing_28 mX6_109 sX6_strengthOf (x_strengthOf (d := d + 3) (show c < 257 by omega)) ⟨rfl, by decide, by decide, show (parseMethodDescriptor yX6_strengthOf.desc).map (fun d => d.parameters.length) = some 1 by decide +kernel⟩ (by omega) (by decide) (Nat.le_of_ble_eq_true rfl) rfl ?_
            refine pw_istore_n 32 rfl dX6_takesBehindThing_31 (by decide) ?_
            refine pw_iload_n 33 rfl dX6_takesBehindThing_32 rfl ?_
            refine pw_iconst (v := nI 1) 34 rfl dX6_takesBehindThing_33 rfl ?_
            refine pw_icmp_lt (tgt := 57) 37 rfl dX6_takesBehindThing_34 rfl (fun h34 => absurd h34 (by (simp (disch := omega) only [nI_leI, nI_ltI, nI_eq, show (0 : Int32) = nI 0 from rfl, not_true_eq_false, not_false_eq_true] <;> omega))) (fun h34 => ?_)
            refine pw_iload_n 38 rfl dX6_takesBehindThing_37 rfl ?_
            refine pw_iconst (v := nI 1) 39 rfl dX6_takesBehindThing_38 rfl ?_
            refine pw_icmp_ne (tgt := 59) 42 rfl dX6_takesBehindThing_39 rfl (fun h39 => absurd (by rw [hs1]) h39) (fun h39 => ?_)
            refine pw_aload_n 43 rfl dX6_takesBehindThing_42 rfl ?_
            refine pw_getI 46 rfl dX6_takesBehindThing_43 fX6_31 (by first | rfl | assumption | exact rowS hh | exact mtS hm | exact ruS hr | exact mtA1 hm | exact mtA2 hm | exact mtA3 hm | exact mtA4 hm | exact mtA5 hm | exact mtA6 hm | exact mtA7 hm | exact ruA1 hr | exact ruA2 hr | exact ruA3 hr) rfl ?_
            refine pw_aload_n 47 rfl dX6_takesBehindThing_46 rfl ?_
            refine pw_getI 50 rfl dX6_takesBehindThing_47 fX6_28 (by first | rfl | assumption | exact rowS hh | exact mtS hm | exact ruS hr | exact mtA1 hm | exact mtA2 hm | exact mtA3 hm | exact mtA4 hm | exact mtA5 hm | exact mtA6 hm | exact mtA7 hm | exact ruA1 hr | exact ruA2 hr | exact ruA3 hr) rfl ?_
            refine pw_ishr 51 rfl dX6_takesBehindThing_50 ?_
            refine pw_iconst (v := nI 1) 52 rfl dX6_takesBehindThing_51 rfl ?_
            refine pw_iand 53 rfl dX6_takesBehindThing_52 ?_
            refine pw_iconst (v := nI 1) 54 rfl dX6_takesBehindThing_53 rfl ?_
            refine pw_icmp_ne (tgt := 59) 57 rfl dX6_takesBehindThing_54 rfl (fun h54 => absurd (by rw [a4', a3', ebit]) h54) (fun h54 => ?_)
            refine pw_iconst (v := nI 0) 58 rfl dX6_takesBehindThing_57 rfl ?_
            refine pw_iret dX6_takesBehindThing_58 rfl ?_
            rotate_left
            exact ⟨rfl, fR.refl, rfl, rfl⟩
          · have hno : ¬ (c = 256 ∨ strn c < 1 ∨ (strn c = 1 ∧ cm dp = true)) := by
              rintro (q | q | ⟨q, q'⟩)
              · omega
              · omega
              · exact hcm q'
            rw [if_neg hno]
            rw [if_neg hcm] at ebit
            have kk := hgo (uI I 13 6 (nI (bts (fun i => if i = dp then true else cm i) 5))) (fun i => if i = dp then true else cm i) (by omega) (by
              obtain ⟨a1, a2, a3, a4, a5, a6, a7, a8⟩ := id hQ
              refine ⟨?_, ?_, ?_, uI_eq _ _ _ _, ?_, ?_, fun j c hj => ?_, fun j c hj => ?_⟩
              · rw [uI_ne (by omega)]; exact a1
              · rw [uI_ne (by omega)]; exact a2
              · rw [uI_ne (by omega)]; exact a3
              · rw [uI_ne (by omega)]; exact a5
              · rw [uI_ne (by omega)]; exact a6
              · rw [uI_ne (by omega)]; exact a7 j c hj
              · rw [uI_ne (by omega)]; exact a8 j c hj) (fun a h1 h2 h3 => by rw [uI, if_neg h1])
            rw [if_pos hs1]
            refine pw_iload_n 1 rfl dX6_takesBehindThing_0 rfl ?_
            refine pw_callSP (as := [_]) 4 rfl dX6_takesBehindThing_1 mX6_100 sX10_isDigit (x_isDigit (d := d + 3) (show c < 65536 by omega)) ⟨rfl, by decide, by decide, show (parseMethodDescriptor yX10_isDigit.desc).map (fun d => d.parameters.length) = some 1 by decide +kernel⟩ (by omega) (by decide) (Nat.le_of_ble_eq_true rfl) rfl ?_
            refine pw_if_eq (tgt := 16) 7 rfl dX6_takesBehindThing_4 rfl (fun h4 => ?_) (fun h4 => absurd (by rw [hv]; rfl) h4)
            refine pw_iload_n 17 rfl dX6_takesBehindThing_16 rfl ?_
            refine pw_bipush (v := nI 41) 19 rfl dX6_takesBehindThing_17 rfl ?_
            refine pw_icmp_ne (tgt := 27) 22 rfl dX6_takesBehindThing_19 rfl (fun h19 => ?_) (fun h19 => absurd h19 (by (simp (disch := omega) only [nI_leI, nI_ltI, nI_eq, show (0 : Int32) = nI 0 from rfl, not_true_eq_false, not_false_eq_true] <;> omega)))
            refine pw_iload_n 28 rfl dX6_takesBehindThing_27 rfl ?_
            refine pw_callSP (as := [_]) 31 rfl dX6_takesBehindThing_28 mX6_109 sX6_strengthOf (x_strengthOf (d := d + 3) (show c < 257 by omega)) ⟨rfl, by decide, by decide, show (parseMethodDescriptor yX6_strengthOf.desc).map (fun d => d.parameters.length) = some 1 by decide +kernel⟩ (by omega) (by decide) (Nat.le_of_ble_eq_true rfl) rfl ?_
            refine pw_istore_n 32 rfl dX6_takesBehindThing_31 (by decide) ?_
            refine pw_iload_n 33 rfl dX6_takesBehindThing_32 rfl ?_
            refine pw_iconst (v := nI 1) 34 rfl dX6_takesBehindThing_33 rfl ?_
            refine pw_icmp_lt (tgt := 57) 37 rfl dX6_takesBehindThing_34 rfl (fun h34 => absurd h34 (by (simp (disch := omega) only [nI_leI, nI_ltI, nI_eq, show (0 : Int32) = nI 0 from rfl, not_true_eq_false, not_false_eq_true] <;> omega))) (fun h34 => ?_)
            refine pw_iload_n 38 rfl dX6_takesBehindThing_37 rfl ?_
            refine pw_iconst (v := nI 1) 39 rfl dX6_takesBehindThing_38 rfl ?_
            refine pw_icmp_ne (tgt := 59) 42 rfl dX6_takesBehindThing_39 rfl (fun h39 => absurd (by rw [hs1]) h39) (fun h39 => ?_)
            refine pw_aload_n 43 rfl dX6_takesBehindThing_42 rfl ?_
            refine pw_getI 46 rfl dX6_takesBehindThing_43 fX6_31 (by first | rfl | assumption | exact rowS hh | exact mtS hm | exact ruS hr | exact mtA1 hm | exact mtA2 hm | exact mtA3 hm | exact mtA4 hm | exact mtA5 hm | exact mtA6 hm | exact mtA7 hm | exact ruA1 hr | exact ruA2 hr | exact ruA3 hr) rfl ?_
            refine pw_aload_n 47 rfl dX6_takesBehindThing_46 rfl ?_
            refine pw_getI 50 rfl dX6_takesBehindThing_47 fX6_28 (by first | rfl | assumption | exact rowS hh | exact mtS hm | exact ruS hr | exact mtA1 hm | exact mtA2 hm | exact mtA3 hm | exact mtA4 hm | exact mtA5 hm | exact mtA6 hm | exact mtA7 hm | exact ruA1 hr | exact ruA2 hr | exact ruA3 hr) rfl ?_
            refine pw_ishr 51 rfl dX6_takesBehindThing_50 ?_
            refine pw_iconst (v := nI 1) 52 rfl dX6_takesBehindThing_51 rfl ?_
            refine pw_iand 53 rfl dX6_takesBehindThing_52 ?_
            refine pw_iconst (v := nI 1) 54 rfl dX6_takesBehindThing_53 rfl ?_
            refine pw_icmp_ne (tgt := 59) 57 rfl dX6_takesBehindThing_54 rfl (fun h54 => ?_) (fun h54 => absurd h54 (by rw [a4', a3', ebit]; decide))
            refine pw_iload_n 60 rfl dX6_takesBehindThing_59 rfl ?_
            refine pw_iconst (v := nI 1) 61 rfl dX6_takesBehindThing_60 rfl ?_
            refine pw_icmp_ne (tgt := 79) 64 rfl dX6_takesBehindThing_61 rfl (fun h61 => absurd (by rw [hs1]) h61) (fun h61 => ?_)
            refine pw_aload_n 65 rfl dX6_takesBehindThing_64 rfl ?_
            refine pw_dup 66 rfl dX6_takesBehindThing_65 rfl ?_
            refine pw_getI 69 rfl dX6_takesBehindThing_66 fX6_31 (by first | rfl | assumption | exact rowS hh | exact mtS hm | exact ruS hr | exact mtA1 hm | exact mtA2 hm | exact mtA3 hm | exact mtA4 hm | exact mtA5 hm | exact mtA6 hm | exact mtA7 hm | exact ruA1 hr | exact ruA2 hr | exact ruA3 hr) rfl ?_
            rotate_left
            rw [a4']
            refine pw_iconst (v := nI 1) 70 rfl dX6_takesBehindThing_69 rfl ?_
            refine pw_aload_n 71 rfl dX6_takesBehindThing_70 rfl ?_
            refine pw_getI 74 rfl dX6_takesBehindThing_71 fX6_28 (by first | rfl | assumption | exact rowS hh | exact mtS hm | exact ruS hr | exact mtA1 hm | exact mtA2 hm | exact mtA3 hm | exact mtA4 hm | exact mtA5 hm | exact mtA6 hm | exact mtA7 hm | exact ruA1 hr | exact ruA2 hr | exact ruA3 hr) rfl ?_
            rotate_left
            rw [a3']
            refine pw_ishl 75 rfl dX6_takesBehindThing_74 ?_
            refine pw_ior 76 rfl dX6_takesBehindThing_75 ?_
            rotate_left
            rw [cm_set cm (by omega)]
            refine pw_putI 79 rfl dX6_takesBehindThing_76 fX6_31 w6_6 (by first | rfl | assumption | exact rowS hh | exact mtS hm | exact ruS hr | exact mtA1 hm | exact mtA2 hm | exact mtA3 hm | exact mtA4 hm | exact mtA5 hm | exact mtA6 hm | exact mtA7 hm | exact ruA1 hr | exact ruA2 hr | exact ruA3 hr) rfl rfl rfl ?_
            rotate_left
            exact kk
        · have hno : ¬ (c = 256 ∨ strn c < 1 ∨ (strn c = 1 ∧ cm dp = true)) := by
            rintro (q | q | ⟨q, q'⟩)
            · omega
            · omega
            · exact hs1 q
          rw [if_neg hno, if_neg hs1]
          have kk := hgo I cm (by omega) hQ fR.refl
          refine pw_iload_n 1 rfl dX6_takesBehindThing_0 rfl ?_
          refine pw_callSP (as := [_]) 4 rfl dX6_takesBehindThing_1 mX6_100 sX10_isDigit (x_isDigit (d := d + 3) (show c < 65536 by omega)) ⟨rfl, by decide, by decide, show (parseMethodDescriptor yX10_isDigit.desc).map (fun d => d.parameters.length) = some 1 by decide +kernel⟩ (by omega) (by decide) (Nat.le_of_ble_eq_true rfl) rfl ?_
          refine pw_if_eq (tgt := 16) 7 rfl dX6_takesBehindThing_4 rfl (fun h4 => ?_) (fun h4 => absurd (by rw [hv]; rfl) h4)
          refine pw_iload_n 17 rfl dX6_takesBehindThing_16 rfl ?_
          refine pw_bipush (v := nI 41) 19 rfl dX6_takesBehindThing_17 rfl ?_
          refine pw_icmp_ne (tgt := 27) 22 rfl dX6_takesBehindThing_19 rfl (fun h19 => ?_) (fun h19 => absurd h19 (by (simp (disch := omega) only [nI_leI, nI_ltI, nI_eq, show (0 : Int32) = nI 0 from rfl, not_true_eq_false, not_false_eq_true] <;> omega)))
          refine pw_iload_n 28 rfl dX6_takesBehindThing_27 rfl ?_
          refine pw_callSP (as := [_]) 31 rfl dX6_takesBehindThing_28 mX6_109 sX6_strengthOf (x_strengthOf (d := d + 3) (show c < 257 by omega)) ⟨rfl, by decide, by decide, show (parseMethodDescriptor yX6_strengthOf.desc).map (fun d => d.parameters.length) = some 1 by decide +kernel⟩ (by omega) (by decide) (Nat.le_of_ble_eq_true rfl) rfl ?_
          refine pw_istore_n 32 rfl dX6_takesBehindThing_31 (by decide) ?_
          refine pw_iload_n 33 rfl dX6_takesBehindThing_32 rfl ?_
          refine pw_iconst (v := nI 1) 34 rfl dX6_takesBehindThing_33 rfl ?_
          refine pw_icmp_lt (tgt := 57) 37 rfl dX6_takesBehindThing_34 rfl (fun h34 => absurd h34 (by (simp (disch := omega) only [nI_leI, nI_ltI, nI_eq, show (0 : Int32) = nI 0 from rfl, not_true_eq_false, not_false_eq_true] <;> omega))) (fun h34 => ?_)
          refine pw_iload_n 38 rfl dX6_takesBehindThing_37 rfl ?_
          refine pw_iconst (v := nI 1) 39 rfl dX6_takesBehindThing_38 rfl ?_
          refine pw_icmp_ne (tgt := 59) 42 rfl dX6_takesBehindThing_39 rfl (fun h39 => ?_) (fun h39 => absurd h39 (by (simp (disch := omega) only [nI_leI, nI_ltI, nI_eq, show (0 : Int32) = nI 0 from rfl, not_true_eq_false, not_false_eq_true] <;> omega)))
          refine pw_iload_n 60 rfl dX6_takesBehindThing_59 rfl ?_
          refine pw_iconst (v := nI 1) 61 rfl dX6_takesBehindThing_60 rfl ?_
          refine pw_icmp_ne (tgt := 79) 64 rfl dX6_takesBehindThing_61 rfl (fun h61 => ?_) (fun h61 => absurd h61 (by (simp (disch := omega) only [nI_leI, nI_ltI, nI_eq, show (0 : Int32) = nI 0 from rfl, not_true_eq_false, not_false_eq_true] <;> omega)))
          rotate_left
          exact kk
