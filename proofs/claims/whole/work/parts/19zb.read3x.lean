theorem cm_clear (cm : Nat → Bool) {k : Nat} (hk : k < 5) : nI (bts cm 5) &&& ((nI 1 <<< (nI k &&& 31)) ^^^ (-1)) = nI (bts (fun i => if i = k then false else cm i) 5) := by
  rcases (show k = 0 ∨ k = 1 ∨ k = 2 ∨ k = 3 ∨ k = 4 by omega) with rfl | rfl | rfl | rfl | rfl <;> simp only [bts] <;> generalize cm 0 = a <;> generalize cm 1 = b <;> generalize cm 2 = c <;> generalize cm 3 = d <;> generalize cm 4 = e <;> revert a b c d e <;> decide +kernel
theorem cm_set (cm : Nat → Bool) {k : Nat} (hk : k < 5) : nI (bts cm 5) ||| (nI 1 <<< (nI k &&& 31)) = nI (bts (fun i => if i = k then true else cm i) 5) := by
  rcases (show k = 0 ∨ k = 1 ∨ k = 2 ∨ k = 3 ∨ k = 4 by omega) with rfl | rfl | rfl | rfl | rfl <;> simp only [bts] <;> generalize cm 0 = a <;> generalize cm 1 = b <;> generalize cm 2 = c <;> generalize cm 3 = d <;> generalize cm 4 = e <;> revert a b c d e <;> decide +kernel
theorem cm_get (cm : Nat → Bool) {k : Nat} (hk : k < 5) : (nI (bts cm 5) >>> (nI k &&& 31)) &&& nI 1 = nI (if cm k = true then 1 else 0) := by
  rcases (show k = 0 ∨ k = 1 ∨ k = 2 ∨ k = 3 ∨ k = 4 by omega) with rfl | rfl | rfl | rfl | rfl <;> simp only [bts] <;> generalize cm 0 = a <;> generalize cm 1 = b <;> generalize cm 2 = c <;> generalize cm 3 = d <;> generalize cm 4 = e <;> revert a b c d e <;> decide +kernel
/-- what taking a sign does -/
def tkP (I : pI) (J : pJ) (o : Option mSt) : Option Value → pI → pJ → pR → Prop := fun r' I' J' R' => (match o with
  | none => r' = some (.int (nI 0))
  | some z => r' = some (.int (nI 1)) ∧ XQ I' z) ∧ fR I I' ∧ J = J' ∧ R' = RX
set_option maxRecDepth 100000 in
set_option maxHeartbeats 2000000 in
theorem x_opens {d : Nat} {cd wt : List Nat} {dp dg : Nat} {cm : Nat → Bool} {I : pI} {J : pJ} (hQ : XQ I (cd, wt, dp, cm, true, dg)) (hl : wt.length < 40) (h4 : dp ≤ 4) : PC SX (d + 1) yX6_opens cX6_opens 1 (some .boolean) [.ref 13] (I) (J) (RX) (tkP I J (if 4 ≤ dp then none else some (cd, 40 :: wt, dp + 1, fun i => if i = dp + 1 then false else cm i, true, dg))) := by
  refine PC.of [some (.ref 13)] rfl rfl (Nat.le_of_ble_eq_true rfl) ?_
  obtain ⟨a1, a2, a3, a4, a5, a6, a7, a8⟩ := id hQ
  by_cases h : 4 ≤ dp
  · rw [if_pos h]
    refine pw_aload_n 1 rfl dX6_opens_0 rfl ?_
    refine pw_getI 4 rfl dX6_opens_1 fX6_28 (by first | rfl | assumption | exact rowS hh | exact mtS hm | exact ruS hr | exact mtA1 hm | exact mtA2 hm | exact mtA3 hm | exact mtA4 hm | exact mtA5 hm | exact mtA6 hm | exact mtA7 hm | exact ruA1 hr | exact ruA2 hr | exact ruA3 hr) rfl ?_
    rotate_left
    rw [show I 13 5 = nI dp from a3]
    refine pw_iconst (v := nI 4) 5 rfl dX6_opens_4 rfl ?_
    refine pw_icmp_lt (tgt := 10) 8 rfl dX6_opens_5 rfl (fun h5 => absurd h5 (by (simp (disch := omega) only [nI_leI, nI_ltI, nI_eq, show (0 : Int32) = nI 0 from rfl, not_true_eq_false, not_false_eq_true] <;> omega))) (fun h5 => ?_)
    refine pw_iconst (v := nI 0) 9 rfl dX6_opens_8 rfl ?_
    refine pw_iret dX6_opens_9 rfl ?_
    rotate_left
    exact ⟨rfl, fR.refl, rfl, rfl⟩
  · rw [if_neg h]
    refine pw_aload_n 1 rfl dX6_opens_0 rfl ?_
    refine pw_getI 4 rfl dX6_opens_1 fX6_28 (by first | rfl | assumption | exact rowS hh | exact mtS hm | exact ruS hr | exact mtA1 hm | exact mtA2 hm | exact mtA3 hm | exact mtA4 hm | exact mtA5 hm | exact mtA6 hm | exact mtA7 hm | exact ruA1 hr | exact ruA2 hr | exact ruA3 hr) rfl ?_
    rotate_left
    rw [show I 13 5 = nI dp from a3]
    refine pw_iconst (v := nI 4) 5 rfl dX6_opens_4 rfl ?_
    refine pw_icmp_lt (tgt := 10) 8 rfl dX6_opens_5 rfl (fun h5 => ?_) (fun h5 => absurd (by (simp (disch := omega) only [nI_leI, nI_ltI, nI_eq, show (0 : Int32) = nI 0 from rfl, not_true_eq_false, not_false_eq_true] <;> omega)) h5)
    refine pw_aload_n 11 rfl dX6_opens_10 rfl ?_
    refine pw_dup 12 rfl dX6_opens_11 rfl ?_
    refine pw_getI 15 rfl dX6_opens_12 fX6_28 (by first | rfl | assumption | exact rowS hh | exact mtS hm | exact ruS hr | exact mtA1 hm | exact mtA2 hm | exact mtA3 hm | exact mtA4 hm | exact mtA5 hm | exact mtA6 hm | exact mtA7 hm | exact ruA1 hr | exact ruA2 hr | exact ruA3 hr) rfl ?_
    rotate_left
    rw [show I 13 5 = nI dp from a3]
    refine pw_iconst (v := nI 1) 16 rfl dX6_opens_15 rfl ?_
    first | refine pw_iaddN 17 rfl dX6_opens_16 ?_ | refine pw_iadd 17 rfl dX6_opens_16 ?_
    refine pw_putI 20 rfl dX6_opens_17 fX6_28 w6_5 (by first | rfl | assumption | exact rowS hh | exact mtS hm | exact ruS hr | exact mtA1 hm | exact mtA2 hm | exact mtA3 hm | exact mtA4 hm | exact mtA5 hm | exact mtA6 hm | exact mtA7 hm | exact ruA1 hr | exact ruA2 hr | exact ruA3 hr) rfl rfl rfl ?_
    refine pw_aload_n 21 rfl dX6_opens_20 rfl ?_
    refine pw_dup 22 rfl dX6_opens_21 rfl ?_
    refine pw_getI 25 rfl dX6_opens_22 fX6_31 (by first | rfl | assumption | exact rowS hh | exact mtS hm | exact ruS hr | exact mtA1 hm | exact mtA2 hm | exact mtA3 hm | exact mtA4 hm | exact mtA5 hm | exact mtA6 hm | exact mtA7 hm | exact ruA1 hr | exact ruA2 hr | exact ruA3 hr) rfl ?_
    rotate_left
    rw [uI_ne (by omega), show I 13 6 = nI (bts cm 5) from a4]
    refine pw_iconst (v := nI 1) 26 rfl dX6_opens_25 rfl ?_
    refine pw_aload_n 27 rfl dX6_opens_26 rfl ?_
    refine pw_getI 30 rfl dX6_opens_27 fX6_28 (by first | rfl | assumption | exact rowS hh | exact mtS hm | exact ruS hr | exact mtA1 hm | exact mtA2 hm | exact mtA3 hm | exact mtA4 hm | exact mtA5 hm | exact mtA6 hm | exact mtA7 hm | exact ruA1 hr | exact ruA2 hr | exact ruA3 hr) rfl ?_
    rotate_left
    rw [uI_eq]
    refine pw_ishl 31 rfl dX6_opens_30 ?_
    refine pw_iconst (v := -1) 32 rfl dX6_opens_31 rfl ?_
    refine pw_ixor 33 rfl dX6_opens_32 ?_
    refine pw_iand 34 rfl dX6_opens_33 ?_
    rotate_left
    rw [cm_clear cm (by omega)]
    have hQ' : XQ (uI (uI I 13 5 (nI (dp + 1))) 13 6 (nI (bts (fun i => if i = dp + 1 then false else cm i) 5))) (cd, wt, dp + 1, fun i => if i = dp + 1 then false else cm i, true, dg) := by
      refine ⟨?_, ?_, ?_, uI_eq _ _ _ _, ?_, ?_, fun j c hj => ?_, fun j c hj => ?_⟩
      · rw [uI_ne (by omega), uI_ne (by omega)]; exact a1
      · rw [uI_ne (by omega), uI_ne (by omega)]; exact a2
      · rw [uI_ne (by omega), uI_eq]
      · rw [uI_ne (by omega), uI_ne (by omega)]; exact a5
      · rw [uI_ne (by omega), uI_ne (by omega)]; exact a6
      · rw [uI_ne (by omega), uI_ne (by omega)]; exact a7 j c hj
      · rw [uI_ne (by omega), uI_ne (by omega)]; exact a8 j c hj
    refine pw_putI 37 rfl dX6_opens_34 fX6_31 w6_6 (by first | rfl | assumption | exact rowS hh | exact mtS hm | exact ruS hr | exact mtA1 hm | exact mtA2 hm | exact mtA3 hm | exact mtA4 hm | exact mtA5 hm | exact mtA6 hm | exact mtA7 hm | exact ruA1 hr | exact ruA2 hr | exact ruA3 hr) rfl rfl rfl ?_
    refine pw_aload_n 38 rfl dX6_opens_37 rfl ?_
    refine pw_bipush (v := nI 40) 40 rfl dX6_opens_38 rfl ?_
    refine pw_callV (as := [_]) 43 rfl dX6_opens_40 mX6_93 vX6_hold (x_hold (d := d) (k := wt.length) (v := nI 40) hQ'.2.1 hl) (by first | rfl | assumption | exact rowS hh | exact mtS hm | exact ruS hr | exact mtA1 hm | exact mtA2 hm | exact mtA3 hm | exact mtA4 hm | exact mtA5 hm | exact mtA6 hm | exact mtA7 hm | exact ruA1 hr | exact ruA2 hr | exact ruA3 hr) rfl (by decide) ⟨rfl, by decide, by decide, show (parseMethodDescriptor yX6_hold.desc).map (fun d => d.parameters.length) = some 1 by decide +kernel⟩ (by omega) (by decide) (Nat.le_of_ble_eq_true rfl) rfl (fun r40 I40 J40 R40 c40 => ?_)
    obtain ⟨rfl, rfl, rfl, rfl⟩ := c40
    refine pw_iconst (v := nI 1) 44 rfl dX6_opens_43 rfl ?_
    refine pw_iret dX6_opens_44 rfl ?_
    rotate_left
    exact ⟨⟨rfl, XQ_hold hQ'⟩, fun a h1 h2 h3 => by rw [uI, if_neg h1, uI, if_neg h3, uI, if_neg h1, uI, if_neg h1], rfl, rfl⟩
set_option maxRecDepth 100000 in
set_option maxHeartbeats 2000000 in
theorem x_closes {d : Nat} {cd wt : List Nat} {dp dg : Nat} {cm : Nat → Bool} {I : pI} {J : pJ} (hQ : XQ I (cd, wt, dp, cm, false, dg)) (hl : cd.length + wt.length ≤ 40) (h4 : dp ≤ 4) (hw : ∀ w ∈ wt, w < 257) : PC SX (d + 3) yX6_closes cX6_closes 1 (some .boolean) [.ref 13] (I) (J) (RX) (tkP I J (if dp < 1 then none else some ((rls 1 wt cd).2, (rls 1 wt cd).1.tail, dp - 1, cm, false, 0))) := by
  refine PC.of [some (.ref 13)] rfl rfl (Nat.le_of_ble_eq_true rfl) ?_
  by_cases h : dp < 1
  · rw [if_pos h]
    refine pw_aload_n 1 rfl dX6_closes_0 rfl ?_
    refine pw_getI 4 rfl dX6_closes_1 fX6_28 (by first | rfl | assumption | exact rowS hh | exact mtS hm | exact ruS hr | exact mtA1 hm | exact mtA2 hm | exact mtA3 hm | exact mtA4 hm | exact mtA5 hm | exact mtA6 hm | exact mtA7 hm | exact ruA1 hr | exact ruA2 hr | exact ruA3 hr) rfl ?_
    rotate_left
    rw [show I 13 5 = nI dp from hQ.2.2.1]
    refine pw_iconst (v := nI 1) 5 rfl dX6_closes_4 rfl ?_
    refine pw_icmp_ge (tgt := 10) 8 rfl dX6_closes_5 rfl (fun h5 => absurd h5 (by (simp (disch := omega) only [nI_leI, nI_ltI, nI_eq, show (0 : Int32) = nI 0 from rfl, not_true_eq_false, not_false_eq_true] <;> omega))) (fun h5 => ?_)
    refine pw_iconst (v := nI 0) 9 rfl dX6_closes_8 rfl ?_
    refine pw_iret dX6_closes_9 rfl ?_
    rotate_left
    exact ⟨rfl, fR.refl, rfl, rfl⟩
  · rw [if_neg h]
    refine pw_aload_n 1 rfl dX6_closes_0 rfl ?_
    refine pw_getI 4 rfl dX6_closes_1 fX6_28 (by first | rfl | assumption | exact rowS hh | exact mtS hm | exact ruS hr | exact mtA1 hm | exact mtA2 hm | exact mtA3 hm | exact mtA4 hm | exact mtA5 hm | exact mtA6 hm | exact mtA7 hm | exact ruA1 hr | exact ruA2 hr | exact ruA3 hr) rfl ?_
    rotate_left
    rw [show I 13 5 = nI dp from hQ.2.2.1]
    refine pw_iconst (v := nI 1) 5 rfl dX6_closes_4 rfl ?_
    refine pw_icmp_ge (tgt := 10) 8 rfl dX6_closes_5 rfl (fun h5 => ?_) (fun h5 => absurd (by (simp (disch := omega) only [nI_leI, nI_ltI, nI_eq, show (0 : Int32) = nI 0 from rfl, not_true_eq_false, not_false_eq_true] <;> omega)) h5)
    refine pw_aload_n 11 rfl dX6_closes_10 rfl ?_
    refine pw_iconst (v := nI 1) 12 rfl dX6_closes_11 rfl ?_
    refine pw_callV (as := [_]) 15 rfl dX6_closes_12 mX6_90 vX6_release (x_release (d := d) (s := 1) hQ (by decide) hl hw) (by first | rfl | assumption | exact rowS hh | exact mtS hm | exact ruS hr | exact mtA1 hm | exact mtA2 hm | exact mtA3 hm | exact mtA4 hm | exact mtA5 hm | exact mtA6 hm | exact mtA7 hm | exact ruA1 hr | exact ruA2 hr | exact ruA3 hr) rfl (by decide) ⟨rfl, by decide, by decide, show (parseMethodDescriptor yX6_release.desc).map (fun d => d.parameters.length) = some 1 by decide +kernel⟩ (by omega) (by decide) (Nat.le_of_ble_eq_true rfl) rfl (fun r12 I12 J12 R12 c12 => ?_)
    obtain ⟨rfl, q1, q2, rfl, rfl⟩ := c12
    rotate_left
    have hrl := rls_len 1 wt cd
    generalize rls 1 wt cd = q at q1 hrl ⊢
    obtain ⟨ws, cs⟩ := q
    obtain ⟨a1, a2, a3, a4, a5, a6, a7, a8⟩ := id q1
    refine pw_aload_n 16 rfl dX6_closes_15 rfl ?_
    refine pw_iconst (v := nI 0) 17 rfl dX6_closes_16 rfl ?_
    refine pw_aload_n 18 rfl dX6_closes_17 rfl ?_
    refine pw_getI 21 rfl dX6_closes_18 fX6_25 (by first | rfl | assumption | exact rowS hh | exact mtS hm | exact ruS hr | exact mtA1 hm | exact mtA2 hm | exact mtA3 hm | exact mtA4 hm | exact mtA5 hm | exact mtA6 hm | exact mtA7 hm | exact ruA1 hr | exact ruA2 hr | exact ruA3 hr) rfl ?_
    rotate_left
    rw [show I12 13 4 = nI ws.length from a2]
    refine pw_iconst (v := nI 1) 22 rfl dX6_closes_21 rfl ?_
    refine pw_isub 23 rfl dX6_closes_22 ?_
    refine pw_mmax 26 rfl dX6_closes_23 mX6_112 (Nat.le_of_ble_eq_true rfl) ?_
    rotate_left
    have em : (if nI 0 < nI ws.length - nI 1 then nI ws.length - nI 1 else nI 0) = nI ws.tail.length := by
      rw [nI_subm (by simp only at hrl; omega) (by omega), List.length_tail]
    rw [em]
    refine pw_putI 29 rfl dX6_closes_26 fX6_25 w6_4 (by first | rfl | assumption | exact rowS hh | exact mtS hm | exact ruS hr | exact mtA1 hm | exact mtA2 hm | exact mtA3 hm | exact mtA4 hm | exact mtA5 hm | exact mtA6 hm | exact mtA7 hm | exact ruA1 hr | exact ruA2 hr | exact ruA3 hr) rfl rfl rfl ?_
    refine pw_aload_n 30 rfl dX6_closes_29 rfl ?_
    refine pw_dup 31 rfl dX6_closes_30 rfl ?_
    refine pw_getI 34 rfl dX6_closes_31 fX6_28 (by first | rfl | assumption | exact rowS hh | exact mtS hm | exact ruS hr | exact mtA1 hm | exact mtA2 hm | exact mtA3 hm | exact mtA4 hm | exact mtA5 hm | exact mtA6 hm | exact mtA7 hm | exact ruA1 hr | exact ruA2 hr | exact ruA3 hr) rfl ?_
    rotate_left
    rw [uI_ne (by omega), show I12 13 5 = nI dp from a3]
    refine pw_iconst (v := nI 1) 35 rfl dX6_closes_34 rfl ?_
    refine pw_isubN 36 rfl dX6_closes_35 (by omega) ?_
    refine pw_putI 39 rfl dX6_closes_36 fX6_28 w6_5 (by first | rfl | assumption | exact rowS hh | exact mtS hm | exact ruS hr | exact mtA1 hm | exact mtA2 hm | exact mtA3 hm | exact mtA4 hm | exact mtA5 hm | exact mtA6 hm | exact mtA7 hm | exact ruA1 hr | exact ruA2 hr | exact ruA3 hr) rfl rfl rfl ?_
    refine pw_aload_n 40 rfl dX6_closes_39 rfl ?_
    refine pw_iconst (v := nI 0) 41 rfl dX6_closes_40 rfl ?_
    refine pw_putI 44 rfl dX6_closes_41 fX6_38 w6_8 (by first | rfl | assumption | exact rowS hh | exact mtS hm | exact ruS hr | exact mtA1 hm | exact mtA2 hm | exact mtA3 hm | exact mtA4 hm | exact mtA5 hm | exact mtA6 hm | exact mtA7 hm | exact ruA1 hr | exact ruA2 hr | exact ruA3 hr) rfl rfl rfl ?_
    refine pw_iconst (v := nI 1) 45 rfl dX6_closes_44 rfl ?_
    refine pw_iret dX6_closes_45 rfl ?_
    rotate_left
    refine ⟨⟨rfl, ?_, ?_, ?_, ?_, ?_, uI_eq _ _ _ _, fun j c hj => ?_, fun j c hj => ?_⟩, fun a h1 h2 h3 => by rw [uI, if_neg h1, uI, if_neg h1, uI, if_neg h1]; exact q2 a h1 h2 h3, rfl, rfl⟩
    · rw [uI_ne (by omega), uI_ne (by omega), uI_ne (by omega)]; exact a1
    · rw [uI_ne (by omega), uI_ne (by omega), uI_eq]
    · rw [uI_ne (by omega), uI_eq]
    · rw [uI_ne (by omega), uI_ne (by omega), uI_ne (by omega)]; exact a4
    · rw [uI_ne (by omega), uI_ne (by omega), uI_ne (by omega)]; exact a5
    · rw [uI_ne (by omega), uI_ne (by omega), uI_ne (by omega)]; exact a7 j c hj
    · rw [uI_ne (by omega), uI_ne (by omega), uI_ne (by omega)]
      refine a8 j c ?_
      rcases ws with _ | ⟨w, ws⟩
      · exact hj
      · have hj' : ws.reverse[j]? = some c := hj
        have hjl := (List.getElem?_eq_some_iff.mp hj').1
        show (w :: ws).reverse[j]? = _
        rw [List.reverse_cons, List.getElem?_append_left hjl]
        exact hj'
set_option maxRecDepth 100000 in
set_option maxHeartbeats 2000000 in
theorem x_lengthens {d t : Nat} {cd wt : List Nat} {dp dg : Nat} {cm : Nat → Bool} {I : pI} {J : pJ} (hQ : XQ I (cd, wt, dp, cm, false, dg)) (hl : cd.length ≤ 40) (hg : dg ≤ 3) (ht : t ≤ 9) (h6 : 1 ≤ dg → cd ≠ [] ∧ cd.getLastD 0 < 10 ^ dg) : PC SX (d) yX6_lengthensNumber cX6_lengthensNumber 2 (some .boolean) [.ref 13, .int (nI t)] (I) (J) (RX) (tkP I J (if dg < 1 ∨ 2 < dg then none else some (cd.dropLast ++ [cd.getLastD 0 * 10 + t], wt, dp, cm, false, dg + 1))) := by
  refine PC.of [some (.ref 13), some (.int (nI t))] rfl rfl (Nat.le_of_ble_eq_true rfl) ?_
  obtain ⟨a1, a2, a3, a4, a5, a6, a7, a8⟩ := id hQ
  have a6' : I 13 8 = nI dg := a6
  have a1' : I 13 2 = nI cd.length := a1
  by_cases h : dg < 1 ∨ 2 < dg
  · rw [if_pos h]
    by_cases h1 : dg < 1
    · refine pw_aload_n 1 rfl dX6_lengthensNumber_0 rfl ?_
      refine pw_getI 4 rfl dX6_lengthensNumber_1 fX6_38 (by first | rfl | assumption | exact rowS hh | exact mtS hm | exact ruS hr | exact mtA1 hm | exact mtA2 hm | exact mtA3 hm | exact mtA4 hm | exact mtA5 hm | exact mtA6 hm | exact mtA7 hm | exact ruA1 hr | exact ruA2 hr | exact ruA3 hr) rfl ?_
      refine pw_iconst (v := nI 1) 5 rfl dX6_lengthensNumber_4 rfl ?_
      refine pw_icmp_lt (tgt := 33) 8 rfl dX6_lengthensNumber_5 rfl (fun h5 => ?_) (fun h5 => absurd (by rw [a6']; (simp (disch := omega) only [nI_leI, nI_ltI, nI_eq, show (0 : Int32) = nI 0 from rfl, not_true_eq_false, not_false_eq_true] <;> omega)) h5)
      refine pw_iconst (v := nI 0) 34 rfl dX6_lengthensNumber_33 rfl ?_
      refine pw_iret dX6_lengthensNumber_34 rfl ?_
      rotate_left
      exact ⟨rfl, fR.refl, rfl, rfl⟩
    · refine pw_aload_n 1 rfl dX6_lengthensNumber_0 rfl ?_
      refine pw_getI 4 rfl dX6_lengthensNumber_1 fX6_38 (by first | rfl | assumption | exact rowS hh | exact mtS hm | exact ruS hr | exact mtA1 hm | exact mtA2 hm | exact mtA3 hm | exact mtA4 hm | exact mtA5 hm | exact mtA6 hm | exact mtA7 hm | exact ruA1 hr | exact ruA2 hr | exact ruA3 hr) rfl ?_
      refine pw_iconst (v := nI 1) 5 rfl dX6_lengthensNumber_4 rfl ?_
      refine pw_icmp_lt (tgt := 33) 8 rfl dX6_lengthensNumber_5 rfl (fun h5 => absurd h5 (by rw [a6']; (simp (disch := omega) only [nI_leI, nI_ltI, nI_eq, show (0 : Int32) = nI 0 from rfl, not_true_eq_false, not_false_eq_true] <;> omega))) (fun h5 => ?_)
      refine pw_aload_n 9 rfl dX6_lengthensNumber_8 rfl ?_
      refine pw_getI 12 rfl dX6_lengthensNumber_9 fX6_38 (by first | rfl | assumption | exact rowS hh | exact mtS hm | exact ruS hr | exact mtA1 hm | exact mtA2 hm | exact mtA3 hm | exact mtA4 hm | exact mtA5 hm | exact mtA6 hm | exact mtA7 hm | exact ruA1 hr | exact ruA2 hr | exact ruA3 hr) rfl ?_
      refine pw_iconst (v := nI 2) 13 rfl dX6_lengthensNumber_12 rfl ?_
      refine pw_icmp_gt (tgt := 33) 16 rfl dX6_lengthensNumber_13 rfl (fun h13 => ?_) (fun h13 => absurd (by rw [a6']; (simp (disch := omega) only [nI_leI, nI_ltI, nI_eq, show (0 : Int32) = nI 0 from rfl, not_true_eq_false, not_false_eq_true] <;> omega)) h13)
      refine pw_iconst (v := nI 0) 34 rfl dX6_lengthensNumber_33 rfl ?_
      refine pw_iret dX6_lengthensNumber_34 rfl ?_
      rotate_left
      exact ⟨rfl, fR.refl, rfl, rfl⟩
  · rw [if_neg h]
    obtain ⟨b1, b2⟩ := h6 (by omega)
    obtain ⟨cs, v, rfl⟩ : ∃ cs v, cd = cs ++ [v] := ⟨cd.dropLast, cd.getLast b1, (List.dropLast_concat_getLast b1).symm⟩
    rw [List.length_append] at hl a1'
    have hl' : cs.length + 1 ≤ 40 := hl
    have a1'' : I 13 2 = nI (cs.length + 1) := a1'
    have hv : I 14 cs.length = nI v := a7 cs.length v (by show (cs ++ [v])[cs.length]? = _; rw [List.getElem?_append_right (by omega), Nat.sub_self]; rfl)
    rw [List.dropLast_concat, List.getLastD_concat]
    refine pw_aload_n 1 rfl dX6_lengthensNumber_0 rfl ?_
    refine pw_getI 4 rfl dX6_lengthensNumber_1 fX6_38 (by first | rfl | assumption | exact rowS hh | exact mtS hm | exact ruS hr | exact mtA1 hm | exact mtA2 hm | exact mtA3 hm | exact mtA4 hm | exact mtA5 hm | exact mtA6 hm | exact mtA7 hm | exact ruA1 hr | exact ruA2 hr | exact ruA3 hr) rfl ?_
    refine pw_iconst (v := nI 1) 5 rfl dX6_lengthensNumber_4 rfl ?_
    refine pw_icmp_lt (tgt := 33) 8 rfl dX6_lengthensNumber_5 rfl (fun h5 => absurd h5 (by rw [a6']; (simp (disch := omega) only [nI_leI, nI_ltI, nI_eq, show (0 : Int32) = nI 0 from rfl, not_true_eq_false, not_false_eq_true] <;> omega))) (fun h5 => ?_)
    refine pw_aload_n 9 rfl dX6_lengthensNumber_8 rfl ?_
    refine pw_getI 12 rfl dX6_lengthensNumber_9 fX6_38 (by first | rfl | assumption | exact rowS hh | exact mtS hm | exact ruS hr | exact mtA1 hm | exact mtA2 hm | exact mtA3 hm | exact mtA4 hm | exact mtA5 hm | exact mtA6 hm | exact mtA7 hm | exact ruA1 hr | exact ruA2 hr | exact ruA3 hr) rfl ?_
    refine pw_iconst (v := nI 2) 13 rfl dX6_lengthensNumber_12 rfl ?_
    refine pw_icmp_gt (tgt := 33) 16 rfl dX6_lengthensNumber_13 rfl (fun h13 => absurd h13 (by rw [a6']; (simp (disch := omega) only [nI_leI, nI_ltI, nI_eq, show (0 : Int32) = nI 0 from rfl, not_true_eq_false, not_false_eq_true] <;> omega))) (fun h13 => ?_)
    refine pw_aload_n 17 rfl dX6_lengthensNumber_16 rfl ?_
    refine pw_getI 20 rfl dX6_lengthensNumber_17 fX6_18 (by first | rfl | assumption | exact rowS hh | exact mtS hm | exact ruS hr | exact mtA1 hm | exact mtA2 hm | exact mtA3 hm | exact mtA4 hm | exact mtA5 hm | exact mtA6 hm | exact mtA7 hm | exact ruA1 hr | exact ruA2 hr | exact ruA3 hr) rfl ?_
    refine pw_iconst (v := nI 1) 21 rfl dX6_lengthensNumber_20 rfl ?_
    refine pw_icmp_lt (tgt := 33) 24 rfl dX6_lengthensNumber_21 rfl (fun h21 => absurd h21 (by rw [a1'']; (simp (disch := omega) only [nI_leI, nI_ltI, nI_eq, show (0 : Int32) = nI 0 from rfl, not_true_eq_false, not_false_eq_true] <;> omega))) (fun h21 => ?_)
    refine pw_aload_n 25 rfl dX6_lengthensNumber_24 rfl ?_
    refine pw_getI 28 rfl dX6_lengthensNumber_25 fX6_18 (by first | rfl | assumption | exact rowS hh | exact mtS hm | exact ruS hr | exact mtA1 hm | exact mtA2 hm | exact mtA3 hm | exact mtA4 hm | exact mtA5 hm | exact mtA6 hm | exact mtA7 hm | exact ruA1 hr | exact ruA2 hr | exact ruA3 hr) rfl ?_
    refine pw_bipush (v := nI 40) 30 rfl dX6_lengthensNumber_28 rfl ?_
    refine pw_icmp_le (tgt := 35) 33 rfl dX6_lengthensNumber_30 rfl (fun h30 => ?_) (fun h30 => absurd (by rw [a1'']; (simp (disch := omega) only [nI_leI, nI_ltI, nI_eq, show (0 : Int32) = nI 0 from rfl, not_true_eq_false, not_false_eq_true] <;> omega)) h30)
    refine pw_aload_n 36 rfl dX6_lengthensNumber_35 rfl ?_
    refine pw_getR 39 rfl dX6_lengthensNumber_36 fX6_11 (by first | rfl | assumption | exact rowS hh | exact mtS hm | exact ruS hr | exact mtA1 hm | exact mtA2 hm | exact mtA3 hm | exact mtA4 hm | exact mtA5 hm | exact mtA6 hm | exact mtA7 hm | exact ruA1 hr | exact ruA2 hr | exact ruA3 hr) rfl (by first | rfl | assumption | exact mtR0 hm | exact mtR1 hm | exact mtR2 hm | exact mtR3 hm | exact mtR4 hm | exact mtR5 hm | exact mtR6 hm | exact ruR0 hr | exact ruR1 hr | exact ruR3 hr) ?_
    refine pw_aload_n 40 rfl dX6_lengthensNumber_39 rfl ?_
    refine pw_getI 43 rfl dX6_lengthensNumber_40 fX6_18 (by first | rfl | assumption | exact rowS hh | exact mtS hm | exact ruS hr | exact mtA1 hm | exact mtA2 hm | exact mtA3 hm | exact mtA4 hm | exact mtA5 hm | exact mtA6 hm | exact mtA7 hm | exact ruA1 hr | exact ruA2 hr | exact ruA3 hr) rfl ?_
    rotate_left
    rw [a1'']
    refine pw_iconst (v := nI 1) 44 rfl dX6_lengthensNumber_43 rfl ?_
    refine pw_isubN 45 rfl dX6_lengthensNumber_44 (by omega) ?_
    refine pw_aload_n 46 rfl dX6_lengthensNumber_45 rfl ?_
    refine pw_getR 49 rfl dX6_lengthensNumber_46 fX6_11 (by first | rfl | assumption | exact rowS hh | exact mtS hm | exact ruS hr | exact mtA1 hm | exact mtA2 hm | exact mtA3 hm | exact mtA4 hm | exact mtA5 hm | exact mtA6 hm | exact mtA7 hm | exact ruA1 hr | exact ruA2 hr | exact ruA3 hr) rfl (by first | rfl | assumption | exact mtR0 hm | exact mtR1 hm | exact mtR2 hm | exact mtR3 hm | exact mtR4 hm | exact mtR5 hm | exact mtR6 hm | exact ruR0 hr | exact ruR1 hr | exact ruR3 hr) ?_
    refine pw_aload_n 50 rfl dX6_lengthensNumber_49 rfl ?_
    refine pw_getI 53 rfl dX6_lengthensNumber_50 fX6_18 (by first | rfl | assumption | exact rowS hh | exact mtS hm | exact ruS hr | exact mtA1 hm | exact mtA2 hm | exact mtA3 hm | exact mtA4 hm | exact mtA5 hm | exact mtA6 hm | exact mtA7 hm | exact ruA1 hr | exact ruA2 hr | exact ruA3 hr) rfl ?_
    rotate_left
    rw [a1'']
    refine pw_iconst (v := nI 1) 54 rfl dX6_lengthensNumber_53 rfl ?_
    refine pw_isubN 55 rfl dX6_lengthensNumber_54 (by omega) ?_
    refine pw_ialdN 56 rfl dX6_lengthensNumber_55 (by first | rfl | assumption | exact rowS hh | exact mtS hm | exact ruS hr | exact mtA1 hm | exact mtA2 hm | exact mtA3 hm | exact mtA4 hm | exact mtA5 hm | exact mtA6 hm | exact mtA7 hm | exact ruA1 hr | exact ruA2 hr | exact ruA3 hr) (by omega) (by decide) ?_
    rotate_left
    rw [show cs.length + 1 - 1 = cs.length by omega, hv]
    refine pw_bipush (v := nI 10) 58 rfl dX6_lengthensNumber_56 rfl ?_
    first | refine pw_imulN 59 rfl dX6_lengthensNumber_58 ?_ | refine pw_imul 59 rfl dX6_lengthensNumber_58 ?_
    refine pw_iload_n 60 rfl dX6_lengthensNumber_59 rfl ?_
    first | refine pw_iaddN 61 rfl dX6_lengthensNumber_60 ?_ | refine pw_iadd 61 rfl dX6_lengthensNumber_60 ?_
    refine pw_iastN 62 rfl dX6_lengthensNumber_61 (by first | rfl | assumption | exact rowS hh | exact mtS hm | exact ruS hr | exact mtA1 hm | exact mtA2 hm | exact mtA3 hm | exact mtA4 hm | exact mtA5 hm | exact mtA6 hm | exact mtA7 hm | exact ruA1 hr | exact ruA2 hr | exact ruA3 hr) (by omega) (by decide) ?_
    refine pw_aload_n 63 rfl dX6_lengthensNumber_62 rfl ?_
    refine pw_dup 64 rfl dX6_lengthensNumber_63 rfl ?_
    refine pw_getI 67 rfl dX6_lengthensNumber_64 fX6_38 (by first | rfl | assumption | exact rowS hh | exact mtS hm | exact ruS hr | exact mtA1 hm | exact mtA2 hm | exact mtA3 hm | exact mtA4 hm | exact mtA5 hm | exact mtA6 hm | exact mtA7 hm | exact ruA1 hr | exact ruA2 hr | exact ruA3 hr) rfl ?_
    rotate_left
    rw [uI_ne (by omega), a6']
    refine pw_iconst (v := nI 1) 68 rfl dX6_lengthensNumber_67 rfl ?_
    first | refine pw_iaddN 69 rfl dX6_lengthensNumber_68 ?_ | refine pw_iadd 69 rfl dX6_lengthensNumber_68 ?_
    refine pw_putI 72 rfl dX6_lengthensNumber_69 fX6_38 w6_8 (by first | rfl | assumption | exact rowS hh | exact mtS hm | exact ruS hr | exact mtA1 hm | exact mtA2 hm | exact mtA3 hm | exact mtA4 hm | exact mtA5 hm | exact mtA6 hm | exact mtA7 hm | exact ruA1 hr | exact ruA2 hr | exact ruA3 hr) rfl rfl rfl ?_
    refine pw_iconst (v := nI 1) 73 rfl dX6_lengthensNumber_72 rfl ?_
    refine pw_iret dX6_lengthensNumber_73 rfl ?_
    rotate_left
    refine ⟨⟨rfl, ?_, ?_, ?_, ?_, ?_, uI_eq _ _ _ _, fun j c hj => ?_, fun j c hj => ?_⟩, fun a h1 h2 h3 => by rw [uI, if_neg h1, uI, if_neg h2], rfl, rfl⟩
    · rw [uI_ne (by omega), uI_ne (by omega), a1'']
      show _ = nI (cs ++ [v * 10 + t]).length
      rw [List.length_append]; rfl
    · rw [uI_ne (by omega), uI_ne (by omega)]; exact a2
    · rw [uI_ne (by omega), uI_ne (by omega)]; exact a3
    · rw [uI_ne (by omega), uI_ne (by omega)]; exact a4
    · rw [uI_ne (by omega), uI_ne (by omega)]; exact a5
    · rw [uI_ne (by omega)]
      have hj' : (cs ++ [v * 10 + t])[j]? = some c := hj
      have hjl := (List.getElem?_eq_some_iff.mp hj').1
      rw [List.length_append] at hjl
      have hjl' : j < cs.length + 1 := hjl
      by_cases e : j = cs.length
      · subst e
        rw [List.getElem?_append_right (by omega), Nat.sub_self] at hj'
        cases hj'
        exact uI_eq _ _ _ _
      · rw [List.getElem?_append_left (by omega)] at hj'
        rw [uI_ne (by omega)]
        refine a7 j c ?_
        show (cs ++ [v])[j]? = _
        rw [List.getElem?_append_left (by omega)]
        exact hj'
    · rw [uI_ne (by omega), uI_ne (by omega)]; exact a8 j c hj
