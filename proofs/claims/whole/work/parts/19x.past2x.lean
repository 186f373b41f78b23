/-! the class's Past: taking back, keeping, bringing back; new climbers, new paces -/
set_option maxRecDepth 100000 in
set_option maxHeartbeats 2000000 in
theorem x_takeBack {d n : Nat} {pc b : Nat → Nat} {us : List (Nat → Nat)} {I : pI} {J : pJ} (hM : XM I 1 n pc b) (hU : XU I us) : PC SX (d + 1) yX4_takeBack cX4_takeBack 3 (some .int) [.ref 21, .ref 1] (I) (J) (RX) (fun r' I' J' R' => r' = some (.int (if us = [] then -1 else nI (us.length - 1))) ∧ XM I' 1 n pc (us.getLast?.getD b) ∧ XU I' us.dropLast ∧ (∀ a, ¬ ((1 ≤ a ∧ a ≤ 8) ∨ a = 21) → I' a = I a) ∧ J = J' ∧ R' = RX) := by
  refine PC.of [some (.ref 21), some (.ref 1), none] rfl rfl (Nat.le_of_ble_eq_true rfl) ?_
  obtain ⟨o, o1, o2, o3, o4, o5⟩ := hU
  by_cases he : us = []
  · subst he
    refine pw_aload_n 1 rfl dX4_takeBack_0 rfl ?_
    refine pw_getI 4 rfl dX4_takeBack_1 fX4_27 (by first | rfl | assumption | exact rowS hh | exact mtS hm | exact ruS hr | exact mtA1 hm | exact mtA2 hm | exact mtA3 hm | exact mtA4 hm | exact mtA5 hm | exact mtA6 hm | exact mtA7 hm | exact ruA1 hr | exact ruA2 hr | exact ruA3 hr) rfl ?_
    rotate_left
    rw [o2]
    refine pw_aload_n 5 rfl dX4_takeBack_4 rfl ?_
    refine pw_getI 8 rfl dX4_takeBack_5 fX4_31 (by first | rfl | assumption | exact rowS hh | exact mtS hm | exact ruS hr | exact mtA1 hm | exact mtA2 hm | exact mtA3 hm | exact mtA4 hm | exact mtA5 hm | exact mtA6 hm | exact mtA7 hm | exact ruA1 hr | exact ruA2 hr | exact ruA3 hr) rfl ?_
    rotate_left
    rw [o3]
    first | refine pw_iaddN 9 rfl dX4_takeBack_8 ?_ | refine pw_iadd 9 rfl dX4_takeBack_8 ?_
    refine pw_iconst (v := nI 1) 10 rfl dX4_takeBack_9 rfl ?_
    refine pw_isub 11 rfl dX4_takeBack_10 ?_
    refine pw_bipush (v := nI 12) 13 rfl dX4_takeBack_11 rfl ?_
    refine pw_irem 14 rfl dX4_takeBack_13 (by decide) ?_
    refine pw_istore_n 15 rfl dX4_takeBack_14 (by decide) ?_
    refine pw_aload_n 16 rfl dX4_takeBack_15 rfl ?_
    refine pw_getI 19 rfl dX4_takeBack_16 fX4_31 (by first | rfl | assumption | exact rowS hh | exact mtS hm | exact ruS hr | exact mtA1 hm | exact mtA2 hm | exact mtA3 hm | exact mtA4 hm | exact mtA5 hm | exact mtA6 hm | exact mtA7 hm | exact ruA1 hr | exact ruA2 hr | exact ruA3 hr) rfl ?_
    refine pw_iconst (v := nI 1) 20 rfl dX4_takeBack_19 rfl ?_
    rotate_left
    rw [o3]
    refine pw_icmp_lt (tgt := 33) 23 rfl dX4_takeBack_20 rfl (fun h20 => ?_) (fun h20 => absurd (by show nI 0 < nI 1; (simp (disch := omega) only [nI_leI, nI_ltI, nI_eq, show (0 : Int32) = nI 0 from rfl, not_true_eq_false, not_false_eq_true] <;> omega)) h20)
    refine pw_iconst (v := -1) 34 rfl dX4_takeBack_33 rfl ?_
    refine pw_iret dX4_takeBack_34 rfl ?_
    rotate_left
    exact ⟨by rw [if_pos rfl], hM, ⟨o, o1, o2, o3, o4, o5⟩, fun _ _ => rfl, rfl, rfl⟩
  · have hl : 1 ≤ us.length := by
      rcases us with _ | ⟨x, xs⟩
      · exact absurd rfl he
      · rw [List.length_cons]; omega
    have hp : (o + us.length - 1) % 12 < 12 := Nat.mod_lt _ (by decide)
    have hlast : us[us.length - 1]? = some (us.getLast he) := by
      rw [← List.getLast?_eq_getElem?]; exact List.getLast?_eq_some_getLast he
    have hpg := o5 _ _ hlast
    rw [show o + (us.length - 1) = o + us.length - 1 by omega] at hpg
    refine pw_aload_n 1 rfl dX4_takeBack_0 rfl ?_
    refine pw_getI 4 rfl dX4_takeBack_1 fX4_27 (by first | rfl | assumption | exact rowS hh | exact mtS hm | exact ruS hr | exact mtA1 hm | exact mtA2 hm | exact mtA3 hm | exact mtA4 hm | exact mtA5 hm | exact mtA6 hm | exact mtA7 hm | exact ruA1 hr | exact ruA2 hr | exact ruA3 hr) rfl ?_
    rotate_left
    rw [o2]
    refine pw_aload_n 5 rfl dX4_takeBack_4 rfl ?_
    refine pw_getI 8 rfl dX4_takeBack_5 fX4_31 (by first | rfl | assumption | exact rowS hh | exact mtS hm | exact ruS hr | exact mtA1 hm | exact mtA2 hm | exact mtA3 hm | exact mtA4 hm | exact mtA5 hm | exact mtA6 hm | exact mtA7 hm | exact ruA1 hr | exact ruA2 hr | exact ruA3 hr) rfl ?_
    rotate_left
    rw [o3]
    first | refine pw_iaddN 9 rfl dX4_takeBack_8 ?_ | refine pw_iadd 9 rfl dX4_takeBack_8 ?_
    refine pw_iconst (v := nI 1) 10 rfl dX4_takeBack_9 rfl ?_
    refine pw_isubN 11 rfl dX4_takeBack_10 (by omega) ?_
    refine pw_bipush (v := nI 12) 13 rfl dX4_takeBack_11 rfl ?_
    refine pw_iremN 14 rfl dX4_takeBack_13 (by omega) (by omega) (by omega) ?_
    refine pw_istore_n 15 rfl dX4_takeBack_14 (by decide) ?_
    refine pw_aload_n 16 rfl dX4_takeBack_15 rfl ?_
    refine pw_getI 19 rfl dX4_takeBack_16 fX4_31 (by first | rfl | assumption | exact rowS hh | exact mtS hm | exact ruS hr | exact mtA1 hm | exact mtA2 hm | exact mtA3 hm | exact mtA4 hm | exact mtA5 hm | exact mtA6 hm | exact mtA7 hm | exact ruA1 hr | exact ruA2 hr | exact ruA3 hr) rfl ?_
    refine pw_iconst (v := nI 1) 20 rfl dX4_takeBack_19 rfl ?_
    rotate_left
    rw [o3]
    generalize (o + us.length - 1) % 12 = p at hp hpg ⊢
    have hg := pgH p hp
    refine pw_icmp_lt (tgt := 33) 23 rfl dX4_takeBack_20 rfl (fun h20 => absurd h20 (by (simp (disch := omega) only [nI_leI, nI_ltI, nI_eq, show (0 : Int32) = nI 0 from rfl, not_true_eq_false, not_false_eq_true] <;> omega))) (fun h20 => ?_)
    refine pw_iload_n 24 rfl dX4_takeBack_23 rfl ?_
    refine pw_if_lt (tgt := 33) 27 rfl dX4_takeBack_24 rfl (fun h24 => absurd h24 (nI_pos (by omega))) (fun h24 => ?_)
    refine pw_iload_n 28 rfl dX4_takeBack_27 rfl ?_
    refine pw_bipush (v := nI 12) 30 rfl dX4_takeBack_28 rfl ?_
    refine pw_icmp_lt (tgt := 35) 33 rfl dX4_takeBack_30 rfl (fun h30 => ?_) (fun h30 => absurd (by (simp (disch := omega) only [nI_leI, nI_ltI, nI_eq, show (0 : Int32) = nI 0 from rfl, not_true_eq_false, not_false_eq_true] <;> omega)) h30)
    refine pw_aload_n 36 rfl dX4_takeBack_35 rfl ?_
    refine pw_getR 39 rfl dX4_takeBack_36 fX4_13 (by first | rfl | assumption | exact rowS hh | exact mtS hm | exact ruS hr | exact mtA1 hm | exact mtA2 hm | exact mtA3 hm | exact mtA4 hm | exact mtA5 hm | exact mtA6 hm | exact mtA7 hm | exact ruA1 hr | exact ruA2 hr | exact ruA3 hr) rfl (by first | rfl | assumption | exact mtR0 hm | exact mtR1 hm | exact mtR2 hm | exact mtR3 hm | exact mtR4 hm | exact mtR5 hm | exact mtR6 hm | exact ruR0 hr | exact ruR1 hr | exact ruR3 hr) ?_
    refine pw_iload_n 40 rfl dX4_takeBack_39 rfl ?_
    refine pw_aaldN 41 rfl dX4_takeBack_40 (by first | rfl | assumption | exact rowS hh | exact mtS hm | exact ruS hr | exact mtA1 hm | exact mtA2 hm | exact mtA3 hm | exact mtA4 hm | exact mtA5 hm | exact mtA6 hm | exact mtA7 hm | exact ruA1 hr | exact ruA2 hr | exact ruA3 hr) (by omega) (by decide) (pgR p hp) ?_
    refine pw_aload_n 42 rfl dX4_takeBack_41 rfl ?_
    rotate_left
    refine pw_callS (as := [_, _]) 45 rfl dX4_takeBack_42 mX4_44 sX4_read (x_read (d := d) (h := 26 + p) hM hpg hg (by omega)) ⟨rfl, by decide, by decide, show (parseMethodDescriptor yX4_read.desc).map (fun d => d.parameters.length) = some 2 by decide +kernel⟩ (by omega) (by decide) (Nat.le_of_ble_eq_true rfl) rfl (fun r42 I42 J42 R42 c42 => ?_)
    obtain ⟨rfl, a1, a2, rfl, rfl⟩ := c42
    refine pw_aload_n 46 rfl dX4_takeBack_45 rfl ?_
    refine pw_dup 47 rfl dX4_takeBack_46 rfl ?_
    refine pw_getI 50 rfl dX4_takeBack_47 fX4_31 (by first | rfl | assumption | exact rowS hh | exact mtS hm | exact ruS hr | exact mtA1 hm | exact mtA2 hm | exact mtA3 hm | exact mtA4 hm | exact mtA5 hm | exact mtA6 hm | exact mtA7 hm | exact ruA1 hr | exact ruA2 hr | exact ruA3 hr) rfl ?_
    rotate_left
    rw [a2 21 (by omega), o3]
    refine pw_iconst (v := nI 1) 51 rfl dX4_takeBack_50 rfl ?_
    refine pw_isubN 52 rfl dX4_takeBack_51 (by omega) ?_
    refine pw_putI 55 rfl dX4_takeBack_52 fX4_31 w4_5 (by first | rfl | assumption | exact rowS hh | exact mtS hm | exact ruS hr | exact mtA1 hm | exact mtA2 hm | exact mtA3 hm | exact mtA4 hm | exact mtA5 hm | exact mtA6 hm | exact mtA7 hm | exact ruA1 hr | exact ruA2 hr | exact ruA3 hr) rfl rfl rfl ?_
    refine pw_aload_n 56 rfl dX4_takeBack_55 rfl ?_
    refine pw_getI 59 rfl dX4_takeBack_56 fX4_31 (by first | rfl | assumption | exact rowS hh | exact mtS hm | exact ruS hr | exact mtA1 hm | exact mtA2 hm | exact mtA3 hm | exact mtA4 hm | exact mtA5 hm | exact mtA6 hm | exact mtA7 hm | exact ruA1 hr | exact ruA2 hr | exact ruA3 hr) rfl ?_
    rotate_left
    rw [uI_eq]
    refine pw_iret dX4_takeBack_59 rfl ?_
    rotate_left
    refine ⟨by rw [if_neg he], ?_, ⟨o, o1, ?_, ?_, ?_, fun j c hj => ?_⟩, fun a ha => ?_, rfl, rfl⟩
    · rw [List.getLast?_eq_some_getLast he]
      obtain ⟨q1, q2, q3, q4, q5, q6, q7⟩ := a1
      exact ⟨q1, q2, q3, q4, q5, q6, q7⟩
    · rw [uI_ne (by omega), a2 21 (by omega)]; exact o2
    · rw [uI_eq, List.length_dropLast]
    · rw [List.length_dropLast]; omega
    · rw [uI, if_neg (by omega), a2 _ (by omega)]
      refine o5 j c ?_
      have hjl := (List.getElem?_eq_some_iff.mp hj).1
      rw [List.length_dropLast] at hjl
      rw [List.getElem?_dropLast, if_pos hjl] at hj
      exact hj
    · rw [uI, if_neg (by omega), a2 a (by omega)]
def aKp (kp : Nat → Option (Nat → Nat)) (w : Int32) (b : Nat → Nat) : Nat → Option (Nat → Nat) := fun i => if nI i = w then some b else kp i
theorem XK_no {I : pI} {kp : Nat → Option (Nat → Nat)} {w : Int32} (b : Nat → Nat) (hK : XK I kp) (h : w < 0 ∨ nI 2 ≤ w) : XK I (aKp kp w b) := by
  intro i hi
  have e : aKp kp w b i = kp i := by
    unfold aKp
    rw [if_neg (fun e => by
      subst e
      rcases h with h | h
      · exact nI_pos (by omega) h
      · exact absurd ((nI_leI (by omega) (by omega)).mp h) (by omega))]
  rw [e]
  exact hK i hi
theorem in2_no {w : Int32} (h : w < 0 ∨ nI 2 ≤ w) : ¬ (0 ≤ w ∧ w < nI 2) := fun q => by
  rw [Int32.le_iff_toInt_le, Int32.lt_iff_toInt_lt] at q
  rw [Int32.le_iff_toInt_le, Int32.lt_iff_toInt_lt] at h
  omega
theorem in2_y {j : Nat} (h : j < 2) : 0 ≤ nI j ∧ nI j < nI 2 := ⟨nI_pos' (by omega), nI_lt h (by omega)⟩
set_option maxRecDepth 100000 in
set_option maxHeartbeats 2000000 in
theorem x_keepAs {d n : Nat} {pc b : Nat → Nat} {kp : Nat → Option (Nat → Nat)} {I : pI} {J : pJ} (hM : XM I 1 n pc b) (hK : XK I kp) (w : Int32) : PC SX (d + 1) yX4_keepAs cX4_keepAs 3 (some .boolean) [.ref 21, .int w, .ref 1] (I) (J) (RX) (fun r' I' J' R' => r' = some (.int (if 0 ≤ w ∧ w < nI 2 then nI 1 else nI 0)) ∧ XK I' (aKp kp w b) ∧ (∀ a, a ≠ 24 → a ≠ 38 → a ≠ 39 → I' a = I a) ∧ J = J' ∧ R' = RX) := by
  refine PC.of [some (.ref 21), some (.int w), some (.ref 1)] rfl rfl (Nat.le_of_ble_eq_true rfl) ?_
  rcases pk_ix w (n := 2) (by omega) with h | h | ⟨j, hj, rfl⟩
  · refine pw_iload_n 1 rfl dX4_keepAs_0 rfl ?_
    refine pw_if_lt (tgt := 9) 4 rfl dX4_keepAs_1 rfl (fun h1 => ?_) (fun h1 => absurd h h1)
    refine pw_iconst (v := nI 0) 10 rfl dX4_keepAs_9 rfl ?_
    refine pw_iret dX4_keepAs_10 rfl ?_
    rotate_left
    exact ⟨by rw [if_neg (in2_no (Or.inl h))], XK_no b hK (Or.inl h), fun _ _ _ _ => rfl, rfl, rfl⟩
  · refine pw_iload_n 1 rfl dX4_keepAs_0 rfl ?_
    refine pw_if_lt (tgt := 9) 4 rfl dX4_keepAs_1 rfl (fun h1 => ?_) (fun h1 => ?_)
    refine pw_iconst (v := nI 0) 10 rfl dX4_keepAs_9 rfl ?_
    refine pw_iret dX4_keepAs_10 rfl ?_
    rotate_left
    refine pw_iload_n 5 rfl dX4_keepAs_4 rfl ?_
    refine pw_iconst (v := nI 2) 6 rfl dX4_keepAs_5 rfl ?_
    refine pw_icmp_lt (tgt := 11) 9 rfl dX4_keepAs_6 rfl (fun h6 => absurd h6 (fun q => absurd (And.intro (show (0 : Int32) ≤ w from Int32.not_lt.mp ‹_›) q) (in2_no (Or.inr h)))) (fun h6 => ?_)
    refine pw_iconst (v := nI 0) 10 rfl dX4_keepAs_9 rfl ?_
    refine pw_iret dX4_keepAs_10 rfl ?_
    rotate_left
    all_goals exact ⟨by rw [if_neg (in2_no (Or.inr h))], XK_no b hK (Or.inr h), fun _ _ _ _ => rfl, rfl, rfl⟩
  · have hg := ktH j hj
    refine pw_iload_n 1 rfl dX4_keepAs_0 rfl ?_
    refine pw_if_lt (tgt := 9) 4 rfl dX4_keepAs_1 rfl (fun h1 => absurd h1 (nI_pos (by omega))) (fun h1 => ?_)
    refine pw_iload_n 5 rfl dX4_keepAs_4 rfl ?_
    refine pw_iconst (v := nI 2) 6 rfl dX4_keepAs_5 rfl ?_
    refine pw_icmp_lt (tgt := 11) 9 rfl dX4_keepAs_6 rfl (fun h6 => ?_) (fun h6 => absurd (by (simp (disch := omega) only [nI_leI, nI_ltI, nI_eq, show (0 : Int32) = nI 0 from rfl, not_true_eq_false, not_false_eq_true] <;> omega)) h6)
    refine pw_aload_n 12 rfl dX4_keepAs_11 rfl ?_
    refine pw_aload_n 13 rfl dX4_keepAs_12 rfl ?_
    refine pw_getR 16 rfl dX4_keepAs_13 fX4_16 (by first | rfl | assumption | exact rowS hh | exact mtS hm | exact ruS hr | exact mtA1 hm | exact mtA2 hm | exact mtA3 hm | exact mtA4 hm | exact mtA5 hm | exact mtA6 hm | exact mtA7 hm | exact ruA1 hr | exact ruA2 hr | exact ruA3 hr) rfl (by first | rfl | assumption | exact mtR0 hm | exact mtR1 hm | exact mtR2 hm | exact mtR3 hm | exact mtR4 hm | exact mtR5 hm | exact mtR6 hm | exact ruR0 hr | exact ruR1 hr | exact ruR3 hr) ?_
    refine pw_iload_n 17 rfl dX4_keepAs_16 rfl ?_
    refine pw_aaldN 18 rfl dX4_keepAs_17 (by first | rfl | assumption | exact rowS hh | exact mtS hm | exact ruS hr | exact mtA1 hm | exact mtA2 hm | exact mtA3 hm | exact mtA4 hm | exact mtA5 hm | exact mtA6 hm | exact mtA7 hm | exact ruA1 hr | exact ruA2 hr | exact ruA3 hr) (by omega) (by decide) (ktR j hj) ?_
    refine pw_callS (as := [_, _]) 21 rfl dX4_keepAs_18 mX4_34 sX4_write (x_write (d := d) (h := 38 + j) hM hg (by omega)) ⟨rfl, by decide, by decide, show (parseMethodDescriptor yX4_write.desc).map (fun d => d.parameters.length) = some 2 by decide +kernel⟩ (by omega) (by decide) (Nat.le_of_ble_eq_true rfl) rfl (fun r18 I18 J18 R18 c18 => ?_)
    obtain ⟨rfl, a1, a2, rfl, rfl⟩ := c18
    rotate_left
    refine pw_aload_n 22 rfl dX4_keepAs_21 rfl ?_
    refine pw_getR 25 rfl dX4_keepAs_22 fX4_19 (by first | rfl | assumption | exact rowS hh | exact mtS hm | exact ruS hr | exact mtA1 hm | exact mtA2 hm | exact mtA3 hm | exact mtA4 hm | exact mtA5 hm | exact mtA6 hm | exact mtA7 hm | exact ruA1 hr | exact ruA2 hr | exact ruA3 hr) rfl (by first | rfl | assumption | exact mtR0 hm | exact mtR1 hm | exact mtR2 hm | exact mtR3 hm | exact mtR4 hm | exact mtR5 hm | exact mtR6 hm | exact ruR0 hr | exact ruR1 hr | exact ruR3 hr) ?_
    refine pw_iload_n 26 rfl dX4_keepAs_25 rfl ?_
    refine pw_iconst (v := nI 1) 27 rfl dX4_keepAs_26 rfl ?_
    refine pw_zastN 28 rfl dX4_keepAs_27 (by first | rfl | assumption | exact rowS hh | exact mtS hm | exact ruS hr | exact mtA1 hm | exact mtA2 hm | exact mtA3 hm | exact mtA4 hm | exact mtA5 hm | exact mtA6 hm | exact mtA7 hm | exact ruA1 hr | exact ruA2 hr | exact ruA3 hr) (by omega) (by decide) ?_
    refine pw_iconst (v := nI 1) 29 rfl dX4_keepAs_28 rfl ?_
    refine pw_iret dX4_keepAs_29 rfl ?_
    rotate_left
    refine ⟨by rw [if_pos (in2_y hj)], fun i hi => ?_, fun a h1 h2 h3 => ?_, rfl, rfl⟩
    · unfold aKp
      by_cases e : i = j
      · subst e
        rw [if_pos rfl]
        exact ⟨uI_eq _ _ _ _, by rw [uI, if_neg (by omega)]; exact a1⟩
      · rw [if_neg (fun q => e ((nI_eq (by omega) (by omega)).mp q))]
        have := hK i hi
        have e1 : uI I18 24 j (vp_nar .boolean (nI 1)) 24 i = I 24 i := by rw [uI_ne (by omega), a2 24 (by omega)]
        have e2 : uI I18 24 j (vp_nar .boolean (nI 1)) (38 + i) = I (38 + i) := by rw [uI, if_neg (by omega), a2 _ (by omega)]
        rw [e1, e2]
        exact this
    · rw [uI, if_neg h1, a2 a (by omega)]
def aBr (kp : Nat → Option (Nat → Nat)) (w : Int32) : Option (Nat → Nat) := if 0 ≤ w ∧ w < nI 2 then kp w.toNatClampNeg else none
set_option maxRecDepth 100000 in
set_option maxHeartbeats 2000000 in
theorem x_bringBack {d n : Nat} {pc b : Nat → Nat} {us : List (Nat → Nat)} {kp : Nat → Option (Nat → Nat)} {I : pI} {J : pJ} (hM : XM I 1 n pc b) (hU : XU I us) (hK : XK I kp) (w : Int32) : PC SX (d + 1) yX4_bringBack cX4_bringBack 3 (some .boolean) [.ref 21, .int w, .ref 1] (I) (J) (RX) (fun r' I' J' R' => r' = some (.int (if aBr kp w = none then nI 0 else nI 1)) ∧ XM I' 1 n pc ((aBr kp w).getD b) ∧ XU I' (if aBr kp w = none then us else []) ∧ (∀ a, ¬ ((1 ≤ a ∧ a ≤ 8) ∨ a = 21) → I' a = I a) ∧ J = J' ∧ R' = RX) := by
  refine PC.of [some (.ref 21), some (.int w), some (.ref 1)] rfl rfl (Nat.le_of_ble_eq_true rfl) ?_
  rcases pk_ix w (n := 2) (by omega) with h | h | ⟨j, hj, rfl⟩
  · have e : aBr kp w = none := if_neg (in2_no (Or.inl h))
    rw [e]
    refine pw_iload_n 1 rfl dX4_bringBack_0 rfl ?_
    refine pw_if_lt (tgt := 18) 4 rfl dX4_bringBack_1 rfl (fun h1 => ?_) (fun h1 => absurd h h1)
    refine pw_iconst (v := nI 0) 19 rfl dX4_bringBack_18 rfl ?_
    refine pw_iret dX4_bringBack_19 rfl ?_
    rotate_left
    exact ⟨rfl, hM, hU, fun _ _ => rfl, rfl, rfl⟩
  · have e : aBr kp w = none := if_neg (in2_no (Or.inr h))
    rw [e]
    refine pw_iload_n 1 rfl dX4_bringBack_0 rfl ?_
    refine pw_if_lt (tgt := 18) 4 rfl dX4_bringBack_1 rfl (fun h1 => ?_) (fun h1 => ?_)
    refine pw_iconst (v := nI 0) 19 rfl dX4_bringBack_18 rfl ?_
    refine pw_iret dX4_bringBack_19 rfl ?_
    rotate_left
    refine pw_iload_n 5 rfl dX4_bringBack_4 rfl ?_
    refine pw_iconst (v := nI 2) 6 rfl dX4_bringBack_5 rfl ?_
    refine pw_icmp_ge (tgt := 18) 9 rfl dX4_bringBack_6 rfl (fun h6 => ?_) (fun h6 => absurd h h6)
    refine pw_iconst (v := nI 0) 19 rfl dX4_bringBack_18 rfl ?_
    refine pw_iret dX4_bringBack_19 rfl ?_
    rotate_left
    all_goals exact ⟨rfl, hM, hU, fun _ _ => rfl, rfl, rfl⟩
  · have e : aBr kp (nI j) = kp j := by rw [aBr, if_pos (in2_y hj), nI_clamp (by omega)]
    rw [e]
    have hk := hK j hj
    have hg := ktH j hj
    revert hk
    rcases kp j with _ | c
    · intro hk
      refine pw_iload_n 1 rfl dX4_bringBack_0 rfl ?_
      refine pw_if_lt (tgt := 18) 4 rfl dX4_bringBack_1 rfl (fun h1 => absurd h1 (nI_pos (by omega))) (fun h1 => ?_)
      refine pw_iload_n 5 rfl dX4_bringBack_4 rfl ?_
      refine pw_iconst (v := nI 2) 6 rfl dX4_bringBack_5 rfl ?_
      refine pw_icmp_ge (tgt := 18) 9 rfl dX4_bringBack_6 rfl (fun h6 => absurd h6 (by (simp (disch := omega) only [nI_leI, nI_ltI, nI_eq, show (0 : Int32) = nI 0 from rfl, not_true_eq_false, not_false_eq_true] <;> omega))) (fun h6 => ?_)
      refine pw_aload_n 10 rfl dX4_bringBack_9 rfl ?_
      refine pw_getR 13 rfl dX4_bringBack_10 fX4_19 (by first | rfl | assumption | exact rowS hh | exact mtS hm | exact ruS hr | exact mtA1 hm | exact mtA2 hm | exact mtA3 hm | exact mtA4 hm | exact mtA5 hm | exact mtA6 hm | exact mtA7 hm | exact ruA1 hr | exact ruA2 hr | exact ruA3 hr) rfl (by first | rfl | assumption | exact mtR0 hm | exact mtR1 hm | exact mtR2 hm | exact mtR3 hm | exact mtR4 hm | exact mtR5 hm | exact mtR6 hm | exact ruR0 hr | exact ruR1 hr | exact ruR3 hr) ?_
      refine pw_iload_n 14 rfl dX4_bringBack_13 rfl ?_
      refine pw_zaldN 15 rfl dX4_bringBack_14 (by first | rfl | assumption | exact rowS hh | exact mtS hm | exact ruS hr | exact mtA1 hm | exact mtA2 hm | exact mtA3 hm | exact mtA4 hm | exact mtA5 hm | exact mtA6 hm | exact mtA7 hm | exact ruA1 hr | exact ruA2 hr | exact ruA3 hr) (by omega) (by decide) ?_
      refine pw_if_ne (tgt := 20) 18 rfl dX4_bringBack_15 rfl (fun h15 => absurd (by rw [show I 24 j = nI 0 from hk]; decide) h15) (fun h15 => ?_)
      refine pw_iconst (v := nI 0) 19 rfl dX4_bringBack_18 rfl ?_
      refine pw_iret dX4_bringBack_19 rfl ?_
      rotate_left
      exact ⟨rfl, hM, hU, fun _ _ => rfl, rfl, rfl⟩
    · rintro ⟨k1, k2⟩
      refine pw_iload_n 1 rfl dX4_bringBack_0 rfl ?_
      refine pw_if_lt (tgt := 18) 4 rfl dX4_bringBack_1 rfl (fun h1 => absurd h1 (nI_pos (by omega))) (fun h1 => ?_)
      refine pw_iload_n 5 rfl dX4_bringBack_4 rfl ?_
      refine pw_iconst (v := nI 2) 6 rfl dX4_bringBack_5 rfl ?_
      refine pw_icmp_ge (tgt := 18) 9 rfl dX4_bringBack_6 rfl (fun h6 => absurd h6 (by (simp (disch := omega) only [nI_leI, nI_ltI, nI_eq, show (0 : Int32) = nI 0 from rfl, not_true_eq_false, not_false_eq_true] <;> omega))) (fun h6 => ?_)
      refine pw_aload_n 10 rfl dX4_bringBack_9 rfl ?_
      refine pw_getR 13 rfl dX4_bringBack_10 fX4_19 (by first | rfl | assumption | exact rowS hh | exact mtS hm | exact ruS hr | exact mtA1 hm | exact mtA2 hm | exact mtA3 hm | exact mtA4 hm | exact mtA5 hm | exact mtA6 hm | exact mtA7 hm | exact ruA1 hr | exact ruA2 hr | exact ruA3 hr) rfl (by first | rfl | assumption | exact mtR0 hm | exact mtR1 hm | exact mtR2 hm | exact mtR3 hm | exact mtR4 hm | exact mtR5 hm | exact mtR6 hm | exact ruR0 hr | exact ruR1 hr | exact ruR3 hr) ?_
      refine pw_iload_n 14 rfl dX4_bringBack_13 rfl ?_
      refine pw_zaldN 15 rfl dX4_bringBack_14 (by first | rfl | assumption | exact rowS hh | exact mtS hm | exact ruS hr | exact mtA1 hm | exact mtA2 hm | exact mtA3 hm | exact mtA4 hm | exact mtA5 hm | exact mtA6 hm | exact mtA7 hm | exact ruA1 hr | exact ruA2 hr | exact ruA3 hr) (by omega) (by decide) ?_
      refine pw_if_ne (tgt := 20) 18 rfl dX4_bringBack_15 rfl (fun h15 => ?_) (fun h15 => absurd h15 (by rw [k1]; decide))
      refine pw_aload_n 21 rfl dX4_bringBack_20 rfl ?_
      refine pw_getR 24 rfl dX4_bringBack_21 fX4_16 (by first | rfl | assumption | exact rowS hh | exact mtS hm | exact ruS hr | exact mtA1 hm | exact mtA2 hm | exact mtA3 hm | exact mtA4 hm | exact mtA5 hm | exact mtA6 hm | exact mtA7 hm | exact ruA1 hr | exact ruA2 hr | exact ruA3 hr) rfl (by first | rfl | assumption | exact mtR0 hm | exact mtR1 hm | exact mtR2 hm | exact mtR3 hm | exact mtR4 hm | exact mtR5 hm | exact mtR6 hm | exact ruR0 hr | exact ruR1 hr | exact ruR3 hr) ?_
      refine pw_iload_n 25 rfl dX4_bringBack_24 rfl ?_
      refine pw_aaldN 26 rfl dX4_bringBack_25 (by first | rfl | assumption | exact rowS hh | exact mtS hm | exact ruS hr | exact mtA1 hm | exact mtA2 hm | exact mtA3 hm | exact mtA4 hm | exact mtA5 hm | exact mtA6 hm | exact mtA7 hm | exact ruA1 hr | exact ruA2 hr | exact ruA3 hr) (by omega) (by decide) (ktR j hj) ?_
      refine pw_aload_n 27 rfl dX4_bringBack_26 rfl ?_
      refine pw_callS (as := [_, _]) 30 rfl dX4_bringBack_27 mX4_44 sX4_read (x_read (d := d) (h := 38 + j) hM k2 hg (by omega)) ⟨rfl, by decide, by decide, show (parseMethodDescriptor yX4_read.desc).map (fun d => d.parameters.length) = some 2 by decide +kernel⟩ (by omega) (by decide) (Nat.le_of_ble_eq_true rfl) rfl (fun r27 I27 J27 R27 c27 => ?_)
      obtain ⟨rfl, a1, a2, rfl, rfl⟩ := c27
      rotate_left
      refine pw_aload_n 31 rfl dX4_bringBack_30 rfl ?_
      refine pw_iconst (v := nI 0) 32 rfl dX4_bringBack_31 rfl ?_
      refine pw_putI 35 rfl dX4_bringBack_32 fX4_31 w4_5 (by first | rfl | assumption | exact rowS hh | exact mtS hm | exact ruS hr | exact mtA1 hm | exact mtA2 hm | exact mtA3 hm | exact mtA4 hm | exact mtA5 hm | exact mtA6 hm | exact mtA7 hm | exact ruA1 hr | exact ruA2 hr | exact ruA3 hr) rfl rfl rfl ?_
      refine pw_iconst (v := nI 1) 36 rfl dX4_bringBack_35 rfl ?_
      refine pw_iret dX4_bringBack_36 rfl ?_
      rotate_left
      obtain ⟨o, o1, o2, o3, o4, o5⟩ := hU
      refine ⟨rfl, ?_, ⟨o, o1, ?_, ?_, Nat.zero_le _, fun j c hj => by cases hj⟩, fun a ha => ?_, rfl, rfl⟩
      · obtain ⟨q1, q2, q3, q4, q5, q6, q7⟩ := a1
        exact ⟨q1, q2, q3, q4, q5, q6, q7⟩
      · rw [uI_ne (by omega), a2 21 (by omega)]; exact o2
      · rw [uI_eq]; rfl
      · rw [uI, if_neg (by omega), a2 a (by omega)]
set_option maxRecDepth 100000 in
set_option maxHeartbeats 2000000 in
theorem x_forgetAll {d : Nat} {us : List (Nat → Nat)} {I : pI} {J : pJ} (hU : XU I us) : PC SX (d) yX4_forgetAll cX4_forgetAll 2 none [.ref 21] (I) (J) (RX) (fun r' I' J' R' => r' = none ∧ XU I' [] ∧ XK I' (fun _ => none) ∧ (∀ a, a ≠ 21 → a ≠ 24 → I' a = I a) ∧ J = J' ∧ R' = RX) := by
  refine PC.of [some (.ref 21), none] rfl rfl (Nat.le_of_ble_eq_true rfl) ?_
  obtain ⟨o, o1, o2, o3, o4, o5⟩ := hU
  refine pw_aload_n 1 rfl dX4_forgetAll_0 rfl ?_
  refine pw_iconst (v := nI 0) 2 rfl dX4_forgetAll_1 rfl ?_
  refine pw_putI 5 rfl dX4_forgetAll_2 fX4_31 w4_5 (by first | rfl | assumption | exact rowS hh | exact mtS hm | exact ruS hr | exact mtA1 hm | exact mtA2 hm | exact mtA3 hm | exact mtA4 hm | exact mtA5 hm | exact mtA6 hm | exact mtA7 hm | exact ruA1 hr | exact ruA2 hr | exact ruA3 hr) rfl rfl rfl ?_
  refine pw_iconst (v := nI 0) 6 rfl dX4_forgetAll_5 rfl ?_
  refine pw_istore_n 7 rfl dX4_forgetAll_6 (by decide) ?_
  rotate_left
  have L := nat_loop 2 (fun k => ∀ (I' : pI), I' 21 4 = nI o → I' 21 5 = nI 0 → (∀ i, i < k → I' 24 i = nI 0) → (∀ a, a ≠ 21 → a ≠ 24 → I' a = I a) → PW SX yX4_forgetAll.cls cX4_forgetAll 2 (d) 7 [some (.ref 21), some (.int (nI k))] [] (I') (J) (RX) (rX cX4_forgetAll none (fun r' I' J' R' => r' = none ∧ XU I' [] ∧ XK I' (fun _ => none) ∧ (∀ a, a ≠ 21 → a ≠ 24 → I' a = I a) ∧ J = J' ∧ R' = RX))) ?_ ?_
  · exact L _ (by rw [uI_ne (by omega)]; exact o2) (uI_eq _ _ _ _) (fun i hi => by omega) (fun a h1 h2 => by rw [uI, if_neg h1])
  · intro I' g1 g2 g3 g4
    refine pw_iload_n 8 rfl dX4_forgetAll_7 rfl ?_
    refine pw_iconst (v := nI 2) 9 rfl dX4_forgetAll_8 rfl ?_
    refine pw_icmp_ge (tgt := 25) 12 rfl dX4_forgetAll_9 rfl (fun h9 => ?_) (fun h9 => absurd (by (simp (disch := omega) only [nI_leI, nI_ltI, nI_eq, show (0 : Int32) = nI 0 from rfl, not_true_eq_false, not_false_eq_true] <;> omega)) h9)
    refine pw_vret dX4_forgetAll_25 ?_
    rotate_left
    exact ⟨rfl, ⟨o, o1, g1, g2, by decide, fun j c hj => by cases hj⟩, fun i hi => g3 i hi, g4, rfl, rfl⟩
  · intro k hk ih I' g1 g2 g3 g4
    refine pw_iload_n 8 rfl dX4_forgetAll_7 rfl ?_
    refine pw_iconst (v := nI 2) 9 rfl dX4_forgetAll_8 rfl ?_
    refine pw_icmp_ge (tgt := 25) 12 rfl dX4_forgetAll_9 rfl (fun h9 => absurd h9 (by (simp (disch := omega) only [nI_leI, nI_ltI, nI_eq, show (0 : Int32) = nI 0 from rfl, not_true_eq_false, not_false_eq_true] <;> omega))) (fun h9 => ?_)
    refine pw_aload_n 13 rfl dX4_forgetAll_12 rfl ?_
    refine pw_getR 16 rfl dX4_forgetAll_13 fX4_19 (by first | rfl | assumption | exact rowS hh | exact mtS hm | exact ruS hr | exact mtA1 hm | exact mtA2 hm | exact mtA3 hm | exact mtA4 hm | exact mtA5 hm | exact mtA6 hm | exact mtA7 hm | exact ruA1 hr | exact ruA2 hr | exact ruA3 hr) rfl (by first | rfl | assumption | exact mtR0 hm | exact mtR1 hm | exact mtR2 hm | exact mtR3 hm | exact mtR4 hm | exact mtR5 hm | exact mtR6 hm | exact ruR0 hr | exact ruR1 hr | exact ruR3 hr) ?_
    refine pw_iload_n 17 rfl dX4_forgetAll_16 rfl ?_
    refine pw_iconst (v := nI 0) 18 rfl dX4_forgetAll_17 rfl ?_
    refine pw_zastN 19 rfl dX4_forgetAll_18 (by first | rfl | assumption | exact rowS hh | exact mtS hm | exact ruS hr | exact mtA1 hm | exact mtA2 hm | exact mtA3 hm | exact mtA4 hm | exact mtA5 hm | exact mtA6 hm | exact mtA7 hm | exact ruA1 hr | exact ruA2 hr | exact ruA3 hr) (by omega) (by decide) ?_
    refine pw_iincN 22 rfl dX4_forgetAll_19 (by decide) rfl ?_
    refine pw_goto (tgt := 7) dX4_forgetAll_22 rfl ?_
    rotate_left
    refine ih _ (by rw [uI_ne (by omega)]; exact g1) (by rw [uI_ne (by omega)]; exact g2) (fun i hi => ?_) (fun a h1 h2 => by rw [uI, if_neg h2]; exact g4 a h1 h2)
    by_cases e : i = k
    · subst e; rw [uI_eq]; rfl
    · rw [uI_ne (by omega)]; exact g3 i (by omega)
set_option maxRecDepth 100000 in
set_option maxHeartbeats 2000000 in
theorem x_addClimber {d n p : Nat} {pc b : Nat → Nat} {I : pI} {J : pJ} (hM : XM I 1 n pc b) (hn : n < 7) : PC SX (d) yX1_addClimber cX1_addClimber 2 none [.ref 1, .int (nI p)] (I) (J) (RX) (fun r' I' J' R' => r' = none ∧ XM I' 1 (n + 1) (bu pc n p) (bu (bu (bu (bu b n 0) (7 + n) 0) (14 + n) 0) (21 + n) 0) ∧ fM 1 I I' ∧ J = J' ∧ R' = RX) := by
  refine PC.of [some (.ref 1), some (.int (nI p))] rfl rfl (Nat.le_of_ble_eq_true rfl) ?_
  obtain ⟨h7, i7, i8, i9, i10, i11, hA⟩ := hM
  refine pw_aload_n 1 rfl dX1_addClimber_0 rfl ?_
  refine pw_getI 4 rfl dX1_addClimber_1 fX1_33 (by first | rfl | assumption | exact rowS hh | exact mtS hm | exact ruS hr | exact mtA1 hm | exact mtA2 hm | exact mtA3 hm | exact mtA4 hm | exact mtA5 hm | exact mtA6 hm | exact mtA7 hm | exact ruA1 hr | exact ruA2 hr | exact ruA3 hr) rfl ?_
  rotate_left
  rw [i7]
  refine pw_if_lt (tgt := 16) 7 rfl dX1_addClimber_4 rfl (fun h4 => absurd h4 (nI_pos (by omega))) (fun h4 => ?_)
  refine pw_aload_n 8 rfl dX1_addClimber_7 rfl ?_
  refine pw_getI 11 rfl dX1_addClimber_8 fX1_33 (by first | rfl | assumption | exact rowS hh | exact mtS hm | exact ruS hr | exact mtA1 hm | exact mtA2 hm | exact mtA3 hm | exact mtA4 hm | exact mtA5 hm | exact mtA6 hm | exact mtA7 hm | exact ruA1 hr | exact ruA2 hr | exact ruA3 hr) rfl ?_
  rotate_left
  rw [i7]
  refine pw_bipush (v := nI 7) 13 rfl dX1_addClimber_11 rfl ?_
  refine pw_icmp_lt (tgt := 17) 16 rfl dX1_addClimber_13 rfl (fun h13 => ?_) (fun h13 => absurd (by (simp (disch := omega) only [nI_leI, nI_ltI, nI_eq, show (0 : Int32) = nI 0 from rfl, not_true_eq_false, not_false_eq_true] <;> omega)) h13)
  refine pw_aload_n 18 rfl dX1_addClimber_17 rfl ?_
  refine pw_getR 21 rfl dX1_addClimber_18 fX1_9 (by first | rfl | assumption | exact rowS hh | exact mtS hm | exact ruS hr | exact mtA1 hm | exact mtA2 hm | exact mtA3 hm | exact mtA4 hm | exact mtA5 hm | exact mtA6 hm | exact mtA7 hm | exact ruA1 hr | exact ruA2 hr | exact ruA3 hr) rfl (by first | rfl | assumption | exact mtR0 hm | exact mtR1 hm | exact mtR2 hm | exact mtR3 hm | exact mtR4 hm | exact mtR5 hm | exact mtR6 hm | exact ruR0 hr | exact ruR1 hr | exact ruR3 hr) ?_
  refine pw_aload_n 22 rfl dX1_addClimber_21 rfl ?_
  refine pw_getI 25 rfl dX1_addClimber_22 fX1_33 (by first | rfl | assumption | exact rowS hh | exact mtS hm | exact ruS hr | exact mtA1 hm | exact mtA2 hm | exact mtA3 hm | exact mtA4 hm | exact mtA5 hm | exact mtA6 hm | exact mtA7 hm | exact ruA1 hr | exact ruA2 hr | exact ruA3 hr) rfl ?_
  rotate_left
  rw [i7]
  refine pw_iload_n 26 rfl dX1_addClimber_25 rfl ?_
  refine pw_iastN 27 rfl dX1_addClimber_26 (by first | rfl | assumption | exact rowS hh | exact mtS hm | exact ruS hr | exact mtA1 hm | exact mtA2 hm | exact mtA3 hm | exact mtA4 hm | exact mtA5 hm | exact mtA6 hm | exact mtA7 hm | exact ruA1 hr | exact ruA2 hr | exact ruA3 hr) (by omega) (by decide) ?_
  refine pw_aload_n 28 rfl dX1_addClimber_27 rfl ?_
  refine pw_getR 31 rfl dX1_addClimber_28 fX1_15 (by first | rfl | assumption | exact rowS hh | exact mtS hm | exact ruS hr | exact mtA1 hm | exact mtA2 hm | exact mtA3 hm | exact mtA4 hm | exact mtA5 hm | exact mtA6 hm | exact mtA7 hm | exact ruA1 hr | exact ruA2 hr | exact ruA3 hr) rfl (by first | rfl | assumption | exact mtR0 hm | exact mtR1 hm | exact mtR2 hm | exact mtR3 hm | exact mtR4 hm | exact mtR5 hm | exact mtR6 hm | exact ruR0 hr | exact ruR1 hr | exact ruR3 hr) ?_
  refine pw_aload_n 32 rfl dX1_addClimber_31 rfl ?_
  refine pw_getI 35 rfl dX1_addClimber_32 fX1_33 (by first | rfl | assumption | exact rowS hh | exact mtS hm | exact ruS hr | exact mtA1 hm | exact mtA2 hm | exact mtA3 hm | exact mtA4 hm | exact mtA5 hm | exact mtA6 hm | exact mtA7 hm | exact ruA1 hr | exact ruA2 hr | exact ruA3 hr) rfl ?_
  rotate_left
  rw [uI_ne (by omega), i7]
  refine pw_iconst (v := nI 0) 36 rfl dX1_addClimber_35 rfl ?_
  refine pw_iastN 37 rfl dX1_addClimber_36 (by first | rfl | assumption | exact rowS hh | exact mtS hm | exact ruS hr | exact mtA1 hm | exact mtA2 hm | exact mtA3 hm | exact mtA4 hm | exact mtA5 hm | exact mtA6 hm | exact mtA7 hm | exact ruA1 hr | exact ruA2 hr | exact ruA3 hr) (by omega) (by decide) ?_
  refine pw_aload_n 38 rfl dX1_addClimber_37 rfl ?_
  refine pw_getR 41 rfl dX1_addClimber_38 fX1_18 (by first | rfl | assumption | exact rowS hh | exact mtS hm | exact ruS hr | exact mtA1 hm | exact mtA2 hm | exact mtA3 hm | exact mtA4 hm | exact mtA5 hm | exact mtA6 hm | exact mtA7 hm | exact ruA1 hr | exact ruA2 hr | exact ruA3 hr) rfl (by first | rfl | assumption | exact mtR0 hm | exact mtR1 hm | exact mtR2 hm | exact mtR3 hm | exact mtR4 hm | exact mtR5 hm | exact mtR6 hm | exact ruR0 hr | exact ruR1 hr | exact ruR3 hr) ?_
  refine pw_aload_n 42 rfl dX1_addClimber_41 rfl ?_
  refine pw_getI 45 rfl dX1_addClimber_42 fX1_33 (by first | rfl | assumption | exact rowS hh | exact mtS hm | exact ruS hr | exact mtA1 hm | exact mtA2 hm | exact mtA3 hm | exact mtA4 hm | exact mtA5 hm | exact mtA6 hm | exact mtA7 hm | exact ruA1 hr | exact ruA2 hr | exact ruA3 hr) rfl ?_
  rotate_left
  rw [uI_ne (by omega), uI_ne (by omega), i7]
  refine pw_iconst (v := nI 0) 46 rfl dX1_addClimber_45 rfl ?_
  refine pw_iastN 47 rfl dX1_addClimber_46 (by first | rfl | assumption | exact rowS hh | exact mtS hm | exact ruS hr | exact mtA1 hm | exact mtA2 hm | exact mtA3 hm | exact mtA4 hm | exact mtA5 hm | exact mtA6 hm | exact mtA7 hm | exact ruA1 hr | exact ruA2 hr | exact ruA3 hr) (by omega) (by decide) ?_
  refine pw_aload_n 48 rfl dX1_addClimber_47 rfl ?_
  refine pw_getR 51 rfl dX1_addClimber_48 fX1_21 (by first | rfl | assumption | exact rowS hh | exact mtS hm | exact ruS hr | exact mtA1 hm | exact mtA2 hm | exact mtA3 hm | exact mtA4 hm | exact mtA5 hm | exact mtA6 hm | exact mtA7 hm | exact ruA1 hr | exact ruA2 hr | exact ruA3 hr) rfl (by first | rfl | assumption | exact mtR0 hm | exact mtR1 hm | exact mtR2 hm | exact mtR3 hm | exact mtR4 hm | exact mtR5 hm | exact mtR6 hm | exact ruR0 hr | exact ruR1 hr | exact ruR3 hr) ?_
  refine pw_aload_n 52 rfl dX1_addClimber_51 rfl ?_
  refine pw_getI 55 rfl dX1_addClimber_52 fX1_33 (by first | rfl | assumption | exact rowS hh | exact mtS hm | exact ruS hr | exact mtA1 hm | exact mtA2 hm | exact mtA3 hm | exact mtA4 hm | exact mtA5 hm | exact mtA6 hm | exact mtA7 hm | exact ruA1 hr | exact ruA2 hr | exact ruA3 hr) rfl ?_
  rotate_left
  rw [uI_ne (by omega), uI_ne (by omega), uI_ne (by omega), i7]
  refine pw_iconst (v := nI 0) 56 rfl dX1_addClimber_55 rfl ?_
  refine pw_iastN 57 rfl dX1_addClimber_56 (by first | rfl | assumption | exact rowS hh | exact mtS hm | exact ruS hr | exact mtA1 hm | exact mtA2 hm | exact mtA3 hm | exact mtA4 hm | exact mtA5 hm | exact mtA6 hm | exact mtA7 hm | exact ruA1 hr | exact ruA2 hr | exact ruA3 hr) (by omega) (by decide) ?_
  refine pw_aload_n 58 rfl dX1_addClimber_57 rfl ?_
  refine pw_getR 61 rfl dX1_addClimber_58 fX1_24 (by first | rfl | assumption | exact rowS hh | exact mtS hm | exact ruS hr | exact mtA1 hm | exact mtA2 hm | exact mtA3 hm | exact mtA4 hm | exact mtA5 hm | exact mtA6 hm | exact mtA7 hm | exact ruA1 hr | exact ruA2 hr | exact ruA3 hr) rfl (by first | rfl | assumption | exact mtR0 hm | exact mtR1 hm | exact mtR2 hm | exact mtR3 hm | exact mtR4 hm | exact mtR5 hm | exact mtR6 hm | exact ruR0 hr | exact ruR1 hr | exact ruR3 hr) ?_
  refine pw_aload_n 62 rfl dX1_addClimber_61 rfl ?_
  refine pw_getI 65 rfl dX1_addClimber_62 fX1_33 (by first | rfl | assumption | exact rowS hh | exact mtS hm | exact ruS hr | exact mtA1 hm | exact mtA2 hm | exact mtA3 hm | exact mtA4 hm | exact mtA5 hm | exact mtA6 hm | exact mtA7 hm | exact ruA1 hr | exact ruA2 hr | exact ruA3 hr) rfl ?_
  rotate_left
  rw [uI_ne (by omega), uI_ne (by omega), uI_ne (by omega), uI_ne (by omega), i7]
  refine pw_iconst (v := nI 0) 66 rfl dX1_addClimber_65 rfl ?_
  refine pw_iastN 67 rfl dX1_addClimber_66 (by first | rfl | assumption | exact rowS hh | exact mtS hm | exact ruS hr | exact mtA1 hm | exact mtA2 hm | exact mtA3 hm | exact mtA4 hm | exact mtA5 hm | exact mtA6 hm | exact mtA7 hm | exact ruA1 hr | exact ruA2 hr | exact ruA3 hr) (by omega) (by decide) ?_
  refine pw_aload_n 68 rfl dX1_addClimber_67 rfl ?_
  refine pw_dup 69 rfl dX1_addClimber_68 rfl ?_
  refine pw_getI 72 rfl dX1_addClimber_69 fX1_33 (by first | rfl | assumption | exact rowS hh | exact mtS hm | exact ruS hr | exact mtA1 hm | exact mtA2 hm | exact mtA3 hm | exact mtA4 hm | exact mtA5 hm | exact mtA6 hm | exact mtA7 hm | exact ruA1 hr | exact ruA2 hr | exact ruA3 hr) rfl ?_
  rotate_left
  rw [uI_ne (by omega), uI_ne (by omega), uI_ne (by omega), uI_ne (by omega), uI_ne (by omega), i7]
  refine pw_iconst (v := nI 1) 73 rfl dX1_addClimber_72 rfl ?_
  first | refine pw_iaddN 74 rfl dX1_addClimber_73 ?_ | refine pw_iadd 74 rfl dX1_addClimber_73 ?_
  refine pw_putI 77 rfl dX1_addClimber_74 fX1_33 w1_7 (by first | rfl | assumption | exact rowS hh | exact mtS hm | exact ruS hr | exact mtA1 hm | exact mtA2 hm | exact mtA3 hm | exact mtA4 hm | exact mtA5 hm | exact mtA6 hm | exact mtA7 hm | exact ruA1 hr | exact ruA2 hr | exact ruA3 hr) rfl rfl rfl ?_
  refine pw_vret dX1_addClimber_77 ?_
  rotate_left
  refine ⟨rfl, ⟨by omega, uI_eq _ _ _ _, ?_, ?_, ?_, ?_, fun k hk => ?_⟩, fun a ha => ?_, rfl, rfl⟩
  · rw [uI_ne (by omega), uI_ne (by omega), uI_ne (by omega), uI_ne (by omega), uI_ne (by omega), uI_ne (by omega), i8, bu_ne (by omega), bu_ne (by omega), bu_ne (by omega), bu_ne (by omega)]
  · rw [uI_ne (by omega), uI_ne (by omega), uI_ne (by omega), uI_ne (by omega), uI_ne (by omega), uI_ne (by omega), i9, bu_ne (by omega), bu_ne (by omega), bu_ne (by omega), bu_ne (by omega)]
  · rw [uI_ne (by omega), uI_ne (by omega), uI_ne (by omega), uI_ne (by omega), uI_ne (by omega), uI_ne (by omega), i10, bu_ne (by omega), bu_ne (by omega), bu_ne (by omega), bu_ne (by omega)]
  · rw [uI_ne (by omega), uI_ne (by omega), uI_ne (by omega), uI_ne (by omega), uI_ne (by omega), uI_ne (by omega), i11, bu_ne (by omega), bu_ne (by omega), bu_ne (by omega), bu_ne (by omega)]
  · obtain ⟨a1, a2, a3, a4, a5⟩ := hA k hk
    by_cases e : k = n
    · subst e
      refine ⟨?_, ?_, ?_, ?_, ?_⟩
      · rw [uI_ne (by omega), uI_ne (by omega), uI_ne (by omega), uI_ne (by omega), uI_ne (by omega), uI_eq, bu_eq]
      · rw [uI_ne (by omega), uI_ne (by omega), uI_ne (by omega), uI_ne (by omega), uI_eq, bu_ne (by omega), bu_ne (by omega), bu_ne (by omega), bu_eq]
      · rw [uI_ne (by omega), uI_ne (by omega), uI_ne (by omega), uI_eq, bu_ne (by omega), bu_ne (by omega), bu_eq]
      · rw [uI_ne (by omega), uI_ne (by omega), uI_eq, bu_ne (by omega), bu_eq]
      · rw [uI_ne (by omega), uI_eq, bu_eq]
    · refine ⟨?_, ?_, ?_, ?_, ?_⟩
      · rw [uI_ne (by omega), uI_ne (by omega), uI_ne (by omega), uI_ne (by omega), uI_ne (by omega), uI_ne (by omega), bu_ne (by omega)]; exact a1
      · rw [uI_ne (by omega), uI_ne (by omega), uI_ne (by omega), uI_ne (by omega), uI_ne (by omega), uI_ne (by omega), bu_ne (by omega), bu_ne (by omega), bu_ne (by omega), bu_ne (by omega)]; exact a2
      · rw [uI_ne (by omega), uI_ne (by omega), uI_ne (by omega), uI_ne (by omega), uI_ne (by omega), uI_ne (by omega), bu_ne (by omega), bu_ne (by omega), bu_ne (by omega), bu_ne (by omega)]; exact a3
      · rw [uI_ne (by omega), uI_ne (by omega), uI_ne (by omega), uI_ne (by omega), uI_ne (by omega), uI_ne (by omega), bu_ne (by omega), bu_ne (by omega), bu_ne (by omega), bu_ne (by omega)]; exact a4
      · rw [uI_ne (by omega), uI_ne (by omega), uI_ne (by omega), uI_ne (by omega), uI_ne (by omega), uI_ne (by omega), bu_ne (by omega), bu_ne (by omega), bu_ne (by omega), bu_ne (by omega)]; exact a5
  · rw [uI, if_neg (by omega), uI, if_neg (by omega), uI, if_neg (by omega), uI, if_neg (by omega), uI, if_neg (by omega), uI, if_neg (by omega)]
/-- one entry of a sheet, and its pace -/
def entA (kd v : Int32) : Int32 := if kd = 0 then v.toInt8.toInt32 else if kd = nI 1 then v.toInt16.toInt32 else v
set_option maxRecDepth 100000 in
set_option maxHeartbeats 2000000 in
theorem x_entryAs {d : Nat} (kd v : Int32) {I : pI} {J : pJ} {R : pR} : PC SX (d) yX1_entryAs cX1_entryAs 2 (some .int) [.int kd, .int v] (I) (J) (R) (pPu (.int (entA kd v)) I J R) := by
  refine PC.of [some (.int kd), some (.int v)] rfl rfl (Nat.le_of_ble_eq_true rfl) ?_
  refine pw_iload_n 1 rfl dX1_entryAs_0 rfl ?_
  refine pw_if_ne (tgt := 9) 4 rfl dX1_entryAs_1 rfl (fun h1 => ?_) (fun h1 => ?_)
  refine pw_iload_n 10 rfl dX1_entryAs_9 rfl ?_
  refine pw_iconst (v := nI 1) 11 rfl dX1_entryAs_10 rfl ?_
  refine pw_icmp_ne (tgt := 19) 14 rfl dX1_entryAs_11 rfl (fun h11 => ?_) (fun h11 => ?_)
  refine pw_iload_n 20 rfl dX1_entryAs_19 rfl ?_
  refine pw_iret dX1_entryAs_20 rfl ?_
  rotate_left
  refine pw_iload_n 15 rfl dX1_entryAs_14 rfl ?_
  refine pw_i2s 16 rfl dX1_entryAs_15 ?_
  refine pw_goto (tgt := 20) dX1_entryAs_16 rfl ?_
  refine pw_iret dX1_entryAs_20 rfl ?_
  rotate_left
  refine pw_iload_n 5 rfl dX1_entryAs_4 rfl ?_
  refine pw_i2b 6 rfl dX1_entryAs_5 ?_
  refine pw_goto (tgt := 20) dX1_entryAs_6 rfl ?_
  refine pw_iret dX1_entryAs_20 rfl ?_
  rotate_left
  · rw [entA, if_neg h1, if_neg h11]; exact ⟨rfl, rfl, rfl, rfl⟩
  · rw [entA, if_neg h1, if_pos h11]; exact ⟨rfl, rfl, rfl, rfl⟩
  · rw [entA, if_pos h1]; exact ⟨rfl, rfl, rfl, rfl⟩
def shA (kd f st : Int32) (i : Nat) : Nat := (withV (entA kd (f + nI i * st)) (nI 0) (nI 9)).toNatClampNeg
theorem withV9 (v : Int32) : ∃ j, j ≤ 9 ∧ withV v (nI 0) (nI 9) = nI j := by
  unfold withV
  by_cases h : v < nI 0
  · rw [if_pos h]; exact ⟨0, by omega, rfl⟩
  · rw [if_neg h]
    by_cases h' : nI 9 < v
    · rw [if_pos h']; exact ⟨9, by omega, rfl⟩
    · rw [if_neg h']
      obtain ⟨j, hj, rfl⟩ := nI_of h
      rw [nI_ltI (by omega) (by omega)] at h'
      exact ⟨j, by omega, rfl⟩
theorem shA_nI (kd f st : Int32) (i : Nat) : withV (entA kd (f + nI i * st)) (nI 0) (nI 9) = nI (shA kd f st i) ∧ shA kd f st i ≤ 9 := by
  obtain ⟨j, hj, e⟩ := withV9 (entA kd (f + nI i * st))
  unfold shA
  rw [e, nI_clamp (by omega)]
  exact ⟨rfl, hj⟩
def shP (kd f st : Int32) (m n : Nat) (pc : Nat → Nat) : Nat → Nat := fun i => if i < n then (if i < m then shA kd f st i else 0) else pc i
set_option maxRecDepth 100000 in
set_option maxHeartbeats 2000000 in
theorem x_takePaces {d n mm : Nat} {pc b : Nat → Nat} {I : pI} {J : pJ} (hM : XM I 1 n pc b) (hm7 : mm ≤ 7) (kd f st : Int32) : PC SX (d + 1) yX1_takePaces cX1_takePaces 6 none [.ref 1, .int kd, .int (nI mm), .int f, .int st] (I) (J) (RX) (fun r' I' J' R' => r' = none ∧ XM I' 1 n (shP kd f st mm n pc) b ∧ fM 1 I I' ∧ J = J' ∧ R' = RX) := by
  refine PC.of [some (.ref 1), some (.int kd), some (.int (nI mm)), some (.int f), some (.int st), none] rfl rfl (Nat.le_of_ble_eq_true rfl) ?_
  obtain ⟨hn7, i7, i8, i9, i10, i11, hA⟩ := hM
  refine pw_iconst (v := nI 0) 1 rfl dX1_takePaces_0 rfl ?_
  refine pw_istore 3 rfl dX1_takePaces_1 (by decide) ?_
  rotate_left
  have L := nat_loop n (fun k => ∀ (I' : pI), (∀ i, i < k → I' 2 i = nI (if i < mm then shA kd f st i else 0)) → (∀ i, k ≤ i → I' 2 i = I 2 i) → (∀ a, a ≠ 2 → I' a = I a) → PW SX yX1_takePaces.cls cX1_takePaces 6 (d + 1) 3 [some (.ref 1), some (.int kd), some (.int (nI mm)), some (.int f), some (.int st), some (.int (nI k))] [] (I') (J) (RX) (rX cX1_takePaces none (fun r' I' J' R' => r' = none ∧ XM I' 1 n (shP kd f st mm n pc) b ∧ fM 1 I I' ∧ J = J' ∧ R' = RX))) ?_ ?_
  · exact L _ (fun i hi => by omega) (fun i hi => rfl) (fun a ha => rfl)
  · intro I' g1 g2 g3
    refine pw_iload 5 rfl dX1_takePaces_3 rfl ?_
    refine pw_bipush (v := nI 7) 7 rfl dX1_takePaces_5 rfl ?_
    refine pw_icmp_ge (tgt := 59) 10 rfl dX1_takePaces_7 rfl (fun h7 => ?_) (fun h7 => ?_)
    refine pw_vret dX1_takePaces_59 ?_
    rotate_left
    refine pw_iload 12 rfl dX1_takePaces_10 rfl ?_
    refine pw_aload_n 13 rfl dX1_takePaces_12 rfl ?_
    refine pw_getI 16 rfl dX1_takePaces_13 fX1_33 (by first | rfl | assumption | exact rowS hh | exact mtS hm | exact ruS hr | exact mtA1 hm | exact mtA2 hm | exact mtA3 hm | exact mtA4 hm | exact mtA5 hm | exact mtA6 hm | exact mtA7 hm | exact ruA1 hr | exact ruA2 hr | exact ruA3 hr) rfl ?_
    refine pw_icmp_ge (tgt := 59) 19 rfl dX1_takePaces_16 rfl (fun h16 => ?_) (fun h16 => absurd (by rw [g3 1 (by omega), i7]; (simp (disch := omega) only [nI_leI, nI_ltI, nI_eq, show (0 : Int32) = nI 0 from rfl, not_true_eq_false, not_false_eq_true] <;> omega)) h16)
    refine pw_vret dX1_takePaces_59 ?_
    rotate_left
    all_goals
      refine ⟨rfl, ⟨hn7, ?_, ?_, ?_, ?_, ?_, fun k hk => ?_⟩, fun a ha => g3 a (by omega), rfl, rfl⟩
      · rw [g3 1 (by omega)]; exact i7
      · rw [g3 1 (by omega)]; exact i8
      · rw [g3 1 (by omega)]; exact i9
      · rw [g3 1 (by omega)]; exact i10
      · rw [g3 1 (by omega)]; exact i11
      · obtain ⟨a1, a2, a3, a4, a5⟩ := hA k hk
        rw [g3 3 (by omega), g3 4 (by omega), g3 5 (by omega), g3 6 (by omega)]
        refine ⟨?_, a2, a3, a4, a5⟩
        unfold shP
        by_cases e : k < n
        · rw [if_pos e]; exact g1 k e
        · rw [if_neg e]; rw [show 1 + 1 = 2 from rfl, g2 k (by omega)]; exact a1
  · intro k hk ih I' g1 g2 g3
    have fin : ∀ v, v = nI (if k < mm then shA kd f st k else 0) → PW SX yX1_takePaces.cls cX1_takePaces 6 (d + 1) 53 [some (.ref 1), some (.int kd), some (.int (nI mm)), some (.int f), some (.int st), some (.int (nI k))] [] (uI I' 2 k v) (J) (RX) (rX cX1_takePaces none (fun r' I' J' R' => r' = none ∧ XM I' 1 n (shP kd f st mm n pc) b ∧ fM 1 I I' ∧ J = J' ∧ R' = RX)) := by
      intro v hv
      refine pw_iincN 56 rfl dX1_takePaces_53 (by decide) rfl ?_
      refine pw_goto (tgt := 3) dX1_takePaces_56 rfl ?_
      rotate_left
      refine ih _ (fun i hi => ?_) (fun i hi => by rw [uI_ne (by omega)]; exact g2 i (by omega)) (fun a ha => by rw [uI, if_neg ha]; exact g3 a ha)
      by_cases e : i = k
      · subst e; rw [uI_eq]; exact hv
      · rw [uI_ne (by omega)]; exact g1 i (by omega)
    by_cases hkm : k < mm
    · rw [if_pos hkm] at fin
      refine pw_iload 5 rfl dX1_takePaces_3 rfl ?_
      refine pw_bipush (v := nI 7) 7 rfl dX1_takePaces_5 rfl ?_
      refine pw_icmp_ge (tgt := 59) 10 rfl dX1_takePaces_7 rfl (fun h7 => absurd h7 (by (simp (disch := omega) only [nI_leI, nI_ltI, nI_eq, show (0 : Int32) = nI 0 from rfl, not_true_eq_false, not_false_eq_true] <;> omega))) (fun h7 => ?_)
      refine pw_iload 12 rfl dX1_takePaces_10 rfl ?_
      refine pw_aload_n 13 rfl dX1_takePaces_12 rfl ?_
      refine pw_getI 16 rfl dX1_takePaces_13 fX1_33 (by first | rfl | assumption | exact rowS hh | exact mtS hm | exact ruS hr | exact mtA1 hm | exact mtA2 hm | exact mtA3 hm | exact mtA4 hm | exact mtA5 hm | exact mtA6 hm | exact mtA7 hm | exact ruA1 hr | exact ruA2 hr | exact ruA3 hr) rfl ?_
      refine pw_icmp_ge (tgt := 59) 19 rfl dX1_takePaces_16 rfl (fun h16 => absurd h16 (by rw [g3 1 (by omega), i7]; (simp (disch := omega) only [nI_leI, nI_ltI, nI_eq, show (0 : Int32) = nI 0 from rfl, not_true_eq_false, not_false_eq_true] <;> omega))) (fun h16 => ?_)
      refine pw_aload_n 20 rfl dX1_takePaces_19 rfl ?_
      refine pw_getR 23 rfl dX1_takePaces_20 fX1_9 (by first | rfl | assumption | exact rowS hh | exact mtS hm | exact ruS hr | exact mtA1 hm | exact mtA2 hm | exact mtA3 hm | exact mtA4 hm | exact mtA5 hm | exact mtA6 hm | exact mtA7 hm | exact ruA1 hr | exact ruA2 hr | exact ruA3 hr) rfl (by first | rfl | assumption | exact mtR0 hm | exact mtR1 hm | exact mtR2 hm | exact mtR3 hm | exact mtR4 hm | exact mtR5 hm | exact mtR6 hm | exact ruR0 hr | exact ruR1 hr | exact ruR3 hr) ?_
      refine pw_iload 25 rfl dX1_takePaces_23 rfl ?_
      refine pw_iload 27 rfl dX1_takePaces_25 rfl ?_
      refine pw_iload_n 28 rfl dX1_takePaces_27 rfl ?_
      refine pw_icmp_ge (tgt := 51) 31 rfl dX1_takePaces_28 rfl (fun h28 => absurd h28 (by (simp (disch := omega) only [nI_leI, nI_ltI, nI_eq, show (0 : Int32) = nI 0 from rfl, not_true_eq_false, not_false_eq_true] <;> omega))) (fun h28 => ?_)
      refine pw_iload_n 32 rfl dX1_takePaces_31 rfl ?_
      refine pw_iload_n 33 rfl dX1_takePaces_32 rfl ?_
      refine pw_iload 35 rfl dX1_takePaces_33 rfl ?_
      refine pw_iload 37 rfl dX1_takePaces_35 rfl ?_
      first | refine pw_imulN 38 rfl dX1_takePaces_37 ?_ | refine pw_imul 38 rfl dX1_takePaces_37 ?_
      refine pw_iadd 39 rfl dX1_takePaces_38 ?_
      refine pw_callSP (as := [_, _]) 42 rfl dX1_takePaces_39 mX1_52 sX1_entryAs (x_entryAs (d := d) _ _) ⟨rfl, by decide, by decide, show (parseMethodDescriptor yX1_entryAs.desc).map (fun d => d.parameters.length) = some 2 by decide +kernel⟩ (by omega) (by decide) (Nat.le_of_ble_eq_true rfl) rfl ?_
      refine pw_iconst (v := nI 0) 43 rfl dX1_takePaces_42 rfl ?_
      refine pw_bipush (v := nI 9) 45 rfl dX1_takePaces_43 rfl ?_
      refine pw_callNP (as := [_, _, _]) 48 rfl dX1_takePaces_45 nX1_56 sX11_within (x_within (d := d) _ _ _) ⟨rfl, by decide, by decide, show (parseMethodDescriptor yX11_within.desc).map (fun d => d.parameters.length) = some 3 by decide +kernel⟩ (by omega) (by decide) (Nat.le_of_ble_eq_true rfl) rfl ?_
      refine pw_goto (tgt := 52) dX1_takePaces_48 rfl ?_
      refine pw_iastN 53 rfl dX1_takePaces_52 (by first | rfl | assumption | exact rowS hh | exact mtS hm | exact ruS hr | exact mtA1 hm | exact mtA2 hm | exact mtA3 hm | exact mtA4 hm | exact mtA5 hm | exact mtA6 hm | exact mtA7 hm | exact ruA1 hr | exact ruA2 hr | exact ruA3 hr) (by omega) (by decide) ?_
      rotate_left
      exact fin _ (shA_nI kd f st k).1
    · rw [if_neg hkm] at fin
      refine pw_iload 5 rfl dX1_takePaces_3 rfl ?_
      refine pw_bipush (v := nI 7) 7 rfl dX1_takePaces_5 rfl ?_
      refine pw_icmp_ge (tgt := 59) 10 rfl dX1_takePaces_7 rfl (fun h7 => absurd h7 (by (simp (disch := omega) only [nI_leI, nI_ltI, nI_eq, show (0 : Int32) = nI 0 from rfl, not_true_eq_false, not_false_eq_true] <;> omega))) (fun h7 => ?_)
      refine pw_iload 12 rfl dX1_takePaces_10 rfl ?_
      refine pw_aload_n 13 rfl dX1_takePaces_12 rfl ?_
      refine pw_getI 16 rfl dX1_takePaces_13 fX1_33 (by first | rfl | assumption | exact rowS hh | exact mtS hm | exact ruS hr | exact mtA1 hm | exact mtA2 hm | exact mtA3 hm | exact mtA4 hm | exact mtA5 hm | exact mtA6 hm | exact mtA7 hm | exact ruA1 hr | exact ruA2 hr | exact ruA3 hr) rfl ?_
      refine pw_icmp_ge (tgt := 59) 19 rfl dX1_takePaces_16 rfl (fun h16 => absurd h16 (by rw [g3 1 (by omega), i7]; (simp (disch := omega) only [nI_leI, nI_ltI, nI_eq, show (0 : Int32) = nI 0 from rfl, not_true_eq_false, not_false_eq_true] <;> omega))) (fun h16 => ?_)
      refine pw_aload_n 20 rfl dX1_takePaces_19 rfl ?_
      refine pw_getR 23 rfl dX1_takePaces_20 fX1_9 (by first | rfl | assumption | exact rowS hh | exact mtS hm | exact ruS hr | exact mtA1 hm | exact mtA2 hm | exact mtA3 hm | exact mtA4 hm | exact mtA5 hm | exact mtA6 hm | exact mtA7 hm | exact ruA1 hr | exact ruA2 hr | exact ruA3 hr) rfl (by first | rfl | assumption | exact mtR0 hm | exact mtR1 hm | exact mtR2 hm | exact mtR3 hm | exact mtR4 hm | exact mtR5 hm | exact mtR6 hm | exact ruR0 hr | exact ruR1 hr | exact ruR3 hr) ?_
      refine pw_iload 25 rfl dX1_takePaces_23 rfl ?_
      refine pw_iload 27 rfl dX1_takePaces_25 rfl ?_
      refine pw_iload_n 28 rfl dX1_takePaces_27 rfl ?_
      refine pw_icmp_ge (tgt := 51) 31 rfl dX1_takePaces_28 rfl (fun h28 => ?_) (fun h28 => absurd (by (simp (disch := omega) only [nI_leI, nI_ltI, nI_eq, show (0 : Int32) = nI 0 from rfl, not_true_eq_false, not_false_eq_true] <;> omega)) h28)
      refine pw_iconst (v := nI 0) 52 rfl dX1_takePaces_51 rfl ?_
      refine pw_iastN 53 rfl dX1_takePaces_52 (by first | rfl | assumption | exact rowS hh | exact mtS hm | exact ruS hr | exact mtA1 hm | exact mtA2 hm | exact mtA3 hm | exact mtA4 hm | exact mtA5 hm | exact mtA6 hm | exact mtA7 hm | exact ruA1 hr | exact ruA2 hr | exact ruA3 hr) (by omega) (by decide) ?_
      rotate_left
      exact fin _ rfl
