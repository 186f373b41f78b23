theorem XQ_fr {I I' : pI} {z : mSt} (h : XQ I z) (h1 : I' 13 = I 13) (h2 : I' 14 = I 14) (h3 : I' 16 = I 16) : XQ I' z := by
  unfold XQ at *
  rw [h1, h2, h3]
  exact h
set_option maxRecDepth 100000 in
set_option maxHeartbeats 2000000 in
theorem x_hold {d k : Nat} {v : Int32} {I : pI} {J : pJ} (h1 : I 13 4 = nI k) (hl : k < 40) : PC SX (d) yX6_hold cX6_hold 2 none [.ref 13, .int v] (I) (J) (RX) (fun r' I' J' R' => r' = none ∧ I' = uI (uI I 16 k v) 13 4 (nI (k + 1)) ∧ J = J' ∧ R' = RX) := by
  refine PC.of [some (.ref 13), some (.int v)] rfl rfl (Nat.le_of_ble_eq_true rfl) ?_
  refine pw_aload_n 1 rfl dX6_hold_0 rfl ?_
  refine pw_getI 4 rfl dX6_hold_1 fX6_25 (by first | rfl | assumption | exact rowS hh | exact mtS hm | exact ruS hr | exact mtA1 hm | exact mtA2 hm | exact mtA3 hm | exact mtA4 hm | exact mtA5 hm | exact mtA6 hm | exact mtA7 hm | exact ruA1 hr | exact ruA2 hr | exact ruA3 hr) rfl ?_
  rotate_left
  rw [h1]
  refine pw_if_lt (tgt := 36) 7 rfl dX6_hold_4 rfl (fun h4 => absurd h4 (nI_pos (by omega))) (fun h4 => ?_)
  refine pw_aload_n 8 rfl dX6_hold_7 rfl ?_
  refine pw_getI 11 rfl dX6_hold_8 fX6_25 (by first | rfl | assumption | exact rowS hh | exact mtS hm | exact ruS hr | exact mtA1 hm | exact mtA2 hm | exact mtA3 hm | exact mtA4 hm | exact mtA5 hm | exact mtA6 hm | exact mtA7 hm | exact ruA1 hr | exact ruA2 hr | exact ruA3 hr) rfl ?_
  rotate_left
  rw [h1]
  refine pw_bipush (v := nI 40) 13 rfl dX6_hold_11 rfl ?_
  refine pw_icmp_ge (tgt := 36) 16 rfl dX6_hold_13 rfl (fun h13 => absurd h13 (by (simp (disch := omega) only [nI_leI, nI_ltI, nI_eq, show (0 : Int32) = nI 0 from rfl, not_true_eq_false, not_false_eq_true] <;> omega))) (fun h13 => ?_)
  refine pw_aload_n 17 rfl dX6_hold_16 rfl ?_
  refine pw_getR 20 rfl dX6_hold_17 fX6_22 (by first | rfl | assumption | exact rowS hh | exact mtS hm | exact ruS hr | exact mtA1 hm | exact mtA2 hm | exact mtA3 hm | exact mtA4 hm | exact mtA5 hm | exact mtA6 hm | exact mtA7 hm | exact ruA1 hr | exact ruA2 hr | exact ruA3 hr) rfl (by first | rfl | assumption | exact mtR0 hm | exact mtR1 hm | exact mtR2 hm | exact mtR3 hm | exact mtR4 hm | exact mtR5 hm | exact mtR6 hm | exact ruR0 hr | exact ruR1 hr | exact ruR3 hr) ?_
  refine pw_aload_n 21 rfl dX6_hold_20 rfl ?_
  refine pw_getI 24 rfl dX6_hold_21 fX6_25 (by first | rfl | assumption | exact rowS hh | exact mtS hm | exact ruS hr | exact mtA1 hm | exact mtA2 hm | exact mtA3 hm | exact mtA4 hm | exact mtA5 hm | exact mtA6 hm | exact mtA7 hm | exact ruA1 hr | exact ruA2 hr | exact ruA3 hr) rfl ?_
  rotate_left
  rw [h1]
  refine pw_iload_n 25 rfl dX6_hold_24 rfl ?_
  refine pw_iastN 26 rfl dX6_hold_25 (by first | rfl | assumption | exact rowS hh | exact mtS hm | exact ruS hr | exact mtA1 hm | exact mtA2 hm | exact mtA3 hm | exact mtA4 hm | exact mtA5 hm | exact mtA6 hm | exact mtA7 hm | exact ruA1 hr | exact ruA2 hr | exact ruA3 hr) (by omega) (by decide) ?_
  refine pw_aload_n 27 rfl dX6_hold_26 rfl ?_
  refine pw_dup 28 rfl dX6_hold_27 rfl ?_
  refine pw_getI 31 rfl dX6_hold_28 fX6_25 (by first | rfl | assumption | exact rowS hh | exact mtS hm | exact ruS hr | exact mtA1 hm | exact mtA2 hm | exact mtA3 hm | exact mtA4 hm | exact mtA5 hm | exact mtA6 hm | exact mtA7 hm | exact ruA1 hr | exact ruA2 hr | exact ruA3 hr) rfl ?_
  rotate_left
  rw [uI_ne (by omega), h1]
  refine pw_iconst (v := nI 1) 32 rfl dX6_hold_31 rfl ?_
  first | refine pw_iaddN 33 rfl dX6_hold_32 ?_ | refine pw_iadd 33 rfl dX6_hold_32 ?_
  refine pw_putI 36 rfl dX6_hold_33 fX6_25 w6_4 (by first | rfl | assumption | exact rowS hh | exact mtS hm | exact ruS hr | exact mtA1 hm | exact mtA2 hm | exact mtA3 hm | exact mtA4 hm | exact mtA5 hm | exact mtA6 hm | exact mtA7 hm | exact ruA1 hr | exact ruA2 hr | exact ruA3 hr) rfl rfl rfl ?_
  refine pw_vret dX6_hold_36 ?_
  rotate_left
  exact ⟨rfl, rfl, rfl, rfl⟩
theorem XQ_hold {I : pI} {cd wt : List Nat} {dp dg w : Nat} {cm : Nat → Bool} {wn : Bool} (h : XQ I (cd, wt, dp, cm, wn, dg)) : XQ (uI (uI I 16 wt.length (nI w)) 13 4 (nI (wt.length + 1))) (cd, w :: wt, dp, cm, wn, dg) := by
  obtain ⟨a1, a2, a3, a4, a5, a6, a7, a8⟩ := h
  refine ⟨?_, ?_, ?_, ?_, ?_, ?_, fun j c hj => ?_, fun j c hj => ?_⟩
  · rw [uI_ne (by omega), uI_ne (by omega)]; exact a1
  · rw [uI_eq]; rfl
  · rw [uI_ne (by omega), uI_ne (by omega)]; exact a3
  · rw [uI_ne (by omega), uI_ne (by omega)]; exact a4
  · rw [uI_ne (by omega), uI_ne (by omega)]; exact a5
  · rw [uI_ne (by omega), uI_ne (by omega)]; exact a6
  · rw [uI_ne (by omega), uI_ne (by omega)]; exact a7 j c hj
  · rw [uI_ne (by omega)]
    have hj' : (wt.reverse ++ [w])[j]? = some c := by rw [← List.reverse_cons]; exact hj
    have hjl := (List.getElem?_eq_some_iff.mp hj').1
    rw [List.length_append, List.length_reverse] at hjl
    have hjl' : j < wt.length + 1 := hjl
    by_cases e : j = wt.length
    · subst e
      rw [List.getElem?_append_right (by rw [List.length_reverse]; omega), List.length_reverse, Nat.sub_self] at hj'
      cases hj'
      exact uI_eq _ _ _ _
    · rw [List.getElem?_append_left (by rw [List.length_reverse]; omega)] at hj'
      rw [uI_ne (by omega)]
      exact a8 j c hj'
theorem XQ_code {I : pI} {cd wt : List Nat} {dp dg v : Nat} {cm : Nat → Bool} {wn : Bool} (h : XQ I (cd, wt, dp, cm, wn, dg)) : XQ (uI (uI I 14 cd.length (nI v)) 13 2 (nI (cd.length + 1))) (cd ++ [v], wt, dp, cm, wn, dg) := by
  obtain ⟨a1, a2, a3, a4, a5, a6, a7, a8⟩ := h
  refine ⟨?_, ?_, ?_, ?_, ?_, ?_, fun j c hj => ?_, fun j c hj => ?_⟩
  · rw [uI_eq]; show _ = nI (cd ++ [v]).length; rw [List.length_append]; rfl
  · rw [uI_ne (by omega), uI_ne (by omega)]; exact a2
  · rw [uI_ne (by omega), uI_ne (by omega)]; exact a3
  · rw [uI_ne (by omega), uI_ne (by omega)]; exact a4
  · rw [uI_ne (by omega), uI_ne (by omega)]; exact a5
  · rw [uI_ne (by omega), uI_ne (by omega)]; exact a6
  · rw [uI_ne (by omega)]
    have hj' : (cd ++ [v])[j]? = some c := hj
    have hjl := (List.getElem?_eq_some_iff.mp hj').1
    rw [List.length_append] at hjl
    have hjl' : j < cd.length + 1 := hjl
    by_cases e : j = cd.length
    · subst e
      rw [List.getElem?_append_right (by omega), Nat.sub_self] at hj'
      cases hj'
      exact uI_eq _ _ _ _
    · rw [List.getElem?_append_left (by omega)] at hj'
      rw [uI_ne (by omega)]
      exact a7 j c hj'
  · rw [uI_ne (by omega), uI_ne (by omega)]; exact a8 j c hj
theorem fR_code {I : pI} {k : Nat} {v w : Int32} : fR I (uI (uI I 14 k v) 13 2 w) := fun a h1 h2 h3 => by rw [uI, if_neg h1, uI, if_neg h2]
theorem fR_hold {I : pI} {k : Nat} {v w : Int32} : fR I (uI (uI I 16 k v) 13 4 w) := fun a h1 h2 h3 => by rw [uI, if_neg h1, uI, if_neg h3]
theorem fR.trans {I I' I'' : pI} (h : fR I I') (g : fR I' I'') : fR I I'' := fun a h1 h2 h3 => by rw [g a h1 h2 h3, h a h1 h2 h3]
theorem fR.refl {I : pI} : fR I I := fun _ _ _ _ => rfl
theorem belV_s (k : Nat) : belV (k + 1) = nI k := by rw [belV, if_neg (by omega), show k + 1 - 1 = k by omega]
set_option maxRecDepth 100000 in
set_option maxHeartbeats 2000000 in
theorem x_release {d s : Nat} {cd wt : List Nat} {dp dg : Nat} {cm : Nat → Bool} {wn : Bool} {I : pI} {J : pJ} (hQ : XQ I (cd, wt, dp, cm, wn, dg)) (hs : s ≤ 4) (hl : cd.length + wt.length ≤ 40) (hw : ∀ w ∈ wt, w < 257) : PC SX (d + 2) yX6_release cX6_release 3 none [.ref 13, .int (nI s)] (I) (J) (RX) (fun r' I' J' R' => r' = none ∧ XQ I' ((rls s wt cd).2, (rls s wt cd).1, dp, cm, wn, dg) ∧ fR I I' ∧ J = J' ∧ R' = RX) := by
  refine PC.of [some (.ref 13), some (.int (nI s)), none] rfl rfl (Nat.le_of_ble_eq_true rfl) ?_
  have L : ∀ (ws cs : List Nat) (I' : pI), XQ I' (cs, ws, dp, cm, wn, dg) → cs.length + ws.length ≤ 40 → (∀ w ∈ ws, w < 257) → rls s ws cs = rls s wt cd → fR I I' → PW SX yX6_release.cls cX6_release 3 (d + 2) 7 [some (.ref 13), some (.int (nI s)), some (.int (belV ws.length))] [] (I') (J) (RX) (rX cX6_release none (fun r' I' J' R' => r' = none ∧ XQ I' ((rls s wt cd).2, (rls s wt cd).1, dp, cm, wn, dg) ∧ fR I I' ∧ J = J' ∧ R' = RX)) := by
    intro ws
    induction ws with
    | nil =>
      intro cs I' q1 q2 q3 q4 q5
      refine pw_iload_n 8 rfl dX6_release_7 rfl ?_
      refine pw_if_lt (tgt := 52) 11 rfl dX6_release_8 rfl (fun h8 => ?_) (fun h8 => absurd (by decide) h8)
      refine pw_vret dX6_release_52 ?_
      rotate_left
      rw [← q4]
      exact ⟨rfl, q1, q5, rfl, rfl⟩
    | cons w ws ih =>
      intro cs I' q1 q2 q3 q4 q5
      have hl : cs.length + ws.length + 1 ≤ 40 := by rw [List.length_cons] at q2; omega
      have hw8 : I' 16 ws.length = nI w := by
        refine q1.2.2.2.2.2.2.2 ws.length w ?_
        show (w :: ws).reverse[ws.length]? = _
        rw [List.reverse_cons, List.getElem?_append_right (by rw [List.length_reverse]; omega), List.length_reverse, Nat.sub_self]
        rfl
      have hw2 := q3 w (List.mem_cons_self ..)
      rw [List.length_cons, belV_s]
      refine pw_iload_n 8 rfl dX6_release_7 rfl ?_
      refine pw_if_lt (tgt := 52) 11 rfl dX6_release_8 rfl (fun h8 => absurd h8 (nI_pos (by omega))) (fun h8 => ?_)
      refine pw_iload_n 12 rfl dX6_release_11 rfl ?_
      refine pw_bipush (v := nI 40) 14 rfl dX6_release_12 rfl ?_
      refine pw_icmp_ge (tgt := 52) 17 rfl dX6_release_14 rfl (fun h14 => absurd h14 (by (simp (disch := omega) only [nI_leI, nI_ltI, nI_eq, show (0 : Int32) = nI 0 from rfl, not_true_eq_false, not_false_eq_true] <;> omega))) (fun h14 => ?_)
      refine pw_aload_n 18 rfl dX6_release_17 rfl ?_
      refine pw_getR 21 rfl dX6_release_18 fX6_22 (by first | rfl | assumption | exact rowS hh | exact mtS hm | exact ruS hr | exact mtA1 hm | exact mtA2 hm | exact mtA3 hm | exact mtA4 hm | exact mtA5 hm | exact mtA6 hm | exact mtA7 hm | exact ruA1 hr | exact ruA2 hr | exact ruA3 hr) rfl (by first | rfl | assumption | exact mtR0 hm | exact mtR1 hm | exact mtR2 hm | exact mtR3 hm | exact mtR4 hm | exact mtR5 hm | exact mtR6 hm | exact ruR0 hr | exact ruR1 hr | exact ruR3 hr) ?_
      refine pw_iload_n 22 rfl dX6_release_21 rfl ?_
      refine pw_ialdN 23 rfl dX6_release_22 (by first | rfl | assumption | exact rowS hh | exact mtS hm | exact ruS hr | exact mtA1 hm | exact mtA2 hm | exact mtA3 hm | exact mtA4 hm | exact mtA5 hm | exact mtA6 hm | exact mtA7 hm | exact ruA1 hr | exact ruA2 hr | exact ruA3 hr) (by omega) (by decide) ?_
      rotate_left
      rw [hw8]
      by_cases hc : strn w < s
      · have := strn_le w
        refine pw_callSP (as := [_]) 26 rfl dX6_release_23 mX6_109 sX6_strengthOf (x_strengthOf (d := d + 1) hw2) ⟨rfl, by decide, by decide, show (parseMethodDescriptor yX6_strengthOf.desc).map (fun d => d.parameters.length) = some 1 by decide +kernel⟩ (by omega) (by decide) (Nat.le_of_ble_eq_true rfl) rfl ?_
        refine pw_iload_n 27 rfl dX6_release_26 rfl ?_
        refine pw_icmp_ge (tgt := 31) 30 rfl dX6_release_27 rfl (fun h27 => absurd h27 (by (simp (disch := omega) only [nI_leI, nI_ltI, nI_eq, show (0 : Int32) = nI 0 from rfl, not_true_eq_false, not_false_eq_true] <;> omega))) (fun h27 => ?_)
        refine pw_vret dX6_release_30 ?_
        rotate_left
        rw [← q4, rls, if_pos hc]
        exact ⟨rfl, q1, q5, rfl, rfl⟩
      · have := strn_le w
        refine pw_callSP (as := [_]) 26 rfl dX6_release_23 mX6_109 sX6_strengthOf (x_strengthOf (d := d + 1) hw2) ⟨rfl, by decide, by decide, show (parseMethodDescriptor yX6_strengthOf.desc).map (fun d => d.parameters.length) = some 1 by decide +kernel⟩ (by omega) (by decide) (Nat.le_of_ble_eq_true rfl) rfl ?_
        refine pw_iload_n 27 rfl dX6_release_26 rfl ?_
        refine pw_icmp_ge (tgt := 31) 30 rfl dX6_release_27 rfl (fun h27 => ?_) (fun h27 => absurd (by (simp (disch := omega) only [nI_leI, nI_ltI, nI_eq, show (0 : Int32) = nI 0 from rfl, not_true_eq_false, not_false_eq_true] <;> omega)) h27)
        refine pw_aload_n 32 rfl dX6_release_31 rfl ?_
        refine pw_aload_n 33 rfl dX6_release_32 rfl ?_
        refine pw_getR 36 rfl dX6_release_33 fX6_22 (by first | rfl | assumption | exact rowS hh | exact mtS hm | exact ruS hr | exact mtA1 hm | exact mtA2 hm | exact mtA3 hm | exact mtA4 hm | exact mtA5 hm | exact mtA6 hm | exact mtA7 hm | exact ruA1 hr | exact ruA2 hr | exact ruA3 hr) rfl (by first | rfl | assumption | exact mtR0 hm | exact mtR1 hm | exact mtR2 hm | exact mtR3 hm | exact mtR4 hm | exact mtR5 hm | exact mtR6 hm | exact ruR0 hr | exact ruR1 hr | exact ruR3 hr) ?_
        refine pw_iload_n 37 rfl dX6_release_36 rfl ?_
        refine pw_ialdN 38 rfl dX6_release_37 (by first | rfl | assumption | exact rowS hh | exact mtS hm | exact ruS hr | exact mtA1 hm | exact mtA2 hm | exact mtA3 hm | exact mtA4 hm | exact mtA5 hm | exact mtA6 hm | exact mtA7 hm | exact ruA1 hr | exact ruA2 hr | exact ruA3 hr) (by omega) (by decide) ?_
        rotate_left
        rw [hw8]
        refine pw_callV (as := [_]) 41 rfl dX6_release_38 mX6_48 vX6_addSign (x_addSign (d := d) (s := w) (k := cs.length) rfl rfl rfl (by decide) q1.1 (by omega)) (by first | rfl | assumption | exact rowS hh | exact mtS hm | exact ruS hr | exact mtA1 hm | exact mtA2 hm | exact mtA3 hm | exact mtA4 hm | exact mtA5 hm | exact mtA6 hm | exact mtA7 hm | exact ruA1 hr | exact ruA2 hr | exact ruA3 hr) rfl (by decide) ⟨rfl, by decide, by decide, show (parseMethodDescriptor yX6_addSign.desc).map (fun d => d.parameters.length) = some 1 by decide +kernel⟩ (by omega) (by decide) (Nat.le_of_ble_eq_true rfl) rfl (fun r38 I38 J38 R38 c38 => ?_)
        obtain ⟨rfl, rfl, rfl, rfl⟩ := c38
        refine pw_aload_n 42 rfl dX6_release_41 rfl ?_
        refine pw_iload_n 43 rfl dX6_release_42 rfl ?_
        refine pw_putI 46 rfl dX6_release_43 fX6_25 w6_4 (by first | rfl | assumption | exact rowS hh | exact mtS hm | exact ruS hr | exact mtA1 hm | exact mtA2 hm | exact mtA3 hm | exact mtA4 hm | exact mtA5 hm | exact mtA6 hm | exact mtA7 hm | exact ruA1 hr | exact ruA2 hr | exact ruA3 hr) rfl rfl rfl ?_
        rotate_left
        have q1' : XQ (uI (uI (uI I' 14 cs.length (nI (1000 + w))) 13 2 (nI (cs.length + 1))) 13 4 (nI ws.length)) (cs ++ [1000 + w], ws, dp, cm, wn, dg) := by
          obtain ⟨a1, a2, a3, a4, a5, a6, a7, a8⟩ := XQ_code (v := 1000 + w) q1
          refine ⟨?_, ?_, ?_, ?_, ?_, ?_, fun j c hj => ?_, fun j c hj => ?_⟩
          · rw [uI_ne (by omega)]; exact a1
          · rw [uI_eq]
          · rw [uI_ne (by omega)]; exact a3
          · rw [uI_ne (by omega)]; exact a4
          · rw [uI_ne (by omega)]; exact a5
          · rw [uI_ne (by omega)]; exact a6
          · rw [uI_ne (by omega)]; exact a7 j c hj
          · rw [uI_ne (by omega)]
            refine a8 j c ?_
            have hj' : ws.reverse[j]? = some c := hj
            have hjl := (List.getElem?_eq_some_iff.mp hj').1
            show (w :: ws).reverse[j]? = _
            rw [List.reverse_cons, List.getElem?_append_left hjl]
            exact hj'
        have go := ih (cs ++ [1000 + w]) _ q1' (by rw [List.length_append]; show cs.length + 1 + ws.length ≤ 40; omega) (fun x hx => q3 x (List.mem_cons_of_mem _ hx)) (by rw [← q4, rls, if_neg hc]) (q5.trans (fR_code.trans (fun a h1 h2 h3 => by rw [uI, if_neg h1])))
        have eb : nI ws.length + Int32.ofInt (-1) = belV ws.length := by
          rcases ws.length with _ | k
          · decide
          · rw [belV_s]
            exact pk_m1 k
        refine pw_iinc 49 rfl dX6_release_46 (by decide) rfl ?_
        refine pw_goto (tgt := 7) dX6_release_49 rfl ?_
        rotate_left
        rw [eb]
        exact go
  refine pw_aload_n 1 rfl dX6_release_0 rfl ?_
  refine pw_getI 4 rfl dX6_release_1 fX6_25 (by first | rfl | assumption | exact rowS hh | exact mtS hm | exact ruS hr | exact mtA1 hm | exact mtA2 hm | exact mtA3 hm | exact mtA4 hm | exact mtA5 hm | exact mtA6 hm | exact mtA7 hm | exact ruA1 hr | exact ruA2 hr | exact ruA3 hr) rfl ?_
  rotate_left
  rw [show I 13 4 = nI wt.length from hQ.2.1]
  have eb : nI wt.length - nI 1 = belV wt.length := by
    rcases wt.length with _ | k
    · decide
    · rw [belV_s]; exact pk_sub (by omega)
  refine pw_iconst (v := nI 1) 5 rfl dX6_release_4 rfl ?_
  refine pw_isub 6 rfl dX6_release_5 ?_
  refine pw_istore_n 7 rfl dX6_release_6 (by decide) ?_
  rotate_left
  rw [eb]
  exact L wt cd I hQ hl hw rfl fR.refl
