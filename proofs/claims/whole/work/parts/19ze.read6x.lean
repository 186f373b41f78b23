set_option maxRecDepth 100000 in
set_option maxHeartbeats 2000000 in
theorem x_beNone {S : pS} {d r rc : Nat} {I : pI} {J : pJ} {R : pR} (hS : S[r]? = some (6, 9)) (hC : S[rc]? = some (100, 40)) (hR : R r 0 = some rc) (hne : rc ≠ r) : PC S (d + 2) yX6_beNone cX6_beNone 1 none [.ref r] (I) (J) (R) (fun r' I' J' R' => r' = none ∧ I' r 2 = nI 5 ∧ I' rc 0 = nI 1 ∧ I' rc 1 = nI 1112 ∧ I' rc 2 = nI 4 ∧ I' rc 3 = nI 1047 ∧ I' rc 4 = nI 1043 ∧ (∀ k, k ≠ 2 → I' r k = I r k) ∧ (∀ k, 5 ≤ k → I' rc k = I rc k) ∧ (∀ a, a ≠ r → a ≠ rc → I' a = I a) ∧ J = J' ∧ R' = R) := by
  refine PC.of [some (.ref r)] rfl rfl (Nat.le_of_ble_eq_true rfl) ?_
  have hne' : r ≠ rc := fun e => hne e.symm
  refine pw_aload_n 1 rfl dX6_beNone_0 rfl ?_
  refine pw_iconst (v := nI 0) 2 rfl dX6_beNone_1 rfl ?_
  refine pw_putI 5 rfl dX6_beNone_2 fX6_18 w6_2 (by first | rfl | assumption | exact rowS hh | exact mtS hm | exact ruS hr | exact mtA1 hm | exact mtA2 hm | exact mtA3 hm | exact mtA4 hm | exact mtA5 hm | exact mtA6 hm | exact mtA7 hm | exact ruA1 hr | exact ruA2 hr | exact ruA3 hr) rfl rfl rfl ?_
  refine pw_aload_n 6 rfl dX6_beNone_5 rfl ?_
  refine pw_iconst (v := nI 1) 7 rfl dX6_beNone_6 rfl ?_
  refine pw_callV (as := [_]) 10 rfl dX6_beNone_7 mX6_44 vX6_addNumber (x_addNumber (d := d + 1) (k := 0) hS hC hR hne (uI_eq _ _ _ _) (by decide)) (by first | rfl | assumption | exact rowS hh | exact mtS hm | exact ruS hr | exact mtA1 hm | exact mtA2 hm | exact mtA3 hm | exact mtA4 hm | exact mtA5 hm | exact mtA6 hm | exact mtA7 hm | exact ruA1 hr | exact ruA2 hr | exact ruA3 hr) rfl (by decide) ⟨rfl, by decide, by decide, show (parseMethodDescriptor yX6_addNumber.desc).map (fun d => d.parameters.length) = some 1 by decide +kernel⟩ (by omega) (by decide) (Nat.le_of_ble_eq_true rfl) rfl (fun r7 I7 J7 R7 c7 => ?_)
  obtain ⟨rfl, rfl, rfl, rfl⟩ := c7
  refine pw_aload_n 11 rfl dX6_beNone_10 rfl ?_
  refine pw_bipush (v := nI 112) 13 rfl dX6_beNone_11 rfl ?_
  refine pw_callV (as := [_]) 16 rfl dX6_beNone_13 mX6_48 vX6_addSign (x_addSign (d := d) (k := 1) (s := 112) hS hC hR hne (uI_eq _ _ _ _) (by decide)) (by first | rfl | assumption | exact rowS hh | exact mtS hm | exact ruS hr | exact mtA1 hm | exact mtA2 hm | exact mtA3 hm | exact mtA4 hm | exact mtA5 hm | exact mtA6 hm | exact mtA7 hm | exact ruA1 hr | exact ruA2 hr | exact ruA3 hr) rfl (by decide) ⟨rfl, by decide, by decide, show (parseMethodDescriptor yX6_addSign.desc).map (fun d => d.parameters.length) = some 1 by decide +kernel⟩ (by omega) (by decide) (Nat.le_of_ble_eq_true rfl) rfl (fun r13 I13 J13 R13 c13 => ?_)
  obtain ⟨rfl, rfl, rfl, rfl⟩ := c13
  refine pw_aload_n 17 rfl dX6_beNone_16 rfl ?_
  refine pw_iconst (v := nI 4) 18 rfl dX6_beNone_17 rfl ?_
  refine pw_callV (as := [_]) 21 rfl dX6_beNone_18 mX6_44 vX6_addNumber (x_addNumber (d := d + 1) (k := 2) hS hC hR hne (uI_eq _ _ _ _) (by decide)) (by first | rfl | assumption | exact rowS hh | exact mtS hm | exact ruS hr | exact mtA1 hm | exact mtA2 hm | exact mtA3 hm | exact mtA4 hm | exact mtA5 hm | exact mtA6 hm | exact mtA7 hm | exact ruA1 hr | exact ruA2 hr | exact ruA3 hr) rfl (by decide) ⟨rfl, by decide, by decide, show (parseMethodDescriptor yX6_addNumber.desc).map (fun d => d.parameters.length) = some 1 by decide +kernel⟩ (by omega) (by decide) (Nat.le_of_ble_eq_true rfl) rfl (fun r18 I18 J18 R18 c18 => ?_)
  obtain ⟨rfl, rfl, rfl, rfl⟩ := c18
  refine pw_aload_n 22 rfl dX6_beNone_21 rfl ?_
  refine pw_bipush (v := nI 47) 24 rfl dX6_beNone_22 rfl ?_
  refine pw_callV (as := [_]) 27 rfl dX6_beNone_24 mX6_48 vX6_addSign (x_addSign (d := d) (k := 3) (s := 47) hS hC hR hne (uI_eq _ _ _ _) (by decide)) (by first | rfl | assumption | exact rowS hh | exact mtS hm | exact ruS hr | exact mtA1 hm | exact mtA2 hm | exact mtA3 hm | exact mtA4 hm | exact mtA5 hm | exact mtA6 hm | exact mtA7 hm | exact ruA1 hr | exact ruA2 hr | exact ruA3 hr) rfl (by decide) ⟨rfl, by decide, by decide, show (parseMethodDescriptor yX6_addSign.desc).map (fun d => d.parameters.length) = some 1 by decide +kernel⟩ (by omega) (by decide) (Nat.le_of_ble_eq_true rfl) rfl (fun r24 I24 J24 R24 c24 => ?_)
  obtain ⟨rfl, rfl, rfl, rfl⟩ := c24
  refine pw_aload_n 28 rfl dX6_beNone_27 rfl ?_
  refine pw_bipush (v := nI 43) 30 rfl dX6_beNone_28 rfl ?_
  refine pw_callV (as := [_]) 33 rfl dX6_beNone_30 mX6_48 vX6_addSign (x_addSign (d := d) (k := 4) (s := 43) hS hC hR hne (uI_eq _ _ _ _) (by decide)) (by first | rfl | assumption | exact rowS hh | exact mtS hm | exact ruS hr | exact mtA1 hm | exact mtA2 hm | exact mtA3 hm | exact mtA4 hm | exact mtA5 hm | exact mtA6 hm | exact mtA7 hm | exact ruA1 hr | exact ruA2 hr | exact ruA3 hr) rfl (by decide) ⟨rfl, by decide, by decide, show (parseMethodDescriptor yX6_addSign.desc).map (fun d => d.parameters.length) = some 1 by decide +kernel⟩ (by omega) (by decide) (Nat.le_of_ble_eq_true rfl) rfl (fun r30 I30 J30 R30 c30 => ?_)
  obtain ⟨rfl, rfl, rfl, rfl⟩ := c30
  refine pw_vret dX6_beNone_33 ?_
  rotate_left
  have ne1 : ∀ (I : pI) (k j : Nat) (v : Int32), uI I r k v rc j = I rc j := fun I k j v => uI_ne (fun e => hne e.1)
  have ne2 : ∀ (I : pI) (k j : Nat) (v : Int32), uI I rc k v r j = I r j := fun I k j v => uI_ne (fun e => hne' e.1)
  refine ⟨rfl, uI_eq _ _ _ _, ?_, ?_, ?_, ?_, ?_, fun k hk => ?_, fun k hk => ?_, fun a h1 h2 => ?_, rfl, rfl⟩
  · rw [ne1, uI_ne (by omega), ne1, uI_ne (by omega), ne1, uI_ne (by omega), ne1, uI_ne (by omega), ne1, uI_eq]
  · rw [ne1, uI_ne (by omega), ne1, uI_ne (by omega), ne1, uI_ne (by omega), ne1, uI_eq]
  · rw [ne1, uI_ne (by omega), ne1, uI_ne (by omega), ne1, uI_eq]
  · rw [ne1, uI_ne (by omega), ne1, uI_eq]
  · rw [ne1, uI_eq]
  · rw [uI_ne (fun e => hk e.2), ne2, uI_ne (fun e => hk e.2), ne2, uI_ne (fun e => hk e.2), ne2, uI_ne (fun e => hk e.2), ne2, uI_ne (fun e => hk e.2), ne2, uI_ne (fun e => hk e.2)]
  · rw [ne1, uI_ne (by omega), ne1, uI_ne (by omega), ne1, uI_ne (by omega), ne1, uI_ne (by omega), ne1, uI_ne (by omega), ne1]
  · simp only [uI, if_neg h1, if_neg h2]
set_option maxRecDepth 100000 in
set_option maxHeartbeats 2000000 in
theorem x_beginReading {d : Nat} {I : pI} {J : pJ} : PC SX (d) yX6_beginReading cX6_beginReading 1 none [.ref 13] (I) (J) (RX) (fun r' I' J' R' => r' = none ∧ XQ I' mIn ∧ fR I I' ∧ J = J' ∧ R' = RX) := by
  refine PC.of [some (.ref 13)] rfl rfl (Nat.le_of_ble_eq_true rfl) ?_
  refine pw_aload_n 1 rfl dX6_beginReading_0 rfl ?_
  refine pw_iconst (v := nI 0) 2 rfl dX6_beginReading_1 rfl ?_
  refine pw_putI 5 rfl dX6_beginReading_2 fX6_18 w6_2 (by first | rfl | assumption | exact rowS hh | exact mtS hm | exact ruS hr | exact mtA1 hm | exact mtA2 hm | exact mtA3 hm | exact mtA4 hm | exact mtA5 hm | exact mtA6 hm | exact mtA7 hm | exact ruA1 hr | exact ruA2 hr | exact ruA3 hr) rfl rfl rfl ?_
  refine pw_aload_n 6 rfl dX6_beginReading_5 rfl ?_
  refine pw_iconst (v := nI 0) 7 rfl dX6_beginReading_6 rfl ?_
  refine pw_putI 10 rfl dX6_beginReading_7 fX6_25 w6_4 (by first | rfl | assumption | exact rowS hh | exact mtS hm | exact ruS hr | exact mtA1 hm | exact mtA2 hm | exact mtA3 hm | exact mtA4 hm | exact mtA5 hm | exact mtA6 hm | exact mtA7 hm | exact ruA1 hr | exact ruA2 hr | exact ruA3 hr) rfl rfl rfl ?_
  refine pw_aload_n 11 rfl dX6_beginReading_10 rfl ?_
  refine pw_iconst (v := nI 0) 12 rfl dX6_beginReading_11 rfl ?_
  refine pw_putI 15 rfl dX6_beginReading_12 fX6_28 w6_5 (by first | rfl | assumption | exact rowS hh | exact mtS hm | exact ruS hr | exact mtA1 hm | exact mtA2 hm | exact mtA3 hm | exact mtA4 hm | exact mtA5 hm | exact mtA6 hm | exact mtA7 hm | exact ruA1 hr | exact ruA2 hr | exact ruA3 hr) rfl rfl rfl ?_
  refine pw_aload_n 16 rfl dX6_beginReading_15 rfl ?_
  refine pw_iconst (v := nI 0) 17 rfl dX6_beginReading_16 rfl ?_
  refine pw_putI 20 rfl dX6_beginReading_17 fX6_31 w6_6 (by first | rfl | assumption | exact rowS hh | exact mtS hm | exact ruS hr | exact mtA1 hm | exact mtA2 hm | exact mtA3 hm | exact mtA4 hm | exact mtA5 hm | exact mtA6 hm | exact mtA7 hm | exact ruA1 hr | exact ruA2 hr | exact ruA3 hr) rfl rfl rfl ?_
  refine pw_aload_n 21 rfl dX6_beginReading_20 rfl ?_
  refine pw_iconst (v := nI 1) 22 rfl dX6_beginReading_21 rfl ?_
  refine pw_putI 25 rfl dX6_beginReading_22 fX6_34 w6_7 (by first | rfl | assumption | exact rowS hh | exact mtS hm | exact ruS hr | exact mtA1 hm | exact mtA2 hm | exact mtA3 hm | exact mtA4 hm | exact mtA5 hm | exact mtA6 hm | exact mtA7 hm | exact ruA1 hr | exact ruA2 hr | exact ruA3 hr) rfl rfl rfl ?_
  refine pw_aload_n 26 rfl dX6_beginReading_25 rfl ?_
  refine pw_iconst (v := nI 0) 27 rfl dX6_beginReading_26 rfl ?_
  refine pw_putI 30 rfl dX6_beginReading_27 fX6_38 w6_8 (by first | rfl | assumption | exact rowS hh | exact mtS hm | exact ruS hr | exact mtA1 hm | exact mtA2 hm | exact mtA3 hm | exact mtA4 hm | exact mtA5 hm | exact mtA6 hm | exact mtA7 hm | exact ruA1 hr | exact ruA2 hr | exact ruA3 hr) rfl rfl rfl ?_
  refine pw_vret dX6_beginReading_30 ?_
  rotate_left
  refine ⟨rfl, ⟨?_, ?_, ?_, ?_, ?_, uI_eq _ _ _ _, fun j c hj => (by cases hj), fun j c hj => (by cases hj)⟩, fun a h1 h2 h3 => ?_, rfl, rfl⟩
  · rw [uI_ne (by omega), uI_ne (by omega), uI_ne (by omega), uI_ne (by omega), uI_ne (by omega), uI_eq]; rfl
  · rw [uI_ne (by omega), uI_ne (by omega), uI_ne (by omega), uI_ne (by omega), uI_eq]; rfl
  · rw [uI_ne (by omega), uI_ne (by omega), uI_ne (by omega), uI_eq]; rfl
  · rw [uI_ne (by omega), uI_ne (by omega), uI_eq]; rfl
  · rw [uI_ne (by omega), uI_eq]; rfl
  · simp only [uI, if_neg h1]
def ruE (tx : List Nat) (lt : Nat → Int32) : Nat := (withV (ruF tx lt) (nI 0) (nI 3)).toNatClampNeg
theorem withV3 (v : Int32) : ∃ j, j ≤ 3 ∧ withV v (nI 0) (nI 3) = nI j := by
  unfold withV
  by_cases h : v < nI 0
  · rw [if_pos h]; exact ⟨0, by omega, rfl⟩
  · rw [if_neg h]
    by_cases h' : nI 3 < v
    · rw [if_pos h']; exact ⟨3, by omega, rfl⟩
    · rw [if_neg h']
      obtain ⟨j, hj, rfl⟩ := nI_of h
      rw [nI_ltI (by omega) (by omega)] at h'
      exact ⟨j, by omega, rfl⟩
theorem ruE_nI (tx : List Nat) (lt : Nat → Int32) : withV (ruF tx lt) (nI 0) (nI 3) = nI (ruE tx lt) ∧ ruE tx lt ≤ 3 := by
  obtain ⟨j, hj, e⟩ := withV3 (ruF tx lt)
  unfold ruE
  rw [e, nI_clamp (by omega)]
  exact ⟨rfl, hj⟩
theorem XE_ru {I : pI} {r : Nat} {tx cs : List Nat} (h : XR I r cs) (he : ∀ lt, evC lt cs [] = [ruF tx lt]) : XE I r (ruE tx) := ⟨cs, h, fun lt => by rw [he lt]; exact ruE_nI tx lt⟩
def noC : List Nat := [1, 1112, 4, 1047, 1043]
theorem noC_ev (lt : Nat → Int32) : evC lt noC [] = [ruF [] lt] := by
  rw [show noC = [1] ++ ([1000 + 112] ++ ([4] ++ ([1000 + 47] ++ [1000 + 43]))) from rfl, evC_app, evC_num (by decide), evC_app, evC_let (by decide), evC_app, evC_num (by decide), evC_app, evC_op (by simp [isOp]), evC_op (by simp [isOp])]
  rw [ruF, if_pos rfl, show jn 43 (nI 1) (jn 47 (lt 112) (nI 4)) = nI 1 + jn 47 (lt 112) (nI 4) from rfl, show jn 47 (lt 112) (nI 4) = (if nI 4 = 0 then nI 0 else lt 112 / nI 4) from rfl, if_neg (by decide)]
theorem noC_ok : ∀ c ∈ noC, okC c := by
  intro c hc
  simp only [noC, List.mem_cons, List.not_mem_nil, or_false] at hc
  rcases hc with rfl | rfl | rfl | rfl | rfl
  · exact Or.inl (by decide)
  · exact Or.inr (Or.inl ⟨by decide, by simp [isLet]⟩)
  · exact Or.inl (by decide)
  · exact Or.inr (Or.inr (Or.inr ⟨by decide, by simp [isOp]⟩))
  · exact Or.inr (Or.inr (Or.inr ⟨by decide, by simp [isOp]⟩))
set_option maxRecDepth 100000 in
set_option maxHeartbeats 2000000 in
theorem x_ruleRead {d : Nat} {tx : List Nat} {I : pI} {J : pJ} (hT : XT I tx) : PC SX (d + 5) yX6_read cX6_read 4 (some .int) [.ref 13, .ref 17] (I) (J) (RX) (fun r' I' J' R' => r' = some (.int (wrV (wrR tx))) ∧ (wrR tx = none → XE I' 13 (ruE tx)) ∧ fR I I' ∧ J = J' ∧ R' = RX) := by
  refine PC.of [some (.ref 13), some (.ref 17), none, none] rfl rfl (Nat.le_of_ble_eq_true rfl) ?_
  obtain ⟨t1, t2, t3⟩ := id hT
  by_cases h0 : tx = []
  · subst h0
    refine pw_aload_n 1 rfl dX6_read_0 rfl ?_
    refine pw_getI 4 rfl dX6_read_1 fX6_74 (by first | rfl | assumption | exact rowS hh | exact mtS hm | exact ruS hr | exact mtA1 hm | exact mtA2 hm | exact mtA3 hm | exact mtA4 hm | exact mtA5 hm | exact mtA6 hm | exact mtA7 hm | exact ruA1 hr | exact ruA2 hr | exact ruA3 hr) rfl ?_
    refine pw_if_ne (tgt := 13) 7 rfl dX6_read_4 rfl (fun h4 => absurd (by rw [t1]; rfl) h4) (fun h4 => ?_)
    refine pw_aload_n 8 rfl dX6_read_7 rfl ?_
    refine pw_callV (as := []) 11 rfl dX6_read_8 mX6_41 vX6_beNone (x_beNone (d := d + 2) (r := 13) (rc := 14) rfl rfl rfl (by decide)) (by first | rfl | assumption | exact rowS hh | exact mtS hm | exact ruS hr | exact mtA1 hm | exact mtA2 hm | exact mtA3 hm | exact mtA4 hm | exact mtA5 hm | exact mtA6 hm | exact mtA7 hm | exact ruA1 hr | exact ruA2 hr | exact ruA3 hr) rfl (by decide) ⟨rfl, by decide, by decide, show (parseMethodDescriptor yX6_beNone.desc).map (fun d => d.parameters.length) = some 0 by decide +kernel⟩ (by omega) (by decide) (Nat.le_of_ble_eq_true rfl) rfl (fun r8 I8 J8 R8 c8 => ?_)
    obtain ⟨rfl, b1, b2, b3, b4, b5, b6, -, -, b7, rfl, rfl⟩ := c8
    rotate_left
    refine pw_iconst (v := -1) 12 rfl dX6_read_11 rfl ?_
    refine pw_iret dX6_read_12 rfl ?_
    rotate_left
    refine ⟨rfl, fun _ => XE_ru (cs := noC) ⟨b1, by decide, fun j c hj => ?_⟩ noC_ev, fun a h1 h2 h3 => b7 a h1 h2, rfl, rfl⟩
    refine ⟨?_, noC_ok c (List.mem_of_getElem? hj)⟩
    rcases j with _ | _ | _ | _ | _ | j
    · cases hj; exact b2
    · cases hj; exact b3
    · cases hj; exact b4
    · cases hj; exact b5
    · cases hj; exact b6
    · cases hj
  · have hl0 : 1 ≤ tx.length := by
      rcases tx with _ | ⟨x, xs⟩
      · exact absurd rfl h0
      · rw [List.length_cons]; omega
    have hcl := class_rd h0
    have hlen : (tx.take 40).length = min 40 tx.length := List.length_take
    refine pw_aload_n 1 rfl dX6_read_0 rfl ?_
    refine pw_getI 4 rfl dX6_read_1 fX6_74 (by first | rfl | assumption | exact rowS hh | exact mtS hm | exact ruS hr | exact mtA1 hm | exact mtA2 hm | exact mtA3 hm | exact mtA4 hm | exact mtA5 hm | exact mtA6 hm | exact mtA7 hm | exact ruA1 hr | exact ruA2 hr | exact ruA3 hr) rfl ?_
    refine pw_if_ne (tgt := 13) 7 rfl dX6_read_4 rfl (fun h4 => ?_) (fun h4 => absurd h4 (by rw [t1]; exact nI_ne0 hl0 (by omega)))
    refine pw_aload_n 14 rfl dX6_read_13 rfl ?_
    refine pw_callV (as := []) 17 rfl dX6_read_14 mX6_77 vX6_beginReading (x_beginReading (d := d + 4)) (by first | rfl | assumption | exact rowS hh | exact mtS hm | exact ruS hr | exact mtA1 hm | exact mtA2 hm | exact mtA3 hm | exact mtA4 hm | exact mtA5 hm | exact mtA6 hm | exact mtA7 hm | exact ruA1 hr | exact ruA2 hr | exact ruA3 hr) rfl (by decide) ⟨rfl, by decide, by decide, show (parseMethodDescriptor yX6_beginReading.desc).map (fun d => d.parameters.length) = some 0 by decide +kernel⟩ (by omega) (by decide) (Nat.le_of_ble_eq_true rfl) rfl (fun r14 I14 J14 R14 c14 => ?_)
    obtain ⟨rfl, q1, q2, rfl, rfl⟩ := c14
    rotate_left
    refine pw_iconst (v := nI 0) 18 rfl dX6_read_17 rfl ?_
    refine pw_istore_n 19 rfl dX6_read_18 (by decide) ?_
    rotate_left
    have L := nat_loop (min 40 tx.length) (fun k => ∀ (z : mSt) (I' : pI) (x : Option Value), XQ I' z → WQ k z → runM mIn (tx.take 40) = runM z ((tx.take 40).drop k) → fR I I' → PW SX yX6_read.cls cX6_read 4 (d + 5) 19 [some (.ref 13), some (.ref 17), some (.int (nI k)), x] [] (I') (J) (RX) (rX cX6_read (some .int) (fun r' I' J' R' => r' = some (.int (wrV (wrR tx))) ∧ (wrR tx = none → XE I' 13 (ruE tx)) ∧ fR I I' ∧ J = J' ∧ R' = RX))) ?_ ?_
    · exact L mIn _ none q1 ⟨Nat.le_refl _, by decide, by decide, fun c hc => (by cases hc), fun c hc => (by cases hc), fun q => (by cases q)⟩ rfl q2
    · intro z I' x hQ hW hr hf
      rw [List.drop_eq_nil_of_le (by rw [hlen]; exact Nat.le_refl _)] at hr
      rw [show runM z [] = .ok z from rfl] at hr
      rw [hr] at hcl
      have hcl' : if 40 < tx.length then wrR tx = some 40 else if z.2.2.2.2.1 = true ∨ 0 < z.2.2.1 then wrR tx = some tx.length else wrR tx = none ∧ ∀ lt, evC lt (rls 1 z.2.1 z.1).2 [] = [ruF tx lt] := hcl
      clear hcl
      have t1' : I' 17 1 = nI tx.length := by rw [hf 17 (by decide) (by decide) (by decide)]; exact t1
      by_cases hL : 40 < tx.length
      · rw [if_pos hL] at hcl'
        rw [hcl']
        have em : min 40 tx.length = 40 := Nat.min_eq_left (by omega)
        rw [em]
        refine pw_iload_n 20 rfl dX6_read_19 rfl ?_
        refine pw_aload_n 21 rfl dX6_read_20 rfl ?_
        refine pw_getI 24 rfl dX6_read_21 fX6_74 (by first | rfl | assumption | exact rowS hh | exact mtS hm | exact ruS hr | exact mtA1 hm | exact mtA2 hm | exact mtA3 hm | exact mtA4 hm | exact mtA5 hm | exact mtA6 hm | exact mtA7 hm | exact ruA1 hr | exact ruA2 hr | exact ruA3 hr) rfl ?_
        refine pw_icmp_ge (tgt := 73) 27 rfl dX6_read_24 rfl (fun h24 => absurd h24 (by rw [t1']; (simp (disch := omega) only [nI_leI, nI_ltI, nI_eq, show (0 : Int32) = nI 0 from rfl, not_true_eq_false, not_false_eq_true] <;> omega))) (fun h24 => ?_)
        refine pw_iload_n 28 rfl dX6_read_27 rfl ?_
        refine pw_bipush (v := nI 40) 30 rfl dX6_read_28 rfl ?_
        refine pw_icmp_ge (tgt := 73) 33 rfl dX6_read_30 rfl (fun h30 => ?_) (fun h30 => absurd (by (simp (disch := omega) only [nI_leI, nI_ltI, nI_eq, show (0 : Int32) = nI 0 from rfl, not_true_eq_false, not_false_eq_true] <;> omega)) h30)
        refine pw_aload_n 74 rfl dX6_read_73 rfl ?_
        refine pw_getI 77 rfl dX6_read_74 fX6_74 (by first | rfl | assumption | exact rowS hh | exact mtS hm | exact ruS hr | exact mtA1 hm | exact mtA2 hm | exact mtA3 hm | exact mtA4 hm | exact mtA5 hm | exact mtA6 hm | exact mtA7 hm | exact ruA1 hr | exact ruA2 hr | exact ruA3 hr) rfl ?_
        refine pw_bipush (v := nI 40) 79 rfl dX6_read_77 rfl ?_
        refine pw_icmp_le (tgt := 85) 82 rfl dX6_read_79 rfl (fun h79 => absurd h79 (by rw [t1']; (simp (disch := omega) only [nI_leI, nI_ltI, nI_eq, show (0 : Int32) = nI 0 from rfl, not_true_eq_false, not_false_eq_true] <;> omega))) (fun h79 => ?_)
        refine pw_bipush (v := nI 40) 84 rfl dX6_read_82 rfl ?_
        refine pw_iret dX6_read_84 rfl ?_
        rotate_left
        exact ⟨rfl, fun q => (by cases q), hf, rfl, rfl⟩
      · rw [if_neg hL] at hcl'
        have em : min 40 tx.length = tx.length := Nat.min_eq_right (by omega)
        rw [em]
        obtain ⟨cd, wt, dp, cm, wn, dg⟩ := z
        obtain ⟨w1, w2, w3, w4, w5, w6⟩ := id hW
        simp only at hcl' w1 w2 w3 w4 w5 w6
        have a5' : I' 13 7 = nI (if wn = true then 1 else 0) := hQ.2.2.2.2.1
        have a3' : I' 13 5 = nI dp := hQ.2.2.1
        by_cases hwn : wn = true
        · rw [if_pos (Or.inl hwn)] at hcl'
          rw [hcl']
          rw [if_pos hwn] at a5'
          refine pw_iload_n 20 rfl dX6_read_19 rfl ?_
          refine pw_aload_n 21 rfl dX6_read_20 rfl ?_
          refine pw_getI 24 rfl dX6_read_21 fX6_74 (by first | rfl | assumption | exact rowS hh | exact mtS hm | exact ruS hr | exact mtA1 hm | exact mtA2 hm | exact mtA3 hm | exact mtA4 hm | exact mtA5 hm | exact mtA6 hm | exact mtA7 hm | exact ruA1 hr | exact ruA2 hr | exact ruA3 hr) rfl ?_
          refine pw_icmp_ge (tgt := 73) 27 rfl dX6_read_24 rfl (fun h24 => ?_) (fun h24 => absurd (by rw [t1']; (simp (disch := omega) only [nI_leI, nI_ltI, nI_eq, show (0 : Int32) = nI 0 from rfl, not_true_eq_false, not_false_eq_true] <;> omega)) h24)
          refine pw_aload_n 74 rfl dX6_read_73 rfl ?_
          refine pw_getI 77 rfl dX6_read_74 fX6_74 (by first | rfl | assumption | exact rowS hh | exact mtS hm | exact ruS hr | exact mtA1 hm | exact mtA2 hm | exact mtA3 hm | exact mtA4 hm | exact mtA5 hm | exact mtA6 hm | exact mtA7 hm | exact ruA1 hr | exact ruA2 hr | exact ruA3 hr) rfl ?_
          refine pw_bipush (v := nI 40) 79 rfl dX6_read_77 rfl ?_
          refine pw_icmp_le (tgt := 85) 82 rfl dX6_read_79 rfl (fun h79 => ?_) (fun h79 => absurd (by rw [t1']; (simp (disch := omega) only [nI_leI, nI_ltI, nI_eq, show (0 : Int32) = nI 0 from rfl, not_true_eq_false, not_false_eq_true] <;> omega)) h79)
          refine pw_aload_n 86 rfl dX6_read_85 rfl ?_
          refine pw_getI 89 rfl dX6_read_86 fX6_34 (by first | rfl | assumption | exact rowS hh | exact mtS hm | exact ruS hr | exact mtA1 hm | exact mtA2 hm | exact mtA3 hm | exact mtA4 hm | exact mtA5 hm | exact mtA6 hm | exact mtA7 hm | exact ruA1 hr | exact ruA2 hr | exact ruA3 hr) rfl ?_
          refine pw_if_ne (tgt := 99) 92 rfl dX6_read_89 rfl (fun h89 => ?_) (fun h89 => absurd h89 (by rw [a5']; decide))
          refine pw_aload_n 100 rfl dX6_read_99 rfl ?_
          refine pw_getI 103 rfl dX6_read_100 fX6_74 (by first | rfl | assumption | exact rowS hh | exact mtS hm | exact ruS hr | exact mtA1 hm | exact mtA2 hm | exact mtA3 hm | exact mtA4 hm | exact mtA5 hm | exact mtA6 hm | exact mtA7 hm | exact ruA1 hr | exact ruA2 hr | exact ruA3 hr) rfl ?_
          rotate_left
          rw [t1']
          refine pw_iret dX6_read_103 rfl ?_
          rotate_left
          exact ⟨rfl, fun q => (by cases q), hf, rfl, rfl⟩
        · rw [if_neg hwn] at a5'
          by_cases hdp : 0 < dp
          · rw [if_pos (Or.inr hdp)] at hcl'
            rw [hcl']
            refine pw_iload_n 20 rfl dX6_read_19 rfl ?_
            refine pw_aload_n 21 rfl dX6_read_20 rfl ?_
            refine pw_getI 24 rfl dX6_read_21 fX6_74 (by first | rfl | assumption | exact rowS hh | exact mtS hm | exact ruS hr | exact mtA1 hm | exact mtA2 hm | exact mtA3 hm | exact mtA4 hm | exact mtA5 hm | exact mtA6 hm | exact mtA7 hm | exact ruA1 hr | exact ruA2 hr | exact ruA3 hr) rfl ?_
            refine pw_icmp_ge (tgt := 73) 27 rfl dX6_read_24 rfl (fun h24 => ?_) (fun h24 => absurd (by rw [t1']; (simp (disch := omega) only [nI_leI, nI_ltI, nI_eq, show (0 : Int32) = nI 0 from rfl, not_true_eq_false, not_false_eq_true] <;> omega)) h24)
            refine pw_aload_n 74 rfl dX6_read_73 rfl ?_
            refine pw_getI 77 rfl dX6_read_74 fX6_74 (by first | rfl | assumption | exact rowS hh | exact mtS hm | exact ruS hr | exact mtA1 hm | exact mtA2 hm | exact mtA3 hm | exact mtA4 hm | exact mtA5 hm | exact mtA6 hm | exact mtA7 hm | exact ruA1 hr | exact ruA2 hr | exact ruA3 hr) rfl ?_
            refine pw_bipush (v := nI 40) 79 rfl dX6_read_77 rfl ?_
            refine pw_icmp_le (tgt := 85) 82 rfl dX6_read_79 rfl (fun h79 => ?_) (fun h79 => absurd (by rw [t1']; (simp (disch := omega) only [nI_leI, nI_ltI, nI_eq, show (0 : Int32) = nI 0 from rfl, not_true_eq_false, not_false_eq_true] <;> omega)) h79)
            refine pw_aload_n 86 rfl dX6_read_85 rfl ?_
            refine pw_getI 89 rfl dX6_read_86 fX6_34 (by first | rfl | assumption | exact rowS hh | exact mtS hm | exact ruS hr | exact mtA1 hm | exact mtA2 hm | exact mtA3 hm | exact mtA4 hm | exact mtA5 hm | exact mtA6 hm | exact mtA7 hm | exact ruA1 hr | exact ruA2 hr | exact ruA3 hr) rfl ?_
            refine pw_if_ne (tgt := 99) 92 rfl dX6_read_89 rfl (fun h89 => absurd (by rw [a5']; rfl) h89) (fun h89 => ?_)
            refine pw_aload_n 93 rfl dX6_read_92 rfl ?_
            refine pw_getI 96 rfl dX6_read_93 fX6_28 (by first | rfl | assumption | exact rowS hh | exact mtS hm | exact ruS hr | exact mtA1 hm | exact mtA2 hm | exact mtA3 hm | exact mtA4 hm | exact mtA5 hm | exact mtA6 hm | exact mtA7 hm | exact ruA1 hr | exact ruA2 hr | exact ruA3 hr) rfl ?_
            refine pw_if_le (tgt := 104) 99 rfl dX6_read_96 rfl (fun h96 => absurd h96 (by rw [a3']; exact nI_nle hdp (by omega))) (fun h96 => ?_)
            refine pw_aload_n 100 rfl dX6_read_99 rfl ?_
            refine pw_getI 103 rfl dX6_read_100 fX6_74 (by first | rfl | assumption | exact rowS hh | exact mtS hm | exact ruS hr | exact mtA1 hm | exact mtA2 hm | exact mtA3 hm | exact mtA4 hm | exact mtA5 hm | exact mtA6 hm | exact mtA7 hm | exact ruA1 hr | exact ruA2 hr | exact ruA3 hr) rfl ?_
            rotate_left
            rw [t1']
            refine pw_iret dX6_read_103 rfl ?_
            rotate_left
            exact ⟨rfl, fun q => (by cases q), hf, rfl, rfl⟩
          · rw [if_neg (fun q => q.elim hwn hdp)] at hcl'
            obtain ⟨e1, e2⟩ := hcl'
            rw [e1]
            have hm : cd.length + wt.length ≤ 40 := by
              have : min 40 tx.length ≤ 40 := Nat.min_le_left _ _
              omega
            refine pw_iload_n 20 rfl dX6_read_19 rfl ?_
            refine pw_aload_n 21 rfl dX6_read_20 rfl ?_
            refine pw_getI 24 rfl dX6_read_21 fX6_74 (by first | rfl | assumption | exact rowS hh | exact mtS hm | exact ruS hr | exact mtA1 hm | exact mtA2 hm | exact mtA3 hm | exact mtA4 hm | exact mtA5 hm | exact mtA6 hm | exact mtA7 hm | exact ruA1 hr | exact ruA2 hr | exact ruA3 hr) rfl ?_
            refine pw_icmp_ge (tgt := 73) 27 rfl dX6_read_24 rfl (fun h24 => ?_) (fun h24 => absurd (by rw [t1']; (simp (disch := omega) only [nI_leI, nI_ltI, nI_eq, show (0 : Int32) = nI 0 from rfl, not_true_eq_false, not_false_eq_true] <;> omega)) h24)
            refine pw_aload_n 74 rfl dX6_read_73 rfl ?_
            refine pw_getI 77 rfl dX6_read_74 fX6_74 (by first | rfl | assumption | exact rowS hh | exact mtS hm | exact ruS hr | exact mtA1 hm | exact mtA2 hm | exact mtA3 hm | exact mtA4 hm | exact mtA5 hm | exact mtA6 hm | exact mtA7 hm | exact ruA1 hr | exact ruA2 hr | exact ruA3 hr) rfl ?_
            refine pw_bipush (v := nI 40) 79 rfl dX6_read_77 rfl ?_
            refine pw_icmp_le (tgt := 85) 82 rfl dX6_read_79 rfl (fun h79 => ?_) (fun h79 => absurd (by rw [t1']; (simp (disch := omega) only [nI_leI, nI_ltI, nI_eq, show (0 : Int32) = nI 0 from rfl, not_true_eq_false, not_false_eq_true] <;> omega)) h79)
            refine pw_aload_n 86 rfl dX6_read_85 rfl ?_
            refine pw_getI 89 rfl dX6_read_86 fX6_34 (by first | rfl | assumption | exact rowS hh | exact mtS hm | exact ruS hr | exact mtA1 hm | exact mtA2 hm | exact mtA3 hm | exact mtA4 hm | exact mtA5 hm | exact mtA6 hm | exact mtA7 hm | exact ruA1 hr | exact ruA2 hr | exact ruA3 hr) rfl ?_
            refine pw_if_ne (tgt := 99) 92 rfl dX6_read_89 rfl (fun h89 => absurd (by rw [a5']; rfl) h89) (fun h89 => ?_)
            refine pw_aload_n 93 rfl dX6_read_92 rfl ?_
            refine pw_getI 96 rfl dX6_read_93 fX6_28 (by first | rfl | assumption | exact rowS hh | exact mtS hm | exact ruS hr | exact mtA1 hm | exact mtA2 hm | exact mtA3 hm | exact mtA4 hm | exact mtA5 hm | exact mtA6 hm | exact mtA7 hm | exact ruA1 hr | exact ruA2 hr | exact ruA3 hr) rfl ?_
            refine pw_if_le (tgt := 104) 99 rfl dX6_read_96 rfl (fun h96 => ?_) (fun h96 => absurd (by rw [a3', show dp = 0 by omega]; decide) h96)
            refine pw_aload_n 105 rfl dX6_read_104 rfl ?_
            refine pw_iconst (v := nI 1) 106 rfl dX6_read_105 rfl ?_
            refine pw_callV (as := [_]) 109 rfl dX6_read_106 mX6_90 vX6_release (x_release (d := d + 2) (s := 1) hQ (by decide) hm (fun w hw => w257 (w5 w hw))) (by first | rfl | assumption | exact rowS hh | exact mtS hm | exact ruS hr | exact mtA1 hm | exact mtA2 hm | exact mtA3 hm | exact mtA4 hm | exact mtA5 hm | exact mtA6 hm | exact mtA7 hm | exact ruA1 hr | exact ruA2 hr | exact ruA3 hr) rfl (by decide) ⟨rfl, by decide, by decide, show (parseMethodDescriptor yX6_release.desc).map (fun d => d.parameters.length) = some 1 by decide +kernel⟩ (by omega) (by decide) (Nat.le_of_ble_eq_true rfl) rfl (fun r106 I106 J106 R106 c106 => ?_)
            obtain ⟨rfl, p1, p2, rfl, rfl⟩ := c106
            rotate_left
            refine pw_iconst (v := -1) 110 rfl dX6_read_109 rfl ?_
            refine pw_iret dX6_read_110 rfl ?_
            rotate_left
            have hrl := rls_len 1 wt cd
            have hro := rls_ok (Nat.le_refl 1) wt cd w4 w5
            refine ⟨rfl, fun _ => XE_ru (cs := (rls 1 wt cd).2) ⟨p1.1, by omega, fun j c hj => ⟨p1.2.2.2.2.2.2.1 j c hj, hro.1 c (List.mem_of_getElem? hj)⟩⟩ e2, hf.trans p2, rfl, rfl⟩
    · intro k hk ih z I' x hQ hW hr hf
      have hk1 : k < tx.length := by have := Nat.min_le_right 40 tx.length; omega
      have hk2 : k < 40 := by have := Nat.min_le_left 40 tx.length; omega
      obtain ⟨c, hc⟩ : ∃ c, tx[k]? = some c := ⟨_, List.getElem?_eq_getElem hk1⟩
      have hcl6 := (t3 k c hc).2
      have hdr : (tx.take 40).drop k = c :: (tx.take 40).drop (k + 1) := by
        have hkl : k < (tx.take 40).length := by rw [hlen]; exact hk
        rw [List.drop_eq_getElem_cons hkl, List.getElem_take]
        have := (List.getElem?_eq_some_iff.mp hc).2
        rw [this]
      have t1' : I' 17 1 = nI tx.length := by rw [hf 17 (by decide) (by decide) (by decide)]; exact t1
      have hT' : XT I' tx := by
        refine ⟨t1', t2, fun j c hj => ?_⟩
        rw [hf 18 (by decide) (by decide) (by decide)]
        exact t3 j c hj
      have eat : tAt tx k = nI c := by rw [tAt, hc]
      obtain ⟨cd, wt, dp, cm, wn, dg⟩ := z
      have a5' : I' 13 7 = nI (if wn = true then 1 else 0) := hQ.2.2.2.2.1
      have bad : mSp (cd, wt, dp, cm, wn, dg) c = none → wrR tx = some k := by
        intro hn
        rw [hdr, runM, hn] at hr
        rw [hr] at hcl
        have : wrR tx = some ((tx.take 40).length - (c :: (tx.take 40).drop (k + 1)).length) := hcl
        rw [this, ← hdr, List.length_drop, hlen]
        congr 1
        omega
      have good : ∀ z', mSp (cd, wt, dp, cm, wn, dg) c = some z' → WQ (k + 1) z' ∧ runM mIn (tx.take 40) = runM z' ((tx.take 40).drop (k + 1)) := by
        intro z' hz
        refine ⟨WQ_step hW hz, ?_⟩
        rw [hr, hdr, runM, hz]
      rcases wn with _ | _
      · rw [if_neg (by decide)] at a5'
        refine pw_iload_n 20 rfl dX6_read_19 rfl ?_
        refine pw_aload_n 21 rfl dX6_read_20 rfl ?_
        refine pw_getI 24 rfl dX6_read_21 fX6_74 (by first | rfl | assumption | exact rowS hh | exact mtS hm | exact ruS hr | exact mtA1 hm | exact mtA2 hm | exact mtA3 hm | exact mtA4 hm | exact mtA5 hm | exact mtA6 hm | exact mtA7 hm | exact ruA1 hr | exact ruA2 hr | exact ruA3 hr) rfl ?_
        refine pw_icmp_ge (tgt := 73) 27 rfl dX6_read_24 rfl (fun h24 => absurd h24 (by rw [t1']; (simp (disch := omega) only [nI_leI, nI_ltI, nI_eq, show (0 : Int32) = nI 0 from rfl, not_true_eq_false, not_false_eq_true] <;> omega))) (fun h24 => ?_)
        refine pw_iload_n 28 rfl dX6_read_27 rfl ?_
        refine pw_bipush (v := nI 40) 30 rfl dX6_read_28 rfl ?_
        refine pw_icmp_ge (tgt := 73) 33 rfl dX6_read_30 rfl (fun h30 => absurd h30 (by (simp (disch := omega) only [nI_leI, nI_ltI, nI_eq, show (0 : Int32) = nI 0 from rfl, not_true_eq_false, not_false_eq_true] <;> omega))) (fun h30 => ?_)
        refine pw_aload_n 34 rfl dX6_read_33 rfl ?_
        refine pw_iload_n 35 rfl dX6_read_34 rfl ?_
        refine pw_callVP (as := [_]) 38 rfl dX6_read_35 mX6_80 vX10_at (x_at (d := d + 4) hT' (show k ≤ 100 by omega)) (by first | rfl | assumption | exact rowS hh | exact mtS hm | exact ruS hr | exact mtA1 hm | exact mtA2 hm | exact mtA3 hm | exact mtA4 hm | exact mtA5 hm | exact mtA6 hm | exact mtA7 hm | exact ruA1 hr | exact ruA2 hr | exact ruA3 hr) rfl (by decide) ⟨rfl, by decide, by decide, show (parseMethodDescriptor yX10_at.desc).map (fun d => d.parameters.length) = some 1 by decide +kernel⟩ (by omega) (by decide) (Nat.le_of_ble_eq_true rfl) rfl ?_
        rotate_left
        rw [eat]
        refine pw_istore_n 39 rfl dX6_read_38 (by decide) ?_
        refine pw_aload_n 40 rfl dX6_read_39 rfl ?_
        refine pw_getI 43 rfl dX6_read_40 fX6_34 (by first | rfl | assumption | exact rowS hh | exact mtS hm | exact ruS hr | exact mtA1 hm | exact mtA2 hm | exact mtA3 hm | exact mtA4 hm | exact mtA5 hm | exact mtA6 hm | exact mtA7 hm | exact ruA1 hr | exact ruA2 hr | exact ruA3 hr) rfl ?_
        refine pw_if_eq (tgt := 57) 46 rfl dX6_read_43 rfl (fun h43 => ?_) (fun h43 => absurd (by rw [a5']; rfl) h43)
        refine pw_aload_n 58 rfl dX6_read_57 rfl ?_
        refine pw_iload_n 59 rfl dX6_read_58 rfl ?_
        refine pw_callV (as := [_]) 62 rfl dX6_read_59 mX6_87 vX6_takesBehindThing (x_takesBehind (d := d) hQ hW hk2 hcl6) (by first | rfl | assumption | exact rowS hh | exact mtS hm | exact ruS hr | exact mtA1 hm | exact mtA2 hm | exact mtA3 hm | exact mtA4 hm | exact mtA5 hm | exact mtA6 hm | exact mtA7 hm | exact ruA1 hr | exact ruA2 hr | exact ruA3 hr) rfl (by decide) ⟨rfl, by decide, by decide, show (parseMethodDescriptor yX6_takesBehindThing.desc).map (fun d => d.parameters.length) = some 1 by decide +kernel⟩ (by omega) (by decide) (Nat.le_of_ble_eq_true rfl) rfl (fun r59 I59 J59 R59 c59 => ?_)
        rotate_left
        revert c59
        rcases hz : mSp (cd, wt, dp, cm, false, dg) c with _ | z'
        · rintro ⟨rfl, p1, rfl, rfl⟩
          rw [bad hz]
          refine pw_if_ne (tgt := 67) 65 rfl dX6_read_62 rfl (fun h62 => absurd rfl h62) (fun h62 => ?_)
          refine pw_iload_n 66 rfl dX6_read_65 rfl ?_
          refine pw_iret dX6_read_66 rfl ?_
          rotate_left
          exact ⟨rfl, fun q => (by cases q), hf.trans p1, rfl, rfl⟩
        · rintro ⟨⟨rfl, p0⟩, p1, rfl, rfl⟩
          obtain ⟨g1, g2⟩ := good z' hz
          refine pw_if_ne (tgt := 67) 65 rfl dX6_read_62 rfl (fun h62 => ?_) (fun h62 => absurd h62 (by decide))
          refine pw_iincN 70 rfl dX6_read_67 (by decide) rfl ?_
          refine pw_goto (tgt := 19) dX6_read_70 rfl ?_
          rotate_left
          exact ih z' _ _ p0 g1 g2 (hf.trans p1)
      · rw [if_pos rfl] at a5'
        refine pw_iload_n 20 rfl dX6_read_19 rfl ?_
        refine pw_aload_n 21 rfl dX6_read_20 rfl ?_
        refine pw_getI 24 rfl dX6_read_21 fX6_74 (by first | rfl | assumption | exact rowS hh | exact mtS hm | exact ruS hr | exact mtA1 hm | exact mtA2 hm | exact mtA3 hm | exact mtA4 hm | exact mtA5 hm | exact mtA6 hm | exact mtA7 hm | exact ruA1 hr | exact ruA2 hr | exact ruA3 hr) rfl ?_
        refine pw_icmp_ge (tgt := 73) 27 rfl dX6_read_24 rfl (fun h24 => absurd h24 (by rw [t1']; (simp (disch := omega) only [nI_leI, nI_ltI, nI_eq, show (0 : Int32) = nI 0 from rfl, not_true_eq_false, not_false_eq_true] <;> omega))) (fun h24 => ?_)
        refine pw_iload_n 28 rfl dX6_read_27 rfl ?_
        refine pw_bipush (v := nI 40) 30 rfl dX6_read_28 rfl ?_
        refine pw_icmp_ge (tgt := 73) 33 rfl dX6_read_30 rfl (fun h30 => absurd h30 (by (simp (disch := omega) only [nI_leI, nI_ltI, nI_eq, show (0 : Int32) = nI 0 from rfl, not_true_eq_false, not_false_eq_true] <;> omega))) (fun h30 => ?_)
        refine pw_aload_n 34 rfl dX6_read_33 rfl ?_
        refine pw_iload_n 35 rfl dX6_read_34 rfl ?_
        refine pw_callVP (as := [_]) 38 rfl dX6_read_35 mX6_80 vX10_at (x_at (d := d + 4) hT' (show k ≤ 100 by omega)) (by first | rfl | assumption | exact rowS hh | exact mtS hm | exact ruS hr | exact mtA1 hm | exact mtA2 hm | exact mtA3 hm | exact mtA4 hm | exact mtA5 hm | exact mtA6 hm | exact mtA7 hm | exact ruA1 hr | exact ruA2 hr | exact ruA3 hr) rfl (by decide) ⟨rfl, by decide, by decide, show (parseMethodDescriptor yX10_at.desc).map (fun d => d.parameters.length) = some 1 by decide +kernel⟩ (by omega) (by decide) (Nat.le_of_ble_eq_true rfl) rfl ?_
        rotate_left
        rw [eat]
        refine pw_istore_n 39 rfl dX6_read_38 (by decide) ?_
        refine pw_aload_n 40 rfl dX6_read_39 rfl ?_
        refine pw_getI 43 rfl dX6_read_40 fX6_34 (by first | rfl | assumption | exact rowS hh | exact mtS hm | exact ruS hr | exact mtA1 hm | exact mtA2 hm | exact mtA3 hm | exact mtA4 hm | exact mtA5 hm | exact mtA6 hm | exact mtA7 hm | exact ruA1 hr | exact ruA2 hr | exact ruA3 hr) rfl ?_
        refine pw_if_eq (tgt := 57) 46 rfl dX6_read_43 rfl (fun h43 => absurd h43 (by rw [a5']; decide)) (fun h43 => ?_)
        refine pw_aload_n 47 rfl dX6_read_46 rfl ?_
        refine pw_iload_n 48 rfl dX6_read_47 rfl ?_
        refine pw_callV (as := [_]) 51 rfl dX6_read_48 mX6_84 vX6_takesThing (x_takesThing (d := d + 1) hQ hW hk2 hcl6) (by first | rfl | assumption | exact rowS hh | exact mtS hm | exact ruS hr | exact mtA1 hm | exact mtA2 hm | exact mtA3 hm | exact mtA4 hm | exact mtA5 hm | exact mtA6 hm | exact mtA7 hm | exact ruA1 hr | exact ruA2 hr | exact ruA3 hr) rfl (by decide) ⟨rfl, by decide, by decide, show (parseMethodDescriptor yX6_takesThing.desc).map (fun d => d.parameters.length) = some 1 by decide +kernel⟩ (by omega) (by decide) (Nat.le_of_ble_eq_true rfl) rfl (fun r48 I48 J48 R48 c48 => ?_)
        rotate_left
        revert c48
        rcases hz : mSp (cd, wt, dp, cm, true, dg) c with _ | z'
        · rintro ⟨rfl, p1, rfl, rfl⟩
          rw [bad hz]
          refine pw_if_eq (tgt := 65) 54 rfl dX6_read_51 rfl (fun h51 => ?_) (fun h51 => absurd rfl h51)
          refine pw_iload_n 66 rfl dX6_read_65 rfl ?_
          refine pw_iret dX6_read_66 rfl ?_
          rotate_left
          exact ⟨rfl, fun q => (by cases q), hf.trans p1, rfl, rfl⟩
        · rintro ⟨⟨rfl, p0⟩, p1, rfl, rfl⟩
          obtain ⟨g1, g2⟩ := good z' hz
          refine pw_if_eq (tgt := 65) 54 rfl dX6_read_51 rfl (fun h51 => absurd h51 (by decide)) (fun h51 => ?_)
          refine pw_goto (tgt := 67) dX6_read_54 rfl ?_
          refine pw_iincN 70 rfl dX6_read_67 (by decide) rfl ?_
          refine pw_goto (tgt := 19) dX6_read_70 rfl ?_
          rotate_left
          exact ih z' _ _ p0 g1 g2 (hf.trans p1)
set_option maxRecDepth 100000 in
set_option maxHeartbeats 2000000 in
theorem x_copyRule {d : Nat} {E : (Nat → Int32) → Nat} {I : pI} {J : pJ} (hE : XE I 13 E) : PC SX (d + 1) yX6_copyFrom cX6_copyFrom 2 none [.ref 9, .ref 13] (I) (J) (RX) (fun r' I' J' R' => r' = none ∧ XE I' 9 E ∧ (∀ a, a ≠ 9 → a ≠ 10 → I' a = I a) ∧ J = J' ∧ R' = RX) := by
  refine PC.of [some (.ref 9), some (.ref 13)] rfl rfl (Nat.le_of_ble_eq_true rfl) ?_
  obtain ⟨cs, ⟨h1, h2, h3⟩, h4⟩ := hE
  refine pw_aload_n 1 rfl dX6_copyFrom_0 rfl ?_
  refine pw_aload_n 2 rfl dX6_copyFrom_1 rfl ?_
  refine pw_getI 5 rfl dX6_copyFrom_2 fX6_18 (by first | rfl | assumption | exact rowS hh | exact mtS hm | exact ruS hr | exact mtA1 hm | exact mtA2 hm | exact mtA3 hm | exact mtA4 hm | exact mtA5 hm | exact mtA6 hm | exact mtA7 hm | exact ruA1 hr | exact ruA2 hr | exact ruA3 hr) rfl ?_
  refine pw_putI 8 rfl dX6_copyFrom_5 fX6_18 w6_2 (by first | rfl | assumption | exact rowS hh | exact mtS hm | exact ruS hr | exact mtA1 hm | exact mtA2 hm | exact mtA3 hm | exact mtA4 hm | exact mtA5 hm | exact mtA6 hm | exact mtA7 hm | exact ruA1 hr | exact ruA2 hr | exact ruA3 hr) rfl rfl rfl ?_
  refine pw_aload_n 9 rfl dX6_copyFrom_8 rfl ?_
  refine pw_getR 12 rfl dX6_copyFrom_9 fX6_11 (by first | rfl | assumption | exact rowS hh | exact mtS hm | exact ruS hr | exact mtA1 hm | exact mtA2 hm | exact mtA3 hm | exact mtA4 hm | exact mtA5 hm | exact mtA6 hm | exact mtA7 hm | exact ruA1 hr | exact ruA2 hr | exact ruA3 hr) rfl (by first | rfl | assumption | exact mtR0 hm | exact mtR1 hm | exact mtR2 hm | exact mtR3 hm | exact mtR4 hm | exact mtR5 hm | exact mtR6 hm | exact ruR0 hr | exact ruR1 hr | exact ruR3 hr) ?_
  refine pw_iconst (v := nI 0) 13 rfl dX6_copyFrom_12 rfl ?_
  refine pw_aload_n 14 rfl dX6_copyFrom_13 rfl ?_
  refine pw_getR 17 rfl dX6_copyFrom_14 fX6_11 (by first | rfl | assumption | exact rowS hh | exact mtS hm | exact ruS hr | exact mtA1 hm | exact mtA2 hm | exact mtA3 hm | exact mtA4 hm | exact mtA5 hm | exact mtA6 hm | exact mtA7 hm | exact ruA1 hr | exact ruA2 hr | exact ruA3 hr) rfl (by first | rfl | assumption | exact mtR0 hm | exact mtR1 hm | exact mtR2 hm | exact mtR3 hm | exact mtR4 hm | exact mtR5 hm | exact mtR6 hm | exact ruR0 hr | exact ruR1 hr | exact ruR3 hr) ?_
  refine pw_iconst (v := nI 0) 18 rfl dX6_copyFrom_17 rfl ?_
  refine pw_bipush (v := nI 40) 20 rfl dX6_copyFrom_18 rfl ?_
  refine pw_copy 23 rfl dX6_copyFrom_20 mX6_51 (by first | rfl | assumption | exact rowS hh | exact mtS hm | exact ruS hr | exact mtA1 hm | exact mtA2 hm | exact mtA3 hm | exact mtA4 hm | exact mtA5 hm | exact mtA6 hm | exact mtA7 hm | exact ruA1 hr | exact ruA2 hr | exact ruA3 hr) (by first | rfl | assumption | exact rowS hh | exact mtS hm | exact ruS hr | exact mtA1 hm | exact mtA2 hm | exact mtA3 hm | exact mtA4 hm | exact mtA5 hm | exact mtA6 hm | exact mtA7 hm | exact ruA1 hr | exact ruA2 hr | exact ruA3 hr) (by decide) (by decide) (by decide) (by decide) (by decide) (Nat.le_of_ble_eq_true rfl) (by decide) ?_
  refine pw_vret dX6_copyFrom_23 ?_
  rotate_left
  refine ⟨rfl, ⟨cs, ⟨?_, h2, fun j c hj => ?_⟩, h4⟩, fun a ha hb => ?_, rfl, rfl⟩
  · show (if 9 = 10 then _ else uI I 9 2 (I 13 2) 9) 2 = _
    rw [if_neg (by decide), uI_eq]; exact h1
  · have hjl := (List.getElem?_eq_some_iff.mp hj).1
    refine ⟨?_, (h3 j c hj).2⟩
    show (if 9 + 1 = 10 then _ else uI I 9 2 (I 13 2) (9 + 1)) j = _
    rw [if_pos rfl, show (nI 0).toNatClampNeg = 0 from by decide, show (nI 40).toNatClampNeg = 40 from by decide, pk_cpy_in (by omega) (by omega), show 0 + (j - 0) = j by omega, uI_ne (by omega)]
    exact (h3 j c hj).1
  · show (if a = 10 then _ else uI I 9 2 (I 13 2) a) = _
    rw [if_neg hb, uI, if_neg ha]
