/-! the reference: what is done -/
set_option maxRecDepth 100000 in
set_option maxHeartbeats 2000000 in
theorem m_layG {d h t k : Nat} {b : Nat → Nat} {I : pI} {J : pJ} {R : pR} (hsrc : SM[h]? = some (100, 32)) {nt : Nat} (ht : SM[t]? = some (100, nt)) (hne : t ≠ h) (hk : k + 32 ≤ nt) (hnt : nt ≤ 1000) (hB : MB I h b) : PC SM (d) yX12_lay cX12_lay 4 none [.ref h, .ref t, .int (nI k)] (I) (J) (R) (fun r' I' J' R' => r' = none ∧ (∀ j, j < 32 → I' t (k + j) = nI (b j)) ∧ (∀ a j, ¬ (a = t ∧ k ≤ j ∧ j < k + 32) → I' a j = I a j) ∧ J = J' ∧ R' = R) := by
  refine PC.of [some (.ref h), some (.ref t), some (.int (nI k)), none] rfl rfl (Nat.le_of_ble_eq_true rfl) ?_
  refine pw_iconst (v := nI 0) 1 rfl dX12_lay_0 rfl ?_
  refine pw_istore_n 2 rfl dX12_lay_1 (by decide) ?_
  rotate_left
  have L := nat_loop 32 (fun i => ∀ (I' : pI), (∀ j, j < i → I' t (k + j) = nI (b j)) → (∀ a j, ¬ (a = t ∧ k ≤ j ∧ j < k + i) → I' a j = I a j) → PW SM yX12_lay.cls cX12_lay 4 (d) 2 [some (.ref h), some (.ref t), some (.int (nI k)), some (.int (nI i))] [] (I') (J) (R) (rX cX12_lay none (fun r' I' J' R' => r' = none ∧ (∀ j, j < 32 → I' t (k + j) = nI (b j)) ∧ (∀ a j, ¬ (a = t ∧ k ≤ j ∧ j < k + 32) → I' a j = I a j) ∧ J = J' ∧ R' = R))) ?_ ?_
  · exact L I (fun j hj => by omega) (fun _ _ _ => rfl)
  · intro I' g1 g2
    refine pw_iload_n 3 rfl dX12_lay_2 rfl ?_
    refine pw_bipush (v := nI 32) 5 rfl dX12_lay_3 rfl ?_
    refine pw_icmp_ge (tgt := 22) 8 rfl dX12_lay_5 rfl (fun h5 => ?_) (fun h5 => absurd (by (simp (disch := omega) only [nI_leI, nI_ltI, nI_eq, show (0 : Int32) = nI 0 from rfl, not_true_eq_false, not_false_eq_true] <;> omega)) h5)
    refine pw_vret dX12_lay_22 ?_
    rotate_left
    exact ⟨rfl, g1, g2, rfl, rfl⟩
  · intro i hi ih I' g1 g2
    have e : I' h i = nI (b i) := by rw [g2 h i (fun z => hne z.1.symm)]; exact hB i hi
    refine pw_iload_n 3 rfl dX12_lay_2 rfl ?_
    refine pw_bipush (v := nI 32) 5 rfl dX12_lay_3 rfl ?_
    refine pw_icmp_ge (tgt := 22) 8 rfl dX12_lay_5 rfl (fun h5 => absurd h5 (by (simp (disch := omega) only [nI_leI, nI_ltI, nI_eq, show (0 : Int32) = nI 0 from rfl, not_true_eq_false, not_false_eq_true] <;> omega))) (fun h5 => ?_)
    refine pw_aload_n 9 rfl dX12_lay_8 rfl ?_
    refine pw_iload_n 10 rfl dX12_lay_9 rfl ?_
    refine pw_iload_n 11 rfl dX12_lay_10 rfl ?_
    first | refine pw_iaddN 12 rfl dX12_lay_11 ?_ | refine pw_iadd 12 rfl dX12_lay_11 ?_
    refine pw_aload_n 13 rfl dX12_lay_12 rfl ?_
    refine pw_iload_n 14 rfl dX12_lay_13 rfl ?_
    refine pw_ialdN 15 rfl dX12_lay_14 (by first | rfl | assumption | exact rowS hh | exact mtS hm | exact ruS hr | exact mtA1 hm | exact mtA2 hm | exact mtA3 hm | exact mtA4 hm | exact mtA5 hm | exact mtA6 hm | exact mtA7 hm | exact ruA1 hr | exact ruA2 hr | exact ruA3 hr) (by omega) (by first | decide | omega) ?_
    rotate_left
    rw [e]
    refine pw_iastN 16 rfl dX12_lay_15 (by first | rfl | assumption | exact rowS hh | exact mtS hm | exact ruS hr | exact mtA1 hm | exact mtA2 hm | exact mtA3 hm | exact mtA4 hm | exact mtA5 hm | exact mtA6 hm | exact mtA7 hm | exact ruA1 hr | exact ruA2 hr | exact ruA3 hr) (by omega) (by first | decide | omega) ?_
    refine pw_iincN 19 rfl dX12_lay_16 (by decide) rfl ?_
    refine pw_goto (tgt := 2) dX12_lay_19 rfl ?_
    rotate_left
    refine ih _ (fun j hj => ?_) (fun a j q => ?_)
    · by_cases ej : j = i
      · subst ej; exact uI_eq _ _ _ _
      · rw [uI_ne (by omega)]; exact g1 j (by omega)
    · rw [uI_ne (by omega)]; exact g2 a j (by omega)
set_option maxRecDepth 100000 in
set_option maxHeartbeats 2000000 in
theorem m_remember {d h : Nat} {b : Nat → Nat} {us : List (Nat → Nat)} {rd rl : Option Nat} {I : pI} {J : pJ} (hsrc : SM[h]? = some (100, 32)) (h9 : h ≠ 9) (h0 : h ≠ 0) (hB : MB I h b) (hU : MU I us) : PC SM (d + 1) yX12_remember cX12_remember 3 none [.ref 0, .ref h] (I) (J) (RM rd rl) (fun r' I' J' R' => r' = none ∧ MU I' (aKeep us b) ∧ (∀ a j, a ≠ 9 → ¬ (a = 0 ∧ j = 20) → I' a j = I a j) ∧ J = J' ∧ R' = RM rd rl) := by
  refine PC.of [some (.ref 0), some (.ref h), none] rfl rfl (Nat.le_of_ble_eq_true rfl) ?_
  have tail : ∀ (I' : pI) (us' : List (Nat → Nat)) (x2 : Option Value), MU I' us' → us'.length < 12 → aKeep us b = us' ++ [b] → (∀ a j, a ≠ 9 → ¬ (a = 0 ∧ j = 20) → I' a j = I a j) → PW SM yX12_remember.cls cX12_remember 3 (d + 1) 49 [some (.ref 0), some (.ref h), x2] [] (I') (J) (RM rd rl) (rX cX12_remember none (fun r' I' J' R' => r' = none ∧ MU I' (aKeep us b) ∧ (∀ a j, a ≠ 9 → ¬ (a = 0 ∧ j = 20) → I' a j = I a j) ∧ J = J' ∧ R' = RM rd rl)) := by
    intro I' us' x2 g1 g2 g3 g4
    refine pw_aload_n 50 rfl dX12_remember_49 rfl ?_
    refine pw_aload_n 51 rfl dX12_remember_50 rfl ?_
    refine pw_getR 54 rfl dX12_remember_51 fX12_36 (by first | rfl | assumption | exact rowS hh | exact mtS hm | exact ruS hr | exact mtA1 hm | exact mtA2 hm | exact mtA3 hm | exact mtA4 hm | exact mtA5 hm | exact mtA6 hm | exact mtA7 hm | exact ruA1 hr | exact ruA2 hr | exact ruA3 hr) rfl (by first | rfl | assumption | exact mtR0 hm | exact mtR1 hm | exact mtR2 hm | exact mtR3 hm | exact mtR4 hm | exact mtR5 hm | exact mtR6 hm | exact ruR0 hr | exact ruR1 hr | exact ruR3 hr) ?_
    refine pw_bipush (v := nI 32) 56 rfl dX12_remember_54 rfl ?_
    refine pw_aload_n 57 rfl dX12_remember_56 rfl ?_
    refine pw_getI 60 rfl dX12_remember_57 fX12_150 (by first | rfl | assumption | exact rowS hh | exact mtS hm | exact ruS hr | exact mtA1 hm | exact mtA2 hm | exact mtA3 hm | exact mtA4 hm | exact mtA5 hm | exact mtA6 hm | exact mtA7 hm | exact ruA1 hr | exact ruA2 hr | exact ruA3 hr) rfl ?_
    rotate_left
    rw [g1.1]
    first | refine pw_imulN 61 rfl dX12_remember_60 ?_ | refine pw_imul 61 rfl dX12_remember_60 ?_
    refine pw_callS (as := [_, _, _]) 64 rfl dX12_remember_61 mX12_219 sX12_lay (m_layG (d := d) (t := 9) (k := 32 * us'.length) (nt := 384) hsrc rfl (fun z => h9 z.symm) (by omega) (by decide) (fun j hj => by rw [g4 _ _ h9 (by omega)]; exact hB j hj)) ⟨rfl, by decide, by decide, show (parseMethodDescriptor yX12_lay.desc).map (fun d => d.parameters.length) = some 3 by decide +kernel⟩ (by omega) (by decide) (Nat.le_of_ble_eq_true rfl) rfl (fun r61 I61 J61 R61 c61 => ?_)
    obtain ⟨rfl, k1, k2, rfl, rfl⟩ := c61
    rotate_left
    refine pw_aload_n 65 rfl dX12_remember_64 rfl ?_
    refine pw_dup 66 rfl dX12_remember_65 rfl ?_
    refine pw_getI 69 rfl dX12_remember_66 fX12_150 (by first | rfl | assumption | exact rowS hh | exact mtS hm | exact ruS hr | exact mtA1 hm | exact mtA2 hm | exact mtA3 hm | exact mtA4 hm | exact mtA5 hm | exact mtA6 hm | exact mtA7 hm | exact ruA1 hr | exact ruA2 hr | exact ruA3 hr) rfl ?_
    rotate_left
    rw [k2 _ _ (by omega), g1.1]
    refine pw_iconst (v := nI 1) 70 rfl dX12_remember_69 rfl ?_
    first | refine pw_iaddN 71 rfl dX12_remember_70 ?_ | refine pw_iadd 71 rfl dX12_remember_70 ?_
    refine pw_putI 74 rfl dX12_remember_71 fX12_150 w12_20 (by first | rfl | assumption | exact rowS hh | exact mtS hm | exact ruS hr | exact mtA1 hm | exact mtA2 hm | exact mtA3 hm | exact mtA4 hm | exact mtA5 hm | exact mtA6 hm | exact mtA7 hm | exact ruA1 hr | exact ruA2 hr | exact ruA3 hr) rfl rfl rfl ?_
    refine pw_vret dX12_remember_74 ?_
    rotate_left
    rw [g3]
    refine ⟨rfl, ⟨?_, ?_, fun j u hj k hk => ?_⟩, fun a j q1 q2 => ?_, rfl, rfl⟩
    · rw [uI_eq, List.length_append]; rfl
    · rw [List.length_append]; show us'.length + 1 ≤ 12; omega
    · rw [uI_ne (by omega)]
      rcases snoc_at hj with ⟨rfl, rfl⟩ | ⟨e1, e2⟩
      · exact k1 k hk
      · rw [k2 _ _ (by omega)]; exact g1.2.2 j u e2 k hk
    · rw [uI_ne (by omega), k2 a j (by omega)]; exact g4 a j q1 q2
  by_cases hl : us.length < 12
  · refine pw_aload_n 1 rfl dX12_remember_0 rfl ?_
    refine pw_getI 4 rfl dX12_remember_1 fX12_150 (by first | rfl | assumption | exact rowS hh | exact mtS hm | exact ruS hr | exact mtA1 hm | exact mtA2 hm | exact mtA3 hm | exact mtA4 hm | exact mtA5 hm | exact mtA6 hm | exact mtA7 hm | exact ruA1 hr | exact ruA2 hr | exact ruA3 hr) rfl ?_
    refine pw_bipush (v := nI 12) 6 rfl dX12_remember_4 rfl ?_
    refine pw_icmp_ne (tgt := 49) 9 rfl dX12_remember_6 rfl (fun h6 => ?_) (fun h6 => absurd h6 (by rw [hU.1, nI_eq (by omega) (by decide)]; omega))
    rotate_left
    exact tail I us none hU hl (by rw [aKeep, if_pos hl]) (fun _ _ _ _ => rfl)
  · have hl12 : us.length = 12 := by have := hU.2.1; omega
    refine pw_aload_n 1 rfl dX12_remember_0 rfl ?_
    refine pw_getI 4 rfl dX12_remember_1 fX12_150 (by first | rfl | assumption | exact rowS hh | exact mtS hm | exact ruS hr | exact mtA1 hm | exact mtA2 hm | exact mtA3 hm | exact mtA4 hm | exact mtA5 hm | exact mtA6 hm | exact mtA7 hm | exact ruA1 hr | exact ruA2 hr | exact ruA3 hr) rfl ?_
    refine pw_bipush (v := nI 12) 6 rfl dX12_remember_4 rfl ?_
    refine pw_icmp_ne (tgt := 49) 9 rfl dX12_remember_6 rfl (fun h6 => absurd (by rw [hU.1, hl12]) h6) (fun h6 => ?_)
    refine pw_iconst (v := nI 0) 10 rfl dX12_remember_9 rfl ?_
    refine pw_istore_n 11 rfl dX12_remember_10 (by decide) ?_
    rotate_left
    have L := nat_loop 352 (fun k => ∀ (I' : pI), (∀ j, j < k → I' 9 j = I 9 (j + 32)) → (∀ j, k ≤ j → I' 9 j = I 9 j) → (∀ a j, a ≠ 9 → I' a j = I a j) → PW SM yX12_remember.cls cX12_remember 3 (d + 1) 11 [some (.ref 0), some (.ref h), some (.int (nI k))] [] (I') (J) (RM rd rl) (rX cX12_remember none (fun r' I' J' R' => r' = none ∧ MU I' (aKeep us b) ∧ (∀ a j, a ≠ 9 → ¬ (a = 0 ∧ j = 20) → I' a j = I a j) ∧ J = J' ∧ R' = RM rd rl))) ?_ ?_
    · exact L I (fun j hj => by omega) (fun _ _ => rfl) (fun _ _ _ => rfl)
    · intro I' g1 g2 g3
      refine pw_iload_n 12 rfl dX12_remember_11 rfl ?_
      refine pw_sipush (v := nI 352) 15 rfl dX12_remember_12 rfl ?_
      refine pw_icmp_ge (tgt := 39) 18 rfl dX12_remember_15 rfl (fun h15 => ?_) (fun h15 => absurd (by (simp (disch := omega) only [nI_leI, nI_ltI, nI_eq, show (0 : Int32) = nI 0 from rfl, not_true_eq_false, not_false_eq_true] <;> omega)) h15)
      refine pw_aload_n 40 rfl dX12_remember_39 rfl ?_
      refine pw_dup 41 rfl dX12_remember_40 rfl ?_
      refine pw_getI 44 rfl dX12_remember_41 fX12_150 (by first | rfl | assumption | exact rowS hh | exact mtS hm | exact ruS hr | exact mtA1 hm | exact mtA2 hm | exact mtA3 hm | exact mtA4 hm | exact mtA5 hm | exact mtA6 hm | exact mtA7 hm | exact ruA1 hr | exact ruA2 hr | exact ruA3 hr) rfl ?_
      rotate_left
      rw [g3 _ _ (by decide), hU.1, hl12]
      refine pw_iconst (v := nI 1) 45 rfl dX12_remember_44 rfl ?_
      refine pw_isubN 46 rfl dX12_remember_45 (by omega) ?_
      refine pw_putI 49 rfl dX12_remember_46 fX12_150 w12_20 (by first | rfl | assumption | exact rowS hh | exact mtS hm | exact ruS hr | exact mtA1 hm | exact mtA2 hm | exact mtA3 hm | exact mtA4 hm | exact mtA5 hm | exact mtA6 hm | exact mtA7 hm | exact ruA1 hr | exact ruA2 hr | exact ruA3 hr) rfl rfl rfl ?_
      rotate_left
      refine tail _ (us.drop 1) _ ⟨?_, ?_, fun j u hj k hk => ?_⟩ ?_ (by rw [aKeep, if_neg hl]) (fun a j q1 q2 => by rw [uI_ne (by omega)]; exact g3 a j q1)
      · rw [uI_eq, List.length_drop, hl12]
      · rw [List.length_drop, hl12]; decide
      · have hj' : us[1 + j]? = some u := by rw [List.getElem?_drop] at hj; exact hj
        have hlt := (List.getElem?_eq_some_iff.mp hj').1
        rw [uI_ne (by omega), g1 _ (by omega), show 32 * j + k + 32 = 32 * (1 + j) + k by omega]
        exact hU.2.2 (1 + j) u hj' k hk
      · rw [List.length_drop, hl12]; decide
    · intro k hk ih I' g1 g2 g3
      refine pw_iload_n 12 rfl dX12_remember_11 rfl ?_
      refine pw_sipush (v := nI 352) 15 rfl dX12_remember_12 rfl ?_
      refine pw_icmp_ge (tgt := 39) 18 rfl dX12_remember_15 rfl (fun h15 => absurd h15 (by (simp (disch := omega) only [nI_leI, nI_ltI, nI_eq, show (0 : Int32) = nI 0 from rfl, not_true_eq_false, not_false_eq_true] <;> omega))) (fun h15 => ?_)
      refine pw_aload_n 19 rfl dX12_remember_18 rfl ?_
      refine pw_getR 22 rfl dX12_remember_19 fX12_36 (by first | rfl | assumption | exact rowS hh | exact mtS hm | exact ruS hr | exact mtA1 hm | exact mtA2 hm | exact mtA3 hm | exact mtA4 hm | exact mtA5 hm | exact mtA6 hm | exact mtA7 hm | exact ruA1 hr | exact ruA2 hr | exact ruA3 hr) rfl (by first | rfl | assumption | exact mtR0 hm | exact mtR1 hm | exact mtR2 hm | exact mtR3 hm | exact mtR4 hm | exact mtR5 hm | exact mtR6 hm | exact ruR0 hr | exact ruR1 hr | exact ruR3 hr) ?_
      refine pw_iload_n 23 rfl dX12_remember_22 rfl ?_
      refine pw_aload_n 24 rfl dX12_remember_23 rfl ?_
      refine pw_getR 27 rfl dX12_remember_24 fX12_36 (by first | rfl | assumption | exact rowS hh | exact mtS hm | exact ruS hr | exact mtA1 hm | exact mtA2 hm | exact mtA3 hm | exact mtA4 hm | exact mtA5 hm | exact mtA6 hm | exact mtA7 hm | exact ruA1 hr | exact ruA2 hr | exact ruA3 hr) rfl (by first | rfl | assumption | exact mtR0 hm | exact mtR1 hm | exact mtR2 hm | exact mtR3 hm | exact mtR4 hm | exact mtR5 hm | exact mtR6 hm | exact ruR0 hr | exact ruR1 hr | exact ruR3 hr) ?_
      refine pw_iload_n 28 rfl dX12_remember_27 rfl ?_
      refine pw_bipush (v := nI 32) 30 rfl dX12_remember_28 rfl ?_
      first | refine pw_iaddN 31 rfl dX12_remember_30 ?_ | refine pw_iadd 31 rfl dX12_remember_30 ?_
      refine pw_ialdN 32 rfl dX12_remember_31 (by first | rfl | assumption | exact rowS hh | exact mtS hm | exact ruS hr | exact mtA1 hm | exact mtA2 hm | exact mtA3 hm | exact mtA4 hm | exact mtA5 hm | exact mtA6 hm | exact mtA7 hm | exact ruA1 hr | exact ruA2 hr | exact ruA3 hr) (by omega) (by first | decide | omega) ?_
      rotate_left
      rw [g2 (k + 32) (by omega)]
      refine pw_iastN 33 rfl dX12_remember_32 (by first | rfl | assumption | exact rowS hh | exact mtS hm | exact ruS hr | exact mtA1 hm | exact mtA2 hm | exact mtA3 hm | exact mtA4 hm | exact mtA5 hm | exact mtA6 hm | exact mtA7 hm | exact ruA1 hr | exact ruA2 hr | exact ruA3 hr) (by omega) (by first | decide | omega) ?_
      refine pw_iincN 36 rfl dX12_remember_33 (by decide) rfl ?_
      refine pw_goto (tgt := 11) dX12_remember_36 rfl ?_
      rotate_left
      refine ih _ (fun j hj => ?_) (fun j hj => ?_) (fun a j q => by rw [uI_ne (by omega)]; exact g3 a j q)
      · by_cases e : j = k
        · subst e; exact uI_eq _ _ _ _
        · rw [uI_ne (by omega)]; exact g1 j (by omega)
      · rw [uI_ne (by omega)]; exact g2 j (by omega)
/-- but for the row, what can be undone, the ROW -/
def fMb (I I' : pI) : Prop := ∀ a j, (a = 2 ∨ a = 3 ∨ a = 6 ∨ (18 ≤ a ∧ a ≤ 21) ∨ (23 ≤ a ∧ a ≤ 25) ∨ (a = 0 ∧ (j = 1 ∨ j = 4 ∨ j = 16 ∨ j = 32 ∨ j = 35 ∨ j = 38))) → I' a j = I a j
theorem MA_bu {I I' : pI} {J J' : pJ} {n : Nat} {pc b b' : Nat → Nat} {us us' : List (Nat → Nat)} {kp : Nat → Option (Nat → Nat)} {rw rw' : List Int64} {tx rt : List Nat} {hd sw : List (Nat × Nat)} (h : MA I J (n, pc, b, us, kp, rw, tx, rt, hd, sw)) (f : fMb I I') (hB : MB I' 1 b') (hU : MU I' us') (hN : MN I' J' rw') : MA I' J' (n, pc, b', us', kp, rw', tx, rt, hd, sw) := by
  obtain ⟨a1, a2, a3, a4, a5, a6, a7, a8, a9⟩ := h
  exact ⟨MC_f a1 (f _ _ (by omega)) (fun j => f _ _ (by omega)), hB, MT_f a3 (f _ _ (by omega)) (fun j => f _ _ (by omega)), hN, MRl_f a5 (f _ _ (by omega)) (fun j => f _ _ (by omega)), hU, MK_f a7 (f _ _ (by omega)) (fun j => f _ _ (by omega)) (fun j => f _ _ (by omega)) (fun j => f _ _ (by omega)), MH_f a8 (f _ _ (by omega)) (fun j => f _ _ (by omega)) (fun j => f _ _ (by omega)), MG_f a9 (f _ _ (by omega)) (fun j => f _ _ (by omega)) (fun j => f _ _ (by omega))⟩
theorem moA_n {g : Nat} {f : Nat → (Nat → Nat) → Int32 × (Nat → Nat)} {A : Int32} {n : Nat} {pc b : Nat → Nat} {us : List (Nat → Nat)} {kp : Nat → Option (Nat → Nat)} {rw : List Int64} {tx rt : List Nat} {hd sw : List (Nat × Nat)} {I : pI} {J : pJ} {rd : Option Nat} (hA : MA I J (n, pc, b, us, kp, rw, tx, rt, hd, sw)) (hD : MDg g I) (e : f n b = (A, b)) (h : A < 0) : moP (g + 10000) (oAct f (n, pc, b, us, kp, rw, tx, rt, hd, sw)) (some (.int A)) I J (RM rd (some 6)) :=
  moE (y := (A, (n, pc, b, us, kp, rw, tx, rt, hd, sw))) (by show ((f n b).1, (n, pc, (f n b).2, usA us b (f n b).1, _)) = _; rw [e, usA, if_pos h]) ⟨rfl, hA, hD.mono (by omega), rd, rfl⟩
theorem moA_y {g : Nat} {f : Nat → (Nat → Nat) → Int32 × (Nat → Nat)} {A : Int32} {n : Nat} {pc b b' : Nat → Nat} {us : List (Nat → Nat)} {kp : Nat → Option (Nat → Nat)} {rw : List Int64} {tx rt : List Nat} {hd sw : List (Nat × Nat)} {I I' : pI} {J : pJ} {rd : Option Nat} (hA : MA I J (n, pc, b, us, kp, rw, tx, rt, hd, sw)) (hD : MDg g I) (e : f n b = (A, b')) (h : ¬ A < 0) (hB : MB I' 1 b') (hU : MU I' (aKeep us b)) (hf : ∀ a j, a ≠ 1 → a ≠ 9 → ¬ (a = 0 ∧ j = 20) → I' a j = I a j) : moP (g + 10000) (oAct f (n, pc, b, us, kp, rw, tx, rt, hd, sw)) (some (.int A)) I' J (RM rd (some 6)) :=
  moE (y := (A, (n, pc, b', aKeep us b, kp, rw, tx, rt, hd, sw))) (by show ((f n b).1, (n, pc, (f n b).2, usA us b (f n b).1, _)) = _; rw [e, usA, if_neg h]) ⟨rfl, MA_bu hA (fun a j q => hf a j (by omega) (by omega) (by omega)) hB hU (MN_f hA.2.2.2.1 (hf _ _ (by omega) (by omega) (by omega))), (MDg_f hD (hf _ _ (by omega) (by omega) (by omega)) (fun j => hf _ _ (by omega) (by omega) (by omega))).mono (by omega), rd, rfl⟩
def rfT (n : Nat) (b : Nat → Nat) (v : Int32) : Int32 := match tOf v with
  | none => -1
  | some t => if t = b 28 then -2 else if t < mxf b n then -3 else nI 0
set_option maxRecDepth 100000 in
set_option maxHeartbeats 2000000 in
theorem m_refusesTop {d n : Nat} {pc b : Nat → Nat} {rd rl : Option Nat} {I : pI} {J : pJ} (hn : I 0 1 = nI n) (hW : WF n pc b) (hB : MB I 1 b) (v : Int32) : PC SM (d + 1) yX12_refusesTop cX12_refusesTop 3 (some .int) [.ref 0, .int v] (I) (J) (RM rd rl) (pPu (.int (rfT n b v)) I J (RM rd rl)) := by
  refine PC.of [some (.ref 0), some (.int v), none] rfl rfl (Nat.le_of_ble_eq_true rfl) ?_
  have h7 := hW.1
  have ht := hW.2.1
  have e28 : I 1 28 = nI (b 28) := hB 28 (by omega)
  rcases tOf_cases v with ⟨t, h2, h9, rfl, hi⟩ | ⟨hi, ho⟩
  · rw [show rfT n b (nI t) = if t = b 28 then -2 else if t < mxf b n then -3 else nI 0 from by unfold rfT; rw [hi]]
    by_cases c1 : t = b 28
    · rw [if_pos c1]
      refine pw_iload_n 1 rfl dX12_refusesTop_0 rfl ?_
      refine pw_iconst (v := nI 2) 2 rfl dX12_refusesTop_1 rfl ?_
      refine pw_bipush (v := nI 9) 4 rfl dX12_refusesTop_2 rfl ?_
      refine pw_callSP (as := [_, _, _]) 7 rfl dX12_refusesTop_4 mX12_98 sX12_in (m_in (d := d) _ _ _) ⟨rfl, by decide, by decide, show (parseMethodDescriptor yX12_in.desc).map (fun d => d.parameters.length) = some 3 by decide +kernel⟩ (by omega) (by decide) (Nat.le_of_ble_eq_true rfl) rfl ?_
      refine pw_if_ne (tgt := 12) 10 rfl dX12_refusesTop_7 rfl (fun h7 => ?_) (fun h7 => absurd h7 (by rw [inV_y h2 h9 (by decide)]; decide))
      refine pw_aload_n 13 rfl dX12_refusesTop_12 rfl ?_
      refine pw_getR 16 rfl dX12_refusesTop_13 fX12_9 (by first | rfl | assumption | exact rowS hh | exact mtS hm | exact ruS hr | exact mtA1 hm | exact mtA2 hm | exact mtA3 hm | exact mtA4 hm | exact mtA5 hm | exact mtA6 hm | exact mtA7 hm | exact ruA1 hr | exact ruA2 hr | exact ruA3 hr) rfl (by first | rfl | assumption | exact mtR0 hm | exact mtR1 hm | exact mtR2 hm | exact mtR3 hm | exact mtR4 hm | exact mtR5 hm | exact mtR6 hm | exact ruR0 hr | exact ruR1 hr | exact ruR3 hr) ?_
      refine pw_bipush (v := nI 28) 18 rfl dX12_refusesTop_16 rfl ?_
      refine pw_ialdN 19 rfl dX12_refusesTop_18 (by first | rfl | assumption | exact rowS hh | exact mtS hm | exact ruS hr | exact mtA1 hm | exact mtA2 hm | exact mtA3 hm | exact mtA4 hm | exact mtA5 hm | exact mtA6 hm | exact mtA7 hm | exact ruA1 hr | exact ruA2 hr | exact ruA3 hr) (by omega) (by first | decide | omega) ?_
      refine pw_iload_n 20 rfl dX12_refusesTop_19 rfl ?_
      refine pw_icmp_ne (tgt := 26) 23 rfl dX12_refusesTop_20 rfl (fun h20 => absurd (by rw [e28, c1]) h20) (fun h20 => ?_)
      refine pw_bipush (v := -2) 25 rfl dX12_refusesTop_23 rfl ?_
      refine pw_iret dX12_refusesTop_25 rfl ?_
      rotate_left
      exact ⟨rfl, rfl, rfl, rfl⟩
    · rw [if_neg c1]
      refine pw_iload_n 1 rfl dX12_refusesTop_0 rfl ?_
      refine pw_iconst (v := nI 2) 2 rfl dX12_refusesTop_1 rfl ?_
      refine pw_bipush (v := nI 9) 4 rfl dX12_refusesTop_2 rfl ?_
      refine pw_callSP (as := [_, _, _]) 7 rfl dX12_refusesTop_4 mX12_98 sX12_in (m_in (d := d) _ _ _) ⟨rfl, by decide, by decide, show (parseMethodDescriptor yX12_in.desc).map (fun d => d.parameters.length) = some 3 by decide +kernel⟩ (by omega) (by decide) (Nat.le_of_ble_eq_true rfl) rfl ?_
      refine pw_if_ne (tgt := 12) 10 rfl dX12_refusesTop_7 rfl (fun h7 => ?_) (fun h7 => absurd h7 (by rw [inV_y h2 h9 (by decide)]; decide))
      refine pw_aload_n 13 rfl dX12_refusesTop_12 rfl ?_
      refine pw_getR 16 rfl dX12_refusesTop_13 fX12_9 (by first | rfl | assumption | exact rowS hh | exact mtS hm | exact ruS hr | exact mtA1 hm | exact mtA2 hm | exact mtA3 hm | exact mtA4 hm | exact mtA5 hm | exact mtA6 hm | exact mtA7 hm | exact ruA1 hr | exact ruA2 hr | exact ruA3 hr) rfl (by first | rfl | assumption | exact mtR0 hm | exact mtR1 hm | exact mtR2 hm | exact mtR3 hm | exact mtR4 hm | exact mtR5 hm | exact mtR6 hm | exact ruR0 hr | exact ruR1 hr | exact ruR3 hr) ?_
      refine pw_bipush (v := nI 28) 18 rfl dX12_refusesTop_16 rfl ?_
      refine pw_ialdN 19 rfl dX12_refusesTop_18 (by first | rfl | assumption | exact rowS hh | exact mtS hm | exact ruS hr | exact mtA1 hm | exact mtA2 hm | exact mtA3 hm | exact mtA4 hm | exact mtA5 hm | exact mtA6 hm | exact mtA7 hm | exact ruA1 hr | exact ruA2 hr | exact ruA3 hr) (by omega) (by first | decide | omega) ?_
      refine pw_iload_n 20 rfl dX12_refusesTop_19 rfl ?_
      refine pw_icmp_ne (tgt := 26) 23 rfl dX12_refusesTop_20 rfl (fun h20 => ?_) (fun h20 => absurd h20 (by rw [e28, nI_eq (by omega) (by omega)]; exact fun z => c1 z.symm))
      refine pw_iconst (v := nI 0) 27 rfl dX12_refusesTop_26 rfl ?_
      refine pw_istore_n 28 rfl dX12_refusesTop_27 (by decide) ?_
      rotate_left
      have L := nat_loop n (fun k => ¬ t < mxf b k → PW SM yX12_refusesTop.cls cX12_refusesTop 3 (d + 1) 28 [some (.ref 0), some (.int (nI t)), some (.int (nI k))] [] (I) (J) (RM rd rl) (rX cX12_refusesTop (some .int) (pPu (.int (if t < mxf b n then -3 else nI 0)) I J (RM rd rl)))) ?_ ?_
      · exact L (Nat.not_lt_zero t)
      · intro hk
        rw [if_neg hk]
        refine pw_iload_n 29 rfl dX12_refusesTop_28 rfl ?_
        refine pw_aload_n 30 rfl dX12_refusesTop_29 rfl ?_
        refine pw_getI 33 rfl dX12_refusesTop_30 fX12_95 (by first | rfl | assumption | exact rowS hh | exact mtS hm | exact ruS hr | exact mtA1 hm | exact mtA2 hm | exact mtA3 hm | exact mtA4 hm | exact mtA5 hm | exact mtA6 hm | exact mtA7 hm | exact ruA1 hr | exact ruA2 hr | exact ruA3 hr) rfl ?_
        refine pw_icmp_ge (tgt := 55) 36 rfl dX12_refusesTop_33 rfl (fun h33 => ?_) (fun h33 => absurd (by rw [hn]; (simp (disch := omega) only [nI_leI, nI_ltI, nI_eq, show (0 : Int32) = nI 0 from rfl, not_true_eq_false, not_false_eq_true] <;> omega)) h33)
        refine pw_iconst (v := nI 0) 56 rfl dX12_refusesTop_55 rfl ?_
        refine pw_iret dX12_refusesTop_56 rfl ?_
        rotate_left
        exact ⟨rfl, rfl, rfl, rfl⟩
      · intro k hk ih hm
        have hbk := (hW.2.2.2.2 k (by omega)).2.1
        have ek : I 1 k = nI (b k) := hB k (by omega)
        by_cases c2 : t < b k
        · have := mxf_ge (f := b) (n := n) (k := k) hk
          rw [if_pos (show t < mxf b n by omega)]
          refine pw_iload_n 29 rfl dX12_refusesTop_28 rfl ?_
          refine pw_aload_n 30 rfl dX12_refusesTop_29 rfl ?_
          refine pw_getI 33 rfl dX12_refusesTop_30 fX12_95 (by first | rfl | assumption | exact rowS hh | exact mtS hm | exact ruS hr | exact mtA1 hm | exact mtA2 hm | exact mtA3 hm | exact mtA4 hm | exact mtA5 hm | exact mtA6 hm | exact mtA7 hm | exact ruA1 hr | exact ruA2 hr | exact ruA3 hr) rfl ?_
          refine pw_icmp_ge (tgt := 55) 36 rfl dX12_refusesTop_33 rfl (fun h33 => absurd h33 (by rw [hn]; (simp (disch := omega) only [nI_leI, nI_ltI, nI_eq, show (0 : Int32) = nI 0 from rfl, not_true_eq_false, not_false_eq_true] <;> omega))) (fun h33 => ?_)
          refine pw_aload_n 37 rfl dX12_refusesTop_36 rfl ?_
          refine pw_getR 40 rfl dX12_refusesTop_37 fX12_9 (by first | rfl | assumption | exact rowS hh | exact mtS hm | exact ruS hr | exact mtA1 hm | exact mtA2 hm | exact mtA3 hm | exact mtA4 hm | exact mtA5 hm | exact mtA6 hm | exact mtA7 hm | exact ruA1 hr | exact ruA2 hr | exact ruA3 hr) rfl (by first | rfl | assumption | exact mtR0 hm | exact mtR1 hm | exact mtR2 hm | exact mtR3 hm | exact mtR4 hm | exact mtR5 hm | exact mtR6 hm | exact ruR0 hr | exact ruR1 hr | exact ruR3 hr) ?_
          refine pw_iload_n 41 rfl dX12_refusesTop_40 rfl ?_
          refine pw_ialdN 42 rfl dX12_refusesTop_41 (by first | rfl | assumption | exact rowS hh | exact mtS hm | exact ruS hr | exact mtA1 hm | exact mtA2 hm | exact mtA3 hm | exact mtA4 hm | exact mtA5 hm | exact mtA6 hm | exact mtA7 hm | exact ruA1 hr | exact ruA2 hr | exact ruA3 hr) (by omega) (by first | decide | omega) ?_
          refine pw_iload_n 43 rfl dX12_refusesTop_42 rfl ?_
          refine pw_icmp_le (tgt := 49) 46 rfl dX12_refusesTop_43 rfl (fun h43 => absurd h43 (by rw [ek]; (simp (disch := omega) only [nI_leI, nI_ltI, nI_eq, show (0 : Int32) = nI 0 from rfl, not_true_eq_false, not_false_eq_true] <;> omega))) (fun h43 => ?_)
          refine pw_bipush (v := -3) 48 rfl dX12_refusesTop_46 rfl ?_
          refine pw_iret dX12_refusesTop_48 rfl ?_
          rotate_left
          exact ⟨rfl, rfl, rfl, rfl⟩
        · refine pw_iload_n 29 rfl dX12_refusesTop_28 rfl ?_
          refine pw_aload_n 30 rfl dX12_refusesTop_29 rfl ?_
          refine pw_getI 33 rfl dX12_refusesTop_30 fX12_95 (by first | rfl | assumption | exact rowS hh | exact mtS hm | exact ruS hr | exact mtA1 hm | exact mtA2 hm | exact mtA3 hm | exact mtA4 hm | exact mtA5 hm | exact mtA6 hm | exact mtA7 hm | exact ruA1 hr | exact ruA2 hr | exact ruA3 hr) rfl ?_
          refine pw_icmp_ge (tgt := 55) 36 rfl dX12_refusesTop_33 rfl (fun h33 => absurd h33 (by rw [hn]; (simp (disch := omega) only [nI_leI, nI_ltI, nI_eq, show (0 : Int32) = nI 0 from rfl, not_true_eq_false, not_false_eq_true] <;> omega))) (fun h33 => ?_)
          refine pw_aload_n 37 rfl dX12_refusesTop_36 rfl ?_
          refine pw_getR 40 rfl dX12_refusesTop_37 fX12_9 (by first | rfl | assumption | exact rowS hh | exact mtS hm | exact ruS hr | exact mtA1 hm | exact mtA2 hm | exact mtA3 hm | exact mtA4 hm | exact mtA5 hm | exact mtA6 hm | exact mtA7 hm | exact ruA1 hr | exact ruA2 hr | exact ruA3 hr) rfl (by first | rfl | assumption | exact mtR0 hm | exact mtR1 hm | exact mtR2 hm | exact mtR3 hm | exact mtR4 hm | exact mtR5 hm | exact mtR6 hm | exact ruR0 hr | exact ruR1 hr | exact ruR3 hr) ?_
          refine pw_iload_n 41 rfl dX12_refusesTop_40 rfl ?_
          refine pw_ialdN 42 rfl dX12_refusesTop_41 (by first | rfl | assumption | exact rowS hh | exact mtS hm | exact ruS hr | exact mtA1 hm | exact mtA2 hm | exact mtA3 hm | exact mtA4 hm | exact mtA5 hm | exact mtA6 hm | exact mtA7 hm | exact ruA1 hr | exact ruA2 hr | exact ruA3 hr) (by omega) (by first | decide | omega) ?_
          refine pw_iload_n 43 rfl dX12_refusesTop_42 rfl ?_
          refine pw_icmp_le (tgt := 49) 46 rfl dX12_refusesTop_43 rfl (fun h43 => ?_) (fun h43 => absurd (by rw [ek]; (simp (disch := omega) only [nI_leI, nI_ltI, nI_eq, show (0 : Int32) = nI 0 from rfl, not_true_eq_false, not_false_eq_true] <;> omega)) h43)
          refine pw_iincN 52 rfl dX12_refusesTop_49 (by decide) rfl ?_
          refine pw_goto (tgt := 28) dX12_refusesTop_52 rfl ?_
          rotate_left
          exact ih (by rw [mxf]; omega)
  · rw [show rfT n b v = -1 from by unfold rfT; rw [hi]]
    refine pw_iload_n 1 rfl dX12_refusesTop_0 rfl ?_
    refine pw_iconst (v := nI 2) 2 rfl dX12_refusesTop_1 rfl ?_
    refine pw_bipush (v := nI 9) 4 rfl dX12_refusesTop_2 rfl ?_
    refine pw_callSP (as := [_, _, _]) 7 rfl dX12_refusesTop_4 mX12_98 sX12_in (m_in (d := d) _ _ _) ⟨rfl, by decide, by decide, show (parseMethodDescriptor yX12_in.desc).map (fun d => d.parameters.length) = some 3 by decide +kernel⟩ (by omega) (by decide) (Nat.le_of_ble_eq_true rfl) rfl ?_
    refine pw_if_ne (tgt := 12) 10 rfl dX12_refusesTop_7 rfl (fun h7 => absurd (by rw [inV_n ho]; rfl) h7) (fun h7 => ?_)
    refine pw_iconst (v := -1) 11 rfl dX12_refusesTop_10 rfl ?_
    refine pw_iret dX12_refusesTop_11 rfl ?_
    rotate_left
    exact ⟨rfl, rfl, rfl, rfl⟩
set_option maxRecDepth 100000 in
set_option maxHeartbeats 2000000 in
theorem mo_top {d g : Nat} {s : aSt} {rd : Option Nat} {I : pI} {J : pJ} (hA : MA I J s) (hD : MDg g I) (hg : g ≤ 500000000) (hW : WA s) (w : Int32) : PC SM (d + 245) yX12_top cX12_top 4 (some .int) [.ref 0, .int w] (I) (J) (RM rd (some 6)) (moP (g + 10000) (oAct (fun n b => aTop n b w) s)) := by
  refine PC.of [some (.ref 0), some (.int w), none, none] rfl rfl (Nat.le_of_ble_eq_true rfl) ?_
  obtain ⟨n, pc, b, us, kp, rw, tx, rt, hd, sw⟩ := s
  refine pw_aload_n 1 rfl dX12_top_0 rfl ?_
  refine pw_iconst (v := nI 0) 2 rfl dX12_top_1 rfl ?_
  refine pw_putI 5 rfl dX12_top_2 fX12_88 w12_7 (by first | rfl | assumption | exact rowS hh | exact mtS hm | exact ruS hr | exact mtA1 hm | exact mtA2 hm | exact mtA3 hm | exact mtA4 hm | exact mtA5 hm | exact mtA6 hm | exact mtA7 hm | exact ruA1 hr | exact ruA2 hr | exact ruA3 hr) rfl rfl rfl ?_
  rotate_left
  have hA0 := MA_thr (v := nI 0) hA
  have hD0 : MDg g (uI I 0 7 (nI 0)) := MDg_f hD (uI_ne (by omega)) (fun j => uI_ne (by omega))
  clear hA hD
  generalize uI I 0 7 (nI 0) = I at hA0 hD0 ⊢
  obtain ⟨mC, mB, mT, mN, mR, mU, mK, mH, mG⟩ := id hA0
  obtain ⟨aW, aU, aK⟩ := id hW
  have hE := MSt_A hA0
  have hn7 := mC.1
  have hn := mC.2.1
  have ht := aW.1.2.1
  rcases tOf_cases w with ⟨t, h2, h9, rfl, hi⟩ | ⟨hi, ho⟩
  · have er : rfT n b (nI t) = if t = b 28 then -2 else if t < mxf b n then -3 else nI 0 := by unfold rfT; rw [hi]
    have ea := aTop_q (n := n) (b := b) hi
    by_cases c1 : t = b 28
    · rw [if_pos c1] at er ea
      refine pw_aload_n 6 rfl dX12_top_5 rfl ?_
      refine pw_iload_n 7 rfl dX12_top_6 rfl ?_
      refine pw_callVP (as := [_]) 10 rfl dX12_top_7 mX12_198 vX12_refusesTop (m_refusesTop (d := d + 243) hn aW.1 mB _) (by first | rfl | assumption | exact rowS hh | exact mtS hm | exact ruS hr | exact mtA1 hm | exact mtA2 hm | exact mtA3 hm | exact mtA4 hm | exact mtA5 hm | exact mtA6 hm | exact mtA7 hm | exact ruA1 hr | exact ruA2 hr | exact ruA3 hr) rfl (by decide) ⟨rfl, by decide, by decide, show (parseMethodDescriptor yX12_refusesTop.desc).map (fun d => d.parameters.length) = some 1 by decide +kernel⟩ (by omega) (by decide) (Nat.le_of_ble_eq_true rfl) rfl ?_
      rotate_left
      rw [er]
      refine pw_istore_n 11 rfl dX12_top_10 (by decide) ?_
      refine pw_iload_n 12 rfl dX12_top_11 rfl ?_
      refine pw_if_ge (tgt := 17) 15 rfl dX12_top_12 rfl (fun h12 => absurd h12 (by decide)) (fun h12 => ?_)
      refine pw_iload_n 16 rfl dX12_top_15 rfl ?_
      refine pw_iret dX12_top_16 rfl ?_
      rotate_left
      exact moA_n hA0 hD0 ea (by decide)
    · rw [if_neg c1] at er ea
      by_cases c2 : t < mxf b n
      · rw [if_pos c2] at er ea
        refine pw_aload_n 6 rfl dX12_top_5 rfl ?_
        refine pw_iload_n 7 rfl dX12_top_6 rfl ?_
        refine pw_callVP (as := [_]) 10 rfl dX12_top_7 mX12_198 vX12_refusesTop (m_refusesTop (d := d + 243) hn aW.1 mB _) (by first | rfl | assumption | exact rowS hh | exact mtS hm | exact ruS hr | exact mtA1 hm | exact mtA2 hm | exact mtA3 hm | exact mtA4 hm | exact mtA5 hm | exact mtA6 hm | exact mtA7 hm | exact ruA1 hr | exact ruA2 hr | exact ruA3 hr) rfl (by decide) ⟨rfl, by decide, by decide, show (parseMethodDescriptor yX12_refusesTop.desc).map (fun d => d.parameters.length) = some 1 by decide +kernel⟩ (by omega) (by decide) (Nat.le_of_ble_eq_true rfl) rfl ?_
        rotate_left
        rw [er]
        refine pw_istore_n 11 rfl dX12_top_10 (by decide) ?_
        refine pw_iload_n 12 rfl dX12_top_11 rfl ?_
        refine pw_if_ge (tgt := 17) 15 rfl dX12_top_12 rfl (fun h12 => absurd h12 (by decide)) (fun h12 => ?_)
        refine pw_iload_n 16 rfl dX12_top_15 rfl ?_
        refine pw_iret dX12_top_16 rfl ?_
        rotate_left
        exact moA_n hA0 hD0 ea (by decide)
      · rw [if_neg c2] at er ea
        refine pw_aload_n 6 rfl dX12_top_5 rfl ?_
        refine pw_iload_n 7 rfl dX12_top_6 rfl ?_
        refine pw_callVP (as := [_]) 10 rfl dX12_top_7 mX12_198 vX12_refusesTop (m_refusesTop (d := d + 243) hn aW.1 mB _) (by first | rfl | assumption | exact rowS hh | exact mtS hm | exact ruS hr | exact mtA1 hm | exact mtA2 hm | exact mtA3 hm | exact mtA4 hm | exact mtA5 hm | exact mtA6 hm | exact mtA7 hm | exact ruA1 hr | exact ruA2 hr | exact ruA3 hr) rfl (by decide) ⟨rfl, by decide, by decide, show (parseMethodDescriptor yX12_refusesTop.desc).map (fun d => d.parameters.length) = some 1 by decide +kernel⟩ (by omega) (by decide) (Nat.le_of_ble_eq_true rfl) rfl ?_
        rotate_left
        rw [er]
        refine pw_istore_n 11 rfl dX12_top_10 (by decide) ?_
        refine pw_iload_n 12 rfl dX12_top_11 rfl ?_
        refine pw_if_ge (tgt := 17) 15 rfl dX12_top_12 rfl (fun h12 => ?_) (fun h12 => absurd (by decide) h12)
        refine pw_aload_n 18 rfl dX12_top_17 rfl ?_
        refine pw_aload_n 19 rfl dX12_top_18 rfl ?_
        refine pw_getR 22 rfl dX12_top_19 fX12_9 (by first | rfl | assumption | exact rowS hh | exact mtS hm | exact ruS hr | exact mtA1 hm | exact mtA2 hm | exact mtA3 hm | exact mtA4 hm | exact mtA5 hm | exact mtA6 hm | exact mtA7 hm | exact ruA1 hr | exact ruA2 hr | exact ruA3 hr) rfl (by first | rfl | assumption | exact mtR0 hm | exact mtR1 hm | exact mtR2 hm | exact mtR3 hm | exact mtR4 hm | exact mtR5 hm | exact mtR6 hm | exact ruR0 hr | exact ruR1 hr | exact ruR3 hr) ?_
        refine pw_callV (as := [_]) 25 rfl dX12_top_22 mX12_201 vX12_remember (m_remember (d := d + 243) rfl (by decide) (by decide) mB mU) (by first | rfl | assumption | exact rowS hh | exact mtS hm | exact ruS hr | exact mtA1 hm | exact mtA2 hm | exact mtA3 hm | exact mtA4 hm | exact mtA5 hm | exact mtA6 hm | exact mtA7 hm | exact ruA1 hr | exact ruA2 hr | exact ruA3 hr) rfl (by decide) ⟨rfl, by decide, by decide, show (parseMethodDescriptor yX12_remember.desc).map (fun d => d.parameters.length) = some 1 by decide +kernel⟩ (by omega) (by decide) (Nat.le_of_ble_eq_true rfl) rfl (fun r22 I22 J22 R22 c22 => ?_)
        obtain ⟨rfl, r1, r2, rfl, rfl⟩ := c22
        rotate_left
        refine pw_aload_n 26 rfl dX12_top_25 rfl ?_
        refine pw_getR 29 rfl dX12_top_26 fX12_9 (by first | rfl | assumption | exact rowS hh | exact mtS hm | exact ruS hr | exact mtA1 hm | exact mtA2 hm | exact mtA3 hm | exact mtA4 hm | exact mtA5 hm | exact mtA6 hm | exact mtA7 hm | exact ruA1 hr | exact ruA2 hr | exact ruA3 hr) rfl (by first | rfl | assumption | exact mtR0 hm | exact mtR1 hm | exact mtR2 hm | exact mtR3 hm | exact mtR4 hm | exact mtR5 hm | exact mtR6 hm | exact ruR0 hr | exact ruR1 hr | exact ruR3 hr) ?_
        refine pw_bipush (v := nI 28) 31 rfl dX12_top_29 rfl ?_
        refine pw_ialdN 32 rfl dX12_top_31 (by first | rfl | assumption | exact rowS hh | exact mtS hm | exact ruS hr | exact mtA1 hm | exact mtA2 hm | exact mtA3 hm | exact mtA4 hm | exact mtA5 hm | exact mtA6 hm | exact mtA7 hm | exact ruA1 hr | exact ruA2 hr | exact ruA3 hr) (by omega) (by first | decide | omega) ?_
        rotate_left
        rw [r2 _ _ (by omega) (by omega), mB 28 (by omega)]
        refine pw_istore_n 33 rfl dX12_top_32 (by decide) ?_
        refine pw_aload_n 34 rfl dX12_top_33 rfl ?_
        refine pw_getR 37 rfl dX12_top_34 fX12_9 (by first | rfl | assumption | exact rowS hh | exact mtS hm | exact ruS hr | exact mtA1 hm | exact mtA2 hm | exact mtA3 hm | exact mtA4 hm | exact mtA5 hm | exact mtA6 hm | exact mtA7 hm | exact ruA1 hr | exact ruA2 hr | exact ruA3 hr) rfl (by first | rfl | assumption | exact mtR0 hm | exact mtR1 hm | exact mtR2 hm | exact mtR3 hm | exact mtR4 hm | exact mtR5 hm | exact mtR6 hm | exact ruR0 hr | exact ruR1 hr | exact ruR3 hr) ?_
        refine pw_bipush (v := nI 28) 39 rfl dX12_top_37 rfl ?_
        refine pw_iload_n 40 rfl dX12_top_39 rfl ?_
        refine pw_iastN 41 rfl dX12_top_40 (by first | rfl | assumption | exact rowS hh | exact mtS hm | exact ruS hr | exact mtA1 hm | exact mtA2 hm | exact mtA3 hm | exact mtA4 hm | exact mtA5 hm | exact mtA6 hm | exact mtA7 hm | exact ruA1 hr | exact ruA2 hr | exact ruA3 hr) (by omega) (by first | decide | omega) ?_
        refine pw_bipush (v := nI 10) 43 rfl dX12_top_41 rfl ?_
        refine pw_iload_n 44 rfl dX12_top_43 rfl ?_
        first | refine pw_iaddN 45 rfl dX12_top_44 ?_ | refine pw_iadd 45 rfl dX12_top_44 ?_
        refine pw_iret dX12_top_45 rfl ?_
        rotate_left
        refine moA_y hA0 hD0 ea (nI_pos (by omega)) (MB_bu (MB_f mB (fun j => r2 _ _ (by omega) (by omega)))) (MU_f r1 (uI_ne (by omega)) (fun j => uI_ne (by omega))) (fun a j q1 q2 q3 => by rw [uI_ne (by omega)]; exact r2 a j q2 q3)
  · refine pw_aload_n 6 rfl dX12_top_5 rfl ?_
    refine pw_iload_n 7 rfl dX12_top_6 rfl ?_
    refine pw_callVP (as := [_]) 10 rfl dX12_top_7 mX12_198 vX12_refusesTop (m_refusesTop (d := d + 243) hn aW.1 mB _) (by first | rfl | assumption | exact rowS hh | exact mtS hm | exact ruS hr | exact mtA1 hm | exact mtA2 hm | exact mtA3 hm | exact mtA4 hm | exact mtA5 hm | exact mtA6 hm | exact mtA7 hm | exact ruA1 hr | exact ruA2 hr | exact ruA3 hr) rfl (by decide) ⟨rfl, by decide, by decide, show (parseMethodDescriptor yX12_refusesTop.desc).map (fun d => d.parameters.length) = some 1 by decide +kernel⟩ (by omega) (by decide) (Nat.le_of_ble_eq_true rfl) rfl ?_
    rotate_left
    rw [show rfT n b w = -1 from by unfold rfT; rw [hi]]
    refine pw_istore_n 11 rfl dX12_top_10 (by decide) ?_
    refine pw_iload_n 12 rfl dX12_top_11 rfl ?_
    refine pw_if_ge (tgt := 17) 15 rfl dX12_top_12 rfl (fun h12 => absurd h12 (by decide)) (fun h12 => ?_)
    refine pw_iload_n 16 rfl dX12_top_15 rfl ?_
    refine pw_iret dX12_top_16 rfl ?_
    rotate_left
    exact moA_n hA0 hD0 (aTop_0 hi) (by decide)
def rfS (n : Nat) (b : Nat → Nat) (w : Int32) : Int32 := match qOf n w with
  | none => -1
  | some q => if b (7 + q) = 0 then nI 0 else -2
def rfW (n : Nat) (b : Nat → Nat) (w : Int32) : Int32 := match qOf n w with
  | none => -1
  | some q => if b (7 + q) = 0 then -2 else nI 0
def rfF (n : Nat) (b : Nat → Nat) (w v : Int32) : Int32 := match qOf n w with
  | none => -1
  | some q => match nOf v with
    | none => -1
    | some _ => if b (7 + q) = 0 then -2 else nI 0
set_option maxRecDepth 100000 in
set_option maxHeartbeats 2000000 in
theorem m_refusesStart {d h n : Nat} {b : Nat → Nat} {I : pI} {J : pJ} {R : pR} (hh : h = 1 ∨ h = 11) (hn : I 0 1 = nI n) (h7 : n ≤ 7) (hW : ∀ k, k < 7 → b (7 + k) ≤ 2) (hB : MB I h b) (w : Int32) : PC SM (d + 2) yX12_refusesStart cX12_refusesStart 3 (some .int) [.ref 0, .ref h, .int w] (I) (J) (R) (pPu (.int (rfS n b w)) I J R) := by
  refine PC.of [some (.ref 0), some (.ref h), some (.int w)] rfl rfl (Nat.le_of_ble_eq_true rfl) ?_
  rcases qOf_cases h7 w with ⟨q, hq, rfl, hi, hv⟩ | ⟨hi, hv⟩
  · have e7 : I h (7 + q) = nI (b (7 + q)) := hB _ (by omega)
    have hb := hW q (by omega)
    rw [show rfS n b (nI q) = if b (7 + q) = 0 then nI 0 else -2 from by unfold rfS; rw [hi]]
    by_cases c : b (7 + q) = 0
    · rw [if_pos c]
      refine pw_aload_n 1 rfl dX12_refusesStart_0 rfl ?_
      refine pw_iload_n 2 rfl dX12_refusesStart_1 rfl ?_
      refine pw_callVP (as := [_]) 5 rfl dX12_refusesStart_2 mX12_205 vX12_isOne (m_isOne (d := d) hn h7 _) (by first | rfl | assumption | exact rowS hh | exact mtS hm | exact ruS hr | exact mtA1 hm | exact mtA2 hm | exact mtA3 hm | exact mtA4 hm | exact mtA5 hm | exact mtA6 hm | exact mtA7 hm | exact ruA1 hr | exact ruA2 hr | exact ruA3 hr) rfl (by decide) ⟨rfl, by decide, by decide, show (parseMethodDescriptor yX12_isOne.desc).map (fun d => d.parameters.length) = some 1 by decide +kernel⟩ (by omega) (by decide) (Nat.le_of_ble_eq_true rfl) rfl ?_
      refine pw_if_ne (tgt := 10) 8 rfl dX12_refusesStart_5 rfl (fun h5 => ?_) (fun h5 => absurd h5 (by rw [hv]; decide))
      refine pw_aload_n 11 rfl dX12_refusesStart_10 rfl ?_
      refine pw_bipush (v := nI 7) 13 rfl dX12_refusesStart_11 rfl ?_
      refine pw_iload_n 14 rfl dX12_refusesStart_13 rfl ?_
      first | refine pw_iaddN 15 rfl dX12_refusesStart_14 ?_ | refine pw_iadd 15 rfl dX12_refusesStart_14 ?_
      refine pw_ialdN 16 rfl dX12_refusesStart_15 (by first | rfl | assumption | exact rowS hh | exact mtS hm | exact ruS hr | exact mtA1 hm | exact mtA2 hm | exact mtA3 hm | exact mtA4 hm | exact mtA5 hm | exact mtA6 hm | exact mtA7 hm | exact ruA1 hr | exact ruA2 hr | exact ruA3 hr) (by omega) (by first | decide | omega) ?_
      refine pw_if_eq (tgt := 24) 19 rfl dX12_refusesStart_16 rfl (fun h16 => ?_) (fun h16 => absurd (by rw [e7, c]; rfl) h16)
      refine pw_iconst (v := nI 0) 25 rfl dX12_refusesStart_24 rfl ?_
      refine pw_iret dX12_refusesStart_25 rfl ?_
      rotate_left
      exact ⟨rfl, rfl, rfl, rfl⟩
    · rw [if_neg c]
      refine pw_aload_n 1 rfl dX12_refusesStart_0 rfl ?_
      refine pw_iload_n 2 rfl dX12_refusesStart_1 rfl ?_
      refine pw_callVP (as := [_]) 5 rfl dX12_refusesStart_2 mX12_205 vX12_isOne (m_isOne (d := d) hn h7 _) (by first | rfl | assumption | exact rowS hh | exact mtS hm | exact ruS hr | exact mtA1 hm | exact mtA2 hm | exact mtA3 hm | exact mtA4 hm | exact mtA5 hm | exact mtA6 hm | exact mtA7 hm | exact ruA1 hr | exact ruA2 hr | exact ruA3 hr) rfl (by decide) ⟨rfl, by decide, by decide, show (parseMethodDescriptor yX12_isOne.desc).map (fun d => d.parameters.length) = some 1 by decide +kernel⟩ (by omega) (by decide) (Nat.le_of_ble_eq_true rfl) rfl ?_
      refine pw_if_ne (tgt := 10) 8 rfl dX12_refusesStart_5 rfl (fun h5 => ?_) (fun h5 => absurd h5 (by rw [hv]; decide))
      refine pw_aload_n 11 rfl dX12_refusesStart_10 rfl ?_
      refine pw_bipush (v := nI 7) 13 rfl dX12_refusesStart_11 rfl ?_
      refine pw_iload_n 14 rfl dX12_refusesStart_13 rfl ?_
      first | refine pw_iaddN 15 rfl dX12_refusesStart_14 ?_ | refine pw_iadd 15 rfl dX12_refusesStart_14 ?_
      refine pw_ialdN 16 rfl dX12_refusesStart_15 (by first | rfl | assumption | exact rowS hh | exact mtS hm | exact ruS hr | exact mtA1 hm | exact mtA2 hm | exact mtA3 hm | exact mtA4 hm | exact mtA5 hm | exact mtA6 hm | exact mtA7 hm | exact ruA1 hr | exact ruA2 hr | exact ruA3 hr) (by omega) (by first | decide | omega) ?_
      refine pw_if_eq (tgt := 24) 19 rfl dX12_refusesStart_16 rfl (fun h16 => absurd h16 (by rw [e7]; exact nI_ne0 (by omega) (by omega))) (fun h16 => ?_)
      refine pw_bipush (v := -2) 21 rfl dX12_refusesStart_19 rfl ?_
      refine pw_goto (tgt := 25) dX12_refusesStart_21 rfl ?_
      refine pw_iret dX12_refusesStart_25 rfl ?_
      rotate_left
      exact ⟨rfl, rfl, rfl, rfl⟩
  · rw [show rfS n b w = -1 from by unfold rfS; rw [hi]]
    refine pw_aload_n 1 rfl dX12_refusesStart_0 rfl ?_
    refine pw_iload_n 2 rfl dX12_refusesStart_1 rfl ?_
    refine pw_callVP (as := [_]) 5 rfl dX12_refusesStart_2 mX12_205 vX12_isOne (m_isOne (d := d) hn h7 _) (by first | rfl | assumption | exact rowS hh | exact mtS hm | exact ruS hr | exact mtA1 hm | exact mtA2 hm | exact mtA3 hm | exact mtA4 hm | exact mtA5 hm | exact mtA6 hm | exact mtA7 hm | exact ruA1 hr | exact ruA2 hr | exact ruA3 hr) rfl (by decide) ⟨rfl, by decide, by decide, show (parseMethodDescriptor yX12_isOne.desc).map (fun d => d.parameters.length) = some 1 by decide +kernel⟩ (by omega) (by decide) (Nat.le_of_ble_eq_true rfl) rfl ?_
    refine pw_if_ne (tgt := 10) 8 rfl dX12_refusesStart_5 rfl (fun h5 => absurd (by rw [hv]; rfl) h5) (fun h5 => ?_)
    refine pw_iconst (v := -1) 9 rfl dX12_refusesStart_8 rfl ?_
    refine pw_iret dX12_refusesStart_9 rfl ?_
    rotate_left
    exact ⟨rfl, rfl, rfl, rfl⟩
set_option maxRecDepth 100000 in
set_option maxHeartbeats 2000000 in
theorem m_refusesWay {d h n : Nat} {b : Nat → Nat} {I : pI} {J : pJ} {R : pR} (hh : h = 1 ∨ h = 11) (hn : I 0 1 = nI n) (h7 : n ≤ 7) (hW : ∀ k, k < 7 → b (7 + k) ≤ 2) (hB : MB I h b) (w : Int32) : PC SM (d + 2) yX12_refusesWay cX12_refusesWay 3 (some .int) [.ref 0, .ref h, .int w] (I) (J) (R) (pPu (.int (rfW n b w)) I J R) := by
  refine PC.of [some (.ref 0), some (.ref h), some (.int w)] rfl rfl (Nat.le_of_ble_eq_true rfl) ?_
  rcases qOf_cases h7 w with ⟨q, hq, rfl, hi, hv⟩ | ⟨hi, hv⟩
  · have e7 : I h (7 + q) = nI (b (7 + q)) := hB _ (by omega)
    have hb := hW q (by omega)
    rw [show rfW n b (nI q) = if b (7 + q) = 0 then -2 else nI 0 from by unfold rfW; rw [hi]]
    by_cases c : b (7 + q) = 0
    · rw [if_pos c]
      refine pw_aload_n 1 rfl dX12_refusesWay_0 rfl ?_
      refine pw_iload_n 2 rfl dX12_refusesWay_1 rfl ?_
      refine pw_callVP (as := [_]) 5 rfl dX12_refusesWay_2 mX12_205 vX12_isOne (m_isOne (d := d) hn h7 _) (by first | rfl | assumption | exact rowS hh | exact mtS hm | exact ruS hr | exact mtA1 hm | exact mtA2 hm | exact mtA3 hm | exact mtA4 hm | exact mtA5 hm | exact mtA6 hm | exact mtA7 hm | exact ruA1 hr | exact ruA2 hr | exact ruA3 hr) rfl (by decide) ⟨rfl, by decide, by decide, show (parseMethodDescriptor yX12_isOne.desc).map (fun d => d.parameters.length) = some 1 by decide +kernel⟩ (by omega) (by decide) (Nat.le_of_ble_eq_true rfl) rfl ?_
      refine pw_if_ne (tgt := 10) 8 rfl dX12_refusesWay_5 rfl (fun h5 => ?_) (fun h5 => absurd h5 (by rw [hv]; decide))
      refine pw_aload_n 11 rfl dX12_refusesWay_10 rfl ?_
      refine pw_bipush (v := nI 7) 13 rfl dX12_refusesWay_11 rfl ?_
      refine pw_iload_n 14 rfl dX12_refusesWay_13 rfl ?_
      first | refine pw_iaddN 15 rfl dX12_refusesWay_14 ?_ | refine pw_iadd 15 rfl dX12_refusesWay_14 ?_
      refine pw_ialdN 16 rfl dX12_refusesWay_15 (by first | rfl | assumption | exact rowS hh | exact mtS hm | exact ruS hr | exact mtA1 hm | exact mtA2 hm | exact mtA3 hm | exact mtA4 hm | exact mtA5 hm | exact mtA6 hm | exact mtA7 hm | exact ruA1 hr | exact ruA2 hr | exact ruA3 hr) (by omega) (by first | decide | omega) ?_
      refine pw_if_ne (tgt := 24) 19 rfl dX12_refusesWay_16 rfl (fun h16 => absurd (by rw [e7, c]; rfl) h16) (fun h16 => ?_)
      refine pw_bipush (v := -2) 21 rfl dX12_refusesWay_19 rfl ?_
      refine pw_goto (tgt := 25) dX12_refusesWay_21 rfl ?_
      refine pw_iret dX12_refusesWay_25 rfl ?_
      rotate_left
      exact ⟨rfl, rfl, rfl, rfl⟩
    · rw [if_neg c]
      refine pw_aload_n 1 rfl dX12_refusesWay_0 rfl ?_
      refine pw_iload_n 2 rfl dX12_refusesWay_1 rfl ?_
      refine pw_callVP (as := [_]) 5 rfl dX12_refusesWay_2 mX12_205 vX12_isOne (m_isOne (d := d) hn h7 _) (by first | rfl | assumption | exact rowS hh | exact mtS hm | exact ruS hr | exact mtA1 hm | exact mtA2 hm | exact mtA3 hm | exact mtA4 hm | exact mtA5 hm | exact mtA6 hm | exact mtA7 hm | exact ruA1 hr | exact ruA2 hr | exact ruA3 hr) rfl (by decide) ⟨rfl, by decide, by decide, show (parseMethodDescriptor yX12_isOne.desc).map (fun d => d.parameters.length) = some 1 by decide +kernel⟩ (by omega) (by decide) (Nat.le_of_ble_eq_true rfl) rfl ?_
      refine pw_if_ne (tgt := 10) 8 rfl dX12_refusesWay_5 rfl (fun h5 => ?_) (fun h5 => absurd h5 (by rw [hv]; decide))
      refine pw_aload_n 11 rfl dX12_refusesWay_10 rfl ?_
      refine pw_bipush (v := nI 7) 13 rfl dX12_refusesWay_11 rfl ?_
      refine pw_iload_n 14 rfl dX12_refusesWay_13 rfl ?_
      first | refine pw_iaddN 15 rfl dX12_refusesWay_14 ?_ | refine pw_iadd 15 rfl dX12_refusesWay_14 ?_
      refine pw_ialdN 16 rfl dX12_refusesWay_15 (by first | rfl | assumption | exact rowS hh | exact mtS hm | exact ruS hr | exact mtA1 hm | exact mtA2 hm | exact mtA3 hm | exact mtA4 hm | exact mtA5 hm | exact mtA6 hm | exact mtA7 hm | exact ruA1 hr | exact ruA2 hr | exact ruA3 hr) (by omega) (by first | decide | omega) ?_
      refine pw_if_ne (tgt := 24) 19 rfl dX12_refusesWay_16 rfl (fun h16 => ?_) (fun h16 => absurd h16 (by rw [e7]; exact nI_ne0 (by omega) (by omega)))
      refine pw_iconst (v := nI 0) 25 rfl dX12_refusesWay_24 rfl ?_
      refine pw_iret dX12_refusesWay_25 rfl ?_
      rotate_left
      exact ⟨rfl, rfl, rfl, rfl⟩
  · rw [show rfW n b w = -1 from by unfold rfW; rw [hi]]
    refine pw_aload_n 1 rfl dX12_refusesWay_0 rfl ?_
    refine pw_iload_n 2 rfl dX12_refusesWay_1 rfl ?_
    refine pw_callVP (as := [_]) 5 rfl dX12_refusesWay_2 mX12_205 vX12_isOne (m_isOne (d := d) hn h7 _) (by first | rfl | assumption | exact rowS hh | exact mtS hm | exact ruS hr | exact mtA1 hm | exact mtA2 hm | exact mtA3 hm | exact mtA4 hm | exact mtA5 hm | exact mtA6 hm | exact mtA7 hm | exact ruA1 hr | exact ruA2 hr | exact ruA3 hr) rfl (by decide) ⟨rfl, by decide, by decide, show (parseMethodDescriptor yX12_isOne.desc).map (fun d => d.parameters.length) = some 1 by decide +kernel⟩ (by omega) (by decide) (Nat.le_of_ble_eq_true rfl) rfl ?_
    refine pw_if_ne (tgt := 10) 8 rfl dX12_refusesWay_5 rfl (fun h5 => absurd (by rw [hv]; rfl) h5) (fun h5 => ?_)
    refine pw_iconst (v := -1) 9 rfl dX12_refusesWay_8 rfl ?_
    refine pw_iret dX12_refusesWay_9 rfl ?_
    rotate_left
    exact ⟨rfl, rfl, rfl, rfl⟩
set_option maxRecDepth 100000 in
set_option maxHeartbeats 2000000 in
theorem m_refusesSlip {d h n : Nat} {b : Nat → Nat} {I : pI} {J : pJ} {R : pR} (hh : h = 1 ∨ h = 11) (hn : I 0 1 = nI n) (h7 : n ≤ 7) (hW : ∀ k, k < 7 → b (7 + k) ≤ 2) (hB : MB I h b) (w v : Int32) : PC SM (d + 2) yX12_refusesSlip cX12_refusesSlip 4 (some .int) [.ref 0, .ref h, .int w, .int v] (I) (J) (R) (pPu (.int (rfF n b w v)) I J R) := by
  refine PC.of [some (.ref 0), some (.ref h), some (.int w), some (.int v)] rfl rfl (Nat.le_of_ble_eq_true rfl) ?_
  rcases qOf_cases h7 w with ⟨q, hq, rfl, hi, hv⟩ | ⟨hi, hv⟩
  · have e7 : I h (7 + q) = nI (b (7 + q)) := hB _ (by omega)
    have hb := hW q (by omega)
    rcases nOf_cases v with ⟨k, k1, k9, rfl⟩ | ⟨hk, ho⟩
    · rw [show rfF n b (nI q) (nI k) = if b (7 + q) = 0 then -2 else nI 0 from by unfold rfF; rw [hi]; show (match nOf (nI k) with | none => _ | some _ => _) = _; rw [nOf_y k1 k9]]
      by_cases c : b (7 + q) = 0
      · rw [if_pos c]
        refine pw_aload_n 1 rfl dX12_refusesSlip_0 rfl ?_
        refine pw_iload_n 2 rfl dX12_refusesSlip_1 rfl ?_
        refine pw_callVP (as := [_]) 5 rfl dX12_refusesSlip_2 mX12_205 vX12_isOne (m_isOne (d := d) hn h7 _) (by first | rfl | assumption | exact rowS hh | exact mtS hm | exact ruS hr | exact mtA1 hm | exact mtA2 hm | exact mtA3 hm | exact mtA4 hm | exact mtA5 hm | exact mtA6 hm | exact mtA7 hm | exact ruA1 hr | exact ruA2 hr | exact ruA3 hr) rfl (by decide) ⟨rfl, by decide, by decide, show (parseMethodDescriptor yX12_isOne.desc).map (fun d => d.parameters.length) = some 1 by decide +kernel⟩ (by omega) (by decide) (Nat.le_of_ble_eq_true rfl) rfl ?_
        refine pw_if_eq (tgt := 18) 8 rfl dX12_refusesSlip_5 rfl (fun h5 => absurd h5 (by rw [hv]; decide)) (fun h5 => ?_)
        refine pw_iload_n 9 rfl dX12_refusesSlip_8 rfl ?_
        refine pw_iconst (v := nI 1) 10 rfl dX12_refusesSlip_9 rfl ?_
        refine pw_bipush (v := nI 9) 12 rfl dX12_refusesSlip_10 rfl ?_
        refine pw_callSP (as := [_, _, _]) 15 rfl dX12_refusesSlip_12 mX12_98 sX12_in (m_in (d := d) _ _ _) ⟨rfl, by decide, by decide, show (parseMethodDescriptor yX12_in.desc).map (fun d => d.parameters.length) = some 3 by decide +kernel⟩ (by omega) (by decide) (Nat.le_of_ble_eq_true rfl) rfl ?_
        refine pw_if_ne (tgt := 20) 18 rfl dX12_refusesSlip_15 rfl (fun h15 => ?_) (fun h15 => absurd h15 (by rw [inV_y k1 k9 (by decide)]; decide))
        refine pw_aload_n 21 rfl dX12_refusesSlip_20 rfl ?_
        refine pw_bipush (v := nI 7) 23 rfl dX12_refusesSlip_21 rfl ?_
        refine pw_iload_n 24 rfl dX12_refusesSlip_23 rfl ?_
        first | refine pw_iaddN 25 rfl dX12_refusesSlip_24 ?_ | refine pw_iadd 25 rfl dX12_refusesSlip_24 ?_
        refine pw_ialdN 26 rfl dX12_refusesSlip_25 (by first | rfl | assumption | exact rowS hh | exact mtS hm | exact ruS hr | exact mtA1 hm | exact mtA2 hm | exact mtA3 hm | exact mtA4 hm | exact mtA5 hm | exact mtA6 hm | exact mtA7 hm | exact ruA1 hr | exact ruA2 hr | exact ruA3 hr) (by omega) (by first | decide | omega) ?_
        refine pw_if_ne (tgt := 34) 29 rfl dX12_refusesSlip_26 rfl (fun h26 => absurd (by rw [e7, c]; rfl) h26) (fun h26 => ?_)
        refine pw_bipush (v := -2) 31 rfl dX12_refusesSlip_29 rfl ?_
        refine pw_goto (tgt := 35) dX12_refusesSlip_31 rfl ?_
        refine pw_iret dX12_refusesSlip_35 rfl ?_
        rotate_left
        exact ⟨rfl, rfl, rfl, rfl⟩
      · rw [if_neg c]
        refine pw_aload_n 1 rfl dX12_refusesSlip_0 rfl ?_
        refine pw_iload_n 2 rfl dX12_refusesSlip_1 rfl ?_
        refine pw_callVP (as := [_]) 5 rfl dX12_refusesSlip_2 mX12_205 vX12_isOne (m_isOne (d := d) hn h7 _) (by first | rfl | assumption | exact rowS hh | exact mtS hm | exact ruS hr | exact mtA1 hm | exact mtA2 hm | exact mtA3 hm | exact mtA4 hm | exact mtA5 hm | exact mtA6 hm | exact mtA7 hm | exact ruA1 hr | exact ruA2 hr | exact ruA3 hr) rfl (by decide) ⟨rfl, by decide, by decide, show (parseMethodDescriptor yX12_isOne.desc).map (fun d => d.parameters.length) = some 1 by decide +kernel⟩ (by omega) (by decide) (Nat.le_of_ble_eq_true rfl) rfl ?_
        refine pw_if_eq (tgt := 18) 8 rfl dX12_refusesSlip_5 rfl (fun h5 => absurd h5 (by rw [hv]; decide)) (fun h5 => ?_)
        refine pw_iload_n 9 rfl dX12_refusesSlip_8 rfl ?_
        refine pw_iconst (v := nI 1) 10 rfl dX12_refusesSlip_9 rfl ?_
        refine pw_bipush (v := nI 9) 12 rfl dX12_refusesSlip_10 rfl ?_
        refine pw_callSP (as := [_, _, _]) 15 rfl dX12_refusesSlip_12 mX12_98 sX12_in (m_in (d := d) _ _ _) ⟨rfl, by decide, by decide, show (parseMethodDescriptor yX12_in.desc).map (fun d => d.parameters.length) = some 3 by decide +kernel⟩ (by omega) (by decide) (Nat.le_of_ble_eq_true rfl) rfl ?_
        refine pw_if_ne (tgt := 20) 18 rfl dX12_refusesSlip_15 rfl (fun h15 => ?_) (fun h15 => absurd h15 (by rw [inV_y k1 k9 (by decide)]; decide))
        refine pw_aload_n 21 rfl dX12_refusesSlip_20 rfl ?_
        refine pw_bipush (v := nI 7) 23 rfl dX12_refusesSlip_21 rfl ?_
        refine pw_iload_n 24 rfl dX12_refusesSlip_23 rfl ?_
        first | refine pw_iaddN 25 rfl dX12_refusesSlip_24 ?_ | refine pw_iadd 25 rfl dX12_refusesSlip_24 ?_
        refine pw_ialdN 26 rfl dX12_refusesSlip_25 (by first | rfl | assumption | exact rowS hh | exact mtS hm | exact ruS hr | exact mtA1 hm | exact mtA2 hm | exact mtA3 hm | exact mtA4 hm | exact mtA5 hm | exact mtA6 hm | exact mtA7 hm | exact ruA1 hr | exact ruA2 hr | exact ruA3 hr) (by omega) (by first | decide | omega) ?_
        refine pw_if_ne (tgt := 34) 29 rfl dX12_refusesSlip_26 rfl (fun h26 => ?_) (fun h26 => absurd h26 (by rw [e7]; exact nI_ne0 (by omega) (by omega)))
        refine pw_iconst (v := nI 0) 35 rfl dX12_refusesSlip_34 rfl ?_
        refine pw_iret dX12_refusesSlip_35 rfl ?_
        rotate_left
        exact ⟨rfl, rfl, rfl, rfl⟩
    · rw [show rfF n b (nI q) v = -1 from by unfold rfF; rw [hi]; show (match nOf v with | none => _ | some _ => _) = _; rw [hk]]
      refine pw_aload_n 1 rfl dX12_refusesSlip_0 rfl ?_
      refine pw_iload_n 2 rfl dX12_refusesSlip_1 rfl ?_
      refine pw_callVP (as := [_]) 5 rfl dX12_refusesSlip_2 mX12_205 vX12_isOne (m_isOne (d := d) hn h7 _) (by first | rfl | assumption | exact rowS hh | exact mtS hm | exact ruS hr | exact mtA1 hm | exact mtA2 hm | exact mtA3 hm | exact mtA4 hm | exact mtA5 hm | exact mtA6 hm | exact mtA7 hm | exact ruA1 hr | exact ruA2 hr | exact ruA3 hr) rfl (by decide) ⟨rfl, by decide, by decide, show (parseMethodDescriptor yX12_isOne.desc).map (fun d => d.parameters.length) = some 1 by decide +kernel⟩ (by omega) (by decide) (Nat.le_of_ble_eq_true rfl) rfl ?_
      refine pw_if_eq (tgt := 18) 8 rfl dX12_refusesSlip_5 rfl (fun h5 => absurd h5 (by rw [hv]; decide)) (fun h5 => ?_)
      refine pw_iload_n 9 rfl dX12_refusesSlip_8 rfl ?_
      refine pw_iconst (v := nI 1) 10 rfl dX12_refusesSlip_9 rfl ?_
      refine pw_bipush (v := nI 9) 12 rfl dX12_refusesSlip_10 rfl ?_
      refine pw_callSP (as := [_, _, _]) 15 rfl dX12_refusesSlip_12 mX12_98 sX12_in (m_in (d := d) _ _ _) ⟨rfl, by decide, by decide, show (parseMethodDescriptor yX12_in.desc).map (fun d => d.parameters.length) = some 3 by decide +kernel⟩ (by omega) (by decide) (Nat.le_of_ble_eq_true rfl) rfl ?_
      refine pw_if_ne (tgt := 20) 18 rfl dX12_refusesSlip_15 rfl (fun h15 => absurd (by rw [inV_n ho]; rfl) h15) (fun h15 => ?_)
      refine pw_iconst (v := -1) 19 rfl dX12_refusesSlip_18 rfl ?_
      refine pw_iret dX12_refusesSlip_19 rfl ?_
      rotate_left
      exact ⟨rfl, rfl, rfl, rfl⟩
  · rw [show rfF n b w v = -1 from by unfold rfF; rw [hi]]
    refine pw_aload_n 1 rfl dX12_refusesSlip_0 rfl ?_
    refine pw_iload_n 2 rfl dX12_refusesSlip_1 rfl ?_
    refine pw_callVP (as := [_]) 5 rfl dX12_refusesSlip_2 mX12_205 vX12_isOne (m_isOne (d := d) hn h7 _) (by first | rfl | assumption | exact rowS hh | exact mtS hm | exact ruS hr | exact mtA1 hm | exact mtA2 hm | exact mtA3 hm | exact mtA4 hm | exact mtA5 hm | exact mtA6 hm | exact mtA7 hm | exact ruA1 hr | exact ruA2 hr | exact ruA3 hr) rfl (by decide) ⟨rfl, by decide, by decide, show (parseMethodDescriptor yX12_isOne.desc).map (fun d => d.parameters.length) = some 1 by decide +kernel⟩ (by omega) (by decide) (Nat.le_of_ble_eq_true rfl) rfl ?_
    refine pw_if_eq (tgt := 18) 8 rfl dX12_refusesSlip_5 rfl (fun h5 => ?_) (fun h5 => absurd (by rw [hv]; rfl) h5)
    refine pw_iconst (v := -1) 19 rfl dX12_refusesSlip_18 rfl ?_
    refine pw_iret dX12_refusesSlip_19 rfl ?_
    rotate_left
    exact ⟨rfl, rfl, rfl, rfl⟩
set_option maxRecDepth 100000 in
set_option maxHeartbeats 2000000 in
theorem m_goSlip {d h q k : Nat} {b : Nat → Nat} {I : pI} {J : pJ} {R : pR} (hh : h = 1 ∨ h = 11) (hq : q < 7) (hb : b q < 1000) (hk : k < 1000) (hB : MB I h b) : PC SM (d + 1) yX12_goSlip cX12_goSlip 3 none [.ref h, .int (nI q), .int (nI k)] (I) (J) (R) (fun r' I' J' R' => r' = none ∧ MB I' h (bu (bu b q (b q - k)) (7 + q) 2) ∧ (∀ a j, a ≠ h → I' a j = I a j) ∧ J = J' ∧ R' = R) := by
  refine PC.of [some (.ref h), some (.int (nI q)), some (.int (nI k))] rfl rfl (Nat.le_of_ble_eq_true rfl) ?_
  refine pw_aload_n 1 rfl dX12_goSlip_0 rfl ?_
  refine pw_iload_n 2 rfl dX12_goSlip_1 rfl ?_
  refine pw_iconst (v := nI 0) 3 rfl dX12_goSlip_2 rfl ?_
  refine pw_aload_n 4 rfl dX12_goSlip_3 rfl ?_
  refine pw_iload_n 5 rfl dX12_goSlip_4 rfl ?_
  refine pw_ialdN 6 rfl dX12_goSlip_5 (by first | rfl | assumption | exact rowS hh | exact mtS hm | exact ruS hr | exact mtA1 hm | exact mtA2 hm | exact mtA3 hm | exact mtA4 hm | exact mtA5 hm | exact mtA6 hm | exact mtA7 hm | exact ruA1 hr | exact ruA2 hr | exact ruA3 hr) (by omega) (by first | decide | omega) ?_
  rotate_left
  rw [hB q (by omega)]
  refine pw_iload_n 7 rfl dX12_goSlip_6 rfl ?_
  refine pw_isub 8 rfl dX12_goSlip_7 ?_
  refine pw_mmax 11 rfl dX12_goSlip_8 mX12_195 (Nat.le_of_ble_eq_true rfl) ?_
  rotate_left
  rw [nI_subm (by omega) (by omega)]
  refine pw_iastN 12 rfl dX12_goSlip_11 (by first | rfl | assumption | exact rowS hh | exact mtS hm | exact ruS hr | exact mtA1 hm | exact mtA2 hm | exact mtA3 hm | exact mtA4 hm | exact mtA5 hm | exact mtA6 hm | exact mtA7 hm | exact ruA1 hr | exact ruA2 hr | exact ruA3 hr) (by omega) (by first | decide | omega) ?_
  refine pw_aload_n 13 rfl dX12_goSlip_12 rfl ?_
  refine pw_bipush (v := nI 7) 15 rfl dX12_goSlip_13 rfl ?_
  refine pw_iload_n 16 rfl dX12_goSlip_15 rfl ?_
  first | refine pw_iaddN 17 rfl dX12_goSlip_16 ?_ | refine pw_iadd 17 rfl dX12_goSlip_16 ?_
  refine pw_iconst (v := nI 2) 18 rfl dX12_goSlip_17 rfl ?_
  refine pw_iastN 19 rfl dX12_goSlip_18 (by first | rfl | assumption | exact rowS hh | exact mtS hm | exact ruS hr | exact mtA1 hm | exact mtA2 hm | exact mtA3 hm | exact mtA4 hm | exact mtA5 hm | exact mtA6 hm | exact mtA7 hm | exact ruA1 hr | exact ruA2 hr | exact ruA3 hr) (by omega) (by first | decide | omega) ?_
  refine pw_vret dX12_goSlip_19 ?_
  rotate_left
  exact ⟨rfl, MB_bu (MB_bu hB), fun a j q => by rw [uI_ne (by omega), uI_ne (by omega)], rfl, rfl⟩
set_option maxRecDepth 100000 in
set_option maxHeartbeats 2000000 in
theorem m_goWait {d h q k : Nat} {b : Nat → Nat} {I : pI} {J : pJ} {R : pR} (hh : h = 1 ∨ h = 11) (hq : q < 7) (hb : b (14 + q) < 1000) (hk : k < 1000) (hB : MB I h b) : PC SM (d + 1) yX12_goWait cX12_goWait 3 none [.ref h, .int (nI q), .int (nI k)] (I) (J) (R) (fun r' I' J' R' => r' = none ∧ MB I' h (bu b (14 + q) (min 99 (b (14 + q) + k))) ∧ (∀ a j, a ≠ h → I' a j = I a j) ∧ J = J' ∧ R' = R) := by
  refine PC.of [some (.ref h), some (.int (nI q)), some (.int (nI k))] rfl rfl (Nat.le_of_ble_eq_true rfl) ?_
  refine pw_aload_n 1 rfl dX12_goWait_0 rfl ?_
  refine pw_bipush (v := nI 14) 3 rfl dX12_goWait_1 rfl ?_
  refine pw_iload_n 4 rfl dX12_goWait_3 rfl ?_
  first | refine pw_iaddN 5 rfl dX12_goWait_4 ?_ | refine pw_iadd 5 rfl dX12_goWait_4 ?_
  refine pw_bipush (v := nI 99) 7 rfl dX12_goWait_5 rfl ?_
  refine pw_aload_n 8 rfl dX12_goWait_7 rfl ?_
  refine pw_bipush (v := nI 14) 10 rfl dX12_goWait_8 rfl ?_
  refine pw_iload_n 11 rfl dX12_goWait_10 rfl ?_
  first | refine pw_iaddN 12 rfl dX12_goWait_11 ?_ | refine pw_iadd 12 rfl dX12_goWait_11 ?_
  refine pw_ialdN 13 rfl dX12_goWait_12 (by first | rfl | assumption | exact rowS hh | exact mtS hm | exact ruS hr | exact mtA1 hm | exact mtA2 hm | exact mtA3 hm | exact mtA4 hm | exact mtA5 hm | exact mtA6 hm | exact mtA7 hm | exact ruA1 hr | exact ruA2 hr | exact ruA3 hr) (by omega) (by first | decide | omega) ?_
  rotate_left
  rw [hB (14 + q) (by omega)]
  refine pw_iload_n 14 rfl dX12_goWait_13 rfl ?_
  first | refine pw_iaddN 15 rfl dX12_goWait_14 ?_ | refine pw_iadd 15 rfl dX12_goWait_14 ?_
  refine pw_mmin 18 rfl dX12_goWait_15 mX12_189 (Nat.le_of_ble_eq_true rfl) ?_
  rotate_left
  rw [nI_min (by omega) (by omega)]
  refine pw_iastN 19 rfl dX12_goWait_18 (by first | rfl | assumption | exact rowS hh | exact mtS hm | exact ruS hr | exact mtA1 hm | exact mtA2 hm | exact mtA3 hm | exact mtA4 hm | exact mtA5 hm | exact mtA6 hm | exact mtA7 hm | exact ruA1 hr | exact ruA2 hr | exact ruA3 hr) (by omega) (by first | decide | omega) ?_
  refine pw_vret dX12_goWait_19 ?_
  rotate_left
  exact ⟨rfl, MB_bu hB, fun a j q => by rw [uI_ne (by omega)], rfl, rfl⟩
set_option maxRecDepth 100000 in
set_option maxHeartbeats 2000000 in
theorem m_canWait {d n : Nat} {I : pI} {J : pJ} {R : pR} (hn : I 0 1 = nI n) (h7 : n ≤ 7) (w v : Int32) : PC SM (d + 2) yX12_canWait cX12_canWait 3 (some .boolean) [.ref 0, .int w, .int v] (I) (J) (R) (pPu (.int (nI (if qOf n w ≠ none ∧ nOf v ≠ none then 1 else 0))) I J R) := by
  refine PC.of [some (.ref 0), some (.int w), some (.int v)] rfl rfl (Nat.le_of_ble_eq_true rfl) ?_
  rcases qOf_cases h7 w with ⟨q, hq, rfl, hi, hv⟩ | ⟨hi, hv⟩
  · rcases nOf_cases v with ⟨k, k1, k9, rfl⟩ | ⟨hk, ho⟩
    · rw [if_pos ⟨(by rw [hi]; exact (fun z => by cases z)), (by rw [nOf_y k1 k9]; exact (fun z => by cases z))⟩]
      refine pw_aload_n 1 rfl dX12_canWait_0 rfl ?_
      refine pw_iload_n 2 rfl dX12_canWait_1 rfl ?_
      refine pw_callVP (as := [_]) 5 rfl dX12_canWait_2 mX12_205 vX12_isOne (m_isOne (d := d) hn h7 _) (by first | rfl | assumption | exact rowS hh | exact mtS hm | exact ruS hr | exact mtA1 hm | exact mtA2 hm | exact mtA3 hm | exact mtA4 hm | exact mtA5 hm | exact mtA6 hm | exact mtA7 hm | exact ruA1 hr | exact ruA2 hr | exact ruA3 hr) rfl (by decide) ⟨rfl, by decide, by decide, show (parseMethodDescriptor yX12_isOne.desc).map (fun d => d.parameters.length) = some 1 by decide +kernel⟩ (by omega) (by decide) (Nat.le_of_ble_eq_true rfl) rfl ?_
      refine pw_if_eq (tgt := 22) 8 rfl dX12_canWait_5 rfl (fun h5 => absurd h5 (by rw [hv]; decide)) (fun h5 => ?_)
      refine pw_iload_n 9 rfl dX12_canWait_8 rfl ?_
      refine pw_iconst (v := nI 1) 10 rfl dX12_canWait_9 rfl ?_
      refine pw_bipush (v := nI 9) 12 rfl dX12_canWait_10 rfl ?_
      refine pw_callSP (as := [_, _, _]) 15 rfl dX12_canWait_12 mX12_98 sX12_in (m_in (d := d) _ _ _) ⟨rfl, by decide, by decide, show (parseMethodDescriptor yX12_in.desc).map (fun d => d.parameters.length) = some 3 by decide +kernel⟩ (by omega) (by decide) (Nat.le_of_ble_eq_true rfl) rfl ?_
      refine pw_if_eq (tgt := 22) 18 rfl dX12_canWait_15 rfl (fun h15 => absurd h15 (by rw [inV_y k1 k9 (by decide)]; decide)) (fun h15 => ?_)
      refine pw_iconst (v := nI 1) 19 rfl dX12_canWait_18 rfl ?_
      refine pw_goto (tgt := 23) dX12_canWait_19 rfl ?_
      refine pw_iret dX12_canWait_23 rfl ?_
      rotate_left
      exact ⟨rfl, rfl, rfl, rfl⟩
    · rw [if_neg (fun z => z.2 hk)]
      refine pw_aload_n 1 rfl dX12_canWait_0 rfl ?_
      refine pw_iload_n 2 rfl dX12_canWait_1 rfl ?_
      refine pw_callVP (as := [_]) 5 rfl dX12_canWait_2 mX12_205 vX12_isOne (m_isOne (d := d) hn h7 _) (by first | rfl | assumption | exact rowS hh | exact mtS hm | exact ruS hr | exact mtA1 hm | exact mtA2 hm | exact mtA3 hm | exact mtA4 hm | exact mtA5 hm | exact mtA6 hm | exact mtA7 hm | exact ruA1 hr | exact ruA2 hr | exact ruA3 hr) rfl (by decide) ⟨rfl, by decide, by decide, show (parseMethodDescriptor yX12_isOne.desc).map (fun d => d.parameters.length) = some 1 by decide +kernel⟩ (by omega) (by decide) (Nat.le_of_ble_eq_true rfl) rfl ?_
      refine pw_if_eq (tgt := 22) 8 rfl dX12_canWait_5 rfl (fun h5 => absurd h5 (by rw [hv]; decide)) (fun h5 => ?_)
      refine pw_iload_n 9 rfl dX12_canWait_8 rfl ?_
      refine pw_iconst (v := nI 1) 10 rfl dX12_canWait_9 rfl ?_
      refine pw_bipush (v := nI 9) 12 rfl dX12_canWait_10 rfl ?_
      refine pw_callSP (as := [_, _, _]) 15 rfl dX12_canWait_12 mX12_98 sX12_in (m_in (d := d) _ _ _) ⟨rfl, by decide, by decide, show (parseMethodDescriptor yX12_in.desc).map (fun d => d.parameters.length) = some 3 by decide +kernel⟩ (by omega) (by decide) (Nat.le_of_ble_eq_true rfl) rfl ?_
      refine pw_if_eq (tgt := 22) 18 rfl dX12_canWait_15 rfl (fun h15 => ?_) (fun h15 => absurd (by rw [inV_n ho]; rfl) h15)
      refine pw_iconst (v := nI 0) 23 rfl dX12_canWait_22 rfl ?_
      refine pw_iret dX12_canWait_23 rfl ?_
      rotate_left
      exact ⟨rfl, rfl, rfl, rfl⟩
  · rw [if_neg (fun z => z.1 hi)]
    refine pw_aload_n 1 rfl dX12_canWait_0 rfl ?_
    refine pw_iload_n 2 rfl dX12_canWait_1 rfl ?_
    refine pw_callVP (as := [_]) 5 rfl dX12_canWait_2 mX12_205 vX12_isOne (m_isOne (d := d) hn h7 _) (by first | rfl | assumption | exact rowS hh | exact mtS hm | exact ruS hr | exact mtA1 hm | exact mtA2 hm | exact mtA3 hm | exact mtA4 hm | exact mtA5 hm | exact mtA6 hm | exact mtA7 hm | exact ruA1 hr | exact ruA2 hr | exact ruA3 hr) rfl (by decide) ⟨rfl, by decide, by decide, show (parseMethodDescriptor yX12_isOne.desc).map (fun d => d.parameters.length) = some 1 by decide +kernel⟩ (by omega) (by decide) (Nat.le_of_ble_eq_true rfl) rfl ?_
    refine pw_if_eq (tgt := 22) 8 rfl dX12_canWait_5 rfl (fun h5 => ?_) (fun h5 => absurd (by rw [hv]; rfl) h5)
    refine pw_iconst (v := nI 0) 23 rfl dX12_canWait_22 rfl ?_
    refine pw_iret dX12_canWait_23 rfl ?_
    rotate_left
    exact ⟨rfl, rfl, rfl, rfl⟩
set_option maxRecDepth 100000 in
set_option maxHeartbeats 2000000 in
theorem mo_starts {d g : Nat} {s : aSt} {rd : Option Nat} {I : pI} {J : pJ} (hA : MA I J s) (hD : MDg g I) (hg : g ≤ 500000000) (hW : WA s) (w : Int32) : PC SM (d + 245) yX12_starts cX12_starts 3 (some .int) [.ref 0, .int w] (I) (J) (RM rd (some 6)) (moP (g + 10000) (oAct (fun n b => aSet n b w) s)) := by
  refine PC.of [some (.ref 0), some (.int w), none] rfl rfl (Nat.le_of_ble_eq_true rfl) ?_
  obtain ⟨n, pc, b, us, kp, rw, tx, rt, hd, sw⟩ := s
  refine pw_aload_n 1 rfl dX12_starts_0 rfl ?_
  refine pw_iconst (v := nI 0) 2 rfl dX12_starts_1 rfl ?_
  refine pw_putI 5 rfl dX12_starts_2 fX12_88 w12_7 (by first | rfl | assumption | exact rowS hh | exact mtS hm | exact ruS hr | exact mtA1 hm | exact mtA2 hm | exact mtA3 hm | exact mtA4 hm | exact mtA5 hm | exact mtA6 hm | exact mtA7 hm | exact ruA1 hr | exact ruA2 hr | exact ruA3 hr) rfl rfl rfl ?_
  rotate_left
  have hA0 := MA_thr (v := nI 0) hA
  have hD0 : MDg g (uI I 0 7 (nI 0)) := MDg_f hD (uI_ne (by omega)) (fun j => uI_ne (by omega))
  clear hA hD
  generalize uI I 0 7 (nI 0) = I at hA0 hD0 ⊢
  obtain ⟨mC, mB, mT, mN, mR, mU, mK, mH, mG⟩ := id hA0
  obtain ⟨aW, aU, aK⟩ := id hW
  have hE := MSt_A hA0
  have hn7 := mC.1
  have hn := mC.2.1
  refine pw_aload_n 6 rfl dX12_starts_5 rfl ?_
  refine pw_aload_n 7 rfl dX12_starts_6 rfl ?_
  refine pw_getR 10 rfl dX12_starts_7 fX12_9 (by first | rfl | assumption | exact rowS hh | exact mtS hm | exact ruS hr | exact mtA1 hm | exact mtA2 hm | exact mtA3 hm | exact mtA4 hm | exact mtA5 hm | exact mtA6 hm | exact mtA7 hm | exact ruA1 hr | exact ruA2 hr | exact ruA3 hr) rfl (by first | rfl | assumption | exact mtR0 hm | exact mtR1 hm | exact mtR2 hm | exact mtR3 hm | exact mtR4 hm | exact mtR5 hm | exact mtR6 hm | exact ruR0 hr | exact ruR1 hr | exact ruR3 hr) ?_
  refine pw_iload_n 11 rfl dX12_starts_10 rfl ?_
  refine pw_callVP (as := [_, _]) 14 rfl dX12_starts_11 mX12_249 vX12_refusesStart (m_refusesStart (d := d + 242) (Or.inl rfl) hn hn7 (WF_way aW.1) mB _) (by first | rfl | assumption | exact rowS hh | exact mtS hm | exact ruS hr | exact mtA1 hm | exact mtA2 hm | exact mtA3 hm | exact mtA4 hm | exact mtA5 hm | exact mtA6 hm | exact mtA7 hm | exact ruA1 hr | exact ruA2 hr | exact ruA3 hr) rfl (by decide) ⟨rfl, by decide, by decide, show (parseMethodDescriptor yX12_refusesStart.desc).map (fun d => d.parameters.length) = some 2 by decide +kernel⟩ (by omega) (by decide) (Nat.le_of_ble_eq_true rfl) rfl ?_
  rotate_left
  rcases qOf_cases hn7 w with ⟨q, hq, rfl, hi, hv⟩ | ⟨hi, hv⟩
  · have er : rfS n b (nI q) = if b (7 + q) = 0 then nI 0 else -2 := by unfold rfS; rw [hi]
    have ea := aSet_q (b := b) hi
    by_cases c : b (7 + q) = 0
    · rw [if_pos c] at er ea
      rw [er]
      refine pw_istore_n 15 rfl dX12_starts_14 (by decide) ?_
      refine pw_iload_n 16 rfl dX12_starts_15 rfl ?_
      refine pw_if_ge (tgt := 21) 19 rfl dX12_starts_16 rfl (fun h16 => ?_) (fun h16 => absurd (by decide) h16)
      refine pw_aload_n 22 rfl dX12_starts_21 rfl ?_
      refine pw_aload_n 23 rfl dX12_starts_22 rfl ?_
      refine pw_getR 26 rfl dX12_starts_23 fX12_9 (by first | rfl | assumption | exact rowS hh | exact mtS hm | exact ruS hr | exact mtA1 hm | exact mtA2 hm | exact mtA3 hm | exact mtA4 hm | exact mtA5 hm | exact mtA6 hm | exact mtA7 hm | exact ruA1 hr | exact ruA2 hr | exact ruA3 hr) rfl (by first | rfl | assumption | exact mtR0 hm | exact mtR1 hm | exact mtR2 hm | exact mtR3 hm | exact mtR4 hm | exact mtR5 hm | exact mtR6 hm | exact ruR0 hr | exact ruR1 hr | exact ruR3 hr) ?_
      refine pw_callV (as := [_]) 29 rfl dX12_starts_26 mX12_201 vX12_remember (m_remember (d := d + 243) rfl (by decide) (by decide) mB mU) (by first | rfl | assumption | exact rowS hh | exact mtS hm | exact ruS hr | exact mtA1 hm | exact mtA2 hm | exact mtA3 hm | exact mtA4 hm | exact mtA5 hm | exact mtA6 hm | exact mtA7 hm | exact ruA1 hr | exact ruA2 hr | exact ruA3 hr) rfl (by decide) ⟨rfl, by decide, by decide, show (parseMethodDescriptor yX12_remember.desc).map (fun d => d.parameters.length) = some 1 by decide +kernel⟩ (by omega) (by decide) (Nat.le_of_ble_eq_true rfl) rfl (fun r26 I26 J26 R26 c26 => ?_)
      obtain ⟨rfl, r1, r2, rfl, rfl⟩ := c26
      rotate_left
      have mB' : MB I26 1 b := MB_f mB (fun j => r2 _ _ (by omega) (by omega))
      refine pw_aload_n 30 rfl dX12_starts_29 rfl ?_
      refine pw_getR 33 rfl dX12_starts_30 fX12_9 (by first | rfl | assumption | exact rowS hh | exact mtS hm | exact ruS hr | exact mtA1 hm | exact mtA2 hm | exact mtA3 hm | exact mtA4 hm | exact mtA5 hm | exact mtA6 hm | exact mtA7 hm | exact ruA1 hr | exact ruA2 hr | exact ruA3 hr) rfl (by first | rfl | assumption | exact mtR0 hm | exact mtR1 hm | exact mtR2 hm | exact mtR3 hm | exact mtR4 hm | exact mtR5 hm | exact mtR6 hm | exact ruR0 hr | exact ruR1 hr | exact ruR3 hr) ?_
      refine pw_bipush (v := nI 7) 35 rfl dX12_starts_33 rfl ?_
      refine pw_iload_n 36 rfl dX12_starts_35 rfl ?_
      first | refine pw_iaddN 37 rfl dX12_starts_36 ?_ | refine pw_iadd 37 rfl dX12_starts_36 ?_
      refine pw_iconst (v := nI 1) 38 rfl dX12_starts_37 rfl ?_
      refine pw_iastN 39 rfl dX12_starts_38 (by first | rfl | assumption | exact rowS hh | exact mtS hm | exact ruS hr | exact mtA1 hm | exact mtA2 hm | exact mtA3 hm | exact mtA4 hm | exact mtA5 hm | exact mtA6 hm | exact mtA7 hm | exact ruA1 hr | exact ruA2 hr | exact ruA3 hr) (by omega) (by first | decide | omega) ?_
      refine pw_aload_n 40 rfl dX12_starts_39 rfl ?_
      refine pw_aload_n 41 rfl dX12_starts_40 rfl ?_
      refine pw_getR 44 rfl dX12_starts_41 fX12_9 (by first | rfl | assumption | exact rowS hh | exact mtS hm | exact ruS hr | exact mtA1 hm | exact mtA2 hm | exact mtA3 hm | exact mtA4 hm | exact mtA5 hm | exact mtA6 hm | exact mtA7 hm | exact ruA1 hr | exact ruA2 hr | exact ruA3 hr) rfl (by first | rfl | assumption | exact mtR0 hm | exact mtR1 hm | exact mtR2 hm | exact mtR3 hm | exact mtR4 hm | exact mtR5 hm | exact mtR6 hm | exact ruR0 hr | exact ruR1 hr | exact ruR3 hr) ?_
      refine pw_callVP (as := [_]) 47 rfl dX12_starts_44 mX12_240 vX12_walking (m_walking (d := d + 244) (b := bu b (7 + q) 1) (Or.inl rfl) (by rw [uI_ne (by omega), r2 _ _ (by omega) (by omega)]; exact hn) hn7 (WF_way (WF_bu aW.1 (Or.inr (Or.inl ⟨by omega, by omega, by decide⟩)))) (MB_bu mB')) (by first | rfl | assumption | exact rowS hh | exact mtS hm | exact ruS hr | exact mtA1 hm | exact mtA2 hm | exact mtA3 hm | exact mtA4 hm | exact mtA5 hm | exact mtA6 hm | exact mtA7 hm | exact ruA1 hr | exact ruA2 hr | exact ruA3 hr) rfl (by decide) ⟨rfl, by decide, by decide, show (parseMethodDescriptor yX12_walking.desc).map (fun d => d.parameters.length) = some 1 by decide +kernel⟩ (by omega) (by decide) (Nat.le_of_ble_eq_true rfl) rfl ?_
      refine pw_callSP (as := [_]) 50 rfl dX12_starts_47 mX12_244 sJ6_bitCount_0f7a4 (x_bitCount (d := d + 244) _) ⟨rfl, by decide, by decide, show (parseMethodDescriptor yJ6_bitCount_0f7a4.desc).map (fun d => d.parameters.length) = some 1 by decide +kernel⟩ (by omega) (by decide) (Nat.le_of_ble_eq_true rfl) rfl ?_
      rotate_left
      rw [bc_bts n hn7]
      refine pw_iret dX12_starts_50 rfl ?_
      rotate_left
      exact moA_y hA0 hD0 ea (nI_pos (Nat.lt_of_le_of_lt (popc_le _) (by decide))) (MB_bu mB') (MU_f r1 (uI_ne (by omega)) (fun j => uI_ne (by omega))) (fun a j q1 q2 q3 => by rw [uI_ne (by omega)]; exact r2 a j q2 q3)
    · rw [if_neg c] at er ea
      rw [er]
      refine pw_istore_n 15 rfl dX12_starts_14 (by decide) ?_
      refine pw_iload_n 16 rfl dX12_starts_15 rfl ?_
      refine pw_if_ge (tgt := 21) 19 rfl dX12_starts_16 rfl (fun h16 => absurd h16 (by decide)) (fun h16 => ?_)
      refine pw_iload_n 20 rfl dX12_starts_19 rfl ?_
      refine pw_iret dX12_starts_20 rfl ?_
      rotate_left
      exact moA_n hA0 hD0 ea (by decide)
  · rw [show rfS n b w = -1 from by unfold rfS; rw [hi]]
    refine pw_istore_n 15 rfl dX12_starts_14 (by decide) ?_
    refine pw_iload_n 16 rfl dX12_starts_15 rfl ?_
    refine pw_if_ge (tgt := 21) 19 rfl dX12_starts_16 rfl (fun h16 => absurd h16 (by decide)) (fun h16 => ?_)
    refine pw_iload_n 20 rfl dX12_starts_19 rfl ?_
    refine pw_iret dX12_starts_20 rfl ?_
    rotate_left
    exact moA_n hA0 hD0 (aSet_0 hi) (by decide)
set_option maxRecDepth 100000 in
set_option maxHeartbeats 2000000 in
theorem mo_backs {d g : Nat} {s : aSt} {rd : Option Nat} {I : pI} {J : pJ} (hA : MA I J s) (hD : MDg g I) (hg : g ≤ 500000000) (hW : WA s) (w : Int32) : PC SM (d + 245) yX12_backs cX12_backs 3 (some .int) [.ref 0, .int w] (I) (J) (RM rd (some 6)) (moP (g + 10000) (oAct (fun n b => aTurn n b w) s)) := by
  refine PC.of [some (.ref 0), some (.int w), none] rfl rfl (Nat.le_of_ble_eq_true rfl) ?_
  obtain ⟨n, pc, b, us, kp, rw, tx, rt, hd, sw⟩ := s
  refine pw_aload_n 1 rfl dX12_backs_0 rfl ?_
  refine pw_iconst (v := nI 0) 2 rfl dX12_backs_1 rfl ?_
  refine pw_putI 5 rfl dX12_backs_2 fX12_88 w12_7 (by first | rfl | assumption | exact rowS hh | exact mtS hm | exact ruS hr | exact mtA1 hm | exact mtA2 hm | exact mtA3 hm | exact mtA4 hm | exact mtA5 hm | exact mtA6 hm | exact mtA7 hm | exact ruA1 hr | exact ruA2 hr | exact ruA3 hr) rfl rfl rfl ?_
  rotate_left
  have hA0 := MA_thr (v := nI 0) hA
  have hD0 : MDg g (uI I 0 7 (nI 0)) := MDg_f hD (uI_ne (by omega)) (fun j => uI_ne (by omega))
  clear hA hD
  generalize uI I 0 7 (nI 0) = I at hA0 hD0 ⊢
  obtain ⟨mC, mB, mT, mN, mR, mU, mK, mH, mG⟩ := id hA0
  obtain ⟨aW, aU, aK⟩ := id hW
  have hE := MSt_A hA0
  have hn7 := mC.1
  have hn := mC.2.1
  refine pw_aload_n 6 rfl dX12_backs_5 rfl ?_
  refine pw_aload_n 7 rfl dX12_backs_6 rfl ?_
  refine pw_getR 10 rfl dX12_backs_7 fX12_9 (by first | rfl | assumption | exact rowS hh | exact mtS hm | exact ruS hr | exact mtA1 hm | exact mtA2 hm | exact mtA3 hm | exact mtA4 hm | exact mtA5 hm | exact mtA6 hm | exact mtA7 hm | exact ruA1 hr | exact ruA2 hr | exact ruA3 hr) rfl (by first | rfl | assumption | exact mtR0 hm | exact mtR1 hm | exact mtR2 hm | exact mtR3 hm | exact mtR4 hm | exact mtR5 hm | exact mtR6 hm | exact ruR0 hr | exact ruR1 hr | exact ruR3 hr) ?_
  refine pw_iload_n 11 rfl dX12_backs_10 rfl ?_
  refine pw_callVP (as := [_, _]) 14 rfl dX12_backs_11 mX12_252 vX12_refusesWay (m_refusesWay (d := d + 242) (Or.inl rfl) hn hn7 (WF_way aW.1) mB _) (by first | rfl | assumption | exact rowS hh | exact mtS hm | exact ruS hr | exact mtA1 hm | exact mtA2 hm | exact mtA3 hm | exact mtA4 hm | exact mtA5 hm | exact mtA6 hm | exact mtA7 hm | exact ruA1 hr | exact ruA2 hr | exact ruA3 hr) rfl (by decide) ⟨rfl, by decide, by decide, show (parseMethodDescriptor yX12_refusesWay.desc).map (fun d => d.parameters.length) = some 2 by decide +kernel⟩ (by omega) (by decide) (Nat.le_of_ble_eq_true rfl) rfl ?_
  rotate_left
  rcases qOf_cases hn7 w with ⟨q, hq, rfl, hi, hv⟩ | ⟨hi, hv⟩
  · have er : rfW n b (nI q) = if b (7 + q) = 0 then -2 else nI 0 := by unfold rfW; rw [hi]
    have ea := aTurn_q (b := b) hi
    have hb2 := WF_way aW.1 q (by omega)
    by_cases c : b (7 + q) = 0
    · rw [if_pos c] at er ea
      rw [er]
      refine pw_istore_n 15 rfl dX12_backs_14 (by decide) ?_
      refine pw_iload_n 16 rfl dX12_backs_15 rfl ?_
      refine pw_if_ge (tgt := 21) 19 rfl dX12_backs_16 rfl (fun h16 => absurd h16 (by decide)) (fun h16 => ?_)
      refine pw_iload_n 20 rfl dX12_backs_19 rfl ?_
      refine pw_iret dX12_backs_20 rfl ?_
      rotate_left
      exact moA_n hA0 hD0 ea (by decide)
    · rw [if_neg c] at er ea
      rw [er]
      have ea' : aTurn n b (nI q) = (nI (3 - b (7 + q)), bu b (7 + q) (3 - b (7 + q))) := by
        by_cases c1 : b (7 + q) = 1
        · rw [ea, if_pos c1, c1]
        · rw [ea, if_neg c1, show b (7 + q) = 2 by omega]
      refine pw_istore_n 15 rfl dX12_backs_14 (by decide) ?_
      refine pw_iload_n 16 rfl dX12_backs_15 rfl ?_
      refine pw_if_ge (tgt := 21) 19 rfl dX12_backs_16 rfl (fun h16 => ?_) (fun h16 => absurd (by decide) h16)
      refine pw_aload_n 22 rfl dX12_backs_21 rfl ?_
      refine pw_aload_n 23 rfl dX12_backs_22 rfl ?_
      refine pw_getR 26 rfl dX12_backs_23 fX12_9 (by first | rfl | assumption | exact rowS hh | exact mtS hm | exact ruS hr | exact mtA1 hm | exact mtA2 hm | exact mtA3 hm | exact mtA4 hm | exact mtA5 hm | exact mtA6 hm | exact mtA7 hm | exact ruA1 hr | exact ruA2 hr | exact ruA3 hr) rfl (by first | rfl | assumption | exact mtR0 hm | exact mtR1 hm | exact mtR2 hm | exact mtR3 hm | exact mtR4 hm | exact mtR5 hm | exact mtR6 hm | exact ruR0 hr | exact ruR1 hr | exact ruR3 hr) ?_
      refine pw_callV (as := [_]) 29 rfl dX12_backs_26 mX12_201 vX12_remember (m_remember (d := d + 243) rfl (by decide) (by decide) mB mU) (by first | rfl | assumption | exact rowS hh | exact mtS hm | exact ruS hr | exact mtA1 hm | exact mtA2 hm | exact mtA3 hm | exact mtA4 hm | exact mtA5 hm | exact mtA6 hm | exact mtA7 hm | exact ruA1 hr | exact ruA2 hr | exact ruA3 hr) rfl (by decide) ⟨rfl, by decide, by decide, show (parseMethodDescriptor yX12_remember.desc).map (fun d => d.parameters.length) = some 1 by decide +kernel⟩ (by omega) (by decide) (Nat.le_of_ble_eq_true rfl) rfl (fun r26 I26 J26 R26 c26 => ?_)
      obtain ⟨rfl, r1, r2, rfl, rfl⟩ := c26
      rotate_left
      have mB' : MB I26 1 b := MB_f mB (fun j => r2 _ _ (by omega) (by omega))
      refine pw_aload_n 30 rfl dX12_backs_29 rfl ?_
      refine pw_getR 33 rfl dX12_backs_30 fX12_9 (by first | rfl | assumption | exact rowS hh | exact mtS hm | exact ruS hr | exact mtA1 hm | exact mtA2 hm | exact mtA3 hm | exact mtA4 hm | exact mtA5 hm | exact mtA6 hm | exact mtA7 hm | exact ruA1 hr | exact ruA2 hr | exact ruA3 hr) rfl (by first | rfl | assumption | exact mtR0 hm | exact mtR1 hm | exact mtR2 hm | exact mtR3 hm | exact mtR4 hm | exact mtR5 hm | exact mtR6 hm | exact ruR0 hr | exact ruR1 hr | exact ruR3 hr) ?_
      refine pw_bipush (v := nI 7) 35 rfl dX12_backs_33 rfl ?_
      refine pw_iload_n 36 rfl dX12_backs_35 rfl ?_
      first | refine pw_iaddN 37 rfl dX12_backs_36 ?_ | refine pw_iadd 37 rfl dX12_backs_36 ?_
      refine pw_iconst (v := nI 3) 38 rfl dX12_backs_37 rfl ?_
      refine pw_aload_n 39 rfl dX12_backs_38 rfl ?_
      refine pw_getR 42 rfl dX12_backs_39 fX12_9 (by first | rfl | assumption | exact rowS hh | exact mtS hm | exact ruS hr | exact mtA1 hm | exact mtA2 hm | exact mtA3 hm | exact mtA4 hm | exact mtA5 hm | exact mtA6 hm | exact mtA7 hm | exact ruA1 hr | exact ruA2 hr | exact ruA3 hr) rfl (by first | rfl | assumption | exact mtR0 hm | exact mtR1 hm | exact mtR2 hm | exact mtR3 hm | exact mtR4 hm | exact mtR5 hm | exact mtR6 hm | exact ruR0 hr | exact ruR1 hr | exact ruR3 hr) ?_
      refine pw_bipush (v := nI 7) 44 rfl dX12_backs_42 rfl ?_
      refine pw_iload_n 45 rfl dX12_backs_44 rfl ?_
      first | refine pw_iaddN 46 rfl dX12_backs_45 ?_ | refine pw_iadd 46 rfl dX12_backs_45 ?_
      refine pw_ialdN 47 rfl dX12_backs_46 (by first | rfl | assumption | exact rowS hh | exact mtS hm | exact ruS hr | exact mtA1 hm | exact mtA2 hm | exact mtA3 hm | exact mtA4 hm | exact mtA5 hm | exact mtA6 hm | exact mtA7 hm | exact ruA1 hr | exact ruA2 hr | exact ruA3 hr) (by omega) (by first | decide | omega) ?_
      rotate_left
      rw [mB' (7 + q) (by omega)]
      refine pw_isubN 48 rfl dX12_backs_47 (by omega) ?_
      refine pw_iastN 49 rfl dX12_backs_48 (by first | rfl | assumption | exact rowS hh | exact mtS hm | exact ruS hr | exact mtA1 hm | exact mtA2 hm | exact mtA3 hm | exact mtA4 hm | exact mtA5 hm | exact mtA6 hm | exact mtA7 hm | exact ruA1 hr | exact ruA2 hr | exact ruA3 hr) (by omega) (by first | decide | omega) ?_
      refine pw_aload_n 50 rfl dX12_backs_49 rfl ?_
      refine pw_getR 53 rfl dX12_backs_50 fX12_9 (by first | rfl | assumption | exact rowS hh | exact mtS hm | exact ruS hr | exact mtA1 hm | exact mtA2 hm | exact mtA3 hm | exact mtA4 hm | exact mtA5 hm | exact mtA6 hm | exact mtA7 hm | exact ruA1 hr | exact ruA2 hr | exact ruA3 hr) rfl (by first | rfl | assumption | exact mtR0 hm | exact mtR1 hm | exact mtR2 hm | exact mtR3 hm | exact mtR4 hm | exact mtR5 hm | exact mtR6 hm | exact ruR0 hr | exact ruR1 hr | exact ruR3 hr) ?_
      refine pw_bipush (v := nI 7) 55 rfl dX12_backs_53 rfl ?_
      refine pw_iload_n 56 rfl dX12_backs_55 rfl ?_
      first | refine pw_iaddN 57 rfl dX12_backs_56 ?_ | refine pw_iadd 57 rfl dX12_backs_56 ?_
      refine pw_ialdN 58 rfl dX12_backs_57 (by first | rfl | assumption | exact rowS hh | exact mtS hm | exact ruS hr | exact mtA1 hm | exact mtA2 hm | exact mtA3 hm | exact mtA4 hm | exact mtA5 hm | exact mtA6 hm | exact mtA7 hm | exact ruA1 hr | exact ruA2 hr | exact ruA3 hr) (by omega) (by first | decide | omega) ?_
      rotate_left
      rw [uI_eq]
      refine pw_iret dX12_backs_58 rfl ?_
      rotate_left
      exact moA_y hA0 hD0 ea' (nI_pos (by omega)) (MB_bu mB') (MU_f r1 (uI_ne (by omega)) (fun j => uI_ne (by omega))) (fun a j q1 q2 q3 => by rw [uI_ne (by omega)]; exact r2 a j q2 q3)
  · rw [show rfW n b w = -1 from by unfold rfW; rw [hi]]
    refine pw_istore_n 15 rfl dX12_backs_14 (by decide) ?_
    refine pw_iload_n 16 rfl dX12_backs_15 rfl ?_
    refine pw_if_ge (tgt := 21) 19 rfl dX12_backs_16 rfl (fun h16 => absurd h16 (by decide)) (fun h16 => ?_)
    refine pw_iload_n 20 rfl dX12_backs_19 rfl ?_
    refine pw_iret dX12_backs_20 rfl ?_
    rotate_left
    exact moA_n hA0 hD0 (aTurn_0 hi) (by decide)
set_option maxRecDepth 100000 in
set_option maxHeartbeats 2000000 in
theorem mo_waits {d g : Nat} {s : aSt} {rd : Option Nat} {I : pI} {J : pJ} (hA : MA I J s) (hD : MDg g I) (hg : g ≤ 500000000) (hW : WA s) (w v : Int32) : PC SM (d + 245) yX12_waits cX12_waits 3 (some .int) [.ref 0, .int w, .int v] (I) (J) (RM rd (some 6)) (moP (g + 10000) (oAct (fun n b => aWait n b w v) s)) := by
  refine PC.of [some (.ref 0), some (.int w), some (.int v)] rfl rfl (Nat.le_of_ble_eq_true rfl) ?_
  obtain ⟨n, pc, b, us, kp, rw, tx, rt, hd, sw⟩ := s
  refine pw_aload_n 1 rfl dX12_waits_0 rfl ?_
  refine pw_iconst (v := nI 0) 2 rfl dX12_waits_1 rfl ?_
  refine pw_putI 5 rfl dX12_waits_2 fX12_88 w12_7 (by first | rfl | assumption | exact rowS hh | exact mtS hm | exact ruS hr | exact mtA1 hm | exact mtA2 hm | exact mtA3 hm | exact mtA4 hm | exact mtA5 hm | exact mtA6 hm | exact mtA7 hm | exact ruA1 hr | exact ruA2 hr | exact ruA3 hr) rfl rfl rfl ?_
  rotate_left
  have hA0 := MA_thr (v := nI 0) hA
  have hD0 : MDg g (uI I 0 7 (nI 0)) := MDg_f hD (uI_ne (by omega)) (fun j => uI_ne (by omega))
  clear hA hD
  generalize uI I 0 7 (nI 0) = I at hA0 hD0 ⊢
  obtain ⟨mC, mB, mT, mN, mR, mU, mK, mH, mG⟩ := id hA0
  obtain ⟨aW, aU, aK⟩ := id hW
  have hE := MSt_A hA0
  have hn7 := mC.1
  have hn := mC.2.1
  refine pw_aload_n 6 rfl dX12_waits_5 rfl ?_
  refine pw_iload_n 7 rfl dX12_waits_6 rfl ?_
  refine pw_iload_n 8 rfl dX12_waits_7 rfl ?_
  refine pw_callVP (as := [_, _]) 11 rfl dX12_waits_8 mX12_255 vX12_canWait (m_canWait (d := d + 242) hn hn7 _ _) (by first | rfl | assumption | exact rowS hh | exact mtS hm | exact ruS hr | exact mtA1 hm | exact mtA2 hm | exact mtA3 hm | exact mtA4 hm | exact mtA5 hm | exact mtA6 hm | exact mtA7 hm | exact ruA1 hr | exact ruA2 hr | exact ruA3 hr) rfl (by decide) ⟨rfl, by decide, by decide, show (parseMethodDescriptor yX12_canWait.desc).map (fun d => d.parameters.length) = some 2 by decide +kernel⟩ (by omega) (by decide) (Nat.le_of_ble_eq_true rfl) rfl ?_
  rotate_left
  rcases qOf_cases hn7 w with ⟨q, hq, rfl, hi, hv⟩ | ⟨hi, hv⟩
  · rcases nOf_cases v with ⟨k, k1, k9, rfl⟩ | ⟨hk, ho⟩
    · have hw14 := (aW.1.2.2.2.2 q (by omega)).2.2.2.1
      rw [if_pos ⟨(by rw [hi]; exact (fun z => by cases z)), (by rw [nOf_y k1 k9]; exact (fun z => by cases z))⟩]
      refine pw_if_ne (tgt := 16) 14 rfl dX12_waits_11 rfl (fun h11 => ?_) (fun h11 => absurd h11 (by decide))
      refine pw_aload_n 17 rfl dX12_waits_16 rfl ?_
      refine pw_aload_n 18 rfl dX12_waits_17 rfl ?_
      refine pw_getR 21 rfl dX12_waits_18 fX12_9 (by first | rfl | assumption | exact rowS hh | exact mtS hm | exact ruS hr | exact mtA1 hm | exact mtA2 hm | exact mtA3 hm | exact mtA4 hm | exact mtA5 hm | exact mtA6 hm | exact mtA7 hm | exact ruA1 hr | exact ruA2 hr | exact ruA3 hr) rfl (by first | rfl | assumption | exact mtR0 hm | exact mtR1 hm | exact mtR2 hm | exact mtR3 hm | exact mtR4 hm | exact mtR5 hm | exact mtR6 hm | exact ruR0 hr | exact ruR1 hr | exact ruR3 hr) ?_
      refine pw_callV (as := [_]) 24 rfl dX12_waits_21 mX12_201 vX12_remember (m_remember (d := d + 243) rfl (by decide) (by decide) mB mU) (by first | rfl | assumption | exact rowS hh | exact mtS hm | exact ruS hr | exact mtA1 hm | exact mtA2 hm | exact mtA3 hm | exact mtA4 hm | exact mtA5 hm | exact mtA6 hm | exact mtA7 hm | exact ruA1 hr | exact ruA2 hr | exact ruA3 hr) rfl (by decide) ⟨rfl, by decide, by decide, show (parseMethodDescriptor yX12_remember.desc).map (fun d => d.parameters.length) = some 1 by decide +kernel⟩ (by omega) (by decide) (Nat.le_of_ble_eq_true rfl) rfl (fun r21 I21 J21 R21 c21 => ?_)
      obtain ⟨rfl, r1, r2, rfl, rfl⟩ := c21
      rotate_left
      have mB' : MB I21 1 b := MB_f mB (fun j => r2 _ _ (by omega) (by omega))
      refine pw_aload_n 25 rfl dX12_waits_24 rfl ?_
      refine pw_getR 28 rfl dX12_waits_25 fX12_9 (by first | rfl | assumption | exact rowS hh | exact mtS hm | exact ruS hr | exact mtA1 hm | exact mtA2 hm | exact mtA3 hm | exact mtA4 hm | exact mtA5 hm | exact mtA6 hm | exact mtA7 hm | exact ruA1 hr | exact ruA2 hr | exact ruA3 hr) rfl (by first | rfl | assumption | exact mtR0 hm | exact mtR1 hm | exact mtR2 hm | exact mtR3 hm | exact mtR4 hm | exact mtR5 hm | exact mtR6 hm | exact ruR0 hr | exact ruR1 hr | exact ruR3 hr) ?_
      refine pw_iload_n 29 rfl dX12_waits_28 rfl ?_
      refine pw_iload_n 30 rfl dX12_waits_29 rfl ?_
      refine pw_callS (as := [_, _, _]) 33 rfl dX12_waits_30 mX12_259 sX12_goWait (m_goWait (d := d + 243) (Or.inl rfl) (show q < 7 by omega) (by omega) (by omega) mB') ⟨rfl, by decide, by decide, show (parseMethodDescriptor yX12_goWait.desc).map (fun d => d.parameters.length) = some 3 by decide +kernel⟩ (by omega) (by decide) (Nat.le_of_ble_eq_true rfl) rfl (fun r30 I30 J30 R30 c30 => ?_)
      obtain ⟨rfl, t1, t2, rfl, rfl⟩ := c30
      rotate_left
      refine pw_aload_n 34 rfl dX12_waits_33 rfl ?_
      refine pw_getR 37 rfl dX12_waits_34 fX12_9 (by first | rfl | assumption | exact rowS hh | exact mtS hm | exact ruS hr | exact mtA1 hm | exact mtA2 hm | exact mtA3 hm | exact mtA4 hm | exact mtA5 hm | exact mtA6 hm | exact mtA7 hm | exact ruA1 hr | exact ruA2 hr | exact ruA3 hr) rfl (by first | rfl | assumption | exact mtR0 hm | exact mtR1 hm | exact mtR2 hm | exact mtR3 hm | exact mtR4 hm | exact mtR5 hm | exact mtR6 hm | exact ruR0 hr | exact ruR1 hr | exact ruR3 hr) ?_
      refine pw_bipush (v := nI 14) 39 rfl dX12_waits_37 rfl ?_
      refine pw_iload_n 40 rfl dX12_waits_39 rfl ?_
      first | refine pw_iaddN 41 rfl dX12_waits_40 ?_ | refine pw_iadd 41 rfl dX12_waits_40 ?_
      refine pw_ialdN 42 rfl dX12_waits_41 (by first | rfl | assumption | exact rowS hh | exact mtS hm | exact ruS hr | exact mtA1 hm | exact mtA2 hm | exact mtA3 hm | exact mtA4 hm | exact mtA5 hm | exact mtA6 hm | exact mtA7 hm | exact ruA1 hr | exact ruA2 hr | exact ruA3 hr) (by omega) (by first | decide | omega) ?_
      rotate_left
      rw [t1 (14 + q) (by omega), bu_eq]
      refine pw_iret dX12_waits_42 rfl ?_
      rotate_left
      exact moA_y hA0 hD0 (aWait_q (b := b) hi (nOf_y k1 k9)) (nI_pos (by omega)) t1 (MU_f r1 (t2 _ _ (by omega)) (fun j => t2 _ _ (by omega))) (fun a j q1 q2 q3 => by rw [t2 a j q1]; exact r2 a j q2 q3)
    · rw [if_neg (fun z => z.2 hk)]
      refine pw_if_ne (tgt := 16) 14 rfl dX12_waits_11 rfl (fun h11 => absurd (by rfl) h11) (fun h11 => ?_)
      refine pw_iconst (v := -1) 15 rfl dX12_waits_14 rfl ?_
      refine pw_iret dX12_waits_15 rfl ?_
      rotate_left
      exact moA_n hA0 hD0 (aWait_1 hk) (by decide)
  · rw [if_neg (fun z => z.1 hi)]
    refine pw_if_ne (tgt := 16) 14 rfl dX12_waits_11 rfl (fun h11 => absurd (by rfl) h11) (fun h11 => ?_)
    refine pw_iconst (v := -1) 15 rfl dX12_waits_14 rfl ?_
    refine pw_iret dX12_waits_15 rfl ?_
    rotate_left
    exact moA_n hA0 hD0 (aWait_0 hi) (by decide)
set_option maxRecDepth 100000 in
set_option maxHeartbeats 2000000 in
theorem mo_slips {d g : Nat} {s : aSt} {rd : Option Nat} {I : pI} {J : pJ} (hA : MA I J s) (hD : MDg g I) (hg : g ≤ 500000000) (hW : WA s) (w v : Int32) : PC SM (d + 245) yX12_slips cX12_slips 4 (some .int) [.ref 0, .int w, .int v] (I) (J) (RM rd (some 6)) (moP (g + 10000) (oAct (fun n b => aSlip n b w v) s)) := by
  refine PC.of [some (.ref 0), some (.int w), some (.int v), none] rfl rfl (Nat.le_of_ble_eq_true rfl) ?_
  obtain ⟨n, pc, b, us, kp, rw, tx, rt, hd, sw⟩ := s
  refine pw_aload_n 1 rfl dX12_slips_0 rfl ?_
  refine pw_iconst (v := nI 0) 2 rfl dX12_slips_1 rfl ?_
  refine pw_putI 5 rfl dX12_slips_2 fX12_88 w12_7 (by first | rfl | assumption | exact rowS hh | exact mtS hm | exact ruS hr | exact mtA1 hm | exact mtA2 hm | exact mtA3 hm | exact mtA4 hm | exact mtA5 hm | exact mtA6 hm | exact mtA7 hm | exact ruA1 hr | exact ruA2 hr | exact ruA3 hr) rfl rfl rfl ?_
  rotate_left
  have hA0 := MA_thr (v := nI 0) hA
  have hD0 : MDg g (uI I 0 7 (nI 0)) := MDg_f hD (uI_ne (by omega)) (fun j => uI_ne (by omega))
  clear hA hD
  generalize uI I 0 7 (nI 0) = I at hA0 hD0 ⊢
  obtain ⟨mC, mB, mT, mN, mR, mU, mK, mH, mG⟩ := id hA0
  obtain ⟨aW, aU, aK⟩ := id hW
  have hE := MSt_A hA0
  have hn7 := mC.1
  have hn := mC.2.1
  refine pw_aload_n 6 rfl dX12_slips_5 rfl ?_
  refine pw_aload_n 7 rfl dX12_slips_6 rfl ?_
  refine pw_getR 10 rfl dX12_slips_7 fX12_9 (by first | rfl | assumption | exact rowS hh | exact mtS hm | exact ruS hr | exact mtA1 hm | exact mtA2 hm | exact mtA3 hm | exact mtA4 hm | exact mtA5 hm | exact mtA6 hm | exact mtA7 hm | exact ruA1 hr | exact ruA2 hr | exact ruA3 hr) rfl (by first | rfl | assumption | exact mtR0 hm | exact mtR1 hm | exact mtR2 hm | exact mtR3 hm | exact mtR4 hm | exact mtR5 hm | exact mtR6 hm | exact ruR0 hr | exact ruR1 hr | exact ruR3 hr) ?_
  refine pw_iload_n 11 rfl dX12_slips_10 rfl ?_
  refine pw_iload_n 12 rfl dX12_slips_11 rfl ?_
  refine pw_callVP (as := [_, _, _]) 15 rfl dX12_slips_12 mX12_263 vX12_refusesSlip (m_refusesSlip (d := d + 242) (Or.inl rfl) hn hn7 (WF_way aW.1) mB _ _) (by first | rfl | assumption | exact rowS hh | exact mtS hm | exact ruS hr | exact mtA1 hm | exact mtA2 hm | exact mtA3 hm | exact mtA4 hm | exact mtA5 hm | exact mtA6 hm | exact mtA7 hm | exact ruA1 hr | exact ruA2 hr | exact ruA3 hr) rfl (by decide) ⟨rfl, by decide, by decide, show (parseMethodDescriptor yX12_refusesSlip.desc).map (fun d => d.parameters.length) = some 3 by decide +kernel⟩ (by omega) (by decide) (Nat.le_of_ble_eq_true rfl) rfl ?_
  rotate_left
  rcases qOf_cases hn7 w with ⟨q, hq, rfl, hi, hv⟩ | ⟨hi, hv⟩
  · rcases nOf_cases v with ⟨k, k1, k9, rfl⟩ | ⟨hk, ho⟩
    · have er : rfF n b (nI q) (nI k) = if b (7 + q) = 0 then -2 else nI 0 := by unfold rfF; rw [hi]; show (match nOf (nI k) with | none => _ | some _ => _) = _; rw [nOf_y k1 k9]
      have ea := aSlip_q (b := b) hi (nOf_y k1 k9)
      have hbq := (aW.1.2.2.2.2 q (by omega)).2.1
      have ht := aW.1.2.1
      by_cases c : b (7 + q) = 0
      · rw [if_pos c] at er ea
        rw [er]
        refine pw_istore_n 16 rfl dX12_slips_15 (by decide) ?_
        refine pw_iload_n 17 rfl dX12_slips_16 rfl ?_
        refine pw_if_ge (tgt := 22) 20 rfl dX12_slips_17 rfl (fun h17 => absurd h17 (by decide)) (fun h17 => ?_)
        refine pw_iload_n 21 rfl dX12_slips_20 rfl ?_
        refine pw_iret dX12_slips_21 rfl ?_
        rotate_left
        exact moA_n hA0 hD0 ea (by decide)
      · rw [if_neg c] at er ea
        rw [er]
        refine pw_istore_n 16 rfl dX12_slips_15 (by decide) ?_
        refine pw_iload_n 17 rfl dX12_slips_16 rfl ?_
        refine pw_if_ge (tgt := 22) 20 rfl dX12_slips_17 rfl (fun h17 => ?_) (fun h17 => absurd (by decide) h17)
        refine pw_aload_n 23 rfl dX12_slips_22 rfl ?_
        refine pw_aload_n 24 rfl dX12_slips_23 rfl ?_
        refine pw_getR 27 rfl dX12_slips_24 fX12_9 (by first | rfl | assumption | exact rowS hh | exact mtS hm | exact ruS hr | exact mtA1 hm | exact mtA2 hm | exact mtA3 hm | exact mtA4 hm | exact mtA5 hm | exact mtA6 hm | exact mtA7 hm | exact ruA1 hr | exact ruA2 hr | exact ruA3 hr) rfl (by first | rfl | assumption | exact mtR0 hm | exact mtR1 hm | exact mtR2 hm | exact mtR3 hm | exact mtR4 hm | exact mtR5 hm | exact mtR6 hm | exact ruR0 hr | exact ruR1 hr | exact ruR3 hr) ?_
        refine pw_callV (as := [_]) 30 rfl dX12_slips_27 mX12_201 vX12_remember (m_remember (d := d + 243) rfl (by decide) (by decide) mB mU) (by first | rfl | assumption | exact rowS hh | exact mtS hm | exact ruS hr | exact mtA1 hm | exact mtA2 hm | exact mtA3 hm | exact mtA4 hm | exact mtA5 hm | exact mtA6 hm | exact mtA7 hm | exact ruA1 hr | exact ruA2 hr | exact ruA3 hr) rfl (by decide) ⟨rfl, by decide, by decide, show (parseMethodDescriptor yX12_remember.desc).map (fun d => d.parameters.length) = some 1 by decide +kernel⟩ (by omega) (by decide) (Nat.le_of_ble_eq_true rfl) rfl (fun r27 I27 J27 R27 c27 => ?_)
        obtain ⟨rfl, r1, r2, rfl, rfl⟩ := c27
        rotate_left
        have mB' : MB I27 1 b := MB_f mB (fun j => r2 _ _ (by omega) (by omega))
        refine pw_aload_n 31 rfl dX12_slips_30 rfl ?_
        refine pw_getR 34 rfl dX12_slips_31 fX12_9 (by first | rfl | assumption | exact rowS hh | exact mtS hm | exact ruS hr | exact mtA1 hm | exact mtA2 hm | exact mtA3 hm | exact mtA4 hm | exact mtA5 hm | exact mtA6 hm | exact mtA7 hm | exact ruA1 hr | exact ruA2 hr | exact ruA3 hr) rfl (by first | rfl | assumption | exact mtR0 hm | exact mtR1 hm | exact mtR2 hm | exact mtR3 hm | exact mtR4 hm | exact mtR5 hm | exact mtR6 hm | exact ruR0 hr | exact ruR1 hr | exact ruR3 hr) ?_
        refine pw_iload_n 35 rfl dX12_slips_34 rfl ?_
        refine pw_iload_n 36 rfl dX12_slips_35 rfl ?_
        refine pw_callS (as := [_, _, _]) 39 rfl dX12_slips_36 mX12_267 sX12_goSlip (m_goSlip (d := d + 243) (Or.inl rfl) (show q < 7 by omega) (by omega) (by omega) mB') ⟨rfl, by decide, by decide, show (parseMethodDescriptor yX12_goSlip.desc).map (fun d => d.parameters.length) = some 3 by decide +kernel⟩ (by omega) (by decide) (Nat.le_of_ble_eq_true rfl) rfl (fun r36 I36 J36 R36 c36 => ?_)
        obtain ⟨rfl, t1, t2, rfl, rfl⟩ := c36
        rotate_left
        refine pw_aload_n 40 rfl dX12_slips_39 rfl ?_
        refine pw_getR 43 rfl dX12_slips_40 fX12_9 (by first | rfl | assumption | exact rowS hh | exact mtS hm | exact ruS hr | exact mtA1 hm | exact mtA2 hm | exact mtA3 hm | exact mtA4 hm | exact mtA5 hm | exact mtA6 hm | exact mtA7 hm | exact ruA1 hr | exact ruA2 hr | exact ruA3 hr) rfl (by first | rfl | assumption | exact mtR0 hm | exact mtR1 hm | exact mtR2 hm | exact mtR3 hm | exact mtR4 hm | exact mtR5 hm | exact mtR6 hm | exact ruR0 hr | exact ruR1 hr | exact ruR3 hr) ?_
        refine pw_iload_n 44 rfl dX12_slips_43 rfl ?_
        refine pw_ialdN 45 rfl dX12_slips_44 (by first | rfl | assumption | exact rowS hh | exact mtS hm | exact ruS hr | exact mtA1 hm | exact mtA2 hm | exact mtA3 hm | exact mtA4 hm | exact mtA5 hm | exact mtA6 hm | exact mtA7 hm | exact ruA1 hr | exact ruA2 hr | exact ruA3 hr) (by omega) (by first | decide | omega) ?_
        rotate_left
        rw [t1 q (by omega), bu_ne (by omega), bu_eq]
        refine pw_iret dX12_slips_45 rfl ?_
        rotate_left
        exact moA_y hA0 hD0 ea (nI_pos (by omega)) t1 (MU_f r1 (t2 _ _ (by omega)) (fun j => t2 _ _ (by omega))) (fun a j q1 q2 q3 => by rw [t2 a j q1]; exact r2 a j q2 q3)
    · rw [show rfF n b (nI q) v = -1 from by unfold rfF; rw [hi]; show (match nOf v with | none => _ | some _ => _) = _; rw [hk]]
      refine pw_istore_n 16 rfl dX12_slips_15 (by decide) ?_
      refine pw_iload_n 17 rfl dX12_slips_16 rfl ?_
      refine pw_if_ge (tgt := 22) 20 rfl dX12_slips_17 rfl (fun h17 => absurd h17 (by decide)) (fun h17 => ?_)
      refine pw_iload_n 21 rfl dX12_slips_20 rfl ?_
      refine pw_iret dX12_slips_21 rfl ?_
      rotate_left
      exact moA_n hA0 hD0 (aSlip_1 hk) (by decide)
  · rw [show rfF n b w v = -1 from by unfold rfF; rw [hi]]
    refine pw_istore_n 16 rfl dX12_slips_15 (by decide) ?_
    refine pw_iload_n 17 rfl dX12_slips_16 rfl ?_
    refine pw_if_ge (tgt := 22) 20 rfl dX12_slips_17 rfl (fun h17 => absurd h17 (by decide)) (fun h17 => ?_)
    refine pw_iload_n 21 rfl dX12_slips_20 rfl ?_
    refine pw_iret dX12_slips_21 rfl ?_
    rotate_left
    exact moA_n hA0 hD0 (aSlip_0 hi) (by decide)
