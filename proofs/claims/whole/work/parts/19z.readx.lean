/-! the class's Rule: reading -/
set_option maxRecDepth 100000 in
set_option maxHeartbeats 2000000 in
theorem x_addNumber {S : pS} {d r rc k : Nat} {v : Int32} {I : pI} {J : pJ} {R : pR} (hS : S[r]? = some (6, 9)) (hC : S[rc]? = some (100, 40)) (hR : R r 0 = some rc) (hne : rc ≠ r) (h1 : I r 2 = nI k) (hl : k < 40) : PC S (d) yX6_addNumber cX6_addNumber 2 none [.ref r, .int v] (I) (J) (R) (fun r' I' J' R' => r' = none ∧ I' = uI (uI I rc k v) r 2 (nI (k + 1)) ∧ J = J' ∧ R' = R) := by
  refine PC.of [some (.ref r), some (.int v)] rfl rfl (Nat.le_of_ble_eq_true rfl) ?_
  refine pw_aload_n 1 rfl dX6_addNumber_0 rfl ?_
  refine pw_getI 4 rfl dX6_addNumber_1 fX6_18 (by first | rfl | assumption | exact rowS hh | exact mtS hm | exact ruS hr | exact mtA1 hm | exact mtA2 hm | exact mtA3 hm | exact mtA4 hm | exact mtA5 hm | exact mtA6 hm | exact mtA7 hm | exact ruA1 hr | exact ruA2 hr | exact ruA3 hr) rfl ?_
  rotate_left
  rw [h1]
  refine pw_if_lt (tgt := 36) 7 rfl dX6_addNumber_4 rfl (fun h4 => absurd h4 (nI_pos (by omega))) (fun h4 => ?_)
  refine pw_aload_n 8 rfl dX6_addNumber_7 rfl ?_
  refine pw_getI 11 rfl dX6_addNumber_8 fX6_18 (by first | rfl | assumption | exact rowS hh | exact mtS hm | exact ruS hr | exact mtA1 hm | exact mtA2 hm | exact mtA3 hm | exact mtA4 hm | exact mtA5 hm | exact mtA6 hm | exact mtA7 hm | exact ruA1 hr | exact ruA2 hr | exact ruA3 hr) rfl ?_
  rotate_left
  rw [h1]
  refine pw_bipush (v := nI 40) 13 rfl dX6_addNumber_11 rfl ?_
  refine pw_icmp_ge (tgt := 36) 16 rfl dX6_addNumber_13 rfl (fun h13 => absurd h13 (by (simp (disch := omega) only [nI_leI, nI_ltI, nI_eq, show (0 : Int32) = nI 0 from rfl, not_true_eq_false, not_false_eq_true] <;> omega))) (fun h13 => ?_)
  refine pw_aload_n 17 rfl dX6_addNumber_16 rfl ?_
  refine pw_getR 20 rfl dX6_addNumber_17 fX6_11 (by first | rfl | assumption | exact rowS hh | exact mtS hm | exact ruS hr | exact mtA1 hm | exact mtA2 hm | exact mtA3 hm | exact mtA4 hm | exact mtA5 hm | exact mtA6 hm | exact mtA7 hm | exact ruA1 hr | exact ruA2 hr | exact ruA3 hr) rfl (by first | rfl | assumption | exact mtR0 hm | exact mtR1 hm | exact mtR2 hm | exact mtR3 hm | exact mtR4 hm | exact mtR5 hm | exact mtR6 hm | exact ruR0 hr | exact ruR1 hr | exact ruR3 hr) ?_
  refine pw_aload_n 21 rfl dX6_addNumber_20 rfl ?_
  refine pw_getI 24 rfl dX6_addNumber_21 fX6_18 (by first | rfl | assumption | exact rowS hh | exact mtS hm | exact ruS hr | exact mtA1 hm | exact mtA2 hm | exact mtA3 hm | exact mtA4 hm | exact mtA5 hm | exact mtA6 hm | exact mtA7 hm | exact ruA1 hr | exact ruA2 hr | exact ruA3 hr) rfl ?_
  rotate_left
  rw [h1]
  refine pw_iload_n 25 rfl dX6_addNumber_24 rfl ?_
  refine pw_iastN 26 rfl dX6_addNumber_25 (by first | rfl | assumption | exact rowS hh | exact mtS hm | exact ruS hr | exact mtA1 hm | exact mtA2 hm | exact mtA3 hm | exact mtA4 hm | exact mtA5 hm | exact mtA6 hm | exact mtA7 hm | exact ruA1 hr | exact ruA2 hr | exact ruA3 hr) (by omega) (by decide) ?_
  refine pw_aload_n 27 rfl dX6_addNumber_26 rfl ?_
  refine pw_dup 28 rfl dX6_addNumber_27 rfl ?_
  refine pw_getI 31 rfl dX6_addNumber_28 fX6_18 (by first | rfl | assumption | exact rowS hh | exact mtS hm | exact ruS hr | exact mtA1 hm | exact mtA2 hm | exact mtA3 hm | exact mtA4 hm | exact mtA5 hm | exact mtA6 hm | exact mtA7 hm | exact ruA1 hr | exact ruA2 hr | exact ruA3 hr) rfl ?_
  rotate_left
  rw [uI_ne (fun e => hne e.1.symm), h1]
  refine pw_iconst (v := nI 1) 32 rfl dX6_addNumber_31 rfl ?_
  first | refine pw_iaddN 33 rfl dX6_addNumber_32 ?_ | refine pw_iadd 33 rfl dX6_addNumber_32 ?_
  refine pw_putI 36 rfl dX6_addNumber_33 fX6_18 w6_2 (by first | rfl | assumption | exact rowS hh | exact mtS hm | exact ruS hr | exact mtA1 hm | exact mtA2 hm | exact mtA3 hm | exact mtA4 hm | exact mtA5 hm | exact mtA6 hm | exact mtA7 hm | exact ruA1 hr | exact ruA2 hr | exact ruA3 hr) rfl rfl rfl ?_
  refine pw_vret dX6_addNumber_36 ?_
  rotate_left
  exact ⟨rfl, rfl, rfl, rfl⟩
set_option maxRecDepth 100000 in
set_option maxHeartbeats 2000000 in
theorem x_addSign {S : pS} {d r rc k s : Nat} {I : pI} {J : pJ} {R : pR} (hS : S[r]? = some (6, 9)) (hC : S[rc]? = some (100, 40)) (hR : R r 0 = some rc) (hne : rc ≠ r) (h1 : I r 2 = nI k) (hl : k < 40) : PC S (d + 1) yX6_addSign cX6_addSign 2 none [.ref r, .int (nI s)] (I) (J) (R) (fun r' I' J' R' => r' = none ∧ I' = uI (uI I rc k (nI (1000 + s))) r 2 (nI (k + 1)) ∧ J = J' ∧ R' = R) := by
  refine PC.of [some (.ref r), some (.int (nI s))] rfl rfl (Nat.le_of_ble_eq_true rfl) ?_
  refine pw_aload_n 1 rfl dX6_addSign_0 rfl ?_
  refine pw_sipush (v := nI 1000) 4 rfl dX6_addSign_1 rfl ?_
  refine pw_iload_n 5 rfl dX6_addSign_4 rfl ?_
  first | refine pw_iaddN 6 rfl dX6_addSign_5 ?_ | refine pw_iadd 6 rfl dX6_addSign_5 ?_
  refine pw_callV (as := [_]) 9 rfl dX6_addSign_6 mX6_44 vX6_addNumber (x_addNumber (d := d) hS hC hR hne h1 hl) (by first | rfl | assumption | exact rowS hh | exact mtS hm | exact ruS hr | exact mtA1 hm | exact mtA2 hm | exact mtA3 hm | exact mtA4 hm | exact mtA5 hm | exact mtA6 hm | exact mtA7 hm | exact ruA1 hr | exact ruA2 hr | exact ruA3 hr) rfl (by decide) ⟨rfl, by decide, by decide, show (parseMethodDescriptor yX6_addNumber.desc).map (fun d => d.parameters.length) = some 1 by decide +kernel⟩ (by omega) (by decide) (Nat.le_of_ble_eq_true rfl) rfl (fun r6 I6 J6 R6 c6 => ?_)
  obtain ⟨rfl, rfl, rfl, rfl⟩ := c6
  refine pw_vret dX6_addSign_9 ?_
  rotate_left
  exact ⟨rfl, rfl, rfl, rfl⟩
theorem strn_lt {c : Nat} (h : strn c = 0) : c ≠ 60 ∧ c ≠ 62 ∧ c ≠ 61 ∧ c ≠ 43 ∧ c ≠ 45 ∧ c ≠ 42 ∧ c ≠ 47 ∧ c ≠ 256 := by
  refine ⟨?_, ?_, ?_, ?_, ?_, ?_, ?_, ?_⟩ <;> rintro rfl <;> exact absurd h (by decide)
theorem so_off : ∀ c, c < 257 → strn c = 0 → Op.lookupswitch.offset (#[(42, 79), (43, 77), (45, 77), (47, 79), (60, 75), (61, 75), (62, 75), (256, 81)] : Array (Int × Int)).toList 83 (nI c).toInt = 83 := by decide +kernel
theorem strn_of {c : Nat} : strn c = 0 ∨ c = 60 ∨ c = 62 ∨ c = 61 ∨ c = 43 ∨ c = 45 ∨ c = 42 ∨ c = 47 ∨ c = 256 := by
  unfold strn
  by_cases a : c = 60 ∨ c = 62 ∨ c = 61
  · omega
  · rw [if_neg a]
    by_cases b : c = 43 ∨ c = 45
    · omega
    · rw [if_neg b]
      by_cases d : c = 42 ∨ c = 47
      · omega
      · rw [if_neg d]
        by_cases e : c = 256
        · omega
        · rw [if_neg e]; exact Or.inl rfl
theorem strn_le (c : Nat) : strn c ≤ 4 := by
  rcases strn_of (c := c) with h | rfl | rfl | rfl | rfl | rfl | rfl | rfl | rfl
  · omega
  all_goals decide
set_option maxRecDepth 100000 in
set_option maxHeartbeats 2000000 in
theorem x_strengthOf {d c : Nat} {I : pI} {J : pJ} (hc : c < 257) : PC SX (d) yX6_strengthOf cX6_strengthOf 1 (some .int) [.int (nI c)] (I) (J) (RX) (pPu (.int (nI (strn c))) I J RX) := by
  refine PC.of [some (.int (nI c))] rfl rfl (Nat.le_of_ble_eq_true rfl) ?_
  rcases strn_of (c := c) with h | rfl | rfl | rfl | rfl | rfl | rfl | rfl | rfl
  · rw [h]
    refine pw_iload_n 1 rfl dX6_strengthOf_0 rfl ?_
    refine pw_lookup (tgt := 84) (off := 83) dX6_strengthOf_1 (by decide) (so_off c hc h) rfl ?_
    refine pw_iconst (v := nI 0) 85 rfl dX6_strengthOf_84 rfl ?_
    refine pw_iret dX6_strengthOf_85 rfl ?_
    rotate_left
    exact ⟨rfl, rfl, rfl, rfl⟩
  · refine pw_iload_n 1 rfl dX6_strengthOf_0 rfl ?_
    refine pw_lookup (tgt := 76) (off := 75) dX6_strengthOf_1 (by decide) (by decide) rfl ?_
    refine pw_iconst (v := nI 1) 77 rfl dX6_strengthOf_76 rfl ?_
    refine pw_iret dX6_strengthOf_77 rfl ?_
    rotate_left
    exact ⟨rfl, rfl, rfl, rfl⟩
  · refine pw_iload_n 1 rfl dX6_strengthOf_0 rfl ?_
    refine pw_lookup (tgt := 76) (off := 75) dX6_strengthOf_1 (by decide) (by decide) rfl ?_
    refine pw_iconst (v := nI 1) 77 rfl dX6_strengthOf_76 rfl ?_
    refine pw_iret dX6_strengthOf_77 rfl ?_
    rotate_left
    exact ⟨rfl, rfl, rfl, rfl⟩
  · refine pw_iload_n 1 rfl dX6_strengthOf_0 rfl ?_
    refine pw_lookup (tgt := 76) (off := 75) dX6_strengthOf_1 (by decide) (by decide) rfl ?_
    refine pw_iconst (v := nI 1) 77 rfl dX6_strengthOf_76 rfl ?_
    refine pw_iret dX6_strengthOf_77 rfl ?_
    rotate_left
    exact ⟨rfl, rfl, rfl, rfl⟩
  · refine pw_iload_n 1 rfl dX6_strengthOf_0 rfl ?_
    refine pw_lookup (tgt := 78) (off := 77) dX6_strengthOf_1 (by decide) (by decide) rfl ?_
    refine pw_iconst (v := nI 2) 79 rfl dX6_strengthOf_78 rfl ?_
    refine pw_iret dX6_strengthOf_79 rfl ?_
    rotate_left
    exact ⟨rfl, rfl, rfl, rfl⟩
  · refine pw_iload_n 1 rfl dX6_strengthOf_0 rfl ?_
    refine pw_lookup (tgt := 78) (off := 77) dX6_strengthOf_1 (by decide) (by decide) rfl ?_
    refine pw_iconst (v := nI 2) 79 rfl dX6_strengthOf_78 rfl ?_
    refine pw_iret dX6_strengthOf_79 rfl ?_
    rotate_left
    exact ⟨rfl, rfl, rfl, rfl⟩
  · refine pw_iload_n 1 rfl dX6_strengthOf_0 rfl ?_
    refine pw_lookup (tgt := 80) (off := 79) dX6_strengthOf_1 (by decide) (by decide) rfl ?_
    refine pw_iconst (v := nI 3) 81 rfl dX6_strengthOf_80 rfl ?_
    refine pw_iret dX6_strengthOf_81 rfl ?_
    rotate_left
    exact ⟨rfl, rfl, rfl, rfl⟩
  · refine pw_iload_n 1 rfl dX6_strengthOf_0 rfl ?_
    refine pw_lookup (tgt := 80) (off := 79) dX6_strengthOf_1 (by decide) (by decide) rfl ?_
    refine pw_iconst (v := nI 3) 81 rfl dX6_strengthOf_80 rfl ?_
    refine pw_iret dX6_strengthOf_81 rfl ?_
    rotate_left
    exact ⟨rfl, rfl, rfl, rfl⟩
  · refine pw_iload_n 1 rfl dX6_strengthOf_0 rfl ?_
    refine pw_lookup (tgt := 82) (off := 81) dX6_strengthOf_1 (by decide) (by decide) rfl ?_
    refine pw_iconst (v := nI 4) 83 rfl dX6_strengthOf_82 rfl ?_
    refine pw_iret dX6_strengthOf_83 rfl ?_
    rotate_left
    exact ⟨rfl, rfl, rfl, rfl⟩
/-- the class's Rule at 13 while it is read -/
def XQ (I : pI) (z : mSt) : Prop := I 13 2 = nI z.1.length ∧ I 13 4 = nI z.2.1.length ∧ I 13 5 = nI z.2.2.1 ∧ I 13 6 = nI (bts z.2.2.2.1 5) ∧ I 13 7 = nI (if z.2.2.2.2.1 = true then 1 else 0) ∧ I 13 8 = nI z.2.2.2.2.2 ∧ (∀ j c, z.1[j]? = some c → I 14 j = nI c) ∧ (∀ j c, z.2.1.reverse[j]? = some c → I 16 j = nI c)
def fR (I I' : pI) : Prop := ∀ a, a ≠ 13 → a ≠ 14 → a ≠ 16 → I' a = I a
/-- what holds of it behind p signs -/
def WQ (p : Nat) (z : mSt) : Prop := z.1.length + z.2.1.length ≤ p ∧ z.2.2.1 ≤ 4 ∧ z.2.2.2.2.2 ≤ 3 ∧ (∀ c ∈ z.1, okC c) ∧ (∀ w ∈ z.2.1, w = 40 ∨ w = 256 ∨ isOp w) ∧ (z.2.2.2.2.1 = false → 1 ≤ z.2.2.2.2.2 → z.1 ≠ [] ∧ z.1.getLastD 0 < 10 ^ z.2.2.2.2.2)
theorem rls_len (s : Nat) : ∀ (wt cd : List Nat), (rls s wt cd).1.length + (rls s wt cd).2.length = wt.length + cd.length
  | [], cd => rfl
  | w :: ws, cd => by
    rw [rls]
    by_cases h : strn w < s
    · rw [if_pos h]
    · rw [if_neg h, rls_len s ws]
      simp only [List.length_append, List.length_cons, List.length_nil]
      omega
theorem rls_ok {s : Nat} (hs : 1 ≤ s) : ∀ (wt cd : List Nat), (∀ c ∈ cd, okC c) → (∀ w ∈ wt, w = 40 ∨ w = 256 ∨ isOp w) → (∀ c ∈ (rls s wt cd).2, okC c) ∧ (∀ w ∈ (rls s wt cd).1, w = 40 ∨ w = 256 ∨ isOp w)
  | [], cd, h1, h2 => ⟨h1, h2⟩
  | w :: ws, cd, h1, h2 => by
    rw [rls]
    by_cases h : strn w < s
    · rw [if_pos h]; exact ⟨h1, h2⟩
    · rw [if_neg h]
      refine rls_ok hs ws _ (fun c hc => ?_) (fun x hx => h2 x (List.mem_cons_of_mem _ hx))
      rcases List.mem_append.mp hc with q | q
      · exact h1 c q
      · rw [List.mem_singleton.mp q]
        rcases h2 w (List.mem_cons_self ..) with rfl | rfl | e
        · exact absurd (show strn 40 < s by rw [show strn 40 = 0 from rfl]; omega) h
        · exact Or.inr (Or.inr (Or.inl rfl))
        · exact Or.inr (Or.inr (Or.inr ⟨by omega, by rw [show 1000 + w - 1000 = w by omega]; exact e⟩))
theorem rls_head {s : Nat} : ∀ (wt cd : List Nat), ∀ w ∈ (rls s wt cd).1, w ∈ wt
  | [], cd, w, h => by cases h
  | x :: ws, cd, w, h => by
    rw [rls] at h
    by_cases e : strn x < s
    · rw [if_pos e] at h; exact h
    · rw [if_neg e] at h; exact List.mem_cons_of_mem _ (rls_head ws _ w h)
theorem okC_op {c : Nat} (h : isLet c) : okC (1000 + c) := Or.inr (Or.inl ⟨by omega, by rw [show 1000 + c - 1000 = c by omega]; exact h⟩)
theorem WQ_step {p c : Nat} {z z' : mSt} (h : WQ p z) (hs : mSp z c = some z') : WQ (p + 1) z' := by
  obtain ⟨cd, wt, dp, cm, wn, dg⟩ := z
  obtain ⟨a1, a2, a3, a4, a5, a6⟩ := h
  rw [mSp] at hs
  simp only at a1 a2 a3 a4 a5 a6
  by_cases hw : wn = true
  · rw [if_pos hw] at hs
    by_cases e45 : c = 45
    · rw [if_pos e45] at hs
      cases hs
      refine ⟨by simp only [List.length_cons]; omega, a2, a3, a4, fun w hm => ?_, fun q => by cases q⟩
      rcases List.mem_cons.mp hm with q | q
      · exact Or.inr (Or.inl q)
      · exact a5 w q
    · rw [if_neg e45] at hs
      by_cases e40 : c = 40
      · rw [if_pos e40] at hs
        by_cases h4 : 4 ≤ dp
        · rw [if_pos h4] at hs; cases hs
        · rw [if_neg h4] at hs
          cases hs
          refine ⟨by simp only [List.length_cons]; omega, by show dp + 1 ≤ 4; omega, a3, a4, fun w hm => ?_, fun q => by cases q⟩
          rcases List.mem_cons.mp hm with q | q
          · exact Or.inl q
          · exact a5 w q
      · rw [if_neg e40] at hs
        by_cases hd : isDg c = true
        · rw [if_pos hd] at hs
          cases hs
          have hc : c ≤ 57 := by simp [isDg] at hd; exact hd.2
          refine ⟨by simp only [List.length_append, List.length_singleton]; omega, a2, by show 1 ≤ 3; omega, fun x hm => ?_, a5, fun _ _ => ⟨by simp, ?_⟩⟩
          · rcases List.mem_append.mp hm with q | q
            · exact a4 x q
            · rw [List.mem_singleton.mp q]; exact Or.inl (by omega)
          · simp only [List.getLastD_concat]; show c - 48 < 10; omega
        · rw [if_neg hd] at hs
          by_cases hl : letB c = true
          · rw [if_pos hl] at hs
            cases hs
            refine ⟨by simp only [List.length_append, List.length_singleton]; omega, a2, by show 0 ≤ 3; omega, fun x hm => ?_, a5, fun _ q => absurd q (by show ¬ 1 ≤ 0; omega)⟩
            rcases List.mem_append.mp hm with q | q
            · exact a4 x q
            · rw [List.mem_singleton.mp q]; exact okC_op (letB_iff.mp hl)
          · rw [if_neg hl] at hs; cases hs
  · have hwf : wn = false := by cases wn <;> simp_all
    rw [if_neg hw] at hs
    by_cases hd : isDg c = true
    · rw [if_pos hd] at hs
      by_cases hg : dg < 1 ∨ 2 < dg
      · rw [if_pos hg] at hs; cases hs
      · rw [if_neg hg] at hs
        cases hs
        obtain ⟨b1, b2⟩ := a6 hwf (by omega)
        have hc : c ≤ 57 := by simp [isDg] at hd; exact hd.2
        have hlen : 1 ≤ cd.length := by
          rcases cd with _ | ⟨x, xs⟩
          · exact absurd rfl b1
          · simp
        have hv : cd.getLastD 0 * 10 + (c - 48) < 10 ^ (dg + 1) := by
          rw [Nat.pow_succ]; omega
        have hp : 10 ^ (dg + 1) ≤ 1000 := Nat.pow_le_pow_right (n := 10) (by decide) (show dg + 1 ≤ 3 by omega)
        refine ⟨by simp only [List.length_append, List.length_singleton, List.length_dropLast]; omega, a2, by show dg + 1 ≤ 3; omega, fun x hm => ?_, a5, fun _ _ => ⟨by simp, ?_⟩⟩
        · rcases List.mem_append.mp hm with q | q
          · exact a4 x (List.dropLast_subset _ q)
          · rw [List.mem_singleton.mp q]; exact Or.inl (by omega)
        · simp only [List.getLastD_concat]; exact hv
    · rw [if_neg hd] at hs
      by_cases e41 : c = 41
      · rw [if_pos e41] at hs
        by_cases h1 : dp < 1
        · rw [if_pos h1] at hs; cases hs
        · rw [if_neg h1] at hs
          cases hs
          have hl := rls_len 1 wt cd
          have ho := rls_ok (Nat.le_refl 1) wt cd a4 a5
          refine ⟨by simp only [List.length_tail]; omega, by show dp - 1 ≤ 4; omega, by show 0 ≤ 3; omega, ho.1, fun w hm => ho.2 w (List.mem_of_mem_tail hm), fun _ q => absurd q (by show ¬ 1 ≤ 0; omega)⟩
      · rw [if_neg e41] at hs
        by_cases hn : c = 256 ∨ strn c < 1 ∨ (strn c = 1 ∧ cm dp = true)
        · rw [if_pos hn] at hs; cases hs
        · rw [if_neg hn] at hs
          cases hs
          have hl := rls_len (strn c) wt cd
          have h1 : 1 ≤ strn c := by omega
          have ho := rls_ok h1 wt cd a4 a5
          refine ⟨by simp only [List.length_cons]; omega, a2, a3, ho.1, fun w hm => ?_, fun q => by cases q⟩
          rcases List.mem_cons.mp hm with q | q
          · rw [q]; exact Or.inr (Or.inr (strn_op h1 (by omega)))
          · exact ho.2 w q
