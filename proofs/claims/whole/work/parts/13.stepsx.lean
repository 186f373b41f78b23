theorem ru_mt {m r a : Nat} (hm : isMt m) (hr : isRu r) (h1 : m ≤ a) (h2 : a ≤ m + 7) : a ≠ r ∧ a ≠ r + 1 ∧ a ≠ r + 2 ∧ a ≠ r + 3 := by
  rcases hm with rfl | rfl | rfl <;> rcases hr with rfl | rfl <;> omega
theorem rev_cons_get {s : List Int32} {x y : Int32} {j : Nat} (h : (x :: s).reverse[j]? = some y) : (j = s.length ∧ y = x) ∨ (j < s.length ∧ s.reverse[j]? = some y) := by
  rw [List.reverse_cons] at h
  by_cases hj : j < s.length
  · rw [List.getElem?_append_left (by simpa using hj)] at h
    exact Or.inr ⟨hj, h⟩
  · rw [List.getElem?_append_right (by simpa using Nat.le_of_not_lt hj)] at h
    have h0 : j - s.reverse.length < 1 := (List.getElem?_eq_some_iff.mp h).1
    have : j = s.length := by simp at h0; omega
    subst this
    simp at h
    exact Or.inl ⟨rfl, h.symm⟩
theorem rev_cons_of {s : List Int32} {x : Int32} : (x :: s).reverse[s.length]? = some x := by
  rw [List.reverse_cons, List.getElem?_append_right (by simp)]
  simp
theorem rev_cons_lt {s : List Int32} {x y : Int32} {j : Nat} (h : s.reverse[j]? = some y) : (x :: s).reverse[j]? = some y := by
  have hj : j < s.reverse.length := (List.getElem?_eq_some_iff.mp h).1
  rw [List.reverse_cons, List.getElem?_append_left hj]
  exact h
set_option maxRecDepth 100000 in
set_option maxHeartbeats 2000000 in
theorem x_stepsOf {m r d n q : Nat} {pc b : Nat → Nat} {cs : List Nat} (hm : isMt m) (hr : isRu r) {I : pI} {J : pJ} (hM : XM I m n pc b) (hW : WF n pc b) (hq : q < n) (hR : XR I r cs) : PC SX (d + 3) yX6_stepsOf cX6_stepsOf 6 (some .int) [.ref r, .ref m, .int (nI q)] (I) (J) (RX) (fun r' I' J' R' => r' = some (.int (withF (evC (lett n pc b q) cs []))) ∧ (∀ h, h ≠ r + 2 → I' h = I h) ∧ J = J' ∧ R' = RX) := by
  refine PC.of [some (.ref r), some (.ref m), some (.int (nI q)), none, none, none] rfl rfl (Nat.le_of_ble_eq_true rfl) ?_
  obtain ⟨hsz, h40, hcs⟩ := id hR
  refine pw_iconst (v := nI 0) 1 rfl dX6_stepsOf_0 rfl ?_
  refine pw_istore_n 2 rfl dX6_stepsOf_1 (by decide) ?_
  refine pw_iconst (v := nI 0) 3 rfl dX6_stepsOf_2 rfl ?_
  refine pw_istore 5 rfl dX6_stepsOf_3 (by decide) ?_
  rotate_left
  have loop : ∀ (rest pre : List Nat) (s : List Int32) (I' : pI) (x5 : Option Value), cs = pre ++ rest → s.length ≤ pre.length → (∀ h, h ≠ r + 2 → I' h = I h) → (∀ j x, s.reverse[j]? = some x → I' (r + 2) j = x) → evC (lett n pc b q) rest s = evC (lett n pc b q) cs [] → PW SX yX6_stepsOf.cls cX6_stepsOf 6 (d + 3) 5 [some (.ref r), some (.ref m), some (.int (nI q)), some (.int (nI s.length)), some (.int (nI pre.length)), x5] [] (I') (J) (RX) (rX cX6_stepsOf (some .int) (fun r' I' J' R' => r' = some (.int (withF (evC (lett n pc b q) cs []))) ∧ (∀ h, h ≠ r + 2 → I' h = I h) ∧ J = J' ∧ R' = RX)) := by
    intro rest
    induction rest with
    | nil =>
      intro pre s I' x5 hc hl hf hv he
      rw [List.append_nil] at hc
      subst hc
      have hs0 : I' r 2 = nI cs.length := by rw [hf r (by omega)]; exact hsz
      refine pw_iload 7 rfl dX6_stepsOf_5 rfl ?_
      refine pw_aload_n 8 rfl dX6_stepsOf_7 rfl ?_
      refine pw_getI 11 rfl dX6_stepsOf_8 fX6_18 (by first | rfl | assumption | exact rowS hh | exact mtS hm | exact ruS hr | exact mtA1 hm | exact mtA2 hm | exact mtA3 hm | exact mtA4 hm | exact mtA5 hm | exact mtA6 hm | exact mtA7 hm | exact ruA1 hr | exact ruA2 hr | exact ruA3 hr) rfl ?_
      refine pw_icmp_ge (tgt := 177) 14 rfl dX6_stepsOf_11 rfl (fun h11 => ?_) (fun h11 => absurd (by rw [hs0]; (simp (disch := omega) only [nI_leI, nI_ltI, nI_eq, show (0 : Int32) = nI 0 from rfl, not_true_eq_false, not_false_eq_true] <;> omega)) h11)
      rotate_left
      rw [← he]
      show PW _ _ _ _ _ _ _ _ _ _ _ (rX _ _ (fun r' I' J' R' => r' = some (.int (withF s)) ∧ _))
      cases hrv : s.reverse with
      | nil =>
        have : s = [] := by simpa using hrv
        subst this
        refine pw_iload_n 178 rfl dX6_stepsOf_177 rfl ?_
        refine pw_if_le (tgt := 195) 181 rfl dX6_stepsOf_178 rfl (fun h178 => ?_) (fun h178 => absurd (by decide) h178)
        refine pw_iconst (v := nI 0) 196 rfl dX6_stepsOf_195 rfl ?_
        refine pw_iret dX6_stepsOf_196 rfl ?_
        rotate_left
        exact ⟨rfl, hf, rfl, rfl⟩
      | cons y t =>
        have hlen : 0 < s.length := by
          have := congrArg List.length hrv
          simp at this
          omega
        refine pw_iload_n 178 rfl dX6_stepsOf_177 rfl ?_
        refine pw_if_le (tgt := 195) 181 rfl dX6_stepsOf_178 rfl (fun h178 => absurd h178 (nI_nle hlen (by omega))) (fun h178 => ?_)
        refine pw_aload_n 182 rfl dX6_stepsOf_181 rfl ?_
        refine pw_getR 185 rfl dX6_stepsOf_182 fX6_15 (by first | rfl | assumption | exact rowS hh | exact mtS hm | exact ruS hr | exact mtA1 hm | exact mtA2 hm | exact mtA3 hm | exact mtA4 hm | exact mtA5 hm | exact mtA6 hm | exact mtA7 hm | exact ruA1 hr | exact ruA2 hr | exact ruA3 hr) rfl (by first | rfl | assumption | exact mtR0 hm | exact mtR1 hm | exact mtR2 hm | exact mtR3 hm | exact mtR4 hm | exact mtR5 hm | exact mtR6 hm | exact ruR0 hr | exact ruR1 hr | exact ruR3 hr) ?_
        refine pw_iconst (v := nI 0) 186 rfl dX6_stepsOf_185 rfl ?_
        refine pw_ialdN 187 rfl dX6_stepsOf_186 (by first | rfl | assumption | exact rowS hh | exact mtS hm | exact ruS hr | exact mtA1 hm | exact mtA2 hm | exact mtA3 hm | exact mtA4 hm | exact mtA5 hm | exact mtA6 hm | exact mtA7 hm | exact ruA1 hr | exact ruA2 hr | exact ruA3 hr) (by omega) (by decide) ?_
        refine pw_iconst (v := nI 0) 188 rfl dX6_stepsOf_187 rfl ?_
        refine pw_iconst (v := nI 3) 189 rfl dX6_stepsOf_188 rfl ?_
        refine pw_callNP (as := [_, _, _]) 192 rfl dX6_stepsOf_189 nX6_71 sX11_within (x_within (d := d) _ _ _) ⟨rfl, by decide, by decide, show (parseMethodDescriptor yX11_within.desc).map (fun d => d.parameters.length) = some 3 by decide +kernel⟩ (by omega) (by decide) (Nat.le_of_ble_eq_true rfl) rfl ?_
        refine pw_goto (tgt := 196) dX6_stepsOf_192 rfl ?_
        refine pw_iret dX6_stepsOf_196 rfl ?_
        rotate_left
        refine ⟨?_, hf, rfl, rfl⟩
        rw [withF, hrv, hv 0 y (by rw [hrv]; rfl)]
    | cons c rest ih =>
      intro pre s I' x5 hc hl hf hv he
      have hlt : pre.length < cs.length := by rw [hc]; simp
      have hget : cs[pre.length]? = some c := by rw [hc]; simp
      obtain ⟨hic, hok⟩ := hcs _ _ hget
      have hs0 : I' r 2 = nI cs.length := by rw [hf r (by omega)]; exact hsz
      have hic' : I' (r + 1) pre.length = nI c := by rw [hf (r + 1) (by omega)]; exact hic
      have hM' : XM I' m n pc b := XM_fr hM (fun a h1 h2 => hf a (ru_mt hm hr h1 h2).2.2.1)
      have hc' : cs = (pre ++ [c]) ++ rest := by rw [hc, List.append_assoc]; rfl
      have hpl : (pre ++ [c]).length = pre.length + 1 := by simp
      have he' : evC (lett n pc b q) rest (stC (lett n pc b q) c s) = evC (lett n pc b q) cs [] := he
      have push : ∀ (v : Int32) (x5 : Option Value), stC (lett n pc b q) c s = v :: s → PW SX yX6_stepsOf.cls cX6_stepsOf 6 (d + 3) 5 [some (.ref r), some (.ref m), some (.int (nI q)), some (.int (nI (s.length + 1))), some (.int (nI (pre.length + 1))), x5] [] ((uI I' (r + 2) s.length v)) (J) (RX) (rX cX6_stepsOf (some .int) (fun r' I' J' R' => r' = some (.int (withF (evC (lett n pc b q) cs []))) ∧ (∀ h, h ≠ r + 2 → I' h = I h) ∧ J = J' ∧ R' = RX)) := by
        intro v x5 hst
        rw [hst] at he'
        have := ih (pre ++ [c]) (v :: s) (uI I' (r + 2) s.length v) x5 hc' (by rw [hpl]; exact Nat.succ_le_succ hl) (fun h hh => by rw [uI, if_neg hh]; exact hf h hh) (fun j x hj => by
          rw [uI_at, if_pos rfl]
          rcases rev_cons_get hj with ⟨rfl, rfl⟩ | ⟨h1, h2⟩
          · rw [if_pos rfl]
          · rw [if_neg (by omega)]; exact hv j x h2) he'
        rw [hpl] at this
        exact this
      refine pw_iload 7 rfl dX6_stepsOf_5 rfl ?_
      refine pw_aload_n 8 rfl dX6_stepsOf_7 rfl ?_
      refine pw_getI 11 rfl dX6_stepsOf_8 fX6_18 (by first | rfl | assumption | exact rowS hh | exact mtS hm | exact ruS hr | exact mtA1 hm | exact mtA2 hm | exact mtA3 hm | exact mtA4 hm | exact mtA5 hm | exact mtA6 hm | exact mtA7 hm | exact ruA1 hr | exact ruA2 hr | exact ruA3 hr) rfl ?_
      refine pw_icmp_ge (tgt := 177) 14 rfl dX6_stepsOf_11 rfl (fun h11 => absurd h11 (by rw [hs0]; (simp (disch := omega) only [nI_leI, nI_ltI, nI_eq, show (0 : Int32) = nI 0 from rfl, not_true_eq_false, not_false_eq_true] <;> omega))) (fun h11 => ?_)
      refine pw_iload 16 rfl dX6_stepsOf_14 rfl ?_
      refine pw_bipush (v := nI 40) 18 rfl dX6_stepsOf_16 rfl ?_
      refine pw_icmp_ge (tgt := 177) 21 rfl dX6_stepsOf_18 rfl (fun h18 => absurd h18 (by (simp (disch := omega) only [nI_leI, nI_ltI, nI_eq, show (0 : Int32) = nI 0 from rfl, not_true_eq_false, not_false_eq_true] <;> omega))) (fun h18 => ?_)
      refine pw_aload_n 22 rfl dX6_stepsOf_21 rfl ?_
      refine pw_getR 25 rfl dX6_stepsOf_22 fX6_11 (by first | rfl | assumption | exact rowS hh | exact mtS hm | exact ruS hr | exact mtA1 hm | exact mtA2 hm | exact mtA3 hm | exact mtA4 hm | exact mtA5 hm | exact mtA6 hm | exact mtA7 hm | exact ruA1 hr | exact ruA2 hr | exact ruA3 hr) rfl (by first | rfl | assumption | exact mtR0 hm | exact mtR1 hm | exact mtR2 hm | exact mtR3 hm | exact mtR4 hm | exact mtR5 hm | exact mtR6 hm | exact ruR0 hr | exact ruR1 hr | exact ruR3 hr) ?_
      refine pw_iload 27 rfl dX6_stepsOf_25 rfl ?_
      refine pw_ialdN 28 rfl dX6_stepsOf_27 (by first | rfl | assumption | exact rowS hh | exact mtS hm | exact ruS hr | exact mtA1 hm | exact mtA2 hm | exact mtA3 hm | exact mtA4 hm | exact mtA5 hm | exact mtA6 hm | exact mtA7 hm | exact ruA1 hr | exact ruA2 hr | exact ruA3 hr) (by omega) (by decide) ?_
      refine pw_sipush (v := nI 1000) 31 rfl dX6_stepsOf_28 rfl ?_
      rotate_left
      rw [hic']
      by_cases h1 : c < 1000
      · have hst : stC (lett n pc b q) c s = nI c :: s := if_pos h1
        refine pw_isub 32 rfl dX6_stepsOf_31 ?_
        refine pw_istore 34 rfl dX6_stepsOf_32 (by decide) ?_
        refine pw_iload 36 rfl dX6_stepsOf_34 rfl ?_
        refine pw_if_lt (tgt := 47) 39 rfl dX6_stepsOf_36 rfl (fun h36 => ?_) (fun h36 => absurd (pk_sneg (by decide) h1) h36)
        refine pw_iload_n 48 rfl dX6_stepsOf_47 rfl ?_
        refine pw_if_lt (tgt := 171) 51 rfl dX6_stepsOf_48 rfl (fun h48 => absurd h48 (nI_pos (by omega))) (fun h48 => ?_)
        refine pw_iload_n 52 rfl dX6_stepsOf_51 rfl ?_
        refine pw_bipush (v := nI 40) 54 rfl dX6_stepsOf_52 rfl ?_
        refine pw_icmp_ge (tgt := 171) 57 rfl dX6_stepsOf_54 rfl (fun h54 => absurd h54 (by (simp (disch := omega) only [nI_leI, nI_ltI, nI_eq, show (0 : Int32) = nI 0 from rfl, not_true_eq_false, not_false_eq_true] <;> omega))) (fun h54 => ?_)
        refine pw_aload_n 58 rfl dX6_stepsOf_57 rfl ?_
        refine pw_getR 61 rfl dX6_stepsOf_58 fX6_15 (by first | rfl | assumption | exact rowS hh | exact mtS hm | exact ruS hr | exact mtA1 hm | exact mtA2 hm | exact mtA3 hm | exact mtA4 hm | exact mtA5 hm | exact mtA6 hm | exact mtA7 hm | exact ruA1 hr | exact ruA2 hr | exact ruA3 hr) rfl (by first | rfl | assumption | exact mtR0 hm | exact mtR1 hm | exact mtR2 hm | exact mtR3 hm | exact mtR4 hm | exact mtR5 hm | exact mtR6 hm | exact ruR0 hr | exact ruR1 hr | exact ruR3 hr) ?_
        refine pw_iload_n 62 rfl dX6_stepsOf_61 rfl ?_
        refine pw_iload 64 rfl dX6_stepsOf_62 rfl ?_
        refine pw_if_ge (tgt := 77) 67 rfl dX6_stepsOf_64 rfl (fun h64 => absurd h64 (fun z => absurd (pk_sneg (by decide) h1) (by rw [Int32.lt_iff_toInt_lt]; rw [Int32.le_iff_toInt_le] at z; exact Int.not_lt.mpr z))) (fun h64 => ?_)
        refine pw_aload_n 68 rfl dX6_stepsOf_67 rfl ?_
        refine pw_getR 71 rfl dX6_stepsOf_68 fX6_11 (by first | rfl | assumption | exact rowS hh | exact mtS hm | exact ruS hr | exact mtA1 hm | exact mtA2 hm | exact mtA3 hm | exact mtA4 hm | exact mtA5 hm | exact mtA6 hm | exact mtA7 hm | exact ruA1 hr | exact ruA2 hr | exact ruA3 hr) rfl (by first | rfl | assumption | exact mtR0 hm | exact mtR1 hm | exact mtR2 hm | exact mtR3 hm | exact mtR4 hm | exact mtR5 hm | exact mtR6 hm | exact ruR0 hr | exact ruR1 hr | exact ruR3 hr) ?_
        refine pw_iload 73 rfl dX6_stepsOf_71 rfl ?_
        refine pw_ialdN 74 rfl dX6_stepsOf_73 (by first | rfl | assumption | exact rowS hh | exact mtS hm | exact ruS hr | exact mtA1 hm | exact mtA2 hm | exact mtA3 hm | exact mtA4 hm | exact mtA5 hm | exact mtA6 hm | exact mtA7 hm | exact ruA1 hr | exact ruA2 hr | exact ruA3 hr) (by omega) (by decide) ?_
        refine pw_goto (tgt := 84) dX6_stepsOf_74 rfl ?_
        refine pw_iastN 85 rfl dX6_stepsOf_84 (by first | rfl | assumption | exact rowS hh | exact mtS hm | exact ruS hr | exact mtA1 hm | exact mtA2 hm | exact mtA3 hm | exact mtA4 hm | exact mtA5 hm | exact mtA6 hm | exact mtA7 hm | exact ruA1 hr | exact ruA2 hr | exact ruA3 hr) (by omega) (by decide) ?_
        refine pw_iincN 88 rfl dX6_stepsOf_85 (by decide) rfl ?_
        refine pw_goto (tgt := 171) dX6_stepsOf_88 rfl ?_
        refine pw_iincN 174 rfl dX6_stepsOf_171 (by decide) rfl ?_
        refine pw_goto (tgt := 5) dX6_stepsOf_174 rfl ?_
        rotate_left
        rw [hic']
        exact push (nI c) _ hst
      · obtain ⟨s0, rfl⟩ : ∃ s0, c = 1000 + s0 := ⟨c - 1000, by omega⟩
        have hs1 : s0 < 1000 := by
          rcases hok with h | ⟨h, h2⟩ | h | ⟨h, h2⟩
          · omega
          · rw [Nat.add_sub_cancel_left] at h2
            rcases h2 with rfl | rfl | rfl | rfl | rfl | rfl | rfl <;> decide
          · omega
          · rw [Nat.add_sub_cancel_left] at h2
            exact (op_nlet h2).2.2
        cases hlb : letB s0 with
        | true =>
          have hst : stC (lett n pc b q) (1000 + s0) s = lett n pc b q s0 :: s := by
            unfold stC; rw [if_neg h1, Nat.add_sub_cancel_left, if_pos hlb]
          refine pw_isubN 32 rfl dX6_stepsOf_31 (by omega) ?_
          refine pw_istore 34 rfl dX6_stepsOf_32 (by decide) ?_
          rotate_left
          rw [Nat.add_sub_cancel_left]
          refine pw_iload 36 rfl dX6_stepsOf_34 rfl ?_
          refine pw_if_lt (tgt := 47) 39 rfl dX6_stepsOf_36 rfl (fun h36 => absurd h36 (nI_pos (by omega))) (fun h36 => ?_)
          refine pw_iload 41 rfl dX6_stepsOf_39 rfl ?_
          refine pw_callSP (as := [_]) 44 rfl dX6_stepsOf_41 mX6_57 sX6_isLetter (x_isLetter (d := d) (by omega)) ⟨rfl, by decide, by decide, show (parseMethodDescriptor yX6_isLetter.desc).map (fun d => d.parameters.length) = some 1 by decide +kernel⟩ (by omega) (by decide) (Nat.le_of_ble_eq_true rfl) rfl ?_
          refine pw_if_eq (tgt := 91) 47 rfl dX6_stepsOf_44 rfl (fun h44 => absurd h44 (by rw [hlb]; decide)) (fun h44 => ?_)
          refine pw_iload_n 48 rfl dX6_stepsOf_47 rfl ?_
          refine pw_if_lt (tgt := 171) 51 rfl dX6_stepsOf_48 rfl (fun h48 => absurd h48 (nI_pos (by omega))) (fun h48 => ?_)
          refine pw_iload_n 52 rfl dX6_stepsOf_51 rfl ?_
          refine pw_bipush (v := nI 40) 54 rfl dX6_stepsOf_52 rfl ?_
          refine pw_icmp_ge (tgt := 171) 57 rfl dX6_stepsOf_54 rfl (fun h54 => absurd h54 (by (simp (disch := omega) only [nI_leI, nI_ltI, nI_eq, show (0 : Int32) = nI 0 from rfl, not_true_eq_false, not_false_eq_true] <;> omega))) (fun h54 => ?_)
          refine pw_aload_n 58 rfl dX6_stepsOf_57 rfl ?_
          refine pw_getR 61 rfl dX6_stepsOf_58 fX6_15 (by first | rfl | assumption | exact rowS hh | exact mtS hm | exact ruS hr | exact mtA1 hm | exact mtA2 hm | exact mtA3 hm | exact mtA4 hm | exact mtA5 hm | exact mtA6 hm | exact mtA7 hm | exact ruA1 hr | exact ruA2 hr | exact ruA3 hr) rfl (by first | rfl | assumption | exact mtR0 hm | exact mtR1 hm | exact mtR2 hm | exact mtR3 hm | exact mtR4 hm | exact mtR5 hm | exact mtR6 hm | exact ruR0 hr | exact ruR1 hr | exact ruR3 hr) ?_
          refine pw_iload_n 62 rfl dX6_stepsOf_61 rfl ?_
          refine pw_iload 64 rfl dX6_stepsOf_62 rfl ?_
          refine pw_if_ge (tgt := 77) 67 rfl dX6_stepsOf_64 rfl (fun h64 => ?_) (fun h64 => absurd (nI_pos' (by omega)) h64)
          refine pw_aload_n 78 rfl dX6_stepsOf_77 rfl ?_
          refine pw_iload 80 rfl dX6_stepsOf_78 rfl ?_
          refine pw_iload_n 81 rfl dX6_stepsOf_80 rfl ?_
          refine pw_callVP (as := [_, _]) 84 rfl dX6_stepsOf_81 mX6_61 vX1_letter (x_letter (d := d) hm hM' hW hq (letB_iff.mp hlb)) (by first | rfl | assumption | exact rowS hh | exact mtS hm | exact ruS hr | exact mtA1 hm | exact mtA2 hm | exact mtA3 hm | exact mtA4 hm | exact mtA5 hm | exact mtA6 hm | exact mtA7 hm | exact ruA1 hr | exact ruA2 hr | exact ruA3 hr) rfl (by decide) ⟨rfl, by decide, by decide, show (parseMethodDescriptor yX1_letter.desc).map (fun d => d.parameters.length) = some 2 by decide +kernel⟩ (by omega) (by decide) (Nat.le_of_ble_eq_true rfl) rfl ?_
          refine pw_iastN 85 rfl dX6_stepsOf_84 (by first | rfl | assumption | exact rowS hh | exact mtS hm | exact ruS hr | exact mtA1 hm | exact mtA2 hm | exact mtA3 hm | exact mtA4 hm | exact mtA5 hm | exact mtA6 hm | exact mtA7 hm | exact ruA1 hr | exact ruA2 hr | exact ruA3 hr) (by omega) (by decide) ?_
          refine pw_iincN 88 rfl dX6_stepsOf_85 (by decide) rfl ?_
          refine pw_goto (tgt := 171) dX6_stepsOf_88 rfl ?_
          refine pw_iincN 174 rfl dX6_stepsOf_171 (by decide) rfl ?_
          refine pw_goto (tgt := 5) dX6_stepsOf_174 rfl ?_
          rotate_left
          exact push _ _ hst
        | false =>
          refine pw_isubN 32 rfl dX6_stepsOf_31 (by omega) ?_
          refine pw_istore 34 rfl dX6_stepsOf_32 (by decide) ?_
          rotate_left
          rw [Nat.add_sub_cancel_left]
          by_cases h2 : s0 = 256
          · subst h2
            match s, hl, hv, he' with
            | [], hl, hv, he' =>
              refine pw_iload 36 rfl dX6_stepsOf_34 rfl ?_
              refine pw_if_lt (tgt := 47) 39 rfl dX6_stepsOf_36 rfl (fun h36 => absurd h36 (nI_pos (by omega))) (fun h36 => ?_)
              refine pw_iload 41 rfl dX6_stepsOf_39 rfl ?_
              refine pw_callSP (as := [_]) 44 rfl dX6_stepsOf_41 mX6_57 sX6_isLetter (x_isLetter (d := d) (by omega)) ⟨rfl, by decide, by decide, show (parseMethodDescriptor yX6_isLetter.desc).map (fun d => d.parameters.length) = some 1 by decide +kernel⟩ (by omega) (by decide) (Nat.le_of_ble_eq_true rfl) rfl ?_
              refine pw_if_eq (tgt := 91) 47 rfl dX6_stepsOf_44 rfl (fun h44 => ?_) (fun h44 => absurd (by rw [hlb]; rfl) h44)
              refine pw_iload 93 rfl dX6_stepsOf_91 rfl ?_
              refine pw_sipush (v := nI 256) 96 rfl dX6_stepsOf_93 rfl ?_
              refine pw_icmp_ne (tgt := 130) 99 rfl dX6_stepsOf_96 rfl (fun h96 => absurd rfl h96) (fun h96 => ?_)
              refine pw_iload_n 100 rfl dX6_stepsOf_99 rfl ?_
              refine pw_iconst (v := nI 1) 101 rfl dX6_stepsOf_100 rfl ?_
              refine pw_icmp_lt (tgt := 171) 104 rfl dX6_stepsOf_101 rfl (fun h101 => ?_) (fun h101 => absurd (by decide) h101)
              refine pw_iincN 174 rfl dX6_stepsOf_171 (by decide) rfl ?_
              refine pw_goto (tgt := 5) dX6_stepsOf_174 rfl ?_
              rotate_left
              have := ih (pre ++ [1000 + 256]) [] I' (some (.int (nI 256))) hc' (Nat.zero_le _) hf hv he'
              rw [hpl] at this
              exact this
            | x :: t, hl, hv, he' =>
              have hl2 : t.length + 1 ≤ pre.length := hl
              refine pw_iload 36 rfl dX6_stepsOf_34 rfl ?_
              refine pw_if_lt (tgt := 47) 39 rfl dX6_stepsOf_36 rfl (fun h36 => absurd h36 (nI_pos (by omega))) (fun h36 => ?_)
              refine pw_iload 41 rfl dX6_stepsOf_39 rfl ?_
              refine pw_callSP (as := [_]) 44 rfl dX6_stepsOf_41 mX6_57 sX6_isLetter (x_isLetter (d := d) (by omega)) ⟨rfl, by decide, by decide, show (parseMethodDescriptor yX6_isLetter.desc).map (fun d => d.parameters.length) = some 1 by decide +kernel⟩ (by omega) (by decide) (Nat.le_of_ble_eq_true rfl) rfl ?_
              refine pw_if_eq (tgt := 91) 47 rfl dX6_stepsOf_44 rfl (fun h44 => ?_) (fun h44 => absurd (by rw [hlb]; rfl) h44)
              refine pw_iload 93 rfl dX6_stepsOf_91 rfl ?_
              refine pw_sipush (v := nI 256) 96 rfl dX6_stepsOf_93 rfl ?_
              refine pw_icmp_ne (tgt := 130) 99 rfl dX6_stepsOf_96 rfl (fun h96 => absurd rfl h96) (fun h96 => ?_)
              refine pw_iload_n 100 rfl dX6_stepsOf_99 rfl ?_
              refine pw_iconst (v := nI 1) 101 rfl dX6_stepsOf_100 rfl ?_
              refine pw_icmp_lt (tgt := 171) 104 rfl dX6_stepsOf_101 rfl (fun h101 => absurd h101 (nI_nlt (a := t.length + 1) (b := 1) (by omega) (by omega))) (fun h101 => ?_)
              refine pw_iload_n 105 rfl dX6_stepsOf_104 rfl ?_
              refine pw_bipush (v := nI 40) 107 rfl dX6_stepsOf_105 rfl ?_
              refine pw_icmp_gt (tgt := 171) 110 rfl dX6_stepsOf_107 rfl (fun h107 => absurd h107 (nI_nlt (a := 40) (b := t.length + 1) (by omega) (by omega))) (fun h107 => ?_)
              refine pw_aload_n 111 rfl dX6_stepsOf_110 rfl ?_
              refine pw_getR 114 rfl dX6_stepsOf_111 fX6_15 (by first | rfl | assumption | exact rowS hh | exact mtS hm | exact ruS hr | exact mtA1 hm | exact mtA2 hm | exact mtA3 hm | exact mtA4 hm | exact mtA5 hm | exact mtA6 hm | exact mtA7 hm | exact ruA1 hr | exact ruA2 hr | exact ruA3 hr) rfl (by first | rfl | assumption | exact mtR0 hm | exact mtR1 hm | exact mtR2 hm | exact mtR3 hm | exact mtR4 hm | exact mtR5 hm | exact mtR6 hm | exact ruR0 hr | exact ruR1 hr | exact ruR3 hr) ?_
              refine pw_iload_n 115 rfl dX6_stepsOf_114 rfl ?_
              refine pw_iconst (v := nI 1) 116 rfl dX6_stepsOf_115 rfl ?_
              refine pw_isubN 117 rfl dX6_stepsOf_116 (by show 1 ≤ t.length + 1; omega) ?_
              refine pw_aload_n 118 rfl dX6_stepsOf_117 rfl ?_
              refine pw_getR 121 rfl dX6_stepsOf_118 fX6_15 (by first | rfl | assumption | exact rowS hh | exact mtS hm | exact ruS hr | exact mtA1 hm | exact mtA2 hm | exact mtA3 hm | exact mtA4 hm | exact mtA5 hm | exact mtA6 hm | exact mtA7 hm | exact ruA1 hr | exact ruA2 hr | exact ruA3 hr) rfl (by first | rfl | assumption | exact mtR0 hm | exact mtR1 hm | exact mtR2 hm | exact mtR3 hm | exact mtR4 hm | exact mtR5 hm | exact mtR6 hm | exact ruR0 hr | exact ruR1 hr | exact ruR3 hr) ?_
              refine pw_iload_n 122 rfl dX6_stepsOf_121 rfl ?_
              refine pw_iconst (v := nI 1) 123 rfl dX6_stepsOf_122 rfl ?_
              refine pw_isubN 124 rfl dX6_stepsOf_123 (by show 1 ≤ t.length + 1; omega) ?_
              refine pw_ialdN 125 rfl dX6_stepsOf_124 (by first | rfl | assumption | exact rowS hh | exact mtS hm | exact ruS hr | exact mtA1 hm | exact mtA2 hm | exact mtA3 hm | exact mtA4 hm | exact mtA5 hm | exact mtA6 hm | exact mtA7 hm | exact ruA1 hr | exact ruA2 hr | exact ruA3 hr) (by show t.length + 1 - 1 < 40; omega) (by decide) ?_
              refine pw_ineg 126 rfl dX6_stepsOf_125 ?_
              refine pw_iastN 127 rfl dX6_stepsOf_126 (by first | rfl | assumption | exact rowS hh | exact mtS hm | exact ruS hr | exact mtA1 hm | exact mtA2 hm | exact mtA3 hm | exact mtA4 hm | exact mtA5 hm | exact mtA6 hm | exact mtA7 hm | exact ruA1 hr | exact ruA2 hr | exact ruA3 hr) (by show t.length + 1 - 1 < 40; omega) (by decide) ?_
              refine pw_goto (tgt := 171) dX6_stepsOf_127 rfl ?_
              refine pw_iincN 174 rfl dX6_stepsOf_171 (by decide) rfl ?_
              refine pw_goto (tgt := 5) dX6_stepsOf_174 rfl ?_
              rotate_left
              have hx : I' (r + 2) t.length = x := hv _ _ rev_cons_of
              have := ih (pre ++ [1000 + 256]) ((-x) :: t) (uI I' (r + 2) t.length (-x)) (some (.int (nI 256))) hc' (by rw [hpl]; show t.length + 1 ≤ _; omega) (fun h hh => by rw [uI, if_neg hh]; exact hf h hh) (fun j y hj => by
                rw [uI_at, if_pos rfl]
                rcases rev_cons_get hj with ⟨rfl, rfl⟩ | ⟨h1, h2⟩
                · rw [if_pos rfl]
                · rw [if_neg (by omega)]; exact hv j y (rev_cons_lt h2)) he'
              rw [hpl] at this
              rw [show (x :: t).length - 1 = t.length from rfl, hx]
              exact this
          · have hop : isOp s0 := by
              rcases hok with h | ⟨h, h3⟩ | h | ⟨h, h3⟩
              · omega
              · rw [Nat.add_sub_cancel_left] at h3
                rw [letB_iff.mpr h3] at hlb
                cases hlb
              · omega
              · rwa [Nat.add_sub_cancel_left] at h3
            have hne : ¬ nI s0 = nI 256 := fun z => h2 ((nI_eq (by omega) (by decide)).mp z)
            have hst : ∀ s', stC (lett n pc b q) (1000 + s0) s' = (match s' with
                | y :: x :: t => jn s0 x y :: t
                | s => s) := fun s' => by
              unfold stC; rw [if_neg h1, Nat.add_sub_cancel_left, if_neg (by rw [hlb]; decide), if_neg (by omega)]; rcases s' with _ | ⟨y, _ | ⟨x, t⟩⟩ <;> rfl
            match s, hl, hv, he' with
            | [], hl, hv, he' =>
              refine pw_iload 36 rfl dX6_stepsOf_34 rfl ?_
              refine pw_if_lt (tgt := 47) 39 rfl dX6_stepsOf_36 rfl (fun h36 => absurd h36 (nI_pos (by omega))) (fun h36 => ?_)
              refine pw_iload 41 rfl dX6_stepsOf_39 rfl ?_
              refine pw_callSP (as := [_]) 44 rfl dX6_stepsOf_41 mX6_57 sX6_isLetter (x_isLetter (d := d) (by omega)) ⟨rfl, by decide, by decide, show (parseMethodDescriptor yX6_isLetter.desc).map (fun d => d.parameters.length) = some 1 by decide +kernel⟩ (by omega) (by decide) (Nat.le_of_ble_eq_true rfl) rfl ?_
              refine pw_if_eq (tgt := 91) 47 rfl dX6_stepsOf_44 rfl (fun h44 => ?_) (fun h44 => absurd (by rw [hlb]; rfl) h44)
              refine pw_iload 93 rfl dX6_stepsOf_91 rfl ?_
              refine pw_sipush (v := nI 256) 96 rfl dX6_stepsOf_93 rfl ?_
              refine pw_icmp_ne (tgt := 130) 99 rfl dX6_stepsOf_96 rfl (fun h96 => ?_) (fun h96 => absurd h96 hne)
              refine pw_iload_n 131 rfl dX6_stepsOf_130 rfl ?_
              refine pw_iconst (v := nI 2) 132 rfl dX6_stepsOf_131 rfl ?_
              refine pw_icmp_lt (tgt := 171) 135 rfl dX6_stepsOf_132 rfl (fun h132 => ?_) (fun h132 => absurd (by decide) h132)
              refine pw_iincN 174 rfl dX6_stepsOf_171 (by decide) rfl ?_
              refine pw_goto (tgt := 5) dX6_stepsOf_174 rfl ?_
              rotate_left
              rw [hst] at he'
              have := ih (pre ++ [1000 + s0]) [] I' (some (.int (nI s0))) hc' (Nat.zero_le _) hf hv he'
              rw [hpl] at this
              exact this
            | [z], hl, hv, he' =>
              refine pw_iload 36 rfl dX6_stepsOf_34 rfl ?_
              refine pw_if_lt (tgt := 47) 39 rfl dX6_stepsOf_36 rfl (fun h36 => absurd h36 (nI_pos (by omega))) (fun h36 => ?_)
              refine pw_iload 41 rfl dX6_stepsOf_39 rfl ?_
              refine pw_callSP (as := [_]) 44 rfl dX6_stepsOf_41 mX6_57 sX6_isLetter (x_isLetter (d := d) (by omega)) ⟨rfl, by decide, by decide, show (parseMethodDescriptor yX6_isLetter.desc).map (fun d => d.parameters.length) = some 1 by decide +kernel⟩ (by omega) (by decide) (Nat.le_of_ble_eq_true rfl) rfl ?_
              refine pw_if_eq (tgt := 91) 47 rfl dX6_stepsOf_44 rfl (fun h44 => ?_) (fun h44 => absurd (by rw [hlb]; rfl) h44)
              refine pw_iload 93 rfl dX6_stepsOf_91 rfl ?_
              refine pw_sipush (v := nI 256) 96 rfl dX6_stepsOf_93 rfl ?_
              refine pw_icmp_ne (tgt := 130) 99 rfl dX6_stepsOf_96 rfl (fun h96 => ?_) (fun h96 => absurd h96 hne)
              refine pw_iload_n 131 rfl dX6_stepsOf_130 rfl ?_
              refine pw_iconst (v := nI 2) 132 rfl dX6_stepsOf_131 rfl ?_
              refine pw_icmp_lt (tgt := 171) 135 rfl dX6_stepsOf_132 rfl (fun h132 => ?_) (fun h132 => absurd (nI_lt (a := 1) (b := 2) (by decide) (by decide)) h132)
              refine pw_iincN 174 rfl dX6_stepsOf_171 (by decide) rfl ?_
              refine pw_goto (tgt := 5) dX6_stepsOf_174 rfl ?_
              rotate_left
              rw [hst] at he'
              have := ih (pre ++ [1000 + s0]) [z] I' (some (.int (nI s0))) hc' (by rw [hpl]; exact Nat.le_succ_of_le hl) hf hv he'
              rw [hpl] at this
              exact this
            | y :: x :: t, hl, hv, he' =>
              have hl2 : t.length + 1 + 1 ≤ pre.length := hl
              refine pw_iload 36 rfl dX6_stepsOf_34 rfl ?_
              refine pw_if_lt (tgt := 47) 39 rfl dX6_stepsOf_36 rfl (fun h36 => absurd h36 (nI_pos (by omega))) (fun h36 => ?_)
              refine pw_iload 41 rfl dX6_stepsOf_39 rfl ?_
              refine pw_callSP (as := [_]) 44 rfl dX6_stepsOf_41 mX6_57 sX6_isLetter (x_isLetter (d := d) (by omega)) ⟨rfl, by decide, by decide, show (parseMethodDescriptor yX6_isLetter.desc).map (fun d => d.parameters.length) = some 1 by decide +kernel⟩ (by omega) (by decide) (Nat.le_of_ble_eq_true rfl) rfl ?_
              refine pw_if_eq (tgt := 91) 47 rfl dX6_stepsOf_44 rfl (fun h44 => ?_) (fun h44 => absurd (by rw [hlb]; rfl) h44)
              refine pw_iload 93 rfl dX6_stepsOf_91 rfl ?_
              refine pw_sipush (v := nI 256) 96 rfl dX6_stepsOf_93 rfl ?_
              refine pw_icmp_ne (tgt := 130) 99 rfl dX6_stepsOf_96 rfl (fun h96 => ?_) (fun h96 => absurd h96 hne)
              refine pw_iload_n 131 rfl dX6_stepsOf_130 rfl ?_
              refine pw_iconst (v := nI 2) 132 rfl dX6_stepsOf_131 rfl ?_
              refine pw_icmp_lt (tgt := 171) 135 rfl dX6_stepsOf_132 rfl (fun h132 => absurd h132 (nI_nlt (a := t.length + 1 + 1) (b := 2) (by omega) (by omega))) (fun h132 => ?_)
              refine pw_iload_n 136 rfl dX6_stepsOf_135 rfl ?_
              refine pw_bipush (v := nI 40) 138 rfl dX6_stepsOf_136 rfl ?_
              refine pw_icmp_gt (tgt := 171) 141 rfl dX6_stepsOf_138 rfl (fun h138 => absurd h138 (nI_nlt (a := 40) (b := t.length + 1 + 1) (by omega) (by omega))) (fun h138 => ?_)
              rotate_left
              show PW _ _ _ _ _ _ [some (.ref r), some (.ref m), some (.int (nI q)), some (.int (nI (t.length + 1 + 1))), some (.int (nI pre.length)), some (.int (nI s0))] _ _ _ _ _
              refine pw_idecN 144 rfl dX6_stepsOf_141 (by decide) rfl ?_
              refine pw_aload_n 145 rfl dX6_stepsOf_144 rfl ?_
              refine pw_getR 148 rfl dX6_stepsOf_145 fX6_15 (by first | rfl | assumption | exact rowS hh | exact mtS hm | exact ruS hr | exact mtA1 hm | exact mtA2 hm | exact mtA3 hm | exact mtA4 hm | exact mtA5 hm | exact mtA6 hm | exact mtA7 hm | exact ruA1 hr | exact ruA2 hr | exact ruA3 hr) rfl (by first | rfl | assumption | exact mtR0 hm | exact mtR1 hm | exact mtR2 hm | exact mtR3 hm | exact mtR4 hm | exact mtR5 hm | exact mtR6 hm | exact ruR0 hr | exact ruR1 hr | exact ruR3 hr) ?_
              refine pw_iload_n 149 rfl dX6_stepsOf_148 rfl ?_
              refine pw_iconst (v := nI 1) 150 rfl dX6_stepsOf_149 rfl ?_
              refine pw_isubN 151 rfl dX6_stepsOf_150 (by omega) ?_
              refine pw_iload 153 rfl dX6_stepsOf_151 rfl ?_
              refine pw_aload_n 154 rfl dX6_stepsOf_153 rfl ?_
              refine pw_getR 157 rfl dX6_stepsOf_154 fX6_15 (by first | rfl | assumption | exact rowS hh | exact mtS hm | exact ruS hr | exact mtA1 hm | exact mtA2 hm | exact mtA3 hm | exact mtA4 hm | exact mtA5 hm | exact mtA6 hm | exact mtA7 hm | exact ruA1 hr | exact ruA2 hr | exact ruA3 hr) rfl (by first | rfl | assumption | exact mtR0 hm | exact mtR1 hm | exact mtR2 hm | exact mtR3 hm | exact mtR4 hm | exact mtR5 hm | exact mtR6 hm | exact ruR0 hr | exact ruR1 hr | exact ruR3 hr) ?_
              refine pw_iload_n 158 rfl dX6_stepsOf_157 rfl ?_
              refine pw_iconst (v := nI 1) 159 rfl dX6_stepsOf_158 rfl ?_
              refine pw_isubN 160 rfl dX6_stepsOf_159 (by omega) ?_
              refine pw_ialdN 161 rfl dX6_stepsOf_160 (by first | rfl | assumption | exact rowS hh | exact mtS hm | exact ruS hr | exact mtA1 hm | exact mtA2 hm | exact mtA3 hm | exact mtA4 hm | exact mtA5 hm | exact mtA6 hm | exact mtA7 hm | exact ruA1 hr | exact ruA2 hr | exact ruA3 hr) (by show t.length + 1 - 1 < 40; omega) (by decide) ?_
              refine pw_aload_n 162 rfl dX6_stepsOf_161 rfl ?_
              refine pw_getR 165 rfl dX6_stepsOf_162 fX6_15 (by first | rfl | assumption | exact rowS hh | exact mtS hm | exact ruS hr | exact mtA1 hm | exact mtA2 hm | exact mtA3 hm | exact mtA4 hm | exact mtA5 hm | exact mtA6 hm | exact mtA7 hm | exact ruA1 hr | exact ruA2 hr | exact ruA3 hr) rfl (by first | rfl | assumption | exact mtR0 hm | exact mtR1 hm | exact mtR2 hm | exact mtR3 hm | exact mtR4 hm | exact mtR5 hm | exact mtR6 hm | exact ruR0 hr | exact ruR1 hr | exact ruR3 hr) ?_
              refine pw_iload_n 166 rfl dX6_stepsOf_165 rfl ?_
              refine pw_ialdN 167 rfl dX6_stepsOf_166 (by first | rfl | assumption | exact rowS hh | exact mtS hm | exact ruS hr | exact mtA1 hm | exact mtA2 hm | exact mtA3 hm | exact mtA4 hm | exact mtA5 hm | exact mtA6 hm | exact mtA7 hm | exact ruA1 hr | exact ruA2 hr | exact ruA3 hr) (by omega) (by decide) ?_
              refine pw_callSP (as := [_, _, _]) 170 rfl dX6_stepsOf_167 mX6_67 sX6_joined (x_joined (d := d) _ _ hop) ⟨rfl, by decide, by decide, show (parseMethodDescriptor yX6_joined.desc).map (fun d => d.parameters.length) = some 3 by decide +kernel⟩ (by omega) (by decide) (Nat.le_of_ble_eq_true rfl) rfl ?_
              refine pw_iastN 171 rfl dX6_stepsOf_170 (by first | rfl | assumption | exact rowS hh | exact mtS hm | exact ruS hr | exact mtA1 hm | exact mtA2 hm | exact mtA3 hm | exact mtA4 hm | exact mtA5 hm | exact mtA6 hm | exact mtA7 hm | exact ruA1 hr | exact ruA2 hr | exact ruA3 hr) (by show t.length + 1 - 1 < 40; omega) (by decide) ?_
              refine pw_iincN 174 rfl dX6_stepsOf_171 (by decide) rfl ?_
              refine pw_goto (tgt := 5) dX6_stepsOf_174 rfl ?_
              rotate_left
              rw [show t.length + 1 - 1 = t.length from rfl]
              have hx : I' (r + 2) t.length = x := hv _ _ (rev_cons_lt rev_cons_of)
              have hy : I' (r + 2) (t.length + 1) = y := hv _ _ (rev_cons_of (s := x :: t))
              rw [hx, hy]
              rw [hst] at he'
              have := ih (pre ++ [1000 + s0]) (jn s0 x y :: t) (uI I' (r + 2) t.length (jn s0 x y)) (some (.int (nI s0))) hc' (by rw [hpl]; show t.length + 1 ≤ _; omega) (fun h hh => by rw [uI, if_neg hh]; exact hf h hh) (fun j z hj => by
                rw [uI_at, if_pos rfl]
                rcases rev_cons_get hj with ⟨rfl, rfl⟩ | ⟨h1, h2⟩
                · rw [if_pos rfl]
                · rw [if_neg (by omega)]; exact hv j z (rev_cons_lt (rev_cons_lt h2))) he'
              rw [hpl] at this
              exact this
  exact loop cs [] [] I none rfl (Nat.le_refl _) (fun _ _ => rfl) (fun j x h => by cases h) rfl
