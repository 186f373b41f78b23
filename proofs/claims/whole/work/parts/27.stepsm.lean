/-! the reference: STEPS -/
set_option maxRecDepth 100000 in
set_option maxHeartbeats 2000000 in
theorem m_begin {d hr nn L T : Nat} {rd rl : Option Nat} {I : pI} {J : pJ} (hS : SM[hr]? = some (102, nn)) : PC SM (d) yX12_begin cX12_begin 4 none [.ref 0, .ref hr, .int (nI L), .int (nI T)] (I) (J) (RM rd rl) (fun r' I' J' R' => r' = none ∧ I' = uI (uI (uI (uI I 0 9 (nI L)) 0 10 (nI T)) 0 11 (nI 0)) 0 12 (-1) ∧ J = J' ∧ R' = RM (some hr) rl) := by
  refine PC.of [some (.ref 0), some (.ref hr), some (.int (nI L)), some (.int (nI T))] rfl rfl (Nat.le_of_ble_eq_true rfl) ?_
  refine pw_aload_n 1 rfl dX12_begin_0 rfl ?_
  refine pw_aload_n 2 rfl dX12_begin_1 rfl ?_
  refine pw_putR 5 rfl dX12_begin_2 fX12_105 w12_8 (by first | rfl | assumption | exact rowS hh | exact mtS hm | exact ruS hr | exact mtA1 hm | exact mtA2 hm | exact mtA3 hm | exact mtA4 hm | exact mtA5 hm | exact mtA6 hm | exact mtA7 hm | exact ruA1 hr | exact ruA2 hr | exact ruA3 hr) rfl (fun _ => ⟨rfl, rfl⟩) ?_
  refine pw_aload_n 6 rfl dX12_begin_5 rfl ?_
  refine pw_iload_n 7 rfl dX12_begin_6 rfl ?_
  refine pw_putI 10 rfl dX12_begin_7 fX12_108 w12_9 (by first | rfl | assumption | exact rowS hh | exact mtS hm | exact ruS hr | exact mtA1 hm | exact mtA2 hm | exact mtA3 hm | exact mtA4 hm | exact mtA5 hm | exact mtA6 hm | exact mtA7 hm | exact ruA1 hr | exact ruA2 hr | exact ruA3 hr) rfl rfl rfl ?_
  refine pw_aload_n 11 rfl dX12_begin_10 rfl ?_
  refine pw_iload_n 12 rfl dX12_begin_11 rfl ?_
  refine pw_putI 15 rfl dX12_begin_12 fX12_111 w12_10 (by first | rfl | assumption | exact rowS hh | exact mtS hm | exact ruS hr | exact mtA1 hm | exact mtA2 hm | exact mtA3 hm | exact mtA4 hm | exact mtA5 hm | exact mtA6 hm | exact mtA7 hm | exact ruA1 hr | exact ruA2 hr | exact ruA3 hr) rfl rfl rfl ?_
  refine pw_aload_n 16 rfl dX12_begin_15 rfl ?_
  refine pw_iconst (v := nI 0) 17 rfl dX12_begin_16 rfl ?_
  refine pw_putI 20 rfl dX12_begin_17 fX12_114 w12_11 (by first | rfl | assumption | exact rowS hh | exact mtS hm | exact ruS hr | exact mtA1 hm | exact mtA2 hm | exact mtA3 hm | exact mtA4 hm | exact mtA5 hm | exact mtA6 hm | exact mtA7 hm | exact ruA1 hr | exact ruA2 hr | exact ruA3 hr) rfl rfl rfl ?_
  refine pw_aload_n 21 rfl dX12_begin_20 rfl ?_
  refine pw_iconst (v := -1) 22 rfl dX12_begin_21 rfl ?_
  refine pw_putI 25 rfl dX12_begin_22 fX12_117 w12_12 (by first | rfl | assumption | exact rowS hh | exact mtS hm | exact ruS hr | exact mtA1 hm | exact mtA2 hm | exact mtA3 hm | exact mtA4 hm | exact mtA5 hm | exact mtA6 hm | exact mtA7 hm | exact ruA1 hr | exact ruA2 hr | exact ruA3 hr) rfl rfl rfl ?_
  refine pw_vret dX12_begin_25 ?_
  rotate_left
  refine ⟨rfl, rfl, rfl, ?_⟩
  funext a k
  unfold uR RM
  by_cases h : a = 0
  · subst h
    rw [if_pos rfl, if_pos rfl]
    by_cases hk : k = 8
    · subst hk; rfl
    · simp only [hk, if_false, if_true]
      split <;> first | rfl | (exfalso; omega) | simp_all
  · rw [if_neg h, if_neg h, if_neg h]
def MRl (I : pI) (h : Nat) (rt : List Nat) : Prop := rt.length ≤ 40 ∧ I 0 16 = nI rt.length ∧ (∀ j c, rt[j]? = some c → I h j = byV c ∧ c < 256) ∧ wrR rt = none
theorem ruF_ok {rt : List Nat} (h0 : rt ≠ []) (hl : rt.length ≤ 40) (h : wrR rt = none) : ∃ f, pHeld 4 rt = .ok (f, []) ∧ ruF rt = f := by
  have ht : rt.take 40 = rt := List.take_of_length_le hl
  unfold wrR at h
  unfold ruF
  rw [if_neg h0, ht] at h
  rw [if_neg h0, ht]
  rcases e : pHeld 4 rt with x | ⟨f, r⟩
  · rw [e] at h; cases h
  · rw [e] at h
    simp only at h
    by_cases hr : r = [] ∧ rt.length ≤ 40
    · obtain ⟨rfl, -⟩ := hr
      exact ⟨f, rfl, rfl⟩
    · rw [if_neg hr] at h; cases h
theorem clampV (v : Int32) : (if nI 0 < (if v < nI 3 then v else nI 3) then (if v < nI 3 then v else nI 3) else nI 0) = withV v (nI 0) (nI 3) := by
  unfold withV
  have e0 : (nI 0).toInt = 0 := by decide
  have e3 : (nI 3).toInt = 3 := by decide
  by_cases h1 : v < nI 0
  · rw [if_pos h1, if_pos (show v < nI 3 by rw [Int32.lt_iff_toInt_lt] at h1 ⊢; omega), if_neg (by rw [Int32.lt_iff_toInt_lt] at h1 ⊢; omega)]
  · rw [if_neg h1]
    by_cases h2 : nI 3 < v
    · rw [if_pos h2, if_neg (show ¬ v < nI 3 by rw [Int32.lt_iff_toInt_lt] at h2 ⊢; omega), if_pos (by decide)]
    · rw [if_neg h2]
      by_cases h3 : v < nI 3
      · rw [if_pos h3]
        by_cases h4 : nI 0 < v
        · rw [if_pos h4]
        · rw [if_neg h4]
          apply Int32.toInt_inj.mp
          rw [Int32.lt_iff_toInt_lt] at h1 h4
          omega
      · rw [if_neg h3, if_pos (by decide)]
        apply Int32.toInt_inj.mp
        rw [Int32.lt_iff_toInt_lt] at h2 h3
        omega
theorem lettN {n q : Nat} {pc b : Nat → Nat} {I : pI} (h0 : I 8 0 = nI (pc q)) (h1 : I 8 1 = nI (b q)) (h2 : I 8 2 = (if b (7 + q) = 1 then nI 1 else nI 0)) (h3 : I 8 3 = (if b 29 = q then nI 1 else nI 0)) (h4 : I 8 4 = nI (cntB b (b q) q n)) (h5 : I 8 5 = nI (cntD b (b q) q n)) (h6 : I 8 6 = nI (b 30) - nI (b 30) / nI 7 * nI 7) : ∀ c, letB c = true → I 8 (letN c) = lett n pc b q c := by
  intro c hc
  rcases letB_iff.mp hc with rfl | rfl | rfl | rfl | rfl | rfl | rfl
  · exact h0
  · exact h1
  · exact h2
  · exact h3
  · exact h4
  · exact h5
  · exact h6
