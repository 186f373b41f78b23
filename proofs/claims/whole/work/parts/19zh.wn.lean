/-! what is done keeps what a row is -/
theorem WN_hr {n : Nat} {pc b : Nat → Nat} (E : (Nat → Int32) → Nat) (h : WN n pc b) : WN n pc (hr n pc E b) := by
  obtain ⟨hW, hZ, hT⟩ := h
  have hW' := WF_hr E hW
  refine ⟨hW', fun k h1 h2 => ?_, fun k hk => ?_⟩
  · obtain ⟨z1, z2, z3, z4⟩ := hZ k h1 h2
    refine ⟨?_, ?_, ?_, ?_⟩
    · show hrow _ _ _ k = 0
      rw [hrow_h h2, if_neg (by omega)]; exact z1
    · show hrow _ _ _ (7 + k) = 0
      rw [hrow_w h2, if_neg (by omega)]; exact z2
    · show hrow _ _ _ (14 + k) = 0
      rw [hrow_u h2, if_neg (by omega)]; exact z3
    · show hrow _ _ _ (21 + k) = 0
      rw [hrow_b h2, if_neg ?_]; exact z4
      have ho : hO (sts n pc b E) b n < n ∨ hO (sts n pc b E) b n = 7 := hO_or hW.2.2.1 n (Nat.le_refl n)
      omega
  · show hrow _ _ _ (14 + k) ≤ 99
    have := hT k hk
    rw [hrow_u hk]; split <;> omega
theorem WN_hrs {n : Nat} {pc b : Nat → Nat} (E : (Nat → Int32) → Nat) (h : WN n pc b) : ∀ k, WN n pc (hrs n pc E k b)
  | 0 => h
  | k + 1 => WN_hr E (WN_hrs E h k)
theorem WN_bu {n j v : Nat} {pc b : Nat → Nat} (h : WN n pc b) (hj : (j < n ∧ v ≤ b 28) ∨ (7 ≤ j ∧ j - 7 < n ∧ v ≤ 2) ∨ (14 ≤ j ∧ j - 14 < n ∧ v ≤ 99)) (hc : j < 7 ∨ (7 ≤ j ∧ j < 14 ∧ v ≤ 2) ∨ (14 ≤ j ∧ j < 21 ∧ j - 14 < n)) : WN n pc (bu b j v) := by
  obtain ⟨hW, hZ, hT⟩ := h
  have h7 := hW.1
  refine ⟨WF_bu hW (by omega), fun k h1 h2 => ?_, fun k hk => ?_⟩
  · obtain ⟨z1, z2, z3, z4⟩ := hZ k h1 h2
    rw [bu_ne (by omega), bu_ne (by omega), bu_ne (by omega), bu_ne (by omega)]
    exact ⟨z1, z2, z3, z4⟩
  · by_cases e : 14 + k = j
    · rw [e, bu_eq]; omega
    · rw [bu_ne e]; exact hT k hk
theorem WN_way {n q v : Nat} {pc b : Nat → Nat} (h : WN n pc b) (hq : q < n) (hv : v ≤ 2) : WN n pc (bu b (7 + q) v) := by
  have h7 := h.1.1
  exact WN_bu h (Or.inr (Or.inl ⟨by omega, by omega, hv⟩)) (Or.inr (Or.inl ⟨by omega, by omega, hv⟩))
theorem WN_wait {n q v : Nat} {pc b : Nat → Nat} (h : WN n pc b) (hq : q < n) (hv : v ≤ 99) : WN n pc (bu b (14 + q) v) := by
  have h7 := h.1.1
  exact WN_bu h (Or.inr (Or.inr ⟨by omega, by omega, hv⟩)) (Or.inr (Or.inr ⟨by omega, by omega, by omega⟩))
theorem WN_high {n q v : Nat} {pc b : Nat → Nat} (h : WN n pc b) (hq : q < n) (hv : v ≤ b 28) : WN n pc (bu b q v) := by
  have h7 := h.1.1
  exact WN_bu h (Or.inl ⟨hq, hv⟩) (Or.inl (by omega))
theorem qOf_lt {n q : Nat} {w : Int32} (h7 : n ≤ 7) (h : qOf n w = some q) : q < n := by
  rcases qOf_cases h7 w with ⟨q', hq, -, hi, -⟩ | ⟨hi, -⟩
  · rw [hi] at h; cases h; exact hq
  · rw [hi] at h; cases h
theorem WN_aSet {n : Nat} {pc b : Nat → Nat} (w : Int32) (h : WN n pc b) : WN n pc (aSet n b w).2 := by
  rcases e : qOf n w with _ | q
  · rw [aSet_0 e]; exact h
  · rw [aSet_q e]
    have hq := qOf_lt h.1.1 e
    split
    · exact WN_way h hq (by decide)
    · exact h
theorem WN_aTurn {n : Nat} {pc b : Nat → Nat} (w : Int32) (h : WN n pc b) : WN n pc (aTurn n b w).2 := by
  rcases e : qOf n w with _ | q
  · rw [aTurn_0 e]; exact h
  · rw [aTurn_q e]
    have hq := qOf_lt h.1.1 e
    split
    · exact h
    · split
      · exact WN_way h hq (by decide)
      · exact WN_way h hq (by decide)
theorem WN_aWait {n : Nat} {pc b : Nat → Nat} (w v : Int32) (h : WN n pc b) : WN n pc (aWait n b w v).2 := by
  rcases e : qOf n w with _ | q
  · rw [aWait_0 e]; exact h
  · rcases e2 : nOf v with _ | k
    · rw [aWait_1 e2]; exact h
    · rw [aWait_q e e2]
      exact WN_wait h (qOf_lt h.1.1 e) (Nat.min_le_left _ _)
theorem WN_aSlip {n : Nat} {pc b : Nat → Nat} (w v : Int32) (h : WN n pc b) : WN n pc (aSlip n b w v).2 := by
  rcases e : qOf n w with _ | q
  · rw [aSlip_0 e]; exact h
  · rcases e2 : nOf v with _ | k
    · rw [aSlip_1 e2]; exact h
    · rw [aSlip_q e e2]
      have hq := qOf_lt h.1.1 e
      have h7 := h.1.1
      have := (h.1.2.2.2.2 q (by omega)).2.1
      split
      · exact h
      · exact WN_way (WN_high h hq (by omega)) hq (by decide)
theorem tOf_b {v : Int32} {t : Nat} (h : tOf v = some t) : 2 ≤ t ∧ t ≤ 9 ∧ v = nI t := by
  unfold tOf at h
  by_cases e : nI 2 ≤ v ∧ v ≤ nI 9
  · rw [if_pos e] at h
    cases h
    have hp : ¬ v < 0 := by
      intro z
      rw [Int32.lt_iff_toInt_lt] at z
      have := e.1
      rw [Int32.le_iff_toInt_le] at this
      rw [show (nI 2).toInt = 2 from by decide] at this
      rw [show (0 : Int32).toInt = 0 from by decide] at z
      omega
    obtain ⟨j, hj, rfl⟩ := nI_of hp
    rw [nI_clamp hj]
    exact ⟨(nI_leI (by decide) hj).mp e.1, (nI_leI hj (by decide)).mp e.2, rfl⟩
  · rw [if_neg e] at h; cases h
theorem WN_aTop {n : Nat} {pc b : Nat → Nat} (v : Int32) (h : WN n pc b) : WN n pc (aTop n b v).2 := by
  rcases e : tOf v with _ | t
  · rw [aTop_0 e]; exact h
  · rw [aTop_q e]
    obtain ⟨t1, t2, -⟩ := tOf_b e
    split
    · exact h
    · rename_i h1
      split
      · exact h
      · rename_i h2
        obtain ⟨hW, hZ, hT⟩ := h
        refine ⟨WF_top hW hZ t1 t2 (by omega), fun k q1 q2 => ?_, fun k hk => ?_⟩
        · show bu b 28 t k = 0 ∧ bu b 28 t (7 + k) = 0 ∧ bu b 28 t (14 + k) = 0 ∧ bu b 28 t (21 + k) = 0
          rw [bu_ne (by omega), bu_ne (by omega), bu_ne (by omega), bu_ne (by omega)]; exact hZ k q1 q2
        · show bu b 28 t (14 + k) ≤ 99
          rw [bu_ne (by omega)]; exact hT k hk
theorem WN_pc {n : Nat} {pc pc' b : Nat → Nat} (h : WN n pc b) (hp : ∀ k, k < 7 → pc' k ≤ 9) : WN n pc' b := by
  obtain ⟨⟨a1, a2, a3, a4, a5⟩, hZ, hT⟩ := h
  exact ⟨⟨a1, a2, a3, a4, fun k hk => ⟨hp k hk, (a5 k hk).2⟩⟩, hZ, hT⟩
theorem WN_add {n p : Nat} {pc b : Nat → Nat} (h : WN n pc b) (hn : n < 7) (hp : p ≤ 9) : WN (n + 1) (bu pc n p) (bu (bu (bu (bu b n 0) (7 + n) 0) (14 + n) 0) (21 + n) 0) := by
  obtain ⟨⟨a1, a2, a3, a4, a5⟩, hZ, hT⟩ := h
  obtain ⟨z1, z2, z3, z4⟩ := hZ n (Nat.le_refl n) hn
  have e : bu (bu (bu (bu b n 0) (7 + n) 0) (14 + n) 0) (21 + n) 0 = b := by
    funext k
    unfold bu
    by_cases e1 : k = 21 + n
    · rw [if_pos e1, e1, z4]
    · rw [if_neg e1]
      by_cases e2 : k = 14 + n
      · rw [if_pos e2, e2, z3]
      · rw [if_neg e2]
        by_cases e3 : k = 7 + n
        · rw [if_pos e3, e3, z2]
        · rw [if_neg e3]
          by_cases e4 : k = n
          · rw [if_pos e4, e4, z1]
          · rw [if_neg e4]
  rw [e]
  refine ⟨⟨by omega, a2, by omega, a4, fun k hk => ⟨?_, (a5 k hk).2⟩⟩, fun k q1 q2 => hZ k (by omega) q2, hT⟩
  by_cases ek : k = n
  · rw [ek, bu_eq]; exact hp
  · rw [bu_ne ek]; exact (a5 k hk).1
