/-! the ROW of the class -/
def XN (I : pI) (J : pJ) (rw : List Int64) : Prop := I 19 1 = nI rw.length ∧ rw.length ≤ 12 ∧ ∀ j x, rw[j]? = some x → J 20 j = x
def nadd (rw : List Int64) (v : Int64) : List Int64 := if rw.length < 12 then rw ++ [v] else rw
theorem XN_fr {I I' : pI} {J : pJ} {rw : List Int64} (h : XN I J rw) (h1 : I' 19 = I 19) : XN I' J rw := by
  unfold XN at *
  rw [h1]
  exact h
set_option maxRecDepth 100000 in
set_option maxHeartbeats 2000000 in
theorem x_clear {d : Nat} {I : pI} {J : pJ} : PC SX (d) yX2_clear cX2_clear 1 none [.ref 19] (I) (J) (RX) (fun r' I' J' R' => r' = none ∧ XN I' J' [] ∧ (∀ a, a ≠ 19 → I' a = I a) ∧ R' = RX) := by
  refine PC.of [some (.ref 19)] rfl rfl (Nat.le_of_ble_eq_true rfl) ?_
  refine pw_aload_n 1 rfl dX2_clear_0 rfl ?_
  refine pw_iconst (v := nI 0) 2 rfl dX2_clear_1 rfl ?_
  refine pw_putI 5 rfl dX2_clear_2 fX2_13 w2_1 (by first | rfl | assumption | exact rowS hh | exact mtS hm | exact ruS hr | exact mtA1 hm | exact mtA2 hm | exact mtA3 hm | exact mtA4 hm | exact mtA5 hm | exact mtA6 hm | exact mtA7 hm | exact ruA1 hr | exact ruA2 hr | exact ruA3 hr) rfl rfl rfl ?_
  refine pw_vret dX2_clear_5 ?_
  rotate_left
  exact ⟨rfl, ⟨uI_eq _ _ _ _, Nat.zero_le _, fun j x h => by cases h⟩, fun a h => by rw [uI, if_neg h], rfl⟩
set_option maxRecDepth 100000 in
set_option maxHeartbeats 2000000 in
theorem x_add {d : Nat} {I : pI} {J : pJ} {rw : List Int64} (v : Int64) (hN : XN I J rw) : PC SX (d) yX2_add cX2_add 3 none [.ref 19, .long v] (I) (J) (RX) (fun r' I' J' R' => r' = none ∧ XN I' J' (nadd rw v) ∧ (∀ a, a ≠ 19 → I' a = I a) ∧ R' = RX) := by
  refine PC.of [some (.ref 19), some (.long v), none] rfl rfl (Nat.le_of_ble_eq_true rfl) ?_
  obtain ⟨n1, n2, n3⟩ := hN
  by_cases h : rw.length < 12
  · rw [nadd, if_pos h]
    refine pw_aload_n 1 rfl dX2_add_0 rfl ?_
    refine pw_getI 4 rfl dX2_add_1 fX2_13 (by first | rfl | assumption | exact rowS hh | exact mtS hm | exact ruS hr | exact mtA1 hm | exact mtA2 hm | exact mtA3 hm | exact mtA4 hm | exact mtA5 hm | exact mtA6 hm | exact mtA7 hm | exact ruA1 hr | exact ruA2 hr | exact ruA3 hr) rfl ?_
    refine pw_if_lt (tgt := 36) 7 rfl dX2_add_4 rfl (fun h4 => absurd h4 (by rw [n1]; exact nI_pos (by omega))) (fun h4 => ?_)
    refine pw_aload_n 8 rfl dX2_add_7 rfl ?_
    refine pw_getI 11 rfl dX2_add_8 fX2_13 (by first | rfl | assumption | exact rowS hh | exact mtS hm | exact ruS hr | exact mtA1 hm | exact mtA2 hm | exact mtA3 hm | exact mtA4 hm | exact mtA5 hm | exact mtA6 hm | exact mtA7 hm | exact ruA1 hr | exact ruA2 hr | exact ruA3 hr) rfl ?_
    refine pw_bipush (v := nI 12) 13 rfl dX2_add_11 rfl ?_
    refine pw_icmp_ge (tgt := 36) 16 rfl dX2_add_13 rfl (fun h13 => absurd h13 (by rw [n1]; (simp (disch := omega) only [nI_leI, nI_ltI, nI_eq, show (0 : Int32) = nI 0 from rfl, not_true_eq_false, not_false_eq_true] <;> omega))) (fun h13 => ?_)
    refine pw_aload_n 17 rfl dX2_add_16 rfl ?_
    refine pw_getR 20 rfl dX2_add_17 fX2_9 (by first | rfl | assumption | exact rowS hh | exact mtS hm | exact ruS hr | exact mtA1 hm | exact mtA2 hm | exact mtA3 hm | exact mtA4 hm | exact mtA5 hm | exact mtA6 hm | exact mtA7 hm | exact ruA1 hr | exact ruA2 hr | exact ruA3 hr) rfl (by first | rfl | assumption | exact mtR0 hm | exact mtR1 hm | exact mtR2 hm | exact mtR3 hm | exact mtR4 hm | exact mtR5 hm | exact mtR6 hm | exact ruR0 hr | exact ruR1 hr | exact ruR3 hr) ?_
    refine pw_aload_n 21 rfl dX2_add_20 rfl ?_
    refine pw_getI 24 rfl dX2_add_21 fX2_13 (by first | rfl | assumption | exact rowS hh | exact mtS hm | exact ruS hr | exact mtA1 hm | exact mtA2 hm | exact mtA3 hm | exact mtA4 hm | exact mtA5 hm | exact mtA6 hm | exact mtA7 hm | exact ruA1 hr | exact ruA2 hr | exact ruA3 hr) rfl ?_
    rotate_left
    rw [n1]
    refine pw_lload_n 25 rfl dX2_add_24 rfl ?_
    refine pw_lastN 26 rfl dX2_add_25 (by first | rfl | assumption | exact rowS hh | exact mtS hm | exact ruS hr | exact mtA1 hm | exact mtA2 hm | exact mtA3 hm | exact mtA4 hm | exact mtA5 hm | exact mtA6 hm | exact mtA7 hm | exact ruA1 hr | exact ruA2 hr | exact ruA3 hr) (by omega) (by decide) ?_
    refine pw_aload_n 27 rfl dX2_add_26 rfl ?_
    refine pw_dup 28 rfl dX2_add_27 rfl ?_
    refine pw_getI 31 rfl dX2_add_28 fX2_13 (by first | rfl | assumption | exact rowS hh | exact mtS hm | exact ruS hr | exact mtA1 hm | exact mtA2 hm | exact mtA3 hm | exact mtA4 hm | exact mtA5 hm | exact mtA6 hm | exact mtA7 hm | exact ruA1 hr | exact ruA2 hr | exact ruA3 hr) rfl ?_
    refine pw_iconst (v := nI 1) 32 rfl dX2_add_31 rfl ?_
    rotate_left
    rw [n1]
    first | refine pw_iaddN 33 rfl dX2_add_32 ?_ | refine pw_iadd 33 rfl dX2_add_32 ?_
    refine pw_putI 36 rfl dX2_add_33 fX2_13 w2_1 (by first | rfl | assumption | exact rowS hh | exact mtS hm | exact ruS hr | exact mtA1 hm | exact mtA2 hm | exact mtA3 hm | exact mtA4 hm | exact mtA5 hm | exact mtA6 hm | exact mtA7 hm | exact ruA1 hr | exact ruA2 hr | exact ruA3 hr) rfl rfl rfl ?_
    refine pw_vret dX2_add_36 ?_
    rotate_left
    refine ⟨rfl, ⟨?_, ?_, fun j x hx => ?_⟩, fun a h => by rw [uI, if_neg h], rfl⟩
    · rw [uI_eq, List.length_append]; rfl
    · rw [List.length_append]; show _ + 1 ≤ _; omega
    · rw [uJ_at, if_pos rfl]
      by_cases e : j = rw.length
      · subst e
        rw [if_pos rfl]
        simp at hx
        exact hx
      · have hlt : j < rw.length := by
          have h1 := (List.getElem?_eq_some_iff.mp hx).1
          rw [List.length_append] at h1
          have : j < rw.length + 1 := h1
          omega
        rw [if_neg e]
        rw [List.getElem?_append_left hlt] at hx
        exact n3 j x hx
  · rw [nadd, if_neg h]
    refine pw_aload_n 1 rfl dX2_add_0 rfl ?_
    refine pw_getI 4 rfl dX2_add_1 fX2_13 (by first | rfl | assumption | exact rowS hh | exact mtS hm | exact ruS hr | exact mtA1 hm | exact mtA2 hm | exact mtA3 hm | exact mtA4 hm | exact mtA5 hm | exact mtA6 hm | exact mtA7 hm | exact ruA1 hr | exact ruA2 hr | exact ruA3 hr) rfl ?_
    refine pw_if_lt (tgt := 36) 7 rfl dX2_add_4 rfl (fun h4 => absurd h4 (by rw [n1]; exact nI_pos (by omega))) (fun h4 => ?_)
    refine pw_aload_n 8 rfl dX2_add_7 rfl ?_
    refine pw_getI 11 rfl dX2_add_8 fX2_13 (by first | rfl | assumption | exact rowS hh | exact mtS hm | exact ruS hr | exact mtA1 hm | exact mtA2 hm | exact mtA3 hm | exact mtA4 hm | exact mtA5 hm | exact mtA6 hm | exact mtA7 hm | exact ruA1 hr | exact ruA2 hr | exact ruA3 hr) rfl ?_
    refine pw_bipush (v := nI 12) 13 rfl dX2_add_11 rfl ?_
    refine pw_icmp_ge (tgt := 36) 16 rfl dX2_add_13 rfl (fun h13 => ?_) (fun h13 => absurd (by rw [n1]; (simp (disch := omega) only [nI_leI, nI_ltI, nI_eq, show (0 : Int32) = nI 0 from rfl, not_true_eq_false, not_false_eq_true] <;> omega)) h13)
    refine pw_vret dX2_add_36 ?_
    rotate_left
    exact ⟨rfl, ⟨n1, n2, n3⟩, fun _ _ => rfl, rfl⟩
set_option maxRecDepth 100000 in
set_option maxHeartbeats 2000000 in
theorem x_tellOne {d : Nat} {I : pI} {J : pJ} (v : Int64) : PC SX (d + 1) yX2_tellOne cX2_tellOne 3 none [.ref 19, .long v] (I) (J) (RX) (fun r' I' J' R' => r' = none ∧ XN I' J' [v] ∧ (∀ a, a ≠ 19 → I' a = I a) ∧ R' = RX) := by
  refine PC.of [some (.ref 19), some (.long v), none] rfl rfl (Nat.le_of_ble_eq_true rfl) ?_
  refine pw_aload_n 1 rfl dX2_tellOne_0 rfl ?_
  refine pw_callV (as := []) 4 rfl dX2_tellOne_1 mX2_17 vX2_clear (x_clear (d := d)) (by first | rfl | assumption | exact rowS hh | exact mtS hm | exact ruS hr | exact mtA1 hm | exact mtA2 hm | exact mtA3 hm | exact mtA4 hm | exact mtA5 hm | exact mtA6 hm | exact mtA7 hm | exact ruA1 hr | exact ruA2 hr | exact ruA3 hr) rfl (by decide) ⟨rfl, by decide, by decide, show (parseMethodDescriptor yX2_clear.desc).map (fun d => d.parameters.length) = some 0 by decide +kernel⟩ (by omega) (by decide) (Nat.le_of_ble_eq_true rfl) rfl (fun r1 I1 J1 R1 c1 => ?_)
  obtain ⟨rfl, a1, a2, rfl⟩ := c1
  refine pw_aload_n 5 rfl dX2_tellOne_4 rfl ?_
  refine pw_lload_n 6 rfl dX2_tellOne_5 rfl ?_
  refine pw_callV (as := [_]) 9 rfl dX2_tellOne_6 mX2_20 vX2_add (x_add (d := d) v a1) (by first | rfl | assumption | exact rowS hh | exact mtS hm | exact ruS hr | exact mtA1 hm | exact mtA2 hm | exact mtA3 hm | exact mtA4 hm | exact mtA5 hm | exact mtA6 hm | exact mtA7 hm | exact ruA1 hr | exact ruA2 hr | exact ruA3 hr) rfl (by decide) ⟨rfl, by decide, by decide, show (parseMethodDescriptor yX2_add.desc).map (fun d => d.parameters.length) = some 1 by decide +kernel⟩ (by omega) (by decide) (Nat.le_of_ble_eq_true rfl) rfl (fun r6 I6 J6 R6 c6 => ?_)
  obtain ⟨rfl, b1, b2, rfl⟩ := c6
  refine pw_vret dX2_tellOne_9 ?_
  rotate_left
  exact ⟨rfl, b1, fun a h => by rw [b2 a h, a2 a h], rfl⟩
set_option maxRecDepth 100000 in
set_option maxHeartbeats 2000000 in
theorem x_tellTwo {d : Nat} {I : pI} {J : pJ} (v w : Int64) : PC SX (d + 2) yX2_tellTwo cX2_tellTwo 5 none [.ref 19, .long v, .long w] (I) (J) (RX) (fun r' I' J' R' => r' = none ∧ XN I' J' [v, w] ∧ (∀ a, a ≠ 19 → I' a = I a) ∧ R' = RX) := by
  refine PC.of [some (.ref 19), some (.long v), none, some (.long w), none] rfl rfl (Nat.le_of_ble_eq_true rfl) ?_
  refine pw_aload_n 1 rfl dX2_tellTwo_0 rfl ?_
  refine pw_lload_n 2 rfl dX2_tellTwo_1 rfl ?_
  refine pw_callV (as := [_]) 5 rfl dX2_tellTwo_2 mX2_24 vX2_tellOne (x_tellOne (d := d) v) (by first | rfl | assumption | exact rowS hh | exact mtS hm | exact ruS hr | exact mtA1 hm | exact mtA2 hm | exact mtA3 hm | exact mtA4 hm | exact mtA5 hm | exact mtA6 hm | exact mtA7 hm | exact ruA1 hr | exact ruA2 hr | exact ruA3 hr) rfl (by decide) ⟨rfl, by decide, by decide, show (parseMethodDescriptor yX2_tellOne.desc).map (fun d => d.parameters.length) = some 1 by decide +kernel⟩ (by omega) (by decide) (Nat.le_of_ble_eq_true rfl) rfl (fun r2 I2 J2 R2 c2 => ?_)
  obtain ⟨rfl, a1, a2, rfl⟩ := c2
  refine pw_aload_n 6 rfl dX2_tellTwo_5 rfl ?_
  refine pw_lload_n 7 rfl dX2_tellTwo_6 rfl ?_
  refine pw_callV (as := [_]) 10 rfl dX2_tellTwo_7 mX2_20 vX2_add (x_add (d := d) w a1) (by first | rfl | assumption | exact rowS hh | exact mtS hm | exact ruS hr | exact mtA1 hm | exact mtA2 hm | exact mtA3 hm | exact mtA4 hm | exact mtA5 hm | exact mtA6 hm | exact mtA7 hm | exact ruA1 hr | exact ruA2 hr | exact ruA3 hr) rfl (by decide) ⟨rfl, by decide, by decide, show (parseMethodDescriptor yX2_add.desc).map (fun d => d.parameters.length) = some 1 by decide +kernel⟩ (by omega) (by decide) (Nat.le_of_ble_eq_true rfl) rfl (fun r7 I7 J7 R7 c7 => ?_)
  obtain ⟨rfl, b1, b2, rfl⟩ := c7
  refine pw_vret dX2_tellTwo_10 ?_
  rotate_left
  exact ⟨rfl, b1, fun a h => by rw [b2 a h, a2 a h], rfl⟩
/-- the first n of f, told -/
def nseq (f : Nat → Int64) : Nat → List Int64
  | 0 => []
  | k + 1 => nseq f k ++ [f k]
theorem nseq_len (f : Nat → Int64) : ∀ k, (nseq f k).length = k
  | 0 => rfl
  | k + 1 => by rw [nseq, List.length_append, nseq_len f k]; rfl
theorem nseq_congr {f g : Nat → Int64} : ∀ {n}, (∀ k, k < n → f k = g k) → nseq f n = nseq g n
  | 0, _ => rfl
  | k + 1, h => by rw [nseq, nseq, nseq_congr (fun j hj => h j (by omega)), h k (by omega)]
set_option maxRecDepth 100000 in
set_option maxHeartbeats 2000000 in
theorem x_tellEach {d n h : Nat} {I : pI} {J : pJ} (hh : SX[h]? = some (100, 7)) (h19 : h ≠ 19) (h7 : n ≤ 7) : PC SX (d + 1) yX2_tellEach cX2_tellEach 4 none [.ref 19, .ref h, .int (nI n)] (I) (J) (RX) (fun r' I' J' R' => r' = none ∧ XN I' J' (nseq (fun k => (I h k).toInt64) n) ∧ (∀ a, a ≠ 19 → I' a = I a) ∧ R' = RX) := by
  refine PC.of [some (.ref 19), some (.ref h), some (.int (nI n)), none] rfl rfl (Nat.le_of_ble_eq_true rfl) ?_
  refine pw_aload_n 1 rfl dX2_tellEach_0 rfl ?_
  refine pw_callV (as := []) 4 rfl dX2_tellEach_1 mX2_17 vX2_clear (x_clear (d := d)) (by first | rfl | assumption | exact rowS hh | exact mtS hm | exact ruS hr | exact mtA1 hm | exact mtA2 hm | exact mtA3 hm | exact mtA4 hm | exact mtA5 hm | exact mtA6 hm | exact mtA7 hm | exact ruA1 hr | exact ruA2 hr | exact ruA3 hr) rfl (by decide) ⟨rfl, by decide, by decide, show (parseMethodDescriptor yX2_clear.desc).map (fun d => d.parameters.length) = some 0 by decide +kernel⟩ (by omega) (by decide) (Nat.le_of_ble_eq_true rfl) rfl (fun r1 I1 J1 R1 c1 => ?_)
  obtain ⟨rfl, a1, a2, rfl⟩ := c1
  refine pw_iconst (v := nI 0) 5 rfl dX2_tellEach_4 rfl ?_
  refine pw_istore_n 6 rfl dX2_tellEach_5 (by decide) ?_
  rotate_left
  have L := nat_loop n (fun k => ∀ (I' : pI) (J' : pJ), XN I' J' (nseq (fun k => (I h k).toInt64) k) → (∀ a, a ≠ 19 → I' a = I a) → PW SX yX2_tellEach.cls cX2_tellEach 4 (d + 1) 6 [some (.ref 19), some (.ref h), some (.int (nI n)), some (.int (nI k))] [] (I') (J') (RX) (rX cX2_tellEach none (fun r' I' J' R' => r' = none ∧ XN I' J' (nseq (fun k => (I h k).toInt64) n) ∧ (∀ a, a ≠ 19 → I' a = I a) ∧ R' = RX))) ?_ ?_
  · exact L _ _ a1 a2
  · intro I' J' g1 g2
    refine pw_iload_n 7 rfl dX2_tellEach_6 rfl ?_
    refine pw_iload_n 8 rfl dX2_tellEach_7 rfl ?_
    refine pw_icmp_ge (tgt := 31) 11 rfl dX2_tellEach_8 rfl (fun h8 => ?_) (fun h8 => absurd (by (simp (disch := omega) only [nI_leI, nI_ltI, nI_eq, show (0 : Int32) = nI 0 from rfl, not_true_eq_false, not_false_eq_true] <;> omega)) h8)
    refine pw_vret dX2_tellEach_31 ?_
    rotate_left
    exact ⟨rfl, g1, g2, rfl⟩
  · intro k hk ih I' J' g1 g2
    refine pw_iload_n 7 rfl dX2_tellEach_6 rfl ?_
    refine pw_iload_n 8 rfl dX2_tellEach_7 rfl ?_
    refine pw_icmp_ge (tgt := 31) 11 rfl dX2_tellEach_8 rfl (fun h8 => absurd h8 (by (simp (disch := omega) only [nI_leI, nI_ltI, nI_eq, show (0 : Int32) = nI 0 from rfl, not_true_eq_false, not_false_eq_true] <;> omega))) (fun h8 => ?_)
    refine pw_iload_n 12 rfl dX2_tellEach_11 rfl ?_
    refine pw_aload_n 13 rfl dX2_tellEach_12 rfl ?_
    refine pw_alen 14 rfl dX2_tellEach_13 (by first | rfl | assumption | exact rowS hh | exact mtS hm | exact ruS hr | exact mtA1 hm | exact mtA2 hm | exact mtA3 hm | exact mtA4 hm | exact mtA5 hm | exact mtA6 hm | exact mtA7 hm | exact ruA1 hr | exact ruA2 hr | exact ruA3 hr) rfl (by decide) rfl ?_
    refine pw_icmp_ge (tgt := 31) 17 rfl dX2_tellEach_14 rfl (fun h14 => absurd h14 (by show ¬ nI 7 ≤ nI k; (simp (disch := omega) only [nI_leI, nI_ltI, nI_eq, show (0 : Int32) = nI 0 from rfl, not_true_eq_false, not_false_eq_true] <;> omega))) (fun h14 => ?_)
    refine pw_aload_n 18 rfl dX2_tellEach_17 rfl ?_
    refine pw_aload_n 19 rfl dX2_tellEach_18 rfl ?_
    refine pw_iload_n 20 rfl dX2_tellEach_19 rfl ?_
    refine pw_ialdN 21 rfl dX2_tellEach_20 (by first | rfl | assumption | exact rowS hh | exact mtS hm | exact ruS hr | exact mtA1 hm | exact mtA2 hm | exact mtA3 hm | exact mtA4 hm | exact mtA5 hm | exact mtA6 hm | exact mtA7 hm | exact ruA1 hr | exact ruA2 hr | exact ruA3 hr) (by omega) (by decide) ?_
    refine pw_i2l 22 rfl dX2_tellEach_21 ?_
    refine pw_callV (as := [_]) 25 rfl dX2_tellEach_22 mX2_20 vX2_add (x_add (d := d) _ g1) (by first | rfl | assumption | exact rowS hh | exact mtS hm | exact ruS hr | exact mtA1 hm | exact mtA2 hm | exact mtA3 hm | exact mtA4 hm | exact mtA5 hm | exact mtA6 hm | exact mtA7 hm | exact ruA1 hr | exact ruA2 hr | exact ruA3 hr) rfl (by decide) ⟨rfl, by decide, by decide, show (parseMethodDescriptor yX2_add.desc).map (fun d => d.parameters.length) = some 1 by decide +kernel⟩ (by omega) (by decide) (Nat.le_of_ble_eq_true rfl) rfl (fun r22 I22 J22 R22 c22 => ?_)
    obtain ⟨rfl, b1, b2, rfl⟩ := c22
    refine pw_iincN 28 rfl dX2_tellEach_25 (by decide) rfl ?_
    refine pw_goto (tgt := 6) dX2_tellEach_28 rfl ?_
    rotate_left
    refine ih _ _ ?_ (fun a h => by rw [b2 a h, g2 a h])
    rw [nadd, if_pos (by rw [nseq_len]; omega), g2 h h19] at b1
    exact b1
-- copyFrom
set_option maxRecDepth 100000 in
set_option maxHeartbeats 2000000 in
theorem x_copyFrom {m d n : Nat} {pc b : Nat → Nat} (hm : m = 43 ∨ m = 52) {I : pI} {J : pJ} (hM : XM I 1 n pc b) : PC SX (d) yX1_copyFrom cX1_copyFrom 3 none [.ref m, .ref 1] (I) (J) (RX) (fun r' I' J' R' => r' = none ∧ XM I' m n pc b ∧ I' m 12 = nI 0 ∧ (∀ a, ¬ (m ≤ a ∧ a ≤ m + 7) → I' a = I a) ∧ J = J' ∧ R' = RX) := by
  refine PC.of [some (.ref m), some (.ref 1), none] rfl rfl (Nat.le_of_ble_eq_true rfl) ?_
  have hm0 : isMt m := Or.inr hm
  obtain ⟨h7, i7, i8, i9, i10, i11, hA⟩ := hM
  have hm' := hm
  clear hm
  have hm := hm0
  refine pw_aload_n 1 rfl dX1_copyFrom_0 rfl ?_
  refine pw_aload_n 2 rfl dX1_copyFrom_1 rfl ?_
  refine pw_getI 5 rfl dX1_copyFrom_2 fX1_33 (by first | rfl | assumption | exact rowS hh | exact mtS hm | exact ruS hr | exact mtA1 hm | exact mtA2 hm | exact mtA3 hm | exact mtA4 hm | exact mtA5 hm | exact mtA6 hm | exact mtA7 hm | exact ruA1 hr | exact ruA2 hr | exact ruA3 hr) rfl ?_
  refine pw_putI 8 rfl dX1_copyFrom_5 fX1_33 w1_7 (by first | rfl | assumption | exact rowS hh | exact mtS hm | exact ruS hr | exact mtA1 hm | exact mtA2 hm | exact mtA3 hm | exact mtA4 hm | exact mtA5 hm | exact mtA6 hm | exact mtA7 hm | exact ruA1 hr | exact ruA2 hr | exact ruA3 hr) rfl rfl rfl ?_
  refine pw_aload_n 9 rfl dX1_copyFrom_8 rfl ?_
  refine pw_aload_n 10 rfl dX1_copyFrom_9 rfl ?_
  refine pw_getI 13 rfl dX1_copyFrom_10 fX1_37 (by first | rfl | assumption | exact rowS hh | exact mtS hm | exact ruS hr | exact mtA1 hm | exact mtA2 hm | exact mtA3 hm | exact mtA4 hm | exact mtA5 hm | exact mtA6 hm | exact mtA7 hm | exact ruA1 hr | exact ruA2 hr | exact ruA3 hr) rfl ?_
  refine pw_putI 16 rfl dX1_copyFrom_13 fX1_37 w1_8 (by first | rfl | assumption | exact rowS hh | exact mtS hm | exact ruS hr | exact mtA1 hm | exact mtA2 hm | exact mtA3 hm | exact mtA4 hm | exact mtA5 hm | exact mtA6 hm | exact mtA7 hm | exact ruA1 hr | exact ruA2 hr | exact ruA3 hr) rfl rfl rfl ?_
  refine pw_aload_n 17 rfl dX1_copyFrom_16 rfl ?_
  refine pw_aload_n 18 rfl dX1_copyFrom_17 rfl ?_
  refine pw_getI 21 rfl dX1_copyFrom_18 fX1_40 (by first | rfl | assumption | exact rowS hh | exact mtS hm | exact ruS hr | exact mtA1 hm | exact mtA2 hm | exact mtA3 hm | exact mtA4 hm | exact mtA5 hm | exact mtA6 hm | exact mtA7 hm | exact ruA1 hr | exact ruA2 hr | exact ruA3 hr) rfl ?_
  refine pw_putI 24 rfl dX1_copyFrom_21 fX1_40 w1_9 (by first | rfl | assumption | exact rowS hh | exact mtS hm | exact ruS hr | exact mtA1 hm | exact mtA2 hm | exact mtA3 hm | exact mtA4 hm | exact mtA5 hm | exact mtA6 hm | exact mtA7 hm | exact ruA1 hr | exact ruA2 hr | exact ruA3 hr) rfl rfl rfl ?_
  refine pw_aload_n 25 rfl dX1_copyFrom_24 rfl ?_
  refine pw_aload_n 26 rfl dX1_copyFrom_25 rfl ?_
  refine pw_getI 29 rfl dX1_copyFrom_26 fX1_43 (by first | rfl | assumption | exact rowS hh | exact mtS hm | exact ruS hr | exact mtA1 hm | exact mtA2 hm | exact mtA3 hm | exact mtA4 hm | exact mtA5 hm | exact mtA6 hm | exact mtA7 hm | exact ruA1 hr | exact ruA2 hr | exact ruA3 hr) rfl ?_
  refine pw_putI 32 rfl dX1_copyFrom_29 fX1_43 w1_10 (by first | rfl | assumption | exact rowS hh | exact mtS hm | exact ruS hr | exact mtA1 hm | exact mtA2 hm | exact mtA3 hm | exact mtA4 hm | exact mtA5 hm | exact mtA6 hm | exact mtA7 hm | exact ruA1 hr | exact ruA2 hr | exact ruA3 hr) rfl rfl rfl ?_
  refine pw_aload_n 33 rfl dX1_copyFrom_32 rfl ?_
  refine pw_aload_n 34 rfl dX1_copyFrom_33 rfl ?_
  refine pw_getI 37 rfl dX1_copyFrom_34 fX1_46 (by first | rfl | assumption | exact rowS hh | exact mtS hm | exact ruS hr | exact mtA1 hm | exact mtA2 hm | exact mtA3 hm | exact mtA4 hm | exact mtA5 hm | exact mtA6 hm | exact mtA7 hm | exact ruA1 hr | exact ruA2 hr | exact ruA3 hr) rfl ?_
  refine pw_putI 40 rfl dX1_copyFrom_37 fX1_46 w1_11 (by first | rfl | assumption | exact rowS hh | exact mtS hm | exact ruS hr | exact mtA1 hm | exact mtA2 hm | exact mtA3 hm | exact mtA4 hm | exact mtA5 hm | exact mtA6 hm | exact mtA7 hm | exact ruA1 hr | exact ruA2 hr | exact ruA3 hr) rfl rfl rfl ?_
  refine pw_aload_n 41 rfl dX1_copyFrom_40 rfl ?_
  refine pw_iconst (v := nI 0) 42 rfl dX1_copyFrom_41 rfl ?_
  refine pw_putI 45 rfl dX1_copyFrom_42 fX1_49 w1_12 (by first | rfl | assumption | exact rowS hh | exact mtS hm | exact ruS hr | exact mtA1 hm | exact mtA2 hm | exact mtA3 hm | exact mtA4 hm | exact mtA5 hm | exact mtA6 hm | exact mtA7 hm | exact ruA1 hr | exact ruA2 hr | exact ruA3 hr) rfl rfl rfl ?_
  refine pw_iconst (v := nI 0) 46 rfl dX1_copyFrom_45 rfl ?_
  refine pw_istore_n 47 rfl dX1_copyFrom_46 (by decide) ?_
  rotate_left
  have L := nat_loop 7 (fun k => ∀ (I' : pI), (∀ a, ¬ (m ≤ a ∧ a ≤ m + 7) → I' a = I a) → I' m 7 = nI n ∧ I' m 8 = nI (b 28) ∧ I' m 9 = nI (b 29) ∧ I' m 10 = nI (b 30) ∧ I' m 11 = nI (b 31) ∧ I' m 12 = nI 0 → (∀ q, q < k → I' (m + 1) q = nI (pc q) ∧ I' (m + 2) q = nI (b q) ∧ I' (m + 3) q = nI (b (7 + q)) ∧ I' (m + 4) q = nI (b (14 + q)) ∧ I' (m + 5) q = nI (b (21 + q))) → PW SX yX1_copyFrom.cls cX1_copyFrom 3 (d) 47 [some (.ref m), some (.ref 1), some (.int (nI k))] [] (I') (J) (RX) (rX cX1_copyFrom none (fun r' I' J' R' => r' = none ∧ XM I' m n pc b ∧ I' m 12 = nI 0 ∧ (∀ a, ¬ (m ≤ a ∧ a ≤ m + 7) → I' a = I a) ∧ J = J' ∧ R' = RX))) ?_ ?_
  · refine L _ (fun a h => ?_) ⟨?_, ?_, ?_, ?_, ?_, ?_⟩ (fun q hq => by omega)
    · funext j
      rw [uI_ne (by omega), uI_ne (by omega), uI_ne (by omega), uI_ne (by omega), uI_ne (by omega), uI_ne (by omega)]
    · rw [uI_ne (by omega), uI_ne (by omega), uI_ne (by omega), uI_ne (by omega), uI_ne (by omega), uI_eq]; exact i7
    · rw [uI_ne (by omega), uI_ne (by omega), uI_ne (by omega), uI_ne (by omega), uI_eq, uI_ne (by omega)]; exact i8
    · rw [uI_ne (by omega), uI_ne (by omega), uI_ne (by omega), uI_eq, uI_ne (by omega), uI_ne (by omega)]; exact i9
    · rw [uI_ne (by omega), uI_ne (by omega), uI_eq, uI_ne (by omega), uI_ne (by omega), uI_ne (by omega)]; exact i10
    · rw [uI_ne (by omega), uI_eq, uI_ne (by omega), uI_ne (by omega), uI_ne (by omega), uI_ne (by omega)]; exact i11
    · rw [uI_eq]
  · intro I' g1 g2 g3
    refine pw_iload_n 48 rfl dX1_copyFrom_47 rfl ?_
    refine pw_bipush (v := nI 7) 50 rfl dX1_copyFrom_48 rfl ?_
    refine pw_icmp_ge (tgt := 119) 53 rfl dX1_copyFrom_50 rfl (fun h50 => ?_) (fun h50 => absurd (by (simp (disch := omega) only [nI_leI, nI_ltI, nI_eq, show (0 : Int32) = nI 0 from rfl, not_true_eq_false, not_false_eq_true] <;> omega)) h50)
    refine pw_vret dX1_copyFrom_119 ?_
    rotate_left
    exact ⟨rfl, ⟨h7, g2.1, g2.2.1, g2.2.2.1, g2.2.2.2.1, g2.2.2.2.2.1, g3⟩, g2.2.2.2.2.2, g1, rfl, rfl⟩
  · intro k hk ih I' g1 g2 g3
    obtain ⟨v1, v2, v3, v4, v5⟩ := hA k hk
    refine pw_iload_n 48 rfl dX1_copyFrom_47 rfl ?_
    refine pw_bipush (v := nI 7) 50 rfl dX1_copyFrom_48 rfl ?_
    refine pw_icmp_ge (tgt := 119) 53 rfl dX1_copyFrom_50 rfl (fun h50 => absurd h50 (by (simp (disch := omega) only [nI_leI, nI_ltI, nI_eq, show (0 : Int32) = nI 0 from rfl, not_true_eq_false, not_false_eq_true] <;> omega))) (fun h50 => ?_)
    refine pw_aload_n 54 rfl dX1_copyFrom_53 rfl ?_
    refine pw_getR 57 rfl dX1_copyFrom_54 fX1_9 (by first | rfl | assumption | exact rowS hh | exact mtS hm | exact ruS hr | exact mtA1 hm | exact mtA2 hm | exact mtA3 hm | exact mtA4 hm | exact mtA5 hm | exact mtA6 hm | exact mtA7 hm | exact ruA1 hr | exact ruA2 hr | exact ruA3 hr) rfl (by first | rfl | assumption | exact mtR0 hm | exact mtR1 hm | exact mtR2 hm | exact mtR3 hm | exact mtR4 hm | exact mtR5 hm | exact mtR6 hm | exact ruR0 hr | exact ruR1 hr | exact ruR3 hr) ?_
    refine pw_iload_n 58 rfl dX1_copyFrom_57 rfl ?_
    refine pw_aload_n 59 rfl dX1_copyFrom_58 rfl ?_
    refine pw_getR 62 rfl dX1_copyFrom_59 fX1_9 (by first | rfl | assumption | exact rowS hh | exact mtS hm | exact ruS hr | exact mtA1 hm | exact mtA2 hm | exact mtA3 hm | exact mtA4 hm | exact mtA5 hm | exact mtA6 hm | exact mtA7 hm | exact ruA1 hr | exact ruA2 hr | exact ruA3 hr) rfl (by first | rfl | assumption | exact mtR0 hm | exact mtR1 hm | exact mtR2 hm | exact mtR3 hm | exact mtR4 hm | exact mtR5 hm | exact mtR6 hm | exact ruR0 hr | exact ruR1 hr | exact ruR3 hr) ?_
    refine pw_iload_n 63 rfl dX1_copyFrom_62 rfl ?_
    refine pw_ialdN 64 rfl dX1_copyFrom_63 (by first | rfl | assumption | exact rowS hh | exact mtS hm | exact ruS hr | exact mtA1 hm | exact mtA2 hm | exact mtA3 hm | exact mtA4 hm | exact mtA5 hm | exact mtA6 hm | exact mtA7 hm | exact ruA1 hr | exact ruA2 hr | exact ruA3 hr) (by omega) (by decide) ?_
    refine pw_iastN 65 rfl dX1_copyFrom_64 (by first | rfl | assumption | exact rowS hh | exact mtS hm | exact ruS hr | exact mtA1 hm | exact mtA2 hm | exact mtA3 hm | exact mtA4 hm | exact mtA5 hm | exact mtA6 hm | exact mtA7 hm | exact ruA1 hr | exact ruA2 hr | exact ruA3 hr) (by omega) (by decide) ?_
    refine pw_aload_n 66 rfl dX1_copyFrom_65 rfl ?_
    refine pw_getR 69 rfl dX1_copyFrom_66 fX1_15 (by first | rfl | assumption | exact rowS hh | exact mtS hm | exact ruS hr | exact mtA1 hm | exact mtA2 hm | exact mtA3 hm | exact mtA4 hm | exact mtA5 hm | exact mtA6 hm | exact mtA7 hm | exact ruA1 hr | exact ruA2 hr | exact ruA3 hr) rfl (by first | rfl | assumption | exact mtR0 hm | exact mtR1 hm | exact mtR2 hm | exact mtR3 hm | exact mtR4 hm | exact mtR5 hm | exact mtR6 hm | exact ruR0 hr | exact ruR1 hr | exact ruR3 hr) ?_
    refine pw_iload_n 70 rfl dX1_copyFrom_69 rfl ?_
    refine pw_aload_n 71 rfl dX1_copyFrom_70 rfl ?_
    refine pw_getR 74 rfl dX1_copyFrom_71 fX1_15 (by first | rfl | assumption | exact rowS hh | exact mtS hm | exact ruS hr | exact mtA1 hm | exact mtA2 hm | exact mtA3 hm | exact mtA4 hm | exact mtA5 hm | exact mtA6 hm | exact mtA7 hm | exact ruA1 hr | exact ruA2 hr | exact ruA3 hr) rfl (by first | rfl | assumption | exact mtR0 hm | exact mtR1 hm | exact mtR2 hm | exact mtR3 hm | exact mtR4 hm | exact mtR5 hm | exact mtR6 hm | exact ruR0 hr | exact ruR1 hr | exact ruR3 hr) ?_
    refine pw_iload_n 75 rfl dX1_copyFrom_74 rfl ?_
    refine pw_ialdN 76 rfl dX1_copyFrom_75 (by first | rfl | assumption | exact rowS hh | exact mtS hm | exact ruS hr | exact mtA1 hm | exact mtA2 hm | exact mtA3 hm | exact mtA4 hm | exact mtA5 hm | exact mtA6 hm | exact mtA7 hm | exact ruA1 hr | exact ruA2 hr | exact ruA3 hr) (by omega) (by decide) ?_
    refine pw_iastN 77 rfl dX1_copyFrom_76 (by first | rfl | assumption | exact rowS hh | exact mtS hm | exact ruS hr | exact mtA1 hm | exact mtA2 hm | exact mtA3 hm | exact mtA4 hm | exact mtA5 hm | exact mtA6 hm | exact mtA7 hm | exact ruA1 hr | exact ruA2 hr | exact ruA3 hr) (by omega) (by decide) ?_
    refine pw_aload_n 78 rfl dX1_copyFrom_77 rfl ?_
    refine pw_getR 81 rfl dX1_copyFrom_78 fX1_18 (by first | rfl | assumption | exact rowS hh | exact mtS hm | exact ruS hr | exact mtA1 hm | exact mtA2 hm | exact mtA3 hm | exact mtA4 hm | exact mtA5 hm | exact mtA6 hm | exact mtA7 hm | exact ruA1 hr | exact ruA2 hr | exact ruA3 hr) rfl (by first | rfl | assumption | exact mtR0 hm | exact mtR1 hm | exact mtR2 hm | exact mtR3 hm | exact mtR4 hm | exact mtR5 hm | exact mtR6 hm | exact ruR0 hr | exact ruR1 hr | exact ruR3 hr) ?_
    refine pw_iload_n 82 rfl dX1_copyFrom_81 rfl ?_
    refine pw_aload_n 83 rfl dX1_copyFrom_82 rfl ?_
    refine pw_getR 86 rfl dX1_copyFrom_83 fX1_18 (by first | rfl | assumption | exact rowS hh | exact mtS hm | exact ruS hr | exact mtA1 hm | exact mtA2 hm | exact mtA3 hm | exact mtA4 hm | exact mtA5 hm | exact mtA6 hm | exact mtA7 hm | exact ruA1 hr | exact ruA2 hr | exact ruA3 hr) rfl (by first | rfl | assumption | exact mtR0 hm | exact mtR1 hm | exact mtR2 hm | exact mtR3 hm | exact mtR4 hm | exact mtR5 hm | exact mtR6 hm | exact ruR0 hr | exact ruR1 hr | exact ruR3 hr) ?_
    refine pw_iload_n 87 rfl dX1_copyFrom_86 rfl ?_
    refine pw_ialdN 88 rfl dX1_copyFrom_87 (by first | rfl | assumption | exact rowS hh | exact mtS hm | exact ruS hr | exact mtA1 hm | exact mtA2 hm | exact mtA3 hm | exact mtA4 hm | exact mtA5 hm | exact mtA6 hm | exact mtA7 hm | exact ruA1 hr | exact ruA2 hr | exact ruA3 hr) (by omega) (by decide) ?_
    refine pw_iastN 89 rfl dX1_copyFrom_88 (by first | rfl | assumption | exact rowS hh | exact mtS hm | exact ruS hr | exact mtA1 hm | exact mtA2 hm | exact mtA3 hm | exact mtA4 hm | exact mtA5 hm | exact mtA6 hm | exact mtA7 hm | exact ruA1 hr | exact ruA2 hr | exact ruA3 hr) (by omega) (by decide) ?_
    refine pw_aload_n 90 rfl dX1_copyFrom_89 rfl ?_
    refine pw_getR 93 rfl dX1_copyFrom_90 fX1_21 (by first | rfl | assumption | exact rowS hh | exact mtS hm | exact ruS hr | exact mtA1 hm | exact mtA2 hm | exact mtA3 hm | exact mtA4 hm | exact mtA5 hm | exact mtA6 hm | exact mtA7 hm | exact ruA1 hr | exact ruA2 hr | exact ruA3 hr) rfl (by first | rfl | assumption | exact mtR0 hm | exact mtR1 hm | exact mtR2 hm | exact mtR3 hm | exact mtR4 hm | exact mtR5 hm | exact mtR6 hm | exact ruR0 hr | exact ruR1 hr | exact ruR3 hr) ?_
    refine pw_iload_n 94 rfl dX1_copyFrom_93 rfl ?_
    refine pw_aload_n 95 rfl dX1_copyFrom_94 rfl ?_
    refine pw_getR 98 rfl dX1_copyFrom_95 fX1_21 (by first | rfl | assumption | exact rowS hh | exact mtS hm | exact ruS hr | exact mtA1 hm | exact mtA2 hm | exact mtA3 hm | exact mtA4 hm | exact mtA5 hm | exact mtA6 hm | exact mtA7 hm | exact ruA1 hr | exact ruA2 hr | exact ruA3 hr) rfl (by first | rfl | assumption | exact mtR0 hm | exact mtR1 hm | exact mtR2 hm | exact mtR3 hm | exact mtR4 hm | exact mtR5 hm | exact mtR6 hm | exact ruR0 hr | exact ruR1 hr | exact ruR3 hr) ?_
    refine pw_iload_n 99 rfl dX1_copyFrom_98 rfl ?_
    refine pw_ialdN 100 rfl dX1_copyFrom_99 (by first | rfl | assumption | exact rowS hh | exact mtS hm | exact ruS hr | exact mtA1 hm | exact mtA2 hm | exact mtA3 hm | exact mtA4 hm | exact mtA5 hm | exact mtA6 hm | exact mtA7 hm | exact ruA1 hr | exact ruA2 hr | exact ruA3 hr) (by omega) (by decide) ?_
    refine pw_iastN 101 rfl dX1_copyFrom_100 (by first | rfl | assumption | exact rowS hh | exact mtS hm | exact ruS hr | exact mtA1 hm | exact mtA2 hm | exact mtA3 hm | exact mtA4 hm | exact mtA5 hm | exact mtA6 hm | exact mtA7 hm | exact ruA1 hr | exact ruA2 hr | exact ruA3 hr) (by omega) (by decide) ?_
    refine pw_aload_n 102 rfl dX1_copyFrom_101 rfl ?_
    refine pw_getR 105 rfl dX1_copyFrom_102 fX1_24 (by first | rfl | assumption | exact rowS hh | exact mtS hm | exact ruS hr | exact mtA1 hm | exact mtA2 hm | exact mtA3 hm | exact mtA4 hm | exact mtA5 hm | exact mtA6 hm | exact mtA7 hm | exact ruA1 hr | exact ruA2 hr | exact ruA3 hr) rfl (by first | rfl | assumption | exact mtR0 hm | exact mtR1 hm | exact mtR2 hm | exact mtR3 hm | exact mtR4 hm | exact mtR5 hm | exact mtR6 hm | exact ruR0 hr | exact ruR1 hr | exact ruR3 hr) ?_
    refine pw_iload_n 106 rfl dX1_copyFrom_105 rfl ?_
    refine pw_aload_n 107 rfl dX1_copyFrom_106 rfl ?_
    refine pw_getR 110 rfl dX1_copyFrom_107 fX1_24 (by first | rfl | assumption | exact rowS hh | exact mtS hm | exact ruS hr | exact mtA1 hm | exact mtA2 hm | exact mtA3 hm | exact mtA4 hm | exact mtA5 hm | exact mtA6 hm | exact mtA7 hm | exact ruA1 hr | exact ruA2 hr | exact ruA3 hr) rfl (by first | rfl | assumption | exact mtR0 hm | exact mtR1 hm | exact mtR2 hm | exact mtR3 hm | exact mtR4 hm | exact mtR5 hm | exact mtR6 hm | exact ruR0 hr | exact ruR1 hr | exact ruR3 hr) ?_
    refine pw_iload_n 111 rfl dX1_copyFrom_110 rfl ?_
    refine pw_ialdN 112 rfl dX1_copyFrom_111 (by first | rfl | assumption | exact rowS hh | exact mtS hm | exact ruS hr | exact mtA1 hm | exact mtA2 hm | exact mtA3 hm | exact mtA4 hm | exact mtA5 hm | exact mtA6 hm | exact mtA7 hm | exact ruA1 hr | exact ruA2 hr | exact ruA3 hr) (by omega) (by decide) ?_
    refine pw_iastN 113 rfl dX1_copyFrom_112 (by first | rfl | assumption | exact rowS hh | exact mtS hm | exact ruS hr | exact mtA1 hm | exact mtA2 hm | exact mtA3 hm | exact mtA4 hm | exact mtA5 hm | exact mtA6 hm | exact mtA7 hm | exact ruA1 hr | exact ruA2 hr | exact ruA3 hr) (by omega) (by decide) ?_
    refine pw_iincN 116 rfl dX1_copyFrom_113 (by decide) rfl ?_
    refine pw_goto (tgt := 47) dX1_copyFrom_116 rfl ?_
    rotate_left
    refine ih _ (fun a h => ?_) ⟨?_, ?_, ?_, ?_, ?_, ?_⟩ (fun q hq => ?_)
    · funext j
      rw [uI_ne (by omega), uI_ne (by omega), uI_ne (by omega), uI_ne (by omega), uI_ne (by omega), g1 a h]
    · rw [uI_ne (by omega), uI_ne (by omega), uI_ne (by omega), uI_ne (by omega), uI_ne (by omega)]; exact g2.1
    · rw [uI_ne (by omega), uI_ne (by omega), uI_ne (by omega), uI_ne (by omega), uI_ne (by omega)]; exact g2.2.1
    · rw [uI_ne (by omega), uI_ne (by omega), uI_ne (by omega), uI_ne (by omega), uI_ne (by omega)]; exact g2.2.2.1
    · rw [uI_ne (by omega), uI_ne (by omega), uI_ne (by omega), uI_ne (by omega), uI_ne (by omega)]; exact g2.2.2.2.1
    · rw [uI_ne (by omega), uI_ne (by omega), uI_ne (by omega), uI_ne (by omega), uI_ne (by omega)]; exact g2.2.2.2.2.1
    · rw [uI_ne (by omega), uI_ne (by omega), uI_ne (by omega), uI_ne (by omega), uI_ne (by omega)]; exact g2.2.2.2.2.2
    · by_cases e : q = k
      · subst e
        refine ⟨?_, ?_, ?_, ?_, ?_⟩
        · rw [uI_ne (by omega), uI_ne (by omega), uI_ne (by omega), uI_ne (by omega), uI_eq, g1 2 (by omega)]; exact v1
        · rw [uI_ne (by omega), uI_ne (by omega), uI_ne (by omega), uI_eq, uI_ne (by omega), g1 3 (by omega)]; exact v2
        · rw [uI_ne (by omega), uI_ne (by omega), uI_eq, uI_ne (by omega), uI_ne (by omega), g1 4 (by omega)]; exact v3
        · rw [uI_ne (by omega), uI_eq, uI_ne (by omega), uI_ne (by omega), uI_ne (by omega), g1 5 (by omega)]; exact v4
        · rw [uI_eq, uI_ne (by omega), uI_ne (by omega), uI_ne (by omega), uI_ne (by omega), g1 6 (by omega)]; exact v5
      · obtain ⟨w1, w2, w3, w4, w5⟩ := g3 q (by omega)
        refine ⟨?_, ?_, ?_, ?_, ?_⟩
        · rw [uI_ne (by omega), uI_ne (by omega), uI_ne (by omega), uI_ne (by omega), uI_ne (by omega)]; exact w1
        · rw [uI_ne (by omega), uI_ne (by omega), uI_ne (by omega), uI_ne (by omega), uI_ne (by omega)]; exact w2
        · rw [uI_ne (by omega), uI_ne (by omega), uI_ne (by omega), uI_ne (by omega), uI_ne (by omega)]; exact w3
        · rw [uI_ne (by omega), uI_ne (by omega), uI_ne (by omega), uI_ne (by omega), uI_ne (by omega)]; exact w4
        · rw [uI_ne (by omega), uI_ne (by omega), uI_ne (by omega), uI_ne (by omega), uI_ne (by omega)]; exact w5
