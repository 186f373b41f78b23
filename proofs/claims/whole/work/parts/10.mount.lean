/-! the mountain at m: n climbers of paces pc, the row b: heights 0 .. 6, ways 7 .., waits 14 .., built 21 .., top 28, owner 29, hour 30, downs 31 -/
def XM (I : pI) (m n : Nat) (pc b : Nat → Nat) : Prop :=
  n ≤ 7 ∧ I m 7 = nI n ∧ I m 8 = nI (b 28) ∧ I m 9 = nI (b 29) ∧ I m 10 = nI (b 30) ∧ I m 11 = nI (b 31) ∧
  ∀ k, k < 7 → I (m + 1) k = nI (pc k) ∧ I (m + 2) k = nI (b k) ∧ I (m + 3) k = nI (b (7 + k)) ∧ I (m + 4) k = nI (b (14 + k)) ∧ I (m + 5) k = nI (b (21 + k))
/-- what a row is: top 2 .. 9, owner a climber or 7, heights up to top, ways 0 .. 2, waits and built small -/
def WF (n : Nat) (pc b : Nat → Nat) : Prop :=
  n ≤ 7 ∧ (2 ≤ b 28 ∧ b 28 ≤ 9) ∧ (b 29 < n ∨ b 29 = 7) ∧ b 31 ≤ 9999 ∧ ∀ k, k < 7 → pc k ≤ 9 ∧ b k ≤ b 28 ∧ b (7 + k) ≤ 2 ∧ b (14 + k) ≤ 500 ∧ b (21 + k) ≤ 999
/-- has(who) of a mountain with n climbers -/
def hasV (n : Nat) (w : Int32) : Int32 := if 0 ≤ w ∧ w < nI n then nI 1 else nI 0
theorem hasV_y {n j : Nat} (h : j < n) (h7 : n ≤ 7) : hasV n (nI j) = nI 1 := if_pos ⟨nI_pos' (by omega), nI_lt h (by omega)⟩
theorem hasV_n {n j : Nat} (h : n ≤ j) (h7 : j < 2147483648) : hasV n (nI j) = nI 0 := if_neg (fun q => nI_nlt h h7 q.2)
theorem hasV_no {n : Nat} {w : Int32} (h : w < 0 ∨ nI n ≤ w) : hasV n w = nI 0 := if_neg (fun q => by
  rw [Int32.le_iff_toInt_le, Int32.lt_iff_toInt_lt] at q
  rw [Int32.le_iff_toInt_le, Int32.lt_iff_toInt_lt] at h
  omega)
set_option maxRecDepth 100000 in
set_option maxHeartbeats 2000000 in
theorem x_has {m d n : Nat} (hm : isMt m) {I : pI} {J : pJ} (hn : I m 7 = nI n) (h7 : n ≤ 7) (w : Int32) : PC SX (d) yX1_has cX1_has 2 (some .boolean) [.ref m, .int w] I J RX (pPu (.int (hasV n w)) I J RX) := by
  refine PC.of [some (.ref m), some (.int w)] rfl rfl (Nat.le_of_ble_eq_true rfl) ?_
  rcases pk_ix w (n := n) (by omega) with h | h | ⟨j, hj, rfl⟩
  · rw [hasV_no (Or.inl h)]
    refine pw_iload_n 1 rfl dX1_has_0 rfl ?_
    refine pw_if_lt (tgt := 22) 4 rfl dX1_has_1 rfl (fun h1 => ?_) (fun h1 => absurd h h1)
    refine pw_iconst (v := nI 0) 23 rfl dX1_has_22 rfl ?_
    refine pw_iret dX1_has_23 rfl ?_
    rotate_left
    exact ⟨rfl, rfl, rfl, rfl⟩
  · rw [hasV_no (Or.inr h)]
    refine pw_iload_n 1 rfl dX1_has_0 rfl ?_
    refine pw_if_lt (tgt := 22) 4 rfl dX1_has_1 rfl (fun h1 => ?_) (fun h1 => ?_)
    refine pw_iconst (v := nI 0) 23 rfl dX1_has_22 rfl ?_
    refine pw_iret dX1_has_23 rfl ?_
    rotate_left
    refine pw_iload_n 5 rfl dX1_has_4 rfl ?_
    refine pw_aload_n 6 rfl dX1_has_5 rfl ?_
    refine pw_getI 9 rfl dX1_has_6 fX1_33 (by first | rfl | assumption | exact rowS hh | exact mtS hm | exact ruS hr | exact mtA1 hm | exact mtA2 hm | exact mtA3 hm | exact mtA4 hm | exact mtA5 hm | exact mtA6 hm | exact mtA7 hm | exact ruA1 hr | exact ruA2 hr | exact ruA3 hr) rfl ?_
    refine pw_icmp_ge (tgt := 22) 12 rfl dX1_has_9 rfl (fun h9 => ?_) (fun h9 => absurd (by rw [hn]; exact h) h9)
    refine pw_iconst (v := nI 0) 23 rfl dX1_has_22 rfl ?_
    refine pw_iret dX1_has_23 rfl ?_
    rotate_left
    all_goals exact ⟨rfl, rfl, rfl, rfl⟩
  · rw [hasV_y hj h7]
    refine pw_iload_n 1 rfl dX1_has_0 rfl ?_
    refine pw_if_lt (tgt := 22) 4 rfl dX1_has_1 rfl (fun h1 => absurd h1 (nI_pos (by omega))) (fun h1 => ?_)
    refine pw_iload_n 5 rfl dX1_has_4 rfl ?_
    refine pw_aload_n 6 rfl dX1_has_5 rfl ?_
    refine pw_getI 9 rfl dX1_has_6 fX1_33 (by first | rfl | assumption | exact rowS hh | exact mtS hm | exact ruS hr | exact mtA1 hm | exact mtA2 hm | exact mtA3 hm | exact mtA4 hm | exact mtA5 hm | exact mtA6 hm | exact mtA7 hm | exact ruA1 hr | exact ruA2 hr | exact ruA3 hr) rfl ?_
    refine pw_icmp_ge (tgt := 22) 12 rfl dX1_has_9 rfl (fun h9 => absurd h9 (by rw [hn]; (simp (disch := omega) only [nI_leI, nI_ltI, nI_eq, show (0 : Int32) = nI 0 from rfl, not_true_eq_false, not_false_eq_true] <;> omega))) (fun h9 => ?_)
    refine pw_iload_n 13 rfl dX1_has_12 rfl ?_
    refine pw_bipush (v := nI 7) 15 rfl dX1_has_13 rfl ?_
    refine pw_icmp_ge (tgt := 22) 18 rfl dX1_has_15 rfl (fun h15 => absurd h15 (by (simp (disch := omega) only [nI_leI, nI_ltI, nI_eq, show (0 : Int32) = nI 0 from rfl, not_true_eq_false, not_false_eq_true] <;> omega))) (fun h15 => ?_)
    refine pw_iconst (v := nI 1) 19 rfl dX1_has_18 rfl ?_
    refine pw_goto (tgt := 23) dX1_has_19 rfl ?_
    refine pw_iret dX1_has_23 rfl ?_
    rotate_left
    exact ⟨rfl, rfl, rfl, rfl⟩
/-- the greatest of 0 and the first k -/
def mxf (f : Nat → Nat) : Nat → Nat
  | 0 => 0
  | k + 1 => max (mxf f k) (f k)
theorem nI_max {a b : Nat} (ha : a < 2147483648) (hb : b < 2147483648) : (if nI a < nI b then nI b else nI a) = nI (max a b) := by
  by_cases h : a < b
  · rw [if_pos (nI_lt h hb), Nat.max_eq_right (by omega)]
  · rw [if_neg (nI_nlt (by omega) ha), Nat.max_eq_left (by omega)]
theorem nI_min {a b : Nat} (ha : a < 2147483648) (hb : b < 2147483648) : (if nI b < nI a then nI b else nI a) = nI (min a b) := by
  by_cases h : b < a
  · rw [if_pos (nI_lt h ha), Nat.min_eq_right (by omega)]
  · rw [if_neg (nI_nlt (by omega) hb), Nat.min_eq_left (by omega)]
theorem mxf_le {f : Nat → Nat} {M : Nat} : ∀ {k}, (∀ j, j < k → f j ≤ M) → mxf f k ≤ M
  | 0, _ => Nat.zero_le _
  | k + 1, h => Nat.max_le.mpr ⟨mxf_le (fun j hj => h j (by omega)), h k (by omega)⟩
set_option maxRecDepth 100000 in
set_option maxHeartbeats 2000000 in
theorem x_highest {m d n : Nat} {pc b : Nat → Nat} (hm : isMt m) {I : pI} {J : pJ} (hM : XM I m n pc b) (hW : WF n pc b) : PC SX (d + 1) yX1_highest cX1_highest 3 (some .int) [.ref m] I J RX (pPu (.int (nI (mxf b n))) I J RX) := by
  refine PC.of [some (.ref m), none, none] rfl rfl (Nat.le_of_ble_eq_true rfl) ?_
  obtain ⟨h7, hn, -, -, -, -, hA⟩ := hM
  obtain ⟨-, ⟨t1, t2⟩, -, -, hB⟩ := hW
  refine pw_iconst (v := nI 0) 1 rfl dX1_highest_0 rfl ?_
  refine pw_istore_n 2 rfl dX1_highest_1 (by decide) ?_
  refine pw_iconst (v := nI 0) 3 rfl dX1_highest_2 rfl ?_
  refine pw_istore_n 4 rfl dX1_highest_3 (by decide) ?_
  rotate_left
  refine nat_loop n (fun k => PW SX yX1_highest.cls cX1_highest 3 (d + 1) 4 [some (.ref m), some (.int (nI (mxf b k))), some (.int (nI k))] [] I J RX (rX cX1_highest (some .int) (pPu (.int (nI (mxf b n))) I J RX))) ?_ ?_
  · refine pw_iload_n 5 rfl dX1_highest_4 rfl ?_
    refine pw_bipush (v := nI 7) 7 rfl dX1_highest_5 rfl ?_
    refine pw_icmp_ge (tgt := 35) 10 rfl dX1_highest_7 rfl (fun h7 => ?_) (fun h7 => ?_)
    refine pw_iload_n 36 rfl dX1_highest_35 rfl ?_
    refine pw_iret dX1_highest_36 rfl ?_
    rotate_left
    refine pw_iload_n 11 rfl dX1_highest_10 rfl ?_
    refine pw_aload_n 12 rfl dX1_highest_11 rfl ?_
    refine pw_getI 15 rfl dX1_highest_12 fX1_33 (by first | rfl | assumption | exact rowS hh | exact mtS hm | exact ruS hr | exact mtA1 hm | exact mtA2 hm | exact mtA3 hm | exact mtA4 hm | exact mtA5 hm | exact mtA6 hm | exact mtA7 hm | exact ruA1 hr | exact ruA2 hr | exact ruA3 hr) rfl ?_
    refine pw_icmp_ge (tgt := 35) 18 rfl dX1_highest_15 rfl (fun h15 => ?_) (fun h15 => absurd (by rw [hn]; (simp (disch := omega) only [nI_leI, nI_ltI, nI_eq, show (0 : Int32) = nI 0 from rfl, not_true_eq_false, not_false_eq_true] <;> omega)) h15)
    refine pw_iload_n 36 rfl dX1_highest_35 rfl ?_
    refine pw_iret dX1_highest_36 rfl ?_
    rotate_left
    all_goals exact ⟨rfl, rfl, rfl, rfl⟩
  · intro k hk ih
    refine pw_iload_n 5 rfl dX1_highest_4 rfl ?_
    refine pw_bipush (v := nI 7) 7 rfl dX1_highest_5 rfl ?_
    refine pw_icmp_ge (tgt := 35) 10 rfl dX1_highest_7 rfl (fun h7 => absurd h7 (by (simp (disch := omega) only [nI_leI, nI_ltI, nI_eq, show (0 : Int32) = nI 0 from rfl, not_true_eq_false, not_false_eq_true] <;> omega))) (fun h7 => ?_)
    refine pw_iload_n 11 rfl dX1_highest_10 rfl ?_
    refine pw_aload_n 12 rfl dX1_highest_11 rfl ?_
    refine pw_getI 15 rfl dX1_highest_12 fX1_33 (by first | rfl | assumption | exact rowS hh | exact mtS hm | exact ruS hr | exact mtA1 hm | exact mtA2 hm | exact mtA3 hm | exact mtA4 hm | exact mtA5 hm | exact mtA6 hm | exact mtA7 hm | exact ruA1 hr | exact ruA2 hr | exact ruA3 hr) rfl ?_
    refine pw_icmp_ge (tgt := 35) 18 rfl dX1_highest_15 rfl (fun h15 => absurd h15 (by rw [hn]; (simp (disch := omega) only [nI_leI, nI_ltI, nI_eq, show (0 : Int32) = nI 0 from rfl, not_true_eq_false, not_false_eq_true] <;> omega))) (fun h15 => ?_)
    refine pw_iload_n 19 rfl dX1_highest_18 rfl ?_
    refine pw_aload_n 20 rfl dX1_highest_19 rfl ?_
    refine pw_getR 23 rfl dX1_highest_20 fX1_15 (by first | rfl | assumption | exact rowS hh | exact mtS hm | exact ruS hr | exact mtA1 hm | exact mtA2 hm | exact mtA3 hm | exact mtA4 hm | exact mtA5 hm | exact mtA6 hm | exact mtA7 hm | exact ruA1 hr | exact ruA2 hr | exact ruA3 hr) rfl (by first | rfl | assumption | exact mtR0 hm | exact mtR1 hm | exact mtR2 hm | exact mtR3 hm | exact mtR4 hm | exact mtR5 hm | exact mtR6 hm | exact ruR0 hr | exact ruR1 hr | exact ruR3 hr) ?_
    refine pw_iload_n 24 rfl dX1_highest_23 rfl ?_
    refine pw_ialdN 25 rfl dX1_highest_24 (by first | rfl | assumption | exact rowS hh | exact mtS hm | exact ruS hr | exact mtA1 hm | exact mtA2 hm | exact mtA3 hm | exact mtA4 hm | exact mtA5 hm | exact mtA6 hm | exact mtA7 hm | exact ruA1 hr | exact ruA2 hr | exact ruA3 hr) (by omega) (by decide) ?_
    refine pw_mmax 28 rfl dX1_highest_25 mX1_80 (Nat.le_of_ble_eq_true rfl) ?_
    refine pw_istore_n 29 rfl dX1_highest_28 (by decide) ?_
    refine pw_iincN 32 rfl dX1_highest_29 (by decide) rfl ?_
    refine pw_goto (tgt := 4) dX1_highest_32 rfl ?_
    rotate_left
    have hb := hB k (by omega)
    have hm1 : mxf b k ≤ 9 := mxf_le (fun j hj => by have := hB j (by omega); omega)
    rw [(hA k (by omega)).2.1, nI_max (by omega) (by omega)]
    exact ih
set_option maxRecDepth 100000 in
set_option maxHeartbeats 2000000 in
theorem x_bitsOnWay {m d n : Nat} {pc b : Nat → Nat} (hm : isMt m) {I : pI} {J : pJ} (hM : XM I m n pc b) (hW : WF n pc b) : PC SX (d) yX1_bitsOnWay cX1_bitsOnWay 3 (some .int) [.ref m] I J RX (pPu (.int (nI (bts (fun q => decide (b (7 + q) ≠ 0)) n))) I J RX) := by
  refine PC.of [some (.ref m), none, none] rfl rfl (Nat.le_of_ble_eq_true rfl) ?_
  obtain ⟨h7, hn, -, -, -, -, hA⟩ := hM
  obtain ⟨-, -, -, -, hB⟩ := hW
  refine pw_iconst (v := nI 0) 1 rfl dX1_bitsOnWay_0 rfl ?_
  refine pw_istore_n 2 rfl dX1_bitsOnWay_1 (by decide) ?_
  refine pw_iconst (v := nI 0) 3 rfl dX1_bitsOnWay_2 rfl ?_
  refine pw_istore_n 4 rfl dX1_bitsOnWay_3 (by decide) ?_
  rotate_left
  refine nat_loop n (fun k => PW SX yX1_bitsOnWay.cls cX1_bitsOnWay 3 (d) 4 [some (.ref m), some (.int (nI (bts (fun q => decide (b (7 + q) ≠ 0)) k))), some (.int (nI k))] [] I J RX (rX cX1_bitsOnWay (some .int) (pPu (.int (nI (bts (fun q => decide (b (7 + q) ≠ 0)) n))) I J RX))) ?_ ?_
  · refine pw_iload_n 5 rfl dX1_bitsOnWay_4 rfl ?_
    refine pw_bipush (v := nI 7) 7 rfl dX1_bitsOnWay_5 rfl ?_
    refine pw_icmp_ge (tgt := 39) 10 rfl dX1_bitsOnWay_7 rfl (fun h7 => ?_) (fun h7 => ?_)
    refine pw_iload_n 40 rfl dX1_bitsOnWay_39 rfl ?_
    refine pw_iret dX1_bitsOnWay_40 rfl ?_
    rotate_left
    refine pw_iload_n 11 rfl dX1_bitsOnWay_10 rfl ?_
    refine pw_aload_n 12 rfl dX1_bitsOnWay_11 rfl ?_
    refine pw_getI 15 rfl dX1_bitsOnWay_12 fX1_33 (by first | rfl | assumption | exact rowS hh | exact mtS hm | exact ruS hr | exact mtA1 hm | exact mtA2 hm | exact mtA3 hm | exact mtA4 hm | exact mtA5 hm | exact mtA6 hm | exact mtA7 hm | exact ruA1 hr | exact ruA2 hr | exact ruA3 hr) rfl ?_
    refine pw_icmp_ge (tgt := 39) 18 rfl dX1_bitsOnWay_15 rfl (fun h15 => ?_) (fun h15 => absurd (by rw [hn]; (simp (disch := omega) only [nI_leI, nI_ltI, nI_eq, show (0 : Int32) = nI 0 from rfl, not_true_eq_false, not_false_eq_true] <;> omega)) h15)
    refine pw_iload_n 40 rfl dX1_bitsOnWay_39 rfl ?_
    refine pw_iret dX1_bitsOnWay_40 rfl ?_
    rotate_left
    all_goals exact ⟨rfl, rfl, rfl, rfl⟩
  · intro k hk ih
    have hb := hB k (by omega)
    have hi := (hA k (by omega)).2.2.1
    rw [bts] at ih
    refine pw_iload_n 5 rfl dX1_bitsOnWay_4 rfl ?_
    refine pw_bipush (v := nI 7) 7 rfl dX1_bitsOnWay_5 rfl ?_
    refine pw_icmp_ge (tgt := 39) 10 rfl dX1_bitsOnWay_7 rfl (fun h7 => absurd h7 (by (simp (disch := omega) only [nI_leI, nI_ltI, nI_eq, show (0 : Int32) = nI 0 from rfl, not_true_eq_false, not_false_eq_true] <;> omega))) (fun h7 => ?_)
    refine pw_iload_n 11 rfl dX1_bitsOnWay_10 rfl ?_
    refine pw_aload_n 12 rfl dX1_bitsOnWay_11 rfl ?_
    refine pw_getI 15 rfl dX1_bitsOnWay_12 fX1_33 (by first | rfl | assumption | exact rowS hh | exact mtS hm | exact ruS hr | exact mtA1 hm | exact mtA2 hm | exact mtA3 hm | exact mtA4 hm | exact mtA5 hm | exact mtA6 hm | exact mtA7 hm | exact ruA1 hr | exact ruA2 hr | exact ruA3 hr) rfl ?_
    refine pw_icmp_ge (tgt := 39) 18 rfl dX1_bitsOnWay_15 rfl (fun h15 => absurd h15 (by rw [hn]; (simp (disch := omega) only [nI_leI, nI_ltI, nI_eq, show (0 : Int32) = nI 0 from rfl, not_true_eq_false, not_false_eq_true] <;> omega))) (fun h15 => ?_)
    refine pw_aload_n 19 rfl dX1_bitsOnWay_18 rfl ?_
    refine pw_getR 22 rfl dX1_bitsOnWay_19 fX1_18 (by first | rfl | assumption | exact rowS hh | exact mtS hm | exact ruS hr | exact mtA1 hm | exact mtA2 hm | exact mtA3 hm | exact mtA4 hm | exact mtA5 hm | exact mtA6 hm | exact mtA7 hm | exact ruA1 hr | exact ruA2 hr | exact ruA3 hr) rfl (by first | rfl | assumption | exact mtR0 hm | exact mtR1 hm | exact mtR2 hm | exact mtR3 hm | exact mtR4 hm | exact mtR5 hm | exact mtR6 hm | exact ruR0 hr | exact ruR1 hr | exact ruR3 hr) ?_
    refine pw_iload_n 23 rfl dX1_bitsOnWay_22 rfl ?_
    refine pw_ialdN 24 rfl dX1_bitsOnWay_23 (by first | rfl | assumption | exact rowS hh | exact mtS hm | exact ruS hr | exact mtA1 hm | exact mtA2 hm | exact mtA3 hm | exact mtA4 hm | exact mtA5 hm | exact mtA6 hm | exact mtA7 hm | exact ruA1 hr | exact ruA2 hr | exact ruA3 hr) (by omega) (by decide) ?_
    refine pw_if_eq (tgt := 33) 27 rfl dX1_bitsOnWay_24 rfl (fun h24 => ?_) (fun h24 => ?_)
    refine pw_iincN 36 rfl dX1_bitsOnWay_33 (by decide) rfl ?_
    refine pw_goto (tgt := 4) dX1_bitsOnWay_36 rfl ?_
    rotate_left
    refine pw_iload_n 28 rfl dX1_bitsOnWay_27 rfl ?_
    refine pw_iconst (v := nI 1) 29 rfl dX1_bitsOnWay_28 rfl ?_
    refine pw_iload_n 30 rfl dX1_bitsOnWay_29 rfl ?_
    refine pw_ishl 31 rfl dX1_bitsOnWay_30 ?_
    refine pw_ior 32 rfl dX1_bitsOnWay_31 ?_
    refine pw_istore_n 33 rfl dX1_bitsOnWay_32 (by decide) ?_
    refine pw_iincN 36 rfl dX1_bitsOnWay_33 (by decide) rfl ?_
    refine pw_goto (tgt := 4) dX1_bitsOnWay_36 rfl ?_
    rotate_left
    · rw [hi, show (0 : Int32) = nI 0 from rfl, nI_eq (by omega) (by omega)] at h24
      rw [if_neg (by simp [h24])] at ih
      exact ih
    · rw [hi, show (0 : Int32) = nI 0 from rfl, nI_eq (by omega) (by omega)] at h24
      rw [if_pos (by simp [h24])] at ih
      rw [nI_bit (by omega) (bts_lt _ k)]
      exact ih
set_option maxRecDepth 100000 in
set_option maxHeartbeats 2000000 in
theorem x_bitsWaiting {m d n : Nat} {pc b : Nat → Nat} (hm : isMt m) {I : pI} {J : pJ} (hM : XM I m n pc b) (hW : WF n pc b) : PC SX (d) yX1_bitsWaiting cX1_bitsWaiting 3 (some .int) [.ref m] I J RX (pPu (.int (nI (bts (fun q => decide (b (14 + q) ≠ 0)) n))) I J RX) := by
  refine PC.of [some (.ref m), none, none] rfl rfl (Nat.le_of_ble_eq_true rfl) ?_
  obtain ⟨h7, hn, -, -, -, -, hA⟩ := hM
  obtain ⟨-, -, -, -, hB⟩ := hW
  refine pw_iconst (v := nI 0) 1 rfl dX1_bitsWaiting_0 rfl ?_
  refine pw_istore_n 2 rfl dX1_bitsWaiting_1 (by decide) ?_
  refine pw_iconst (v := nI 0) 3 rfl dX1_bitsWaiting_2 rfl ?_
  refine pw_istore_n 4 rfl dX1_bitsWaiting_3 (by decide) ?_
  rotate_left
  refine nat_loop n (fun k => PW SX yX1_bitsWaiting.cls cX1_bitsWaiting 3 (d) 4 [some (.ref m), some (.int (nI (bts (fun q => decide (b (14 + q) ≠ 0)) k))), some (.int (nI k))] [] I J RX (rX cX1_bitsWaiting (some .int) (pPu (.int (nI (bts (fun q => decide (b (14 + q) ≠ 0)) n))) I J RX))) ?_ ?_
  · refine pw_iload_n 5 rfl dX1_bitsWaiting_4 rfl ?_
    refine pw_bipush (v := nI 7) 7 rfl dX1_bitsWaiting_5 rfl ?_
    refine pw_icmp_ge (tgt := 39) 10 rfl dX1_bitsWaiting_7 rfl (fun h7 => ?_) (fun h7 => ?_)
    refine pw_iload_n 40 rfl dX1_bitsWaiting_39 rfl ?_
    refine pw_iret dX1_bitsWaiting_40 rfl ?_
    rotate_left
    refine pw_iload_n 11 rfl dX1_bitsWaiting_10 rfl ?_
    refine pw_aload_n 12 rfl dX1_bitsWaiting_11 rfl ?_
    refine pw_getI 15 rfl dX1_bitsWaiting_12 fX1_33 (by first | rfl | assumption | exact rowS hh | exact mtS hm | exact ruS hr | exact mtA1 hm | exact mtA2 hm | exact mtA3 hm | exact mtA4 hm | exact mtA5 hm | exact mtA6 hm | exact mtA7 hm | exact ruA1 hr | exact ruA2 hr | exact ruA3 hr) rfl ?_
    refine pw_icmp_ge (tgt := 39) 18 rfl dX1_bitsWaiting_15 rfl (fun h15 => ?_) (fun h15 => absurd (by rw [hn]; (simp (disch := omega) only [nI_leI, nI_ltI, nI_eq, show (0 : Int32) = nI 0 from rfl, not_true_eq_false, not_false_eq_true] <;> omega)) h15)
    refine pw_iload_n 40 rfl dX1_bitsWaiting_39 rfl ?_
    refine pw_iret dX1_bitsWaiting_40 rfl ?_
    rotate_left
    all_goals exact ⟨rfl, rfl, rfl, rfl⟩
  · intro k hk ih
    have hb := hB k (by omega)
    have hi := (hA k (by omega)).2.2.2.1
    rw [bts] at ih
    refine pw_iload_n 5 rfl dX1_bitsWaiting_4 rfl ?_
    refine pw_bipush (v := nI 7) 7 rfl dX1_bitsWaiting_5 rfl ?_
    refine pw_icmp_ge (tgt := 39) 10 rfl dX1_bitsWaiting_7 rfl (fun h7 => absurd h7 (by (simp (disch := omega) only [nI_leI, nI_ltI, nI_eq, show (0 : Int32) = nI 0 from rfl, not_true_eq_false, not_false_eq_true] <;> omega))) (fun h7 => ?_)
    refine pw_iload_n 11 rfl dX1_bitsWaiting_10 rfl ?_
    refine pw_aload_n 12 rfl dX1_bitsWaiting_11 rfl ?_
    refine pw_getI 15 rfl dX1_bitsWaiting_12 fX1_33 (by first | rfl | assumption | exact rowS hh | exact mtS hm | exact ruS hr | exact mtA1 hm | exact mtA2 hm | exact mtA3 hm | exact mtA4 hm | exact mtA5 hm | exact mtA6 hm | exact mtA7 hm | exact ruA1 hr | exact ruA2 hr | exact ruA3 hr) rfl ?_
    refine pw_icmp_ge (tgt := 39) 18 rfl dX1_bitsWaiting_15 rfl (fun h15 => absurd h15 (by rw [hn]; (simp (disch := omega) only [nI_leI, nI_ltI, nI_eq, show (0 : Int32) = nI 0 from rfl, not_true_eq_false, not_false_eq_true] <;> omega))) (fun h15 => ?_)
    refine pw_aload_n 19 rfl dX1_bitsWaiting_18 rfl ?_
    refine pw_getR 22 rfl dX1_bitsWaiting_19 fX1_21 (by first | rfl | assumption | exact rowS hh | exact mtS hm | exact ruS hr | exact mtA1 hm | exact mtA2 hm | exact mtA3 hm | exact mtA4 hm | exact mtA5 hm | exact mtA6 hm | exact mtA7 hm | exact ruA1 hr | exact ruA2 hr | exact ruA3 hr) rfl (by first | rfl | assumption | exact mtR0 hm | exact mtR1 hm | exact mtR2 hm | exact mtR3 hm | exact mtR4 hm | exact mtR5 hm | exact mtR6 hm | exact ruR0 hr | exact ruR1 hr | exact ruR3 hr) ?_
    refine pw_iload_n 23 rfl dX1_bitsWaiting_22 rfl ?_
    refine pw_ialdN 24 rfl dX1_bitsWaiting_23 (by first | rfl | assumption | exact rowS hh | exact mtS hm | exact ruS hr | exact mtA1 hm | exact mtA2 hm | exact mtA3 hm | exact mtA4 hm | exact mtA5 hm | exact mtA6 hm | exact mtA7 hm | exact ruA1 hr | exact ruA2 hr | exact ruA3 hr) (by omega) (by decide) ?_
    refine pw_if_le (tgt := 33) 27 rfl dX1_bitsWaiting_24 rfl (fun h24 => ?_) (fun h24 => ?_)
    refine pw_iincN 36 rfl dX1_bitsWaiting_33 (by decide) rfl ?_
    refine pw_goto (tgt := 4) dX1_bitsWaiting_36 rfl ?_
    rotate_left
    refine pw_iload_n 28 rfl dX1_bitsWaiting_27 rfl ?_
    refine pw_iconst (v := nI 1) 29 rfl dX1_bitsWaiting_28 rfl ?_
    refine pw_iload_n 30 rfl dX1_bitsWaiting_29 rfl ?_
    refine pw_ishl 31 rfl dX1_bitsWaiting_30 ?_
    refine pw_ior 32 rfl dX1_bitsWaiting_31 ?_
    refine pw_istore_n 33 rfl dX1_bitsWaiting_32 (by decide) ?_
    refine pw_iincN 36 rfl dX1_bitsWaiting_33 (by decide) rfl ?_
    refine pw_goto (tgt := 4) dX1_bitsWaiting_36 rfl ?_
    rotate_left
    · rw [hi, show (0 : Int32) = nI 0 from rfl, nI_leI (by omega) (by omega)] at h24
      rw [if_neg (by simp; omega)] at ih
      exact ih
    · rw [hi, show (0 : Int32) = nI 0 from rfl, nI_leI (by omega) (by omega)] at h24
      rw [if_pos (by simp; omega)] at ih
      rw [nI_bit (by omega) (bts_lt _ k)]
      exact ih
/-- how many of a set -/
def popc (x : Nat) : Nat := pop 10 x
set_option maxRecDepth 100000 in
set_option maxHeartbeats 2000000 in
theorem x_howManyOnWay {m d n : Nat} {pc b : Nat → Nat} (hm : isMt m) {I : pI} {J : pJ} (hM : XM I m n pc b) (hW : WF n pc b) : PC SX (d + 1) yX1_howManyOnWay cX1_howManyOnWay 1 (some .int) [.ref m] I J RX (pPu (.int (nI (popc (bts (fun q => decide (b (7 + q) ≠ 0)) n)))) I J RX) := by
  refine PC.of [some (.ref m)] rfl rfl (Nat.le_of_ble_eq_true rfl) ?_
  refine pw_aload_n 1 rfl dX1_howManyOnWay_0 rfl ?_
  refine pw_callVP (as := []) 4 rfl dX1_howManyOnWay_1 mX1_115 vX1_bitsOnWay (x_bitsOnWay (d := d) hm hM hW) (by first | rfl | assumption | exact rowS hh | exact mtS hm | exact ruS hr | exact mtA1 hm | exact mtA2 hm | exact mtA3 hm | exact mtA4 hm | exact mtA5 hm | exact mtA6 hm | exact mtA7 hm | exact ruA1 hr | exact ruA2 hr | exact ruA3 hr) rfl (by decide) ⟨rfl, by decide, by decide, show (parseMethodDescriptor yX1_bitsOnWay.desc).map (fun d => d.parameters.length) = some 0 by decide +kernel⟩ (by omega) (by decide) (Nat.le_of_ble_eq_true rfl) rfl ?_
  refine pw_callSP (as := [_]) 7 rfl dX1_howManyOnWay_4 mX1_87 sJ6_bitCount_0f7a4 (x_bitCount (d := d) _) ⟨rfl, by decide, by decide, show (parseMethodDescriptor yJ6_bitCount_0f7a4.desc).map (fun d => d.parameters.length) = some 1 by decide +kernel⟩ (by omega) (by decide) (Nat.le_of_ble_eq_true rfl) rfl ?_
  refine pw_iret dX1_howManyOnWay_7 rfl ?_
  rotate_left
  rw [bc_pop _ (Nat.lt_of_lt_of_le (bts_lt _ n) (Nat.le_trans (Nat.pow_le_pow_right (by decide) hM.1) (by decide)))]
  exact ⟨rfl, rfl, rfl, rfl⟩
def cntB (b : Nat → Nat) (h q : Nat) : Nat → Nat
  | 0 => 0
  | k + 1 => cntB b h q k + if k ≠ q ∧ b (7 + k) ≠ 0 ∧ b k = h then 1 else 0
def cntD (b : Nat → Nat) (h q : Nat) : Nat → Nat
  | 0 => 0
  | k + 1 => cntD b h q k + if k ≠ q ∧ b (7 + k) = 2 ∧ b k < h then 1 else 0
set_option maxRecDepth 100000 in
set_option maxHeartbeats 2000000 in
theorem x_othersAt {m d n h q : Nat} {pc b : Nat → Nat} (hm : isMt m) {I : pI} {J : pJ} (hM : XM I m n pc b) (hW : WF n pc b) (hh : h ≤ 9) (hq : q < 7) : PC SX (d) yX1_othersAt cX1_othersAt 5 (some .int) [.ref m, .int (nI h), .int (nI q)] I J RX (pPu (.int (nI (cntB b h q n))) I J RX) := by
  refine PC.of [some (.ref m), some (.int (nI h)), some (.int (nI q)), none, none] rfl rfl (Nat.le_of_ble_eq_true rfl) ?_
  obtain ⟨h7, hn, -, -, -, -, hA⟩ := hM
  obtain ⟨-, ⟨-, t2⟩, -, -, hB⟩ := hW
  refine pw_iconst (v := nI 0) 1 rfl dX1_othersAt_0 rfl ?_
  refine pw_istore_n 2 rfl dX1_othersAt_1 (by decide) ?_
  refine pw_iconst (v := nI 0) 3 rfl dX1_othersAt_2 rfl ?_
  refine pw_istore 5 rfl dX1_othersAt_3 (by decide) ?_
  rotate_left
  refine nat_loop n (fun k => PW SX yX1_othersAt.cls cX1_othersAt 5 (d) 5 [some (.ref m), some (.int (nI h)), some (.int (nI q)), some (.int (nI (cntB b h q k))), some (.int (nI k))] [] I J RX (rX cX1_othersAt (some .int) (pPu (.int (nI (cntB b h q n))) I J RX))) ?_ ?_
  · refine pw_iload 7 rfl dX1_othersAt_5 rfl ?_
    refine pw_bipush (v := nI 7) 9 rfl dX1_othersAt_7 rfl ?_
    refine pw_icmp_ge (tgt := 57) 12 rfl dX1_othersAt_9 rfl (fun h9 => ?_) (fun h9 => ?_)
    refine pw_iload_n 58 rfl dX1_othersAt_57 rfl ?_
    refine pw_iret dX1_othersAt_58 rfl ?_
    rotate_left
    refine pw_iload 14 rfl dX1_othersAt_12 rfl ?_
    refine pw_aload_n 15 rfl dX1_othersAt_14 rfl ?_
    refine pw_getI 18 rfl dX1_othersAt_15 fX1_33 (by first | rfl | assumption | exact rowS hh | exact mtS hm | exact ruS hr | exact mtA1 hm | exact mtA2 hm | exact mtA3 hm | exact mtA4 hm | exact mtA5 hm | exact mtA6 hm | exact mtA7 hm | exact ruA1 hr | exact ruA2 hr | exact ruA3 hr) rfl ?_
    refine pw_icmp_ge (tgt := 57) 21 rfl dX1_othersAt_18 rfl (fun h18 => ?_) (fun h18 => absurd (by rw [hn]; (simp (disch := omega) only [nI_leI, nI_ltI, nI_eq, show (0 : Int32) = nI 0 from rfl, not_true_eq_false, not_false_eq_true] <;> omega)) h18)
    refine pw_iload_n 58 rfl dX1_othersAt_57 rfl ?_
    refine pw_iret dX1_othersAt_58 rfl ?_
    rotate_left
    all_goals exact ⟨rfl, rfl, rfl, rfl⟩
  · intro k hk ih
    have hb := hB k (by omega)
    obtain ⟨-, i1, i2, -, -⟩ := hA k (by omega)
    rw [cntB] at ih
    refine pw_iload 7 rfl dX1_othersAt_5 rfl ?_
    refine pw_bipush (v := nI 7) 9 rfl dX1_othersAt_7 rfl ?_
    refine pw_icmp_ge (tgt := 57) 12 rfl dX1_othersAt_9 rfl (fun h9 => absurd h9 (by (simp (disch := omega) only [nI_leI, nI_ltI, nI_eq, show (0 : Int32) = nI 0 from rfl, not_true_eq_false, not_false_eq_true] <;> omega))) (fun h9 => ?_)
    refine pw_iload 14 rfl dX1_othersAt_12 rfl ?_
    refine pw_aload_n 15 rfl dX1_othersAt_14 rfl ?_
    refine pw_getI 18 rfl dX1_othersAt_15 fX1_33 (by first | rfl | assumption | exact rowS hh | exact mtS hm | exact ruS hr | exact mtA1 hm | exact mtA2 hm | exact mtA3 hm | exact mtA4 hm | exact mtA5 hm | exact mtA6 hm | exact mtA7 hm | exact ruA1 hr | exact ruA2 hr | exact ruA3 hr) rfl ?_
    refine pw_icmp_ge (tgt := 57) 21 rfl dX1_othersAt_18 rfl (fun h18 => absurd h18 (by rw [hn]; (simp (disch := omega) only [nI_leI, nI_ltI, nI_eq, show (0 : Int32) = nI 0 from rfl, not_true_eq_false, not_false_eq_true] <;> omega))) (fun h18 => ?_)
    refine pw_iload 23 rfl dX1_othersAt_21 rfl ?_
    refine pw_iload_n 24 rfl dX1_othersAt_23 rfl ?_
    refine pw_icmp_eq (tgt := 51) 27 rfl dX1_othersAt_24 rfl (fun h24 => ?_) (fun h24 => ?_)
    refine pw_iincN 54 rfl dX1_othersAt_51 (by decide) rfl ?_
    refine pw_goto (tgt := 5) dX1_othersAt_54 rfl ?_
    rotate_left
    refine pw_aload_n 28 rfl dX1_othersAt_27 rfl ?_
    refine pw_getR 31 rfl dX1_othersAt_28 fX1_18 (by first | rfl | assumption | exact rowS hh | exact mtS hm | exact ruS hr | exact mtA1 hm | exact mtA2 hm | exact mtA3 hm | exact mtA4 hm | exact mtA5 hm | exact mtA6 hm | exact mtA7 hm | exact ruA1 hr | exact ruA2 hr | exact ruA3 hr) rfl (by first | rfl | assumption | exact mtR0 hm | exact mtR1 hm | exact mtR2 hm | exact mtR3 hm | exact mtR4 hm | exact mtR5 hm | exact mtR6 hm | exact ruR0 hr | exact ruR1 hr | exact ruR3 hr) ?_
    refine pw_iload 33 rfl dX1_othersAt_31 rfl ?_
    refine pw_ialdN 34 rfl dX1_othersAt_33 (by first | rfl | assumption | exact rowS hh | exact mtS hm | exact ruS hr | exact mtA1 hm | exact mtA2 hm | exact mtA3 hm | exact mtA4 hm | exact mtA5 hm | exact mtA6 hm | exact mtA7 hm | exact ruA1 hr | exact ruA2 hr | exact ruA3 hr) (by omega) (by decide) ?_
    refine pw_if_eq (tgt := 51) 37 rfl dX1_othersAt_34 rfl (fun h34 => ?_) (fun h34 => ?_)
    refine pw_iincN 54 rfl dX1_othersAt_51 (by decide) rfl ?_
    refine pw_goto (tgt := 5) dX1_othersAt_54 rfl ?_
    rotate_left
    refine pw_aload_n 38 rfl dX1_othersAt_37 rfl ?_
    refine pw_getR 41 rfl dX1_othersAt_38 fX1_15 (by first | rfl | assumption | exact rowS hh | exact mtS hm | exact ruS hr | exact mtA1 hm | exact mtA2 hm | exact mtA3 hm | exact mtA4 hm | exact mtA5 hm | exact mtA6 hm | exact mtA7 hm | exact ruA1 hr | exact ruA2 hr | exact ruA3 hr) rfl (by first | rfl | assumption | exact mtR0 hm | exact mtR1 hm | exact mtR2 hm | exact mtR3 hm | exact mtR4 hm | exact mtR5 hm | exact mtR6 hm | exact ruR0 hr | exact ruR1 hr | exact ruR3 hr) ?_
    refine pw_iload 43 rfl dX1_othersAt_41 rfl ?_
    refine pw_ialdN 44 rfl dX1_othersAt_43 (by first | rfl | assumption | exact rowS hh | exact mtS hm | exact ruS hr | exact mtA1 hm | exact mtA2 hm | exact mtA3 hm | exact mtA4 hm | exact mtA5 hm | exact mtA6 hm | exact mtA7 hm | exact ruA1 hr | exact ruA2 hr | exact ruA3 hr) (by omega) (by decide) ?_
    refine pw_iload_n 45 rfl dX1_othersAt_44 rfl ?_
    refine pw_icmp_ne (tgt := 51) 48 rfl dX1_othersAt_45 rfl (fun h45 => ?_) (fun h45 => ?_)
    refine pw_iincN 54 rfl dX1_othersAt_51 (by decide) rfl ?_
    refine pw_goto (tgt := 5) dX1_othersAt_54 rfl ?_
    rotate_left
    refine pw_iincN 51 rfl dX1_othersAt_48 (by decide) rfl ?_
    refine pw_iincN 54 rfl dX1_othersAt_51 (by decide) rfl ?_
    refine pw_goto (tgt := 5) dX1_othersAt_54 rfl ?_
    rotate_left
    · rw [nI_eq (by omega) (by omega)] at h24
      rw [if_neg (fun z => z.1 h24)] at ih
      exact ih
    · rw [i2, show (0 : Int32) = nI 0 from rfl, nI_eq (by omega) (by omega)] at h34
      rw [if_neg (fun z => z.2.1 h34)] at ih
      exact ih
    · rw [i1, nI_eq (by omega) (by omega)] at h45
      rw [if_neg (fun z => h45 z.2.2)] at ih
      exact ih
    · rw [nI_eq (by omega) (by omega)] at h24
      rw [i2, show (0 : Int32) = nI 0 from rfl, nI_eq (by omega) (by omega)] at h34
      rw [i1, nI_eq (by omega) (by omega)] at h45
      rw [if_pos ⟨h24, h34, h45⟩] at ih
      exact ih
set_option maxRecDepth 100000 in
set_option maxHeartbeats 2000000 in
theorem x_othersDownBelow {m d n h q : Nat} {pc b : Nat → Nat} (hm : isMt m) {I : pI} {J : pJ} (hM : XM I m n pc b) (hW : WF n pc b) (hh : h ≤ 9) (hq : q < 7) : PC SX (d) yX1_othersDownBelow cX1_othersDownBelow 5 (some .int) [.ref m, .int (nI h), .int (nI q)] I J RX (pPu (.int (nI (cntD b h q n))) I J RX) := by
  refine PC.of [some (.ref m), some (.int (nI h)), some (.int (nI q)), none, none] rfl rfl (Nat.le_of_ble_eq_true rfl) ?_
  obtain ⟨h7, hn, -, -, -, -, hA⟩ := hM
  obtain ⟨-, ⟨-, t2⟩, -, -, hB⟩ := hW
  refine pw_iconst (v := nI 0) 1 rfl dX1_othersDownBelow_0 rfl ?_
  refine pw_istore_n 2 rfl dX1_othersDownBelow_1 (by decide) ?_
  refine pw_iconst (v := nI 0) 3 rfl dX1_othersDownBelow_2 rfl ?_
  refine pw_istore 5 rfl dX1_othersDownBelow_3 (by decide) ?_
  rotate_left
  refine nat_loop n (fun k => PW SX yX1_othersDownBelow.cls cX1_othersDownBelow 5 (d) 5 [some (.ref m), some (.int (nI h)), some (.int (nI q)), some (.int (nI (cntD b h q k))), some (.int (nI k))] [] I J RX (rX cX1_othersDownBelow (some .int) (pPu (.int (nI (cntD b h q n))) I J RX))) ?_ ?_
  · refine pw_iload 7 rfl dX1_othersDownBelow_5 rfl ?_
    refine pw_bipush (v := nI 7) 9 rfl dX1_othersDownBelow_7 rfl ?_
    refine pw_icmp_ge (tgt := 58) 12 rfl dX1_othersDownBelow_9 rfl (fun h9 => ?_) (fun h9 => ?_)
    refine pw_iload_n 59 rfl dX1_othersDownBelow_58 rfl ?_
    refine pw_iret dX1_othersDownBelow_59 rfl ?_
    rotate_left
    refine pw_iload 14 rfl dX1_othersDownBelow_12 rfl ?_
    refine pw_aload_n 15 rfl dX1_othersDownBelow_14 rfl ?_
    refine pw_getI 18 rfl dX1_othersDownBelow_15 fX1_33 (by first | rfl | assumption | exact rowS hh | exact mtS hm | exact ruS hr | exact mtA1 hm | exact mtA2 hm | exact mtA3 hm | exact mtA4 hm | exact mtA5 hm | exact mtA6 hm | exact mtA7 hm | exact ruA1 hr | exact ruA2 hr | exact ruA3 hr) rfl ?_
    refine pw_icmp_ge (tgt := 58) 21 rfl dX1_othersDownBelow_18 rfl (fun h18 => ?_) (fun h18 => absurd (by rw [hn]; (simp (disch := omega) only [nI_leI, nI_ltI, nI_eq, show (0 : Int32) = nI 0 from rfl, not_true_eq_false, not_false_eq_true] <;> omega)) h18)
    refine pw_iload_n 59 rfl dX1_othersDownBelow_58 rfl ?_
    refine pw_iret dX1_othersDownBelow_59 rfl ?_
    rotate_left
    all_goals exact ⟨rfl, rfl, rfl, rfl⟩
  · intro k hk ih
    have hb := hB k (by omega)
    obtain ⟨-, i1, i2, -, -⟩ := hA k (by omega)
    rw [cntD] at ih
    refine pw_iload 7 rfl dX1_othersDownBelow_5 rfl ?_
    refine pw_bipush (v := nI 7) 9 rfl dX1_othersDownBelow_7 rfl ?_
    refine pw_icmp_ge (tgt := 58) 12 rfl dX1_othersDownBelow_9 rfl (fun h9 => absurd h9 (by (simp (disch := omega) only [nI_leI, nI_ltI, nI_eq, show (0 : Int32) = nI 0 from rfl, not_true_eq_false, not_false_eq_true] <;> omega))) (fun h9 => ?_)
    refine pw_iload 14 rfl dX1_othersDownBelow_12 rfl ?_
    refine pw_aload_n 15 rfl dX1_othersDownBelow_14 rfl ?_
    refine pw_getI 18 rfl dX1_othersDownBelow_15 fX1_33 (by first | rfl | assumption | exact rowS hh | exact mtS hm | exact ruS hr | exact mtA1 hm | exact mtA2 hm | exact mtA3 hm | exact mtA4 hm | exact mtA5 hm | exact mtA6 hm | exact mtA7 hm | exact ruA1 hr | exact ruA2 hr | exact ruA3 hr) rfl ?_
    refine pw_icmp_ge (tgt := 58) 21 rfl dX1_othersDownBelow_18 rfl (fun h18 => absurd h18 (by rw [hn]; (simp (disch := omega) only [nI_leI, nI_ltI, nI_eq, show (0 : Int32) = nI 0 from rfl, not_true_eq_false, not_false_eq_true] <;> omega))) (fun h18 => ?_)
    refine pw_iload 23 rfl dX1_othersDownBelow_21 rfl ?_
    refine pw_iload_n 24 rfl dX1_othersDownBelow_23 rfl ?_
    refine pw_icmp_eq (tgt := 52) 27 rfl dX1_othersDownBelow_24 rfl (fun h24 => ?_) (fun h24 => ?_)
    refine pw_iincN 55 rfl dX1_othersDownBelow_52 (by decide) rfl ?_
    refine pw_goto (tgt := 5) dX1_othersDownBelow_55 rfl ?_
    rotate_left
    refine pw_aload_n 28 rfl dX1_othersDownBelow_27 rfl ?_
    refine pw_getR 31 rfl dX1_othersDownBelow_28 fX1_18 (by first | rfl | assumption | exact rowS hh | exact mtS hm | exact ruS hr | exact mtA1 hm | exact mtA2 hm | exact mtA3 hm | exact mtA4 hm | exact mtA5 hm | exact mtA6 hm | exact mtA7 hm | exact ruA1 hr | exact ruA2 hr | exact ruA3 hr) rfl (by first | rfl | assumption | exact mtR0 hm | exact mtR1 hm | exact mtR2 hm | exact mtR3 hm | exact mtR4 hm | exact mtR5 hm | exact mtR6 hm | exact ruR0 hr | exact ruR1 hr | exact ruR3 hr) ?_
    refine pw_iload 33 rfl dX1_othersDownBelow_31 rfl ?_
    refine pw_ialdN 34 rfl dX1_othersDownBelow_33 (by first | rfl | assumption | exact rowS hh | exact mtS hm | exact ruS hr | exact mtA1 hm | exact mtA2 hm | exact mtA3 hm | exact mtA4 hm | exact mtA5 hm | exact mtA6 hm | exact mtA7 hm | exact ruA1 hr | exact ruA2 hr | exact ruA3 hr) (by omega) (by decide) ?_
    refine pw_iconst (v := nI 2) 35 rfl dX1_othersDownBelow_34 rfl ?_
    refine pw_icmp_ne (tgt := 52) 38 rfl dX1_othersDownBelow_35 rfl (fun h35 => ?_) (fun h35 => ?_)
    refine pw_iincN 55 rfl dX1_othersDownBelow_52 (by decide) rfl ?_
    refine pw_goto (tgt := 5) dX1_othersDownBelow_55 rfl ?_
    rotate_left
    refine pw_aload_n 39 rfl dX1_othersDownBelow_38 rfl ?_
    refine pw_getR 42 rfl dX1_othersDownBelow_39 fX1_15 (by first | rfl | assumption | exact rowS hh | exact mtS hm | exact ruS hr | exact mtA1 hm | exact mtA2 hm | exact mtA3 hm | exact mtA4 hm | exact mtA5 hm | exact mtA6 hm | exact mtA7 hm | exact ruA1 hr | exact ruA2 hr | exact ruA3 hr) rfl (by first | rfl | assumption | exact mtR0 hm | exact mtR1 hm | exact mtR2 hm | exact mtR3 hm | exact mtR4 hm | exact mtR5 hm | exact mtR6 hm | exact ruR0 hr | exact ruR1 hr | exact ruR3 hr) ?_
    refine pw_iload 44 rfl dX1_othersDownBelow_42 rfl ?_
    refine pw_ialdN 45 rfl dX1_othersDownBelow_44 (by first | rfl | assumption | exact rowS hh | exact mtS hm | exact ruS hr | exact mtA1 hm | exact mtA2 hm | exact mtA3 hm | exact mtA4 hm | exact mtA5 hm | exact mtA6 hm | exact mtA7 hm | exact ruA1 hr | exact ruA2 hr | exact ruA3 hr) (by omega) (by decide) ?_
    refine pw_iload_n 46 rfl dX1_othersDownBelow_45 rfl ?_
    refine pw_icmp_ge (tgt := 52) 49 rfl dX1_othersDownBelow_46 rfl (fun h46 => ?_) (fun h46 => ?_)
    refine pw_iincN 55 rfl dX1_othersDownBelow_52 (by decide) rfl ?_
    refine pw_goto (tgt := 5) dX1_othersDownBelow_55 rfl ?_
    rotate_left
    refine pw_iincN 52 rfl dX1_othersDownBelow_49 (by decide) rfl ?_
    refine pw_iincN 55 rfl dX1_othersDownBelow_52 (by decide) rfl ?_
    refine pw_goto (tgt := 5) dX1_othersDownBelow_55 rfl ?_
    rotate_left
    · rw [nI_eq (by omega) (by omega)] at h24
      rw [if_neg (fun z => z.1 h24)] at ih
      exact ih
    · rw [i2, nI_eq (by omega) (by omega)] at h35
      rw [if_neg (fun z => h35 z.2.1)] at ih
      exact ih
    · rw [i1, nI_leI (by omega) (by omega)] at h46
      rw [if_neg (fun z => by omega)] at ih
      exact ih
    · rw [nI_eq (by omega) (by omega)] at h24
      rw [i2, nI_eq (by omega) (by omega)] at h35
      rw [i1, nI_leI (by omega) (by omega)] at h46
      rw [if_pos ⟨h24, h35, by omega⟩] at ih
      exact ih
