/-! the reference's helpers -/
theorem inV_y {lo hi N : Nat} (h1 : lo ≤ N) (h2 : N ≤ hi) (h : hi < 1073741824) : inV (nI N) (nI lo) (nI hi) = nI 1 := if_pos ⟨nI_le h1 (by omega), nI_le h2 (by omega)⟩
theorem inV_n {v a b : Int32} (h : v < a ∨ b < v) : inV v a b = nI 0 := if_neg (fun q => by
  rcases h with h | h
  · exact absurd q.1 (Int32.not_le.mpr h)
  · exact absurd q.2 (Int32.not_le.mpr h))
set_option maxRecDepth 100000 in
set_option maxHeartbeats 2000000 in
theorem m_isOne {d n : Nat} {I : pI} {J : pJ} {R : pR} (hn : I 0 1 = nI n) (h7 : n ≤ 7) (w : Int32) : PC SM (d + 1) yX12_isOne cX12_isOne 2 (some .boolean) [.ref 0, .int w] (I) (J) (R) (pPu (.int (hasV n w)) I J R) := by
  refine PC.of [some (.ref 0), some (.int w)] rfl rfl (Nat.le_of_ble_eq_true rfl) ?_
  have e : inV w (nI 0) (nI n - nI 1) = hasV n w := by
    unfold inV hasV
    have e1 : (nI n - nI 1).toInt = (n : Int) - 1 := by
      rcases (show n = 0 ∨ n = 1 ∨ n = 2 ∨ n = 3 ∨ n = 4 ∨ n = 5 ∨ n = 6 ∨ n = 7 by omega) with rfl | rfl | rfl | rfl | rfl | rfl | rfl | rfl <;> decide
    have e2 : (nI n).toInt = (n : Int) := by
      rcases (show n = 0 ∨ n = 1 ∨ n = 2 ∨ n = 3 ∨ n = 4 ∨ n = 5 ∨ n = 6 ∨ n = 7 by omega) with rfl | rfl | rfl | rfl | rfl | rfl | rfl | rfl <;> decide
    have ei : (nI 0 ≤ w ∧ w ≤ nI n - nI 1) ↔ (0 ≤ w ∧ w < nI n) := by
      rw [Int32.le_iff_toInt_le, Int32.le_iff_toInt_le, Int32.le_iff_toInt_le, Int32.lt_iff_toInt_lt, e1, e2, show (nI 0).toInt = 0 from by decide, show (0 : Int32).toInt = 0 from by decide]
      omega
    by_cases h : 0 ≤ w ∧ w < nI n
    · rw [if_pos h, if_pos (ei.mpr h)]
    · rw [if_neg h, if_neg (fun q => h (ei.mp q))]
  have hnr : narrow .boolean (.int (hasV n w)) = .int (hasV n w) := by unfold hasV; split <;> rfl
  refine pw_iload_n 1 rfl dX12_isOne_0 rfl ?_
  refine pw_iconst (v := nI 0) 2 rfl dX12_isOne_1 rfl ?_
  refine pw_aload_n 3 rfl dX12_isOne_2 rfl ?_
  refine pw_getI 6 rfl dX12_isOne_3 fX12_95 (by first | rfl | assumption | exact rowS hh | exact mtS hm | exact ruS hr | exact mtA1 hm | exact mtA2 hm | exact mtA3 hm | exact mtA4 hm | exact mtA5 hm | exact mtA6 hm | exact mtA7 hm | exact ruA1 hr | exact ruA2 hr | exact ruA3 hr) rfl ?_
  rotate_left
  rw [hn]
  refine pw_iconst (v := nI 1) 7 rfl dX12_isOne_6 rfl ?_
  refine pw_isub 8 rfl dX12_isOne_7 ?_
  refine pw_callSP (as := [_, _, _]) 11 rfl dX12_isOne_8 mX12_98 sX12_in (m_in (d := d) _ _ _) ⟨rfl, by decide, by decide, show (parseMethodDescriptor yX12_in.desc).map (fun d => d.parameters.length) = some 3 by decide +kernel⟩ (by omega) (by decide) (Nat.le_of_ble_eq_true rfl) rfl ?_
  rotate_left
  rw [e]
  refine pw_iret dX12_isOne_11 hnr ?_
  rotate_left
  exact ⟨rfl, rfl, rfl, rfl⟩
set_option maxRecDepth 100000 in
set_option maxHeartbeats 2000000 in
theorem m_walking {d h n : Nat} {b : Nat → Nat} {I : pI} {J : pJ} {R : pR} (hh : h = 1 ∨ h = 11) (hn : I 0 1 = nI n) (h7 : n ≤ 7) (hW : ∀ k, k < 7 → b (7 + k) ≤ 2) (hB : MB I h b) : PC SM (d) yX12_walking cX12_walking 4 (some .int) [.ref 0, .ref h] (I) (J) (R) (pPu (.int (nI (bts (fun q => decide (b (7 + q) ≠ 0)) n))) I J R) := by
  refine PC.of [some (.ref 0), some (.ref h), none, none] rfl rfl (Nat.le_of_ble_eq_true rfl) ?_
  refine pw_iconst (v := nI 0) 1 rfl dX12_walking_0 rfl ?_
  refine pw_istore_n 2 rfl dX12_walking_1 (by decide) ?_
  refine pw_iconst (v := nI 0) 3 rfl dX12_walking_2 rfl ?_
  refine pw_istore_n 4 rfl dX12_walking_3 (by decide) ?_
  rotate_left
  refine nat_loop n (fun k => PW SM yX12_walking.cls cX12_walking 4 (d) 4 [some (.ref 0), some (.ref h), some (.int (nI (bts (fun q => decide (b (7 + q) ≠ 0)) k))), some (.int (nI k))] [] (I) (J) (R) (rX cX12_walking (some .int) (pPu (.int (nI (bts (fun q => decide (b (7 + q) ≠ 0)) n))) I J R))) ?_ ?_
  · refine pw_iload_n 5 rfl dX12_walking_4 rfl ?_
    refine pw_aload_n 6 rfl dX12_walking_5 rfl ?_
    refine pw_getI 9 rfl dX12_walking_6 fX12_95 (by first | rfl | assumption | exact rowS hh | exact mtS hm | exact ruS hr | exact mtA1 hm | exact mtA2 hm | exact mtA3 hm | exact mtA4 hm | exact mtA5 hm | exact mtA6 hm | exact mtA7 hm | exact ruA1 hr | exact ruA2 hr | exact ruA3 hr) rfl ?_
    refine pw_icmp_ge (tgt := 37) 12 rfl dX12_walking_9 rfl (fun h9 => ?_) (fun h9 => absurd (by rw [hn]; (simp (disch := omega) only [nI_leI, nI_ltI, nI_eq, show (0 : Int32) = nI 0 from rfl, not_true_eq_false, not_false_eq_true] <;> omega)) h9)
    refine pw_iload_n 38 rfl dX12_walking_37 rfl ?_
    refine pw_iret dX12_walking_38 rfl ?_
    rotate_left
    exact ⟨rfl, rfl, rfl, rfl⟩
  · intro k hk ih
    have hb := hW k (by omega)
    have e : I h (7 + k) = nI (b (7 + k)) := hB _ (by omega)
    have hlt := bts_lt (fun q => decide (b (7 + q) ≠ 0)) k
    by_cases c : b (7 + k) = 0
    · rw [show bts (fun q => decide (b (7 + q) ≠ 0)) (k + 1) = bts (fun q => decide (b (7 + q) ≠ 0)) k by rw [bts, if_neg (by simp [c])]; rfl] at ih
      refine pw_iload_n 5 rfl dX12_walking_4 rfl ?_
      refine pw_aload_n 6 rfl dX12_walking_5 rfl ?_
      refine pw_getI 9 rfl dX12_walking_6 fX12_95 (by first | rfl | assumption | exact rowS hh | exact mtS hm | exact ruS hr | exact mtA1 hm | exact mtA2 hm | exact mtA3 hm | exact mtA4 hm | exact mtA5 hm | exact mtA6 hm | exact mtA7 hm | exact ruA1 hr | exact ruA2 hr | exact ruA3 hr) rfl ?_
      refine pw_icmp_ge (tgt := 37) 12 rfl dX12_walking_9 rfl (fun h9 => absurd h9 (by rw [hn]; (simp (disch := omega) only [nI_leI, nI_ltI, nI_eq, show (0 : Int32) = nI 0 from rfl, not_true_eq_false, not_false_eq_true] <;> omega))) (fun h9 => ?_)
      refine pw_iload_n 13 rfl dX12_walking_12 rfl ?_
      refine pw_aload_n 14 rfl dX12_walking_13 rfl ?_
      refine pw_bipush (v := nI 7) 16 rfl dX12_walking_14 rfl ?_
      refine pw_iload_n 17 rfl dX12_walking_16 rfl ?_
      first | refine pw_iaddN 18 rfl dX12_walking_17 ?_ | refine pw_iadd 18 rfl dX12_walking_17 ?_
      refine pw_ialdN 19 rfl dX12_walking_18 (by first | rfl | assumption | exact rowS hh | exact mtS hm | exact ruS hr | exact mtA1 hm | exact mtA2 hm | exact mtA3 hm | exact mtA4 hm | exact mtA5 hm | exact mtA6 hm | exact mtA7 hm | exact ruA1 hr | exact ruA2 hr | exact ruA3 hr) (by omega) (by first | decide | omega) ?_
      refine pw_if_eq (tgt := 28) 22 rfl dX12_walking_19 rfl (fun h19 => ?_) (fun h19 => absurd (by rw [e, c]; rfl) h19)
      refine pw_iconst (v := nI 0) 29 rfl dX12_walking_28 rfl ?_
      refine pw_ior 30 rfl dX12_walking_29 ?_
      rotate_left
      rw [show nI (bts (fun q => decide (b (7 + q) ≠ 0)) k) ||| nI 0 = nI (bts (fun q => decide (b (7 + q) ≠ 0)) k) by rw [nI_or, Nat.or_zero]]
      refine pw_istore_n 31 rfl dX12_walking_30 (by decide) ?_
      refine pw_iincN 34 rfl dX12_walking_31 (by decide) rfl ?_
      refine pw_goto (tgt := 4) dX12_walking_34 rfl ?_
      rotate_left
      exact ih
    · rw [show bts (fun q => decide (b (7 + q) ≠ 0)) (k + 1) = bts (fun q => decide (b (7 + q) ≠ 0)) k + 2 ^ k by rw [bts, if_pos (by simp [c])]] at ih
      refine pw_iload_n 5 rfl dX12_walking_4 rfl ?_
      refine pw_aload_n 6 rfl dX12_walking_5 rfl ?_
      refine pw_getI 9 rfl dX12_walking_6 fX12_95 (by first | rfl | assumption | exact rowS hh | exact mtS hm | exact ruS hr | exact mtA1 hm | exact mtA2 hm | exact mtA3 hm | exact mtA4 hm | exact mtA5 hm | exact mtA6 hm | exact mtA7 hm | exact ruA1 hr | exact ruA2 hr | exact ruA3 hr) rfl ?_
      refine pw_icmp_ge (tgt := 37) 12 rfl dX12_walking_9 rfl (fun h9 => absurd h9 (by rw [hn]; (simp (disch := omega) only [nI_leI, nI_ltI, nI_eq, show (0 : Int32) = nI 0 from rfl, not_true_eq_false, not_false_eq_true] <;> omega))) (fun h9 => ?_)
      refine pw_iload_n 13 rfl dX12_walking_12 rfl ?_
      refine pw_aload_n 14 rfl dX12_walking_13 rfl ?_
      refine pw_bipush (v := nI 7) 16 rfl dX12_walking_14 rfl ?_
      refine pw_iload_n 17 rfl dX12_walking_16 rfl ?_
      first | refine pw_iaddN 18 rfl dX12_walking_17 ?_ | refine pw_iadd 18 rfl dX12_walking_17 ?_
      refine pw_ialdN 19 rfl dX12_walking_18 (by first | rfl | assumption | exact rowS hh | exact mtS hm | exact ruS hr | exact mtA1 hm | exact mtA2 hm | exact mtA3 hm | exact mtA4 hm | exact mtA5 hm | exact mtA6 hm | exact mtA7 hm | exact ruA1 hr | exact ruA2 hr | exact ruA3 hr) (by omega) (by first | decide | omega) ?_
      refine pw_if_eq (tgt := 28) 22 rfl dX12_walking_19 rfl (fun h19 => absurd h19 (by rw [e]; exact nI_ne0 (by omega) (by omega))) (fun h19 => ?_)
      refine pw_iconst (v := nI 1) 23 rfl dX12_walking_22 rfl ?_
      refine pw_iload_n 24 rfl dX12_walking_23 rfl ?_
      refine pw_ishl 25 rfl dX12_walking_24 ?_
      refine pw_goto (tgt := 29) dX12_walking_25 rfl ?_
      refine pw_ior 30 rfl dX12_walking_29 ?_
      rotate_left
      rw [nI_bit (by omega) hlt]
      refine pw_istore_n 31 rfl dX12_walking_30 (by decide) ?_
      refine pw_iincN 34 rfl dX12_walking_31 (by decide) rfl ?_
      refine pw_goto (tgt := 4) dX12_walking_34 rfl ?_
      rotate_left
      exact ih
/-- who came down in the hours from b on -/
def dlA (n : Nat) (pc : Nat → Nat) (E : (Nat → Int32) → Nat) (b : Nat → Nat) : Nat → List Nat
  | 0 => []
  | k + 1 => dlA n pc E b k ++ hL (sts n pc (hrs n pc E k b) E) (hrs n pc E k b) n
theorem hL_cnt (s b : Nat → Nat) : ∀ k, (hL s b k).length = cntP (hC s b) k
  | 0 => rfl
  | k + 1 => by
    rw [hL, cntP]
    have := hL_cnt s b k
    cases e : hC s b k
    · simp [this]
    · simp [this]
theorem dlA_len {n : Nat} (h7 : n ≤ 7) (pc : Nat → Nat) (E : (Nat → Int32) → Nat) (b : Nat → Nat) : ∀ k, (dlA n pc E b k).length = cdn n pc E b k
  | 0 => rfl
  | k + 1 => by rw [dlA, List.length_append, dlA_len h7 pc E b k, cdn, hL_cnt, dnb, pop_bts _ n (by omega)]
set_option maxRecDepth 100000 in
set_option maxHeartbeats 2000000 in
theorem m_goHours {h d n N : Nat} {pc b : Nat → Nat} {E : (Nat → Int32) → Nat} {rd rl : Option Nat} (hh : h = 1 ∨ h = 11) {I : pI} {J : pJ} (hC : MC I n pc) (hB : MB I h b) (hW : WF n pc b) (hE : MSt 236 rl I E) (hN : N ≤ 100) : PC SM (d + 238) yX12_goHours cX12_goHours 4 none [.ref 0, .ref h, .int (nI N)] (I) (J) (RM rd rl) (fun r' I' J' R' => r' = none ∧ MB I' h (hrs n pc E N b) ∧ mFr h I I' ∧ MD I' (dlA n pc E b N) ∧ J = J' ∧ ∃ rd', R' = RM rd' rl) := by
  refine PC.of [some (.ref 0), some (.ref h), some (.int (nI N)), none] rfl rfl (Nat.le_of_ble_eq_true rfl) ?_
  have h7 := hC.1
  refine pw_aload_n 1 rfl dX12_goHours_0 rfl ?_
  refine pw_iconst (v := nI 0) 2 rfl dX12_goHours_1 rfl ?_
  refine pw_putI 5 rfl dX12_goHours_2 fX12_223 w12_24 (by first | rfl | assumption | exact rowS hh | exact mtS hm | exact ruS hr | exact mtA1 hm | exact mtA2 hm | exact mtA3 hm | exact mtA4 hm | exact mtA5 hm | exact mtA6 hm | exact mtA7 hm | exact ruA1 hr | exact ruA2 hr | exact ruA3 hr) rfl rfl rfl ?_
  refine pw_iconst (v := nI 0) 6 rfl dX12_goHours_5 rfl ?_
  refine pw_istore_n 7 rfl dX12_goHours_6 (by decide) ?_
  rotate_left
  have L := nat_loop N (fun k => ∀ (I' : pI) (rd' : Option Nat), MB I' h (hrs n pc E k b) → mFr h I I' → MD I' (dlA n pc E b k) → PW SM yX12_goHours.cls cX12_goHours 4 (d + 238) 7 [some (.ref 0), some (.ref h), some (.int (nI N)), some (.int (nI k))] [] (I') (J) (RM rd' rl) (rX cX12_goHours none (fun r' I' J' R' => r' = none ∧ MB I' h (hrs n pc E N b) ∧ mFr h I I' ∧ MD I' (dlA n pc E b N) ∧ J = J' ∧ ∃ rd', R' = RM rd' rl))) ?_ ?_
  · exact L _ rd (fun j hj => by rw [uI_ne (by omega)]; exact hB j hj) (fun a j q1 q2 q3 q4 q5 => uI_ne (by omega)) ⟨uI_eq _ _ _ _, by show (0 : Nat) ≤ _; omega, fun j x hj hx => by cases hx⟩
  · intro I' rd' g1 g2 g3
    refine pw_iload_n 8 rfl dX12_goHours_7 rfl ?_
    refine pw_iload_n 9 rfl dX12_goHours_8 rfl ?_
    refine pw_icmp_ge (tgt := 23) 12 rfl dX12_goHours_9 rfl (fun h9 => ?_) (fun h9 => absurd (by (simp (disch := omega) only [nI_leI, nI_ltI, nI_eq, show (0 : Int32) = nI 0 from rfl, not_true_eq_false, not_false_eq_true] <;> omega)) h9)
    refine pw_vret dX12_goHours_23 ?_
    rotate_left
    exact ⟨rfl, g1, g2, g3, rfl, rd', rfl⟩
  · intro k hk ih I' rd' g1 g2 g3
    have hl : (dlA n pc E b k).length ≤ 900000000 := by rw [dlA_len h7]; have := cdn_le n pc E b k; omega
    refine pw_iload_n 8 rfl dX12_goHours_7 rfl ?_
    refine pw_iload_n 9 rfl dX12_goHours_8 rfl ?_
    refine pw_icmp_ge (tgt := 23) 12 rfl dX12_goHours_9 rfl (fun h9 => absurd h9 (by (simp (disch := omega) only [nI_leI, nI_ltI, nI_eq, show (0 : Int32) = nI 0 from rfl, not_true_eq_false, not_false_eq_true] <;> omega))) (fun h9 => ?_)
    refine pw_aload_n 13 rfl dX12_goHours_12 rfl ?_
    refine pw_aload_n 14 rfl dX12_goHours_13 rfl ?_
    refine pw_callV (as := [_]) 17 rfl dX12_goHours_14 mX12_230 vX12_goHour (m_goHour (d := d + 235) (dd := 236) rfl hh (hC.fr g2 hh) g1 (WF_hrs E hW k) (hE.fr (g2 0 16 (by omega) (by omega) (by omega) (by omega) (by omega)) (fun j => g2 6 j (by omega) (by omega) (by omega) (by omega) (by omega)) (fun j => g2 7 j (by omega) (by omega) (by omega) (by omega) (by omega))) (by omega) g3 hl) (by first | rfl | assumption | exact rowS hh | exact mtS hm | exact ruS hr | exact mtA1 hm | exact mtA2 hm | exact mtA3 hm | exact mtA4 hm | exact mtA5 hm | exact mtA6 hm | exact mtA7 hm | exact ruA1 hr | exact ruA2 hr | exact ruA3 hr) rfl (by decide) ⟨rfl, by decide, by decide, show (parseMethodDescriptor yX12_goHour.desc).map (fun d => d.parameters.length) = some 1 by decide +kernel⟩ (by omega) (by decide) (Nat.le_of_ble_eq_true rfl) rfl (fun r14 I14 J14 R14 c14 => ?_)
    obtain ⟨rfl, k1, k2, k3, rfl, rd2, rfl⟩ := c14
    rotate_left
    refine pw_iincN 20 rfl dX12_goHours_17 (by decide) rfl ?_
    refine pw_goto (tgt := 7) dX12_goHours_20 rfl ?_
    rotate_left
    exact ih I14 rd2 k1 (g2.trans k2) k3
set_option maxRecDepth 100000 in
set_option maxHeartbeats 2000000 in
theorem m_goThen {d n N : Nat} {pc b : Nat → Nat} {E : (Nat → Int32) → Nat} {rd : Option Nat} {rl : Option Nat} {I : pI} {J : pJ} (hC : MC I n pc) (hB : MB I 1 b) (hW : WF n pc b) (hE : MSt 236 rl I E) (hN : N ≤ 100) : PC SM (d + 239) yX12_goThen cX12_goThen 2 none [.ref 0, .int (nI N)] (I) (J) (RM rd rl) (fun r' I' J' R' => r' = none ∧ MB I' 11 (hrs n pc E N b) ∧ mFr 11 I I' ∧ MD I' (dlA n pc E b N) ∧ J = J' ∧ ∃ rd', R' = RM rd' rl) := by
  refine PC.of [some (.ref 0), some (.int (nI N))] rfl rfl (Nat.le_of_ble_eq_true rfl) ?_
  refine pw_aload_n 1 rfl dX12_goThen_0 rfl ?_
  refine pw_getR 4 rfl dX12_goThen_1 fX12_9 (by first | rfl | assumption | exact rowS hh | exact mtS hm | exact ruS hr | exact mtA1 hm | exact mtA2 hm | exact mtA3 hm | exact mtA4 hm | exact mtA5 hm | exact mtA6 hm | exact mtA7 hm | exact ruA1 hr | exact ruA2 hr | exact ruA3 hr) rfl (by first | rfl | assumption | exact mtR0 hm | exact mtR1 hm | exact mtR2 hm | exact mtR3 hm | exact mtR4 hm | exact mtR5 hm | exact mtR6 hm | exact ruR0 hr | exact ruR1 hr | exact ruR3 hr) ?_
  refine pw_aload_n 5 rfl dX12_goThen_4 rfl ?_
  refine pw_getR 8 rfl dX12_goThen_5 fX12_42 (by first | rfl | assumption | exact rowS hh | exact mtS hm | exact ruS hr | exact mtA1 hm | exact mtA2 hm | exact mtA3 hm | exact mtA4 hm | exact mtA5 hm | exact mtA6 hm | exact mtA7 hm | exact ruA1 hr | exact ruA2 hr | exact ruA3 hr) rfl (by first | rfl | assumption | exact mtR0 hm | exact mtR1 hm | exact mtR2 hm | exact mtR3 hm | exact mtR4 hm | exact mtR5 hm | exact mtR6 hm | exact ruR0 hr | exact ruR1 hr | exact ruR3 hr) ?_
  refine pw_iconst (v := nI 0) 9 rfl dX12_goThen_8 rfl ?_
  refine pw_callS (as := [_, _, _]) 12 rfl dX12_goThen_9 mX12_219 sX12_lay (m_lay (d := d + 238) (t := 11) (k := 0) (nt := 32) (Or.inl rfl) rfl (by decide) (by decide) (by decide) hB) ⟨rfl, by decide, by decide, show (parseMethodDescriptor yX12_lay.desc).map (fun d => d.parameters.length) = some 3 by decide +kernel⟩ (by omega) (by decide) (Nat.le_of_ble_eq_true rfl) rfl (fun r9 I9 J9 R9 c9 => ?_)
  obtain ⟨rfl, k1, k2, rfl, rfl⟩ := c9
  rotate_left
  have hf : mFr 11 I I9 := fun a j q1 q2 q3 q4 q5 => k2 a j (by omega)
  refine pw_aload_n 13 rfl dX12_goThen_12 rfl ?_
  refine pw_aload_n 14 rfl dX12_goThen_13 rfl ?_
  refine pw_getR 17 rfl dX12_goThen_14 fX12_42 (by first | rfl | assumption | exact rowS hh | exact mtS hm | exact ruS hr | exact mtA1 hm | exact mtA2 hm | exact mtA3 hm | exact mtA4 hm | exact mtA5 hm | exact mtA6 hm | exact mtA7 hm | exact ruA1 hr | exact ruA2 hr | exact ruA3 hr) rfl (by first | rfl | assumption | exact mtR0 hm | exact mtR1 hm | exact mtR2 hm | exact mtR3 hm | exact mtR4 hm | exact mtR5 hm | exact mtR6 hm | exact ruR0 hr | exact ruR1 hr | exact ruR3 hr) ?_
  refine pw_iload_n 18 rfl dX12_goThen_17 rfl ?_
  refine pw_callV (as := [_, _]) 21 rfl dX12_goThen_18 mX12_233 vX12_goHours (m_goHours (d := d) (Or.inr rfl) (hC.fr hf (Or.inr rfl)) (fun j hj => by have := k1 j hj; rw [Nat.zero_add] at this; exact this) hW (hE.fr (hf 0 16 (by omega) (by omega) (by omega) (by omega) (by omega)) (fun j => hf 6 j (by omega) (by omega) (by omega) (by omega) (by omega)) (fun j => hf 7 j (by omega) (by omega) (by omega) (by omega) (by omega))) hN) (by first | rfl | assumption | exact rowS hh | exact mtS hm | exact ruS hr | exact mtA1 hm | exact mtA2 hm | exact mtA3 hm | exact mtA4 hm | exact mtA5 hm | exact mtA6 hm | exact mtA7 hm | exact ruA1 hr | exact ruA2 hr | exact ruA3 hr) rfl (by decide) ⟨rfl, by decide, by decide, show (parseMethodDescriptor yX12_goHours.desc).map (fun d => d.parameters.length) = some 2 by decide +kernel⟩ (by omega) (by decide) (Nat.le_of_ble_eq_true rfl) rfl (fun r18 I18 J18 R18 c18 => ?_)
  obtain ⟨rfl, p1, p2, p3, rfl, rd2, rfl⟩ := c18
  rotate_left
  refine pw_vret dX12_goThen_21 ?_
  rotate_left
  exact ⟨rfl, p1, hf.trans p2, p3, rfl, rd2, rfl⟩
