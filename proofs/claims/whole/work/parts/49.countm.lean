/-! the reference: counts, rows, sheets, years -/
set_option maxRecDepth 100000 in
set_option maxHeartbeats 2000000 in
theorem m_thrown {d : Nat} {I : pI} {J : pJ} {R : pR} : PC SM (d) yX12_thrown cX12_thrown 1 (some .int) [.ref 0] (I) (J) (R) (pPu (.int (I 0 7)) I J R) := by
  refine PC.of [some (.ref 0)] rfl rfl (Nat.le_of_ble_eq_true rfl) ?_
  refine pw_aload_n 1 rfl dX12_thrown_0 rfl ?_
  refine pw_getI 4 rfl dX12_thrown_1 fX12_88 (by first | rfl | assumption | exact rowS hh | exact mtS hm | exact ruS hr | exact mtA1 hm | exact mtA2 hm | exact mtA3 hm | exact mtA4 hm | exact mtA5 hm | exact mtA6 hm | exact mtA7 hm | exact ruA1 hr | exact ruA2 hr | exact ruA3 hr) rfl ?_
  refine pw_iret dX12_thrown_4 rfl ?_
  rotate_left
  exact ⟨rfl, rfl, rfl, rfl⟩
set_option maxRecDepth 100000 in
set_option maxHeartbeats 2000000 in
theorem m_lost {d : Nat} {I : pI} {J : pJ} {R : pR} : PC SM (d) yX12_lost cX12_lost 1 (some .int) [.ref 0] (I) (J) (R) (fun r' I' J' R' => r' = some (.int (nI 0)) ∧ I' = uI I 0 7 (nI 1) ∧ J = J' ∧ R' = R) := by
  refine PC.of [some (.ref 0)] rfl rfl (Nat.le_of_ble_eq_true rfl) ?_
  refine pw_aload_n 1 rfl dX12_lost_0 rfl ?_
  refine pw_iconst (v := nI 1) 2 rfl dX12_lost_1 rfl ?_
  refine pw_putI 5 rfl dX12_lost_2 fX12_88 w12_7 (by first | rfl | assumption | exact rowS hh | exact mtS hm | exact ruS hr | exact mtA1 hm | exact mtA2 hm | exact mtA3 hm | exact mtA4 hm | exact mtA5 hm | exact mtA6 hm | exact mtA7 hm | exact ruA1 hr | exact ruA2 hr | exact ruA3 hr) rfl rfl rfl ?_
  refine pw_iconst (v := nI 0) 6 rfl dX12_lost_5 rfl ?_
  refine pw_iret dX12_lost_6 rfl ?_
  rotate_left
  exact ⟨rfl, rfl, rfl, rfl⟩
set_option maxRecDepth 100000 in
set_option maxHeartbeats 2000000 in
theorem m_sumOf {d n f : Nat} {b : Nat → Nat} {rd rl : Option Nat} {I : pI} {J : pJ} (hn : I 0 1 = nI n) (h7 : n ≤ 7) (hf : f ≤ 21) (hB : MB I 1 b) : PC SM (d) yX12_sumOf cX12_sumOf 4 (some .int) [.ref 0, .int (nI f)] (I) (J) (RM rd rl) (pPu (.int (nI (sumN (fun q => b (f + q)) n))) I J (RM rd rl)) := by
  refine PC.of [some (.ref 0), some (.int (nI f)), none, none] rfl rfl (Nat.le_of_ble_eq_true rfl) ?_
  refine pw_iconst (v := nI 0) 1 rfl dX12_sumOf_0 rfl ?_
  refine pw_istore_n 2 rfl dX12_sumOf_1 (by decide) ?_
  refine pw_iconst (v := nI 0) 3 rfl dX12_sumOf_2 rfl ?_
  refine pw_istore_n 4 rfl dX12_sumOf_3 (by decide) ?_
  rotate_left
  refine nat_loop n (fun k => PW SM yX12_sumOf.cls cX12_sumOf 4 (d) 4 [some (.ref 0), some (.int (nI f)), some (.int (nI (sumN (fun q => b (f + q)) k))), some (.int (nI k))] [] (I) (J) (RM rd rl) (rX cX12_sumOf (some .int) (pPu (.int (nI (sumN (fun q => b (f + q)) n))) I J (RM rd rl)))) ?_ ?_
  · refine pw_iload_n 5 rfl dX12_sumOf_4 rfl ?_
    refine pw_aload_n 6 rfl dX12_sumOf_5 rfl ?_
    refine pw_getI 9 rfl dX12_sumOf_6 fX12_95 (by first | rfl | assumption | exact rowS hh | exact mtS hm | exact ruS hr | exact mtA1 hm | exact mtA2 hm | exact mtA3 hm | exact mtA4 hm | exact mtA5 hm | exact mtA6 hm | exact mtA7 hm | exact ruA1 hr | exact ruA2 hr | exact ruA3 hr) rfl ?_
    refine pw_icmp_ge (tgt := 29) 12 rfl dX12_sumOf_9 rfl (fun h9 => ?_) (fun h9 => absurd (by rw [hn]; (simp (disch := omega) only [nI_leI, nI_ltI, nI_eq, show (0 : Int32) = nI 0 from rfl, not_true_eq_false, not_false_eq_true] <;> omega)) h9)
    refine pw_iload_n 30 rfl dX12_sumOf_29 rfl ?_
    refine pw_iret dX12_sumOf_30 rfl ?_
    rotate_left
    exact ⟨rfl, rfl, rfl, rfl⟩
  · intro k hk ih
    rw [sumN] at ih
    refine pw_iload_n 5 rfl dX12_sumOf_4 rfl ?_
    refine pw_aload_n 6 rfl dX12_sumOf_5 rfl ?_
    refine pw_getI 9 rfl dX12_sumOf_6 fX12_95 (by first | rfl | assumption | exact rowS hh | exact mtS hm | exact ruS hr | exact mtA1 hm | exact mtA2 hm | exact mtA3 hm | exact mtA4 hm | exact mtA5 hm | exact mtA6 hm | exact mtA7 hm | exact ruA1 hr | exact ruA2 hr | exact ruA3 hr) rfl ?_
    refine pw_icmp_ge (tgt := 29) 12 rfl dX12_sumOf_9 rfl (fun h9 => absurd h9 (by rw [hn]; (simp (disch := omega) only [nI_leI, nI_ltI, nI_eq, show (0 : Int32) = nI 0 from rfl, not_true_eq_false, not_false_eq_true] <;> omega))) (fun h9 => ?_)
    refine pw_iload_n 13 rfl dX12_sumOf_12 rfl ?_
    refine pw_aload_n 14 rfl dX12_sumOf_13 rfl ?_
    refine pw_getR 17 rfl dX12_sumOf_14 fX12_9 (by first | rfl | assumption | exact rowS hh | exact mtS hm | exact ruS hr | exact mtA1 hm | exact mtA2 hm | exact mtA3 hm | exact mtA4 hm | exact mtA5 hm | exact mtA6 hm | exact mtA7 hm | exact ruA1 hr | exact ruA2 hr | exact ruA3 hr) rfl (by first | rfl | assumption | exact mtR0 hm | exact mtR1 hm | exact mtR2 hm | exact mtR3 hm | exact mtR4 hm | exact mtR5 hm | exact mtR6 hm | exact ruR0 hr | exact ruR1 hr | exact ruR3 hr) ?_
    refine pw_iload_n 18 rfl dX12_sumOf_17 rfl ?_
    refine pw_iload_n 19 rfl dX12_sumOf_18 rfl ?_
    first | refine pw_iaddN 20 rfl dX12_sumOf_19 ?_ | refine pw_iadd 20 rfl dX12_sumOf_19 ?_
    refine pw_ialdN 21 rfl dX12_sumOf_20 (by first | rfl | assumption | exact rowS hh | exact mtS hm | exact ruS hr | exact mtA1 hm | exact mtA2 hm | exact mtA3 hm | exact mtA4 hm | exact mtA5 hm | exact mtA6 hm | exact mtA7 hm | exact ruA1 hr | exact ruA2 hr | exact ruA3 hr) (by omega) (by first | decide | omega) ?_
    rotate_left
    rw [hB (f + k) (by omega)]
    first | refine pw_iaddN 22 rfl dX12_sumOf_21 ?_ | refine pw_iadd 22 rfl dX12_sumOf_21 ?_
    refine pw_istore_n 23 rfl dX12_sumOf_22 (by decide) ?_
    refine pw_iincN 26 rfl dX12_sumOf_23 (by decide) rfl ?_
    refine pw_goto (tgt := 4) dX12_sumOf_26 rfl ?_
    rotate_left
    exact ih
set_option maxRecDepth 100000 in
set_option maxHeartbeats 2000000 in
theorem m_waiting {d n : Nat} {pc b : Nat → Nat} {rd rl : Option Nat} {I : pI} {J : pJ} (hn : I 0 1 = nI n) (hW : WF n pc b) (hB : MB I 1 b) : PC SM (d) yX12_waiting cX12_waiting 3 (some .int) [.ref 0] (I) (J) (RM rd rl) (pPu (.int (nI (bts (fun q => decide (b (14 + q) ≠ 0)) n))) I J (RM rd rl)) := by
  refine PC.of [some (.ref 0), none, none] rfl rfl (Nat.le_of_ble_eq_true rfl) ?_
  have h7 := hW.1
  refine pw_iconst (v := nI 0) 1 rfl dX12_waiting_0 rfl ?_
  refine pw_istore_n 2 rfl dX12_waiting_1 (by decide) ?_
  refine pw_iconst (v := nI 0) 3 rfl dX12_waiting_2 rfl ?_
  refine pw_istore_n 4 rfl dX12_waiting_3 (by decide) ?_
  rotate_left
  refine nat_loop n (fun k => PW SM yX12_waiting.cls cX12_waiting 3 (d) 4 [some (.ref 0), some (.int (nI (bts (fun q => decide (b (14 + q) ≠ 0)) k))), some (.int (nI k))] [] (I) (J) (RM rd rl) (rX cX12_waiting (some .int) (pPu (.int (nI (bts (fun q => decide (b (14 + q) ≠ 0)) n))) I J (RM rd rl)))) ?_ ?_
  · refine pw_iload_n 5 rfl dX12_waiting_4 rfl ?_
    refine pw_aload_n 6 rfl dX12_waiting_5 rfl ?_
    refine pw_getI 9 rfl dX12_waiting_6 fX12_95 (by first | rfl | assumption | exact rowS hh | exact mtS hm | exact ruS hr | exact mtA1 hm | exact mtA2 hm | exact mtA3 hm | exact mtA4 hm | exact mtA5 hm | exact mtA6 hm | exact mtA7 hm | exact ruA1 hr | exact ruA2 hr | exact ruA3 hr) rfl ?_
    refine pw_icmp_ge (tgt := 40) 12 rfl dX12_waiting_9 rfl (fun h9 => ?_) (fun h9 => absurd (by rw [hn]; (simp (disch := omega) only [nI_leI, nI_ltI, nI_eq, show (0 : Int32) = nI 0 from rfl, not_true_eq_false, not_false_eq_true] <;> omega)) h9)
    refine pw_iload_n 41 rfl dX12_waiting_40 rfl ?_
    refine pw_iret dX12_waiting_41 rfl ?_
    rotate_left
    exact ⟨rfl, rfl, rfl, rfl⟩
  · intro k hk ih
    have hb := (hW.2.2.2.2 k (by omega)).2.2.2.1
    have e : I 1 (14 + k) = nI (b (14 + k)) := hB _ (by omega)
    have hlt := bts_lt (fun q => decide (b (14 + q) ≠ 0)) k
    by_cases c : b (14 + k) = 0
    · rw [show bts (fun q => decide (b (14 + q) ≠ 0)) (k + 1) = bts (fun q => decide (b (14 + q) ≠ 0)) k by rw [bts, if_neg (by simp [c])]; rfl] at ih
      refine pw_iload_n 5 rfl dX12_waiting_4 rfl ?_
      refine pw_aload_n 6 rfl dX12_waiting_5 rfl ?_
      refine pw_getI 9 rfl dX12_waiting_6 fX12_95 (by first | rfl | assumption | exact rowS hh | exact mtS hm | exact ruS hr | exact mtA1 hm | exact mtA2 hm | exact mtA3 hm | exact mtA4 hm | exact mtA5 hm | exact mtA6 hm | exact mtA7 hm | exact ruA1 hr | exact ruA2 hr | exact ruA3 hr) rfl ?_
      refine pw_icmp_ge (tgt := 40) 12 rfl dX12_waiting_9 rfl (fun h9 => absurd h9 (by rw [hn]; (simp (disch := omega) only [nI_leI, nI_ltI, nI_eq, show (0 : Int32) = nI 0 from rfl, not_true_eq_false, not_false_eq_true] <;> omega))) (fun h9 => ?_)
      refine pw_iload_n 13 rfl dX12_waiting_12 rfl ?_
      refine pw_aload_n 14 rfl dX12_waiting_13 rfl ?_
      refine pw_getR 17 rfl dX12_waiting_14 fX12_9 (by first | rfl | assumption | exact rowS hh | exact mtS hm | exact ruS hr | exact mtA1 hm | exact mtA2 hm | exact mtA3 hm | exact mtA4 hm | exact mtA5 hm | exact mtA6 hm | exact mtA7 hm | exact ruA1 hr | exact ruA2 hr | exact ruA3 hr) rfl (by first | rfl | assumption | exact mtR0 hm | exact mtR1 hm | exact mtR2 hm | exact mtR3 hm | exact mtR4 hm | exact mtR5 hm | exact mtR6 hm | exact ruR0 hr | exact ruR1 hr | exact ruR3 hr) ?_
      refine pw_bipush (v := nI 14) 19 rfl dX12_waiting_17 rfl ?_
      refine pw_iload_n 20 rfl dX12_waiting_19 rfl ?_
      first | refine pw_iaddN 21 rfl dX12_waiting_20 ?_ | refine pw_iadd 21 rfl dX12_waiting_20 ?_
      refine pw_ialdN 22 rfl dX12_waiting_21 (by first | rfl | assumption | exact rowS hh | exact mtS hm | exact ruS hr | exact mtA1 hm | exact mtA2 hm | exact mtA3 hm | exact mtA4 hm | exact mtA5 hm | exact mtA6 hm | exact mtA7 hm | exact ruA1 hr | exact ruA2 hr | exact ruA3 hr) (by omega) (by first | decide | omega) ?_
      refine pw_if_le (tgt := 31) 25 rfl dX12_waiting_22 rfl (fun h22 => ?_) (fun h22 => absurd (by rw [e, c]; decide) h22)
      refine pw_iconst (v := nI 0) 32 rfl dX12_waiting_31 rfl ?_
      refine pw_ior 33 rfl dX12_waiting_32 ?_
      rotate_left
      rw [show nI (bts (fun q => decide (b (14 + q) ≠ 0)) k) ||| nI 0 = nI (bts (fun q => decide (b (14 + q) ≠ 0)) k) by rw [nI_or, Nat.or_zero]]
      refine pw_istore_n 34 rfl dX12_waiting_33 (by decide) ?_
      refine pw_iincN 37 rfl dX12_waiting_34 (by decide) rfl ?_
      refine pw_goto (tgt := 4) dX12_waiting_37 rfl ?_
      rotate_left
      exact ih
    · rw [show bts (fun q => decide (b (14 + q) ≠ 0)) (k + 1) = bts (fun q => decide (b (14 + q) ≠ 0)) k + 2 ^ k by rw [bts, if_pos (by simp [c])]] at ih
      refine pw_iload_n 5 rfl dX12_waiting_4 rfl ?_
      refine pw_aload_n 6 rfl dX12_waiting_5 rfl ?_
      refine pw_getI 9 rfl dX12_waiting_6 fX12_95 (by first | rfl | assumption | exact rowS hh | exact mtS hm | exact ruS hr | exact mtA1 hm | exact mtA2 hm | exact mtA3 hm | exact mtA4 hm | exact mtA5 hm | exact mtA6 hm | exact mtA7 hm | exact ruA1 hr | exact ruA2 hr | exact ruA3 hr) rfl ?_
      refine pw_icmp_ge (tgt := 40) 12 rfl dX12_waiting_9 rfl (fun h9 => absurd h9 (by rw [hn]; (simp (disch := omega) only [nI_leI, nI_ltI, nI_eq, show (0 : Int32) = nI 0 from rfl, not_true_eq_false, not_false_eq_true] <;> omega))) (fun h9 => ?_)
      refine pw_iload_n 13 rfl dX12_waiting_12 rfl ?_
      refine pw_aload_n 14 rfl dX12_waiting_13 rfl ?_
      refine pw_getR 17 rfl dX12_waiting_14 fX12_9 (by first | rfl | assumption | exact rowS hh | exact mtS hm | exact ruS hr | exact mtA1 hm | exact mtA2 hm | exact mtA3 hm | exact mtA4 hm | exact mtA5 hm | exact mtA6 hm | exact mtA7 hm | exact ruA1 hr | exact ruA2 hr | exact ruA3 hr) rfl (by first | rfl | assumption | exact mtR0 hm | exact mtR1 hm | exact mtR2 hm | exact mtR3 hm | exact mtR4 hm | exact mtR5 hm | exact mtR6 hm | exact ruR0 hr | exact ruR1 hr | exact ruR3 hr) ?_
      refine pw_bipush (v := nI 14) 19 rfl dX12_waiting_17 rfl ?_
      refine pw_iload_n 20 rfl dX12_waiting_19 rfl ?_
      first | refine pw_iaddN 21 rfl dX12_waiting_20 ?_ | refine pw_iadd 21 rfl dX12_waiting_20 ?_
      refine pw_ialdN 22 rfl dX12_waiting_21 (by first | rfl | assumption | exact rowS hh | exact mtS hm | exact ruS hr | exact mtA1 hm | exact mtA2 hm | exact mtA3 hm | exact mtA4 hm | exact mtA5 hm | exact mtA6 hm | exact mtA7 hm | exact ruA1 hr | exact ruA2 hr | exact ruA3 hr) (by omega) (by first | decide | omega) ?_
      refine pw_if_le (tgt := 31) 25 rfl dX12_waiting_22 rfl (fun h22 => absurd h22 (by rw [e]; exact nI_nle (by omega) (by omega))) (fun h22 => ?_)
      refine pw_iconst (v := nI 1) 26 rfl dX12_waiting_25 rfl ?_
      refine pw_iload_n 27 rfl dX12_waiting_26 rfl ?_
      refine pw_ishl 28 rfl dX12_waiting_27 ?_
      refine pw_goto (tgt := 32) dX12_waiting_28 rfl ?_
      refine pw_ior 33 rfl dX12_waiting_32 ?_
      rotate_left
      rw [nI_bit (by omega) hlt]
      refine pw_istore_n 34 rfl dX12_waiting_33 (by decide) ?_
      refine pw_iincN 37 rfl dX12_waiting_34 (by decide) rfl ?_
      refine pw_goto (tgt := 4) dX12_waiting_37 rfl ?_
      rotate_left
      exact ih
set_option maxRecDepth 100000 in
set_option maxHeartbeats 2000000 in
theorem mo_count {d g : Nat} {s : aSt} {rd : Option Nat} {I : pI} {J : pJ} (hA : MA I J s) (hD : MDg g I) (hg : g ≤ 500000000) (hW : WA s) (w : Int32) : PC SM (d + 245) yX12_count cX12_count 2 (some .int) [.ref 0, .int w] (I) (J) (RM rd (some 6)) (moP (g + 10000) ((cntV w s, s))) := by
  refine PC.of [some (.ref 0), some (.int w)] rfl rfl (Nat.le_of_ble_eq_true rfl) ?_
  obtain ⟨n, pc, b, us, kp, rw, tx, rt, hd, sw⟩ := s
  refine pw_aload_n 1 rfl dX12_count_0 rfl ?_
  refine pw_iconst (v := nI 0) 2 rfl dX12_count_1 rfl ?_
  refine pw_putI 5 rfl dX12_count_2 fX12_88 w12_7 (by first | rfl | assumption | exact rowS hh | exact mtS hm | exact ruS hr | exact mtA1 hm | exact mtA2 hm | exact mtA3 hm | exact mtA4 hm | exact mtA5 hm | exact mtA6 hm | exact mtA7 hm | exact ruA1 hr | exact ruA2 hr | exact ruA3 hr) rfl rfl rfl ?_
  rotate_left
  have hA0 := MA_thr (v := nI 0) hA
  have hD0 : MDg g (uI I 0 7 (nI 0)) := MDg_f hD (uI_ne (by omega)) (fun j => uI_ne (by omega))
  clear hA hD
  generalize uI I 0 7 (nI 0) = I at hA0 hD0 ⊢
  obtain ⟨mC, mB, mT, mN, mR, mU, mK, mH, mG⟩ := id hA0
  obtain ⟨aW, aU, aK⟩ := id hW
  have hE := MSt_A hA0
  have hn7 := mC.1
  have hn := mC.2.1
  have ok : ∀ {w v : Int32}, cntV w (n, pc, b, us, kp, rw, tx, rt, hd, sw) = v → moP (g + 10000) (cntV w (n, pc, b, us, kp, rw, tx, rt, hd, sw), (n, pc, b, us, kp, rw, tx, rt, hd, sw)) (some (.int v)) I J (RM rd (some 6)) := fun {w v} e => ⟨by rw [e], hA0, hD0.mono (by omega), rd, rfl⟩
  rcases inOf_cases (lo := 0) (hi := 15) (by decide) w (by decide) with ⟨k, h1, h2, rfl, hi⟩ | ⟨hi, ho⟩
  · have ek : ∀ v, cntO k (n, pc, b, us, kp, rw, tx, rt, hd, sw) = v → cntV (nI k) (n, pc, b, us, kp, rw, tx, rt, hd, sw) = v := fun v hv => by unfold cntV; rw [hi]; exact hv
    rcases (show k = 0 ∨ k = 1 ∨ k = 2 ∨ k = 3 ∨ k = 4 ∨ k = 5 ∨ k = 6 ∨ k = 7 ∨ k = 8 ∨ k = 9 ∨ k = 10 ∨ k = 11 ∨ k = 12 ∨ k = 13 ∨ k = 14 ∨ k = 15 by omega) with rfl | rfl | rfl | rfl | rfl | rfl | rfl | rfl | rfl | rfl | rfl | rfl | rfl | rfl | rfl | rfl
    · refine pw_iload_n 6 rfl dX12_count_5 rfl ?_
      refine pw_tableIn (tgt := 84) (off := 78) dX12_count_6 (by decide) (by decide) (by decide) rfl ?_
      refine pw_aload_n 85 rfl dX12_count_84 rfl ?_
      refine pw_getI 88 rfl dX12_count_85 fX12_95 (by first | rfl | assumption | exact rowS hh | exact mtS hm | exact ruS hr | exact mtA1 hm | exact mtA2 hm | exact mtA3 hm | exact mtA4 hm | exact mtA5 hm | exact mtA6 hm | exact mtA7 hm | exact ruA1 hr | exact ruA2 hr | exact ruA3 hr) rfl ?_
      rotate_left
      rw [hn]
      refine pw_iret dX12_count_88 rfl ?_
      rotate_left
      exact ok (ek _ rfl)
    · refine pw_iload_n 6 rfl dX12_count_5 rfl ?_
      refine pw_tableIn (tgt := 89) (off := 83) dX12_count_6 (by decide) (by decide) (by decide) rfl ?_
      refine pw_aload_n 90 rfl dX12_count_89 rfl ?_
      refine pw_getR 93 rfl dX12_count_90 fX12_9 (by first | rfl | assumption | exact rowS hh | exact mtS hm | exact ruS hr | exact mtA1 hm | exact mtA2 hm | exact mtA3 hm | exact mtA4 hm | exact mtA5 hm | exact mtA6 hm | exact mtA7 hm | exact ruA1 hr | exact ruA2 hr | exact ruA3 hr) rfl (by first | rfl | assumption | exact mtR0 hm | exact mtR1 hm | exact mtR2 hm | exact mtR3 hm | exact mtR4 hm | exact mtR5 hm | exact mtR6 hm | exact ruR0 hr | exact ruR1 hr | exact ruR3 hr) ?_
      refine pw_bipush (v := nI 28) 95 rfl dX12_count_93 rfl ?_
      refine pw_ialdN 96 rfl dX12_count_95 (by first | rfl | assumption | exact rowS hh | exact mtS hm | exact ruS hr | exact mtA1 hm | exact mtA2 hm | exact mtA3 hm | exact mtA4 hm | exact mtA5 hm | exact mtA6 hm | exact mtA7 hm | exact ruA1 hr | exact ruA2 hr | exact ruA3 hr) (by omega) (by first | decide | omega) ?_
      rotate_left
      rw [mB 28 (by omega)]
      refine pw_iret dX12_count_96 rfl ?_
      rotate_left
      exact ok (ek _ rfl)
    · refine pw_iload_n 6 rfl dX12_count_5 rfl ?_
      refine pw_tableIn (tgt := 97) (off := 91) dX12_count_6 (by decide) (by decide) (by decide) rfl ?_
      refine pw_aload_n 98 rfl dX12_count_97 rfl ?_
      refine pw_getR 101 rfl dX12_count_98 fX12_9 (by first | rfl | assumption | exact rowS hh | exact mtS hm | exact ruS hr | exact mtA1 hm | exact mtA2 hm | exact mtA3 hm | exact mtA4 hm | exact mtA5 hm | exact mtA6 hm | exact mtA7 hm | exact ruA1 hr | exact ruA2 hr | exact ruA3 hr) rfl (by first | rfl | assumption | exact mtR0 hm | exact mtR1 hm | exact mtR2 hm | exact mtR3 hm | exact mtR4 hm | exact mtR5 hm | exact mtR6 hm | exact ruR0 hr | exact ruR1 hr | exact ruR3 hr) ?_
      refine pw_bipush (v := nI 29) 103 rfl dX12_count_101 rfl ?_
      refine pw_ialdN 104 rfl dX12_count_103 (by first | rfl | assumption | exact rowS hh | exact mtS hm | exact ruS hr | exact mtA1 hm | exact mtA2 hm | exact mtA3 hm | exact mtA4 hm | exact mtA5 hm | exact mtA6 hm | exact mtA7 hm | exact ruA1 hr | exact ruA2 hr | exact ruA3 hr) (by omega) (by first | decide | omega) ?_
      rotate_left
      rw [mB 29 (by omega)]
      refine pw_iret dX12_count_104 rfl ?_
      rotate_left
      exact ok (ek _ rfl)
    · refine pw_iload_n 6 rfl dX12_count_5 rfl ?_
      refine pw_tableIn (tgt := 105) (off := 99) dX12_count_6 (by decide) (by decide) (by decide) rfl ?_
      refine pw_aload_n 106 rfl dX12_count_105 rfl ?_
      refine pw_getR 109 rfl dX12_count_106 fX12_9 (by first | rfl | assumption | exact rowS hh | exact mtS hm | exact ruS hr | exact mtA1 hm | exact mtA2 hm | exact mtA3 hm | exact mtA4 hm | exact mtA5 hm | exact mtA6 hm | exact mtA7 hm | exact ruA1 hr | exact ruA2 hr | exact ruA3 hr) rfl (by first | rfl | assumption | exact mtR0 hm | exact mtR1 hm | exact mtR2 hm | exact mtR3 hm | exact mtR4 hm | exact mtR5 hm | exact mtR6 hm | exact ruR0 hr | exact ruR1 hr | exact ruR3 hr) ?_
      refine pw_bipush (v := nI 30) 111 rfl dX12_count_109 rfl ?_
      refine pw_ialdN 112 rfl dX12_count_111 (by first | rfl | assumption | exact rowS hh | exact mtS hm | exact ruS hr | exact mtA1 hm | exact mtA2 hm | exact mtA3 hm | exact mtA4 hm | exact mtA5 hm | exact mtA6 hm | exact mtA7 hm | exact ruA1 hr | exact ruA2 hr | exact ruA3 hr) (by omega) (by first | decide | omega) ?_
      rotate_left
      rw [mB 30 (by omega)]
      refine pw_iret dX12_count_112 rfl ?_
      rotate_left
      exact ok (ek _ rfl)
    · refine pw_iload_n 6 rfl dX12_count_5 rfl ?_
      refine pw_tableIn (tgt := 113) (off := 107) dX12_count_6 (by decide) (by decide) (by decide) rfl ?_
      refine pw_aload_n 114 rfl dX12_count_113 rfl ?_
      refine pw_getR 117 rfl dX12_count_114 fX12_9 (by first | rfl | assumption | exact rowS hh | exact mtS hm | exact ruS hr | exact mtA1 hm | exact mtA2 hm | exact mtA3 hm | exact mtA4 hm | exact mtA5 hm | exact mtA6 hm | exact mtA7 hm | exact ruA1 hr | exact ruA2 hr | exact ruA3 hr) rfl (by first | rfl | assumption | exact mtR0 hm | exact mtR1 hm | exact mtR2 hm | exact mtR3 hm | exact mtR4 hm | exact mtR5 hm | exact mtR6 hm | exact ruR0 hr | exact ruR1 hr | exact ruR3 hr) ?_
      refine pw_bipush (v := nI 31) 119 rfl dX12_count_117 rfl ?_
      refine pw_ialdN 120 rfl dX12_count_119 (by first | rfl | assumption | exact rowS hh | exact mtS hm | exact ruS hr | exact mtA1 hm | exact mtA2 hm | exact mtA3 hm | exact mtA4 hm | exact mtA5 hm | exact mtA6 hm | exact mtA7 hm | exact ruA1 hr | exact ruA2 hr | exact ruA3 hr) (by omega) (by first | decide | omega) ?_
      rotate_left
      rw [mB 31 (by omega)]
      refine pw_iret dX12_count_120 rfl ?_
      rotate_left
      exact ok (ek _ rfl)
    · refine pw_iload_n 6 rfl dX12_count_5 rfl ?_
      refine pw_tableIn (tgt := 121) (off := 115) dX12_count_6 (by decide) (by decide) (by decide) rfl ?_
      refine pw_aload_n 122 rfl dX12_count_121 rfl ?_
      refine pw_aload_n 123 rfl dX12_count_122 rfl ?_
      refine pw_getR 126 rfl dX12_count_123 fX12_9 (by first | rfl | assumption | exact rowS hh | exact mtS hm | exact ruS hr | exact mtA1 hm | exact mtA2 hm | exact mtA3 hm | exact mtA4 hm | exact mtA5 hm | exact mtA6 hm | exact mtA7 hm | exact ruA1 hr | exact ruA2 hr | exact ruA3 hr) rfl (by first | rfl | assumption | exact mtR0 hm | exact mtR1 hm | exact mtR2 hm | exact mtR3 hm | exact mtR4 hm | exact mtR5 hm | exact mtR6 hm | exact ruR0 hr | exact ruR1 hr | exact ruR3 hr) ?_
      refine pw_callVP (as := [_]) 129 rfl dX12_count_126 mX12_240 vX12_walking (m_walking (d := d + 244) (Or.inl rfl) hn hn7 (WF_way aW.1) mB) (by first | rfl | assumption | exact rowS hh | exact mtS hm | exact ruS hr | exact mtA1 hm | exact mtA2 hm | exact mtA3 hm | exact mtA4 hm | exact mtA5 hm | exact mtA6 hm | exact mtA7 hm | exact ruA1 hr | exact ruA2 hr | exact ruA3 hr) rfl (by decide) ⟨rfl, by decide, by decide, show (parseMethodDescriptor yX12_walking.desc).map (fun d => d.parameters.length) = some 1 by decide +kernel⟩ (by omega) (by decide) (Nat.le_of_ble_eq_true rfl) rfl ?_
      refine pw_iret dX12_count_129 rfl ?_
      rotate_left
      exact ok (ek _ rfl)
    · refine pw_iload_n 6 rfl dX12_count_5 rfl ?_
      refine pw_tableIn (tgt := 130) (off := 124) dX12_count_6 (by decide) (by decide) (by decide) rfl ?_
      refine pw_aload_n 131 rfl dX12_count_130 rfl ?_
      refine pw_iconst (v := nI 0) 132 rfl dX12_count_131 rfl ?_
      refine pw_callVP (as := [_]) 135 rfl dX12_count_132 mX12_359 vX12_sumOf (m_sumOf (d := d + 244) (f := 0) hn hn7 (by decide) mB) (by first | rfl | assumption | exact rowS hh | exact mtS hm | exact ruS hr | exact mtA1 hm | exact mtA2 hm | exact mtA3 hm | exact mtA4 hm | exact mtA5 hm | exact mtA6 hm | exact mtA7 hm | exact ruA1 hr | exact ruA2 hr | exact ruA3 hr) rfl (by decide) ⟨rfl, by decide, by decide, show (parseMethodDescriptor yX12_sumOf.desc).map (fun d => d.parameters.length) = some 1 by decide +kernel⟩ (by omega) (by decide) (Nat.le_of_ble_eq_true rfl) rfl ?_
      refine pw_iret dX12_count_135 rfl ?_
      rotate_left
      exact ok (ek _ (by rw [show (fun q => b (0 + q)) = b from funext (fun q => by rw [Nat.zero_add])]; rfl))
    · refine pw_iload_n 6 rfl dX12_count_5 rfl ?_
      refine pw_tableIn (tgt := 136) (off := 130) dX12_count_6 (by decide) (by decide) (by decide) rfl ?_
      refine pw_aload_n 137 rfl dX12_count_136 rfl ?_
      refine pw_bipush (v := nI 21) 139 rfl dX12_count_137 rfl ?_
      refine pw_callVP (as := [_]) 142 rfl dX12_count_139 mX12_359 vX12_sumOf (m_sumOf (d := d + 244) (f := 21) hn hn7 (by decide) mB) (by first | rfl | assumption | exact rowS hh | exact mtS hm | exact ruS hr | exact mtA1 hm | exact mtA2 hm | exact mtA3 hm | exact mtA4 hm | exact mtA5 hm | exact mtA6 hm | exact mtA7 hm | exact ruA1 hr | exact ruA2 hr | exact ruA3 hr) rfl (by decide) ⟨rfl, by decide, by decide, show (parseMethodDescriptor yX12_sumOf.desc).map (fun d => d.parameters.length) = some 1 by decide +kernel⟩ (by omega) (by decide) (Nat.le_of_ble_eq_true rfl) rfl ?_
      refine pw_iret dX12_count_142 rfl ?_
      rotate_left
      exact ok (ek _ rfl)
    · refine pw_iload_n 6 rfl dX12_count_5 rfl ?_
      refine pw_tableIn (tgt := 143) (off := 137) dX12_count_6 (by decide) (by decide) (by decide) rfl ?_
      refine pw_aload_n 144 rfl dX12_count_143 rfl ?_
      refine pw_getI 147 rfl dX12_count_144 fX12_314 (by first | rfl | assumption | exact rowS hh | exact mtS hm | exact ruS hr | exact mtA1 hm | exact mtA2 hm | exact mtA3 hm | exact mtA4 hm | exact mtA5 hm | exact mtA6 hm | exact mtA7 hm | exact ruA1 hr | exact ruA2 hr | exact ruA3 hr) rfl ?_
      rotate_left
      rw [mH.1]
      refine pw_iret dX12_count_147 rfl ?_
      rotate_left
      exact ok (ek _ rfl)
    · refine pw_iload_n 6 rfl dX12_count_5 rfl ?_
      refine pw_tableIn (tgt := 148) (off := 142) dX12_count_6 (by decide) (by decide) (by decide) rfl ?_
      refine pw_aload_n 149 rfl dX12_count_148 rfl ?_
      refine pw_getI 152 rfl dX12_count_149 fX12_323 (by first | rfl | assumption | exact rowS hh | exact mtS hm | exact ruS hr | exact mtA1 hm | exact mtA2 hm | exact mtA3 hm | exact mtA4 hm | exact mtA5 hm | exact mtA6 hm | exact mtA7 hm | exact ruA1 hr | exact ruA2 hr | exact ruA3 hr) rfl ?_
      rotate_left
      rw [mG.1]
      refine pw_iret dX12_count_152 rfl ?_
      rotate_left
      exact ok (ek _ rfl)
    · refine pw_iload_n 6 rfl dX12_count_5 rfl ?_
      refine pw_tableIn (tgt := 153) (off := 147) dX12_count_6 (by decide) (by decide) (by decide) rfl ?_
      refine pw_aload_n 154 rfl dX12_count_153 rfl ?_
      refine pw_getI 157 rfl dX12_count_154 fX12_150 (by first | rfl | assumption | exact rowS hh | exact mtS hm | exact ruS hr | exact mtA1 hm | exact mtA2 hm | exact mtA3 hm | exact mtA4 hm | exact mtA5 hm | exact mtA6 hm | exact mtA7 hm | exact ruA1 hr | exact ruA2 hr | exact ruA3 hr) rfl ?_
      rotate_left
      rw [mU.1]
      refine pw_iret dX12_count_157 rfl ?_
      rotate_left
      exact ok (ek _ rfl)
    · refine pw_iload_n 6 rfl dX12_count_5 rfl ?_
      refine pw_tableIn (tgt := 158) (off := 152) dX12_count_6 (by decide) (by decide) (by decide) rfl ?_
      refine pw_aload_n 159 rfl dX12_count_158 rfl ?_
      refine pw_getI 162 rfl dX12_count_159 fX12_92 (by first | rfl | assumption | exact rowS hh | exact mtS hm | exact ruS hr | exact mtA1 hm | exact mtA2 hm | exact mtA3 hm | exact mtA4 hm | exact mtA5 hm | exact mtA6 hm | exact mtA7 hm | exact ruA1 hr | exact ruA2 hr | exact ruA3 hr) rfl ?_
      rotate_left
      rw [mN.1]
      refine pw_iret dX12_count_162 rfl ?_
      rotate_left
      exact ok (ek _ rfl)
    · refine pw_iload_n 6 rfl dX12_count_5 rfl ?_
      refine pw_tableIn (tgt := 163) (off := 157) dX12_count_6 (by decide) (by decide) (by decide) rfl ?_
      refine pw_aload_n 164 rfl dX12_count_163 rfl ?_
      refine pw_getI 167 rfl dX12_count_164 fX12_102 (by first | rfl | assumption | exact rowS hh | exact mtS hm | exact ruS hr | exact mtA1 hm | exact mtA2 hm | exact mtA3 hm | exact mtA4 hm | exact mtA5 hm | exact mtA6 hm | exact mtA7 hm | exact ruA1 hr | exact ruA2 hr | exact ruA3 hr) rfl ?_
      rotate_left
      rw [mT.1]
      refine pw_iret dX12_count_167 rfl ?_
      rotate_left
      exact ok (ek _ rfl)
    · refine pw_iload_n 6 rfl dX12_count_5 rfl ?_
      refine pw_tableIn (tgt := 168) (off := 162) dX12_count_6 (by decide) (by decide) (by decide) rfl ?_
      refine pw_aload_n 169 rfl dX12_count_168 rfl ?_
      refine pw_bipush (v := nI 14) 171 rfl dX12_count_169 rfl ?_
      refine pw_callVP (as := [_]) 174 rfl dX12_count_171 mX12_359 vX12_sumOf (m_sumOf (d := d + 244) (f := 14) hn hn7 (by decide) mB) (by first | rfl | assumption | exact rowS hh | exact mtS hm | exact ruS hr | exact mtA1 hm | exact mtA2 hm | exact mtA3 hm | exact mtA4 hm | exact mtA5 hm | exact mtA6 hm | exact mtA7 hm | exact ruA1 hr | exact ruA2 hr | exact ruA3 hr) rfl (by decide) ⟨rfl, by decide, by decide, show (parseMethodDescriptor yX12_sumOf.desc).map (fun d => d.parameters.length) = some 1 by decide +kernel⟩ (by omega) (by decide) (Nat.le_of_ble_eq_true rfl) rfl ?_
      refine pw_iret dX12_count_174 rfl ?_
      rotate_left
      exact ok (ek _ rfl)
    · refine pw_iload_n 6 rfl dX12_count_5 rfl ?_
      refine pw_tableIn (tgt := 175) (off := 169) dX12_count_6 (by decide) (by decide) (by decide) rfl ?_
      refine pw_aload_n 176 rfl dX12_count_175 rfl ?_
      refine pw_callVP (as := []) 179 rfl dX12_count_176 mX12_216 vX12_paces (m_paces (d := d + 244) mC) (by first | rfl | assumption | exact rowS hh | exact mtS hm | exact ruS hr | exact mtA1 hm | exact mtA2 hm | exact mtA3 hm | exact mtA4 hm | exact mtA5 hm | exact mtA6 hm | exact mtA7 hm | exact ruA1 hr | exact ruA2 hr | exact ruA3 hr) rfl (by decide) ⟨rfl, by decide, by decide, show (parseMethodDescriptor yX12_paces.desc).map (fun d => d.parameters.length) = some 0 by decide +kernel⟩ (by omega) (by decide) (Nat.le_of_ble_eq_true rfl) rfl ?_
      refine pw_iret dX12_count_179 rfl ?_
      rotate_left
      exact ok (ek _ rfl)
    · refine pw_iload_n 6 rfl dX12_count_5 rfl ?_
      refine pw_tableIn (tgt := 180) (off := 174) dX12_count_6 (by decide) (by decide) (by decide) rfl ?_
      refine pw_aload_n 181 rfl dX12_count_180 rfl ?_
      refine pw_callVP (as := []) 184 rfl dX12_count_181 mX12_362 vX12_waiting (m_waiting (d := d + 244) hn aW.1 mB) (by first | rfl | assumption | exact rowS hh | exact mtS hm | exact ruS hr | exact mtA1 hm | exact mtA2 hm | exact mtA3 hm | exact mtA4 hm | exact mtA5 hm | exact mtA6 hm | exact mtA7 hm | exact ruA1 hr | exact ruA2 hr | exact ruA3 hr) rfl (by decide) ⟨rfl, by decide, by decide, show (parseMethodDescriptor yX12_waiting.desc).map (fun d => d.parameters.length) = some 0 by decide +kernel⟩ (by omega) (by decide) (Nat.le_of_ble_eq_true rfl) rfl ?_
      refine pw_iret dX12_count_184 rfl ?_
      rotate_left
      exact ok (ek _ rfl)
  · have hout : w.toInt < 0 ∨ 15 < w.toInt := by
      rcases ho with ho | ho
      · rw [Int32.lt_iff_toInt_lt, show (nI 0).toInt = 0 from by decide] at ho; exact Or.inl ho
      · rw [Int32.lt_iff_toInt_lt, show (nI 15).toInt = 15 from by decide] at ho; exact Or.inr ho
    refine pw_iload_n 6 rfl dX12_count_5 rfl ?_
    refine pw_tableOut (tgt := 185) dX12_count_6 (hout) rfl ?_
    refine pw_iconst (v := -1) 186 rfl dX12_count_185 rfl ?_
    refine pw_iret dX12_count_186 rfl ?_
    rotate_left
    exact ok (by unfold cntV; rw [hi])
/-- the row asked for, if it is there -/
def rwAt (rw : List Int64) (v : Int32) : Option Int64 := if 0 ≤ v ∧ v < nI rw.length then rw[v.toNatClampNeg]? else none
def mrP (g : Nat) (o : Option Int64) (s : aSt) : Option Value → pI → pJ → pR → Prop := fun r' I' J' R' => (match o with
  | some x => r' = some (.long x) ∧ I' 0 7 = nI 0
  | none => (∃ y, r' = some (.long y)) ∧ I' 0 7 = nI 1) ∧ MA I' J' s ∧ MDg g I' ∧ ∃ rd', R' = RM rd' (some 6)
def mcP (g : Nat) (o : Option Int32) (s : aSt) : Option Value → pI → pJ → pR → Prop := fun r' I' J' R' => (match o with
  | some x => r' = some (.int x) ∧ I' 0 7 = nI 0
  | none => (∃ y, r' = some (.int y)) ∧ I' 0 7 = nI 1) ∧ MA I' J' s ∧ MDg g I' ∧ ∃ rd', R' = RM rd' (some 6)
def clAt (w v : Int32) (s : aSt) : Option Int32 := match qOf s.1 w with
  | none => none
  | some q => match inOf 0 5 v with
    | none => none
    | some k => some (clO q k s)
theorem row_V {n : Nat} {v : Int32} (hn : n ≤ 12) : inV v (nI 0) (nI n - nI 1) = if 0 ≤ v ∧ v < nI n then nI 1 else nI 0 := by
  have e1 : (nI n - nI 1).toInt = (n : Int) - 1 := by
    rcases (show n = 0 ∨ n = 1 ∨ n = 2 ∨ n = 3 ∨ n = 4 ∨ n = 5 ∨ n = 6 ∨ n = 7 ∨ n = 8 ∨ n = 9 ∨ n = 10 ∨ n = 11 ∨ n = 12 by omega) with rfl | rfl | rfl | rfl | rfl | rfl | rfl | rfl | rfl | rfl | rfl | rfl | rfl <;> decide
  have e2 : (nI n).toInt = (n : Int) := nI_toInt (by omega)
  unfold inV
  have ei : (nI 0 ≤ v ∧ v ≤ nI n - nI 1) ↔ (0 ≤ v ∧ v < nI n) := by
    rw [Int32.le_iff_toInt_le, Int32.le_iff_toInt_le, Int32.le_iff_toInt_le, Int32.lt_iff_toInt_lt, e1, e2, show (nI 0).toInt = 0 from by decide, show (0 : Int32).toInt = 0 from by decide]
    omega
  by_cases h : 0 ≤ v ∧ v < nI n
  · rw [if_pos h, if_pos (ei.mpr h)]
  · rw [if_neg h, if_neg (fun q => h (ei.mp q))]
set_option maxRecDepth 100000 in
set_option maxHeartbeats 2000000 in
theorem mo_row {d g : Nat} {s : aSt} {rd : Option Nat} {I : pI} {J : pJ} (hA : MA I J s) (hD : MDg g I) (v : Int32) : PC SM (d + 245) yX12_row cX12_row 2 (some .long) [.ref 0, .int v] (I) (J) (RM rd (some 6)) (mrP (g + 10000) (rwAt s.2.2.2.2.2.1 v) s) := by
  refine PC.of [some (.ref 0), some (.int v)] rfl rfl (Nat.le_of_ble_eq_true rfl) ?_
  obtain ⟨n, pc, b, us, kp, rw, tx, rt, hd, sw⟩ := s
  refine pw_aload_n 1 rfl dX12_row_0 rfl ?_
  refine pw_iconst (v := nI 0) 2 rfl dX12_row_1 rfl ?_
  refine pw_putI 5 rfl dX12_row_2 fX12_88 w12_7 (by first | rfl | assumption | exact rowS hh | exact mtS hm | exact ruS hr | exact mtA1 hm | exact mtA2 hm | exact mtA3 hm | exact mtA4 hm | exact mtA5 hm | exact mtA6 hm | exact mtA7 hm | exact ruA1 hr | exact ruA2 hr | exact ruA3 hr) rfl rfl rfl ?_
  rotate_left
  have hA0 := MA_thr (v := nI 0) hA
  have h7 : uI I 0 7 (nI 0) 0 7 = nI 0 := uI_eq _ _ _ _
  have hD0 : MDg g (uI I 0 7 (nI 0)) := MDg_f hD (uI_ne (by omega)) (fun j => uI_ne (by omega))
  clear hA hD
  generalize uI I 0 7 (nI 0) = I at hA0 hD0 h7 ⊢
  have mN := hA0.2.2.2.1
  have hl := mN.2.1
  refine pw_iload_n 6 rfl dX12_row_5 rfl ?_
  refine pw_iconst (v := nI 0) 7 rfl dX12_row_6 rfl ?_
  refine pw_aload_n 8 rfl dX12_row_7 rfl ?_
  refine pw_getI 11 rfl dX12_row_8 fX12_92 (by first | rfl | assumption | exact rowS hh | exact mtS hm | exact ruS hr | exact mtA1 hm | exact mtA2 hm | exact mtA3 hm | exact mtA4 hm | exact mtA5 hm | exact mtA6 hm | exact mtA7 hm | exact ruA1 hr | exact ruA2 hr | exact ruA3 hr) rfl ?_
  rotate_left
  rw [mN.1]
  refine pw_iconst (v := nI 1) 12 rfl dX12_row_11 rfl ?_
  refine pw_isub 13 rfl dX12_row_12 ?_
  refine pw_callSP (as := [_, _, _]) 16 rfl dX12_row_13 mX12_98 sX12_in (m_in (d := d) _ _ _) ⟨rfl, by decide, by decide, show (parseMethodDescriptor yX12_in.desc).map (fun d => d.parameters.length) = some 3 by decide +kernel⟩ (by omega) (by decide) (Nat.le_of_ble_eq_true rfl) rfl ?_
  rotate_left
  rw [row_V hl]
  by_cases h : 0 ≤ v ∧ v < nI rw.length
  · rw [if_pos h]
    obtain ⟨j, hj, rfl⟩ : ∃ j, j < rw.length ∧ v = nI j := by
      rcases pk_ix v (n := rw.length) (by omega) with z | z | z
      · exact absurd z (Int32.not_lt.mpr h.1)
      · exact absurd z (Int32.not_le.mpr h.2)
      · exact z
    obtain ⟨x, hx⟩ : ∃ x, rw[j]? = some x := ⟨_, List.getElem?_eq_getElem hj⟩
    have er : rwAt rw (nI j) = some x := by rw [rwAt, if_pos h, nI_clamp (by omega)]; exact hx
    refine pw_if_eq (tgt := 28) 19 rfl dX12_row_16 rfl (fun h16 => absurd h16 (by decide)) (fun h16 => ?_)
    refine pw_aload_n 20 rfl dX12_row_19 rfl ?_
    refine pw_getR 23 rfl dX12_row_20 fX12_20 (by first | rfl | assumption | exact rowS hh | exact mtS hm | exact ruS hr | exact mtA1 hm | exact mtA2 hm | exact mtA3 hm | exact mtA4 hm | exact mtA5 hm | exact mtA6 hm | exact mtA7 hm | exact ruA1 hr | exact ruA2 hr | exact ruA3 hr) rfl (by first | rfl | assumption | exact mtR0 hm | exact mtR1 hm | exact mtR2 hm | exact mtR3 hm | exact mtR4 hm | exact mtR5 hm | exact mtR6 hm | exact ruR0 hr | exact ruR1 hr | exact ruR3 hr) ?_
    refine pw_iload_n 24 rfl dX12_row_23 rfl ?_
    refine pw_laldN 25 rfl dX12_row_24 (by first | rfl | assumption | exact rowS hh | exact mtS hm | exact ruS hr | exact mtA1 hm | exact mtA2 hm | exact mtA3 hm | exact mtA4 hm | exact mtA5 hm | exact mtA6 hm | exact mtA7 hm | exact ruA1 hr | exact ruA2 hr | exact ruA3 hr) (by omega) (by first | decide | omega) ?_
    rotate_left
    rw [mN.2.2 j x hx]
    refine pw_goto (tgt := 33) dX12_row_25 rfl ?_
    refine pw_lret dX12_row_33 ?_
    rotate_left
    refine ⟨?_, hA0, hD0.mono (by omega), rd, rfl⟩
    show match rwAt rw (nI j) with
      | some x => _
      | none => _
    rw [er]
    exact ⟨rfl, h7⟩
  · rw [if_neg h]
    have er : rwAt rw v = none := by rw [rwAt, if_neg h]
    refine pw_if_eq (tgt := 28) 19 rfl dX12_row_16 rfl (fun h16 => ?_) (fun h16 => absurd (by rfl) h16)
    refine pw_aload_n 29 rfl dX12_row_28 rfl ?_
    refine pw_callV (as := []) 32 rfl dX12_row_29 mX12_209 vX12_lost (m_lost (d := d + 244)) (by first | rfl | assumption | exact rowS hh | exact mtS hm | exact ruS hr | exact mtA1 hm | exact mtA2 hm | exact mtA3 hm | exact mtA4 hm | exact mtA5 hm | exact mtA6 hm | exact mtA7 hm | exact ruA1 hr | exact ruA2 hr | exact ruA3 hr) rfl (by decide) ⟨rfl, by decide, by decide, show (parseMethodDescriptor yX12_lost.desc).map (fun d => d.parameters.length) = some 0 by decide +kernel⟩ (by omega) (by decide) (Nat.le_of_ble_eq_true rfl) rfl (fun r29 I29 J29 R29 c29 => ?_)
    obtain ⟨rfl, rfl, rfl, rfl⟩ := c29
    refine pw_i2l 33 rfl dX12_row_32 ?_
    refine pw_lret dX12_row_33 ?_
    rotate_left
    refine ⟨?_, MA_thr hA0, (MDg_f hD0 (uI_ne (by omega)) (fun j => uI_ne (by omega))).mono (by omega), rd, rfl⟩
    show match rwAt rw v with
      | some x => _
      | none => _
    rw [er]
    exact ⟨⟨_, rfl⟩, uI_eq _ _ _ _⟩
set_option maxRecDepth 100000 in
set_option maxHeartbeats 2000000 in
theorem mo_climber {d g : Nat} {s : aSt} {rd : Option Nat} {I : pI} {J : pJ} (hA : MA I J s) (hD : MDg g I) (hW : WA s) (w v : Int32) : PC SM (d + 245) yX12_climber cX12_climber 3 (some .int) [.ref 0, .int w, .int v] (I) (J) (RM rd (some 6)) (mcP (g + 10000) (clAt w v s) s) := by
  refine PC.of [some (.ref 0), some (.int w), some (.int v)] rfl rfl (Nat.le_of_ble_eq_true rfl) ?_
  obtain ⟨n, pc, b, us, kp, rw, tx, rt, hd, sw⟩ := s
  refine pw_aload_n 1 rfl dX12_climber_0 rfl ?_
  refine pw_iconst (v := nI 0) 2 rfl dX12_climber_1 rfl ?_
  refine pw_putI 5 rfl dX12_climber_2 fX12_88 w12_7 (by first | rfl | assumption | exact rowS hh | exact mtS hm | exact ruS hr | exact mtA1 hm | exact mtA2 hm | exact mtA3 hm | exact mtA4 hm | exact mtA5 hm | exact mtA6 hm | exact mtA7 hm | exact ruA1 hr | exact ruA2 hr | exact ruA3 hr) rfl rfl rfl ?_
  rotate_left
  have hA0 := MA_thr (v := nI 0) hA
  have h7 : uI I 0 7 (nI 0) 0 7 = nI 0 := uI_eq _ _ _ _
  have hD0 : MDg g (uI I 0 7 (nI 0)) := MDg_f hD (uI_ne (by omega)) (fun j => uI_ne (by omega))
  clear hA hD
  generalize uI I 0 7 (nI 0) = I at hA0 hD0 h7 ⊢
  obtain ⟨mC, mB, mT, mN, mR, mU, mK, mH, mG⟩ := id hA0
  obtain ⟨aW, aU, aK⟩ := id hW
  have hE := MSt_A hA0
  have hn7 := mC.1
  have hn := mC.2.1
  have ok : ∀ {w v : Int32} {x : Int32}, clAt w v (n, pc, b, us, kp, rw, tx, rt, hd, sw) = some x → mcP (g + 10000) (clAt w v (n, pc, b, us, kp, rw, tx, rt, hd, sw)) (n, pc, b, us, kp, rw, tx, rt, hd, sw) (some (.int x)) I J (RM rd (some 6)) := fun {w v x} e => by
    refine ⟨?_, hA0, hD0.mono (by omega), rd, rfl⟩
    rw [e]
    exact ⟨rfl, h7⟩
  have no : ∀ {w v : Int32}, clAt w v (n, pc, b, us, kp, rw, tx, rt, hd, sw) = none → mcP (g + 10000) (clAt w v (n, pc, b, us, kp, rw, tx, rt, hd, sw)) (n, pc, b, us, kp, rw, tx, rt, hd, sw) (some (.int (nI 0))) (uI I 0 7 (nI 1)) J (RM rd (some 6)) := fun {w v} e => by
    refine ⟨?_, MA_thr hA0, (MDg_f hD0 (uI_ne (by omega)) (fun j => uI_ne (by omega))).mono (by omega), rd, rfl⟩
    rw [e]
    exact ⟨⟨_, rfl⟩, uI_eq _ _ _ _⟩
  rcases qOf_cases hn7 w with ⟨q, hq, rfl, hi, hh⟩ | ⟨hi, hh⟩
  · rcases inOf_cases (lo := 0) (hi := 5) (by decide) v (by decide) with ⟨k, h1, h2, rfl, hj⟩ | ⟨hj, ho⟩
    · have er : clAt (nI q) (nI k) (n, pc, b, us, kp, rw, tx, rt, hd, sw) = some (clO q k (n, pc, b, us, kp, rw, tx, rt, hd, sw)) := by unfold clAt; simp only [hi, hj]
      rcases (show k = 0 ∨ k = 1 ∨ k = 2 ∨ k = 3 ∨ k = 4 ∨ k = 5 by omega) with rfl | rfl | rfl | rfl | rfl | rfl
      · refine pw_aload_n 6 rfl dX12_climber_5 rfl ?_
        refine pw_iload_n 7 rfl dX12_climber_6 rfl ?_
        refine pw_callVP (as := [_]) 10 rfl dX12_climber_7 mX12_205 vX12_isOne (m_isOne (d := d + 243) hn hn7 _) (by first | rfl | assumption | exact rowS hh | exact mtS hm | exact ruS hr | exact mtA1 hm | exact mtA2 hm | exact mtA3 hm | exact mtA4 hm | exact mtA5 hm | exact mtA6 hm | exact mtA7 hm | exact ruA1 hr | exact ruA2 hr | exact ruA3 hr) rfl (by decide) ⟨rfl, by decide, by decide, show (parseMethodDescriptor yX12_isOne.desc).map (fun d => d.parameters.length) = some 1 by decide +kernel⟩ (by omega) (by decide) (Nat.le_of_ble_eq_true rfl) rfl ?_
        refine pw_if_eq (tgt := 22) 13 rfl dX12_climber_10 rfl (fun h10 => absurd h10 (by rw [hh]; decide)) (fun h10 => ?_)
        refine pw_iload_n 14 rfl dX12_climber_13 rfl ?_
        refine pw_iconst (v := nI 0) 15 rfl dX12_climber_14 rfl ?_
        refine pw_iconst (v := nI 5) 16 rfl dX12_climber_15 rfl ?_
        refine pw_callSP (as := [_, _, _]) 19 rfl dX12_climber_16 mX12_98 sX12_in (m_in (d := d) _ _ _) ⟨rfl, by decide, by decide, show (parseMethodDescriptor yX12_in.desc).map (fun d => d.parameters.length) = some 3 by decide +kernel⟩ (by omega) (by decide) (Nat.le_of_ble_eq_true rfl) rfl ?_
        refine pw_if_ne (tgt := 27) 22 rfl dX12_climber_19 rfl (fun h19 => ?_) (fun h19 => absurd h19 (by decide))
        refine pw_iload_n 28 rfl dX12_climber_27 rfl ?_
        refine pw_if_ne (tgt := 40) 31 rfl dX12_climber_28 rfl (fun h28 => absurd (by rfl) h28) (fun h28 => ?_)
        refine pw_aload_n 32 rfl dX12_climber_31 rfl ?_
        refine pw_getR 35 rfl dX12_climber_32 fX12_13 (by first | rfl | assumption | exact rowS hh | exact mtS hm | exact ruS hr | exact mtA1 hm | exact mtA2 hm | exact mtA3 hm | exact mtA4 hm | exact mtA5 hm | exact mtA6 hm | exact mtA7 hm | exact ruA1 hr | exact ruA2 hr | exact ruA3 hr) rfl (by first | rfl | assumption | exact mtR0 hm | exact mtR1 hm | exact mtR2 hm | exact mtR3 hm | exact mtR4 hm | exact mtR5 hm | exact mtR6 hm | exact ruR0 hr | exact ruR1 hr | exact ruR3 hr) ?_
        refine pw_iload_n 36 rfl dX12_climber_35 rfl ?_
        refine pw_ialdN 37 rfl dX12_climber_36 (by first | rfl | assumption | exact rowS hh | exact mtS hm | exact ruS hr | exact mtA1 hm | exact mtA2 hm | exact mtA3 hm | exact mtA4 hm | exact mtA5 hm | exact mtA6 hm | exact mtA7 hm | exact ruA1 hr | exact ruA2 hr | exact ruA3 hr) (by omega) (by first | decide | omega) ?_
        rotate_left
        rw [mC.2.2 q (by omega)]
        refine pw_goto (tgt := 70) dX12_climber_37 rfl ?_
        refine pw_iret dX12_climber_70 rfl ?_
        rotate_left
        exact ok er
      · refine pw_aload_n 6 rfl dX12_climber_5 rfl ?_
        refine pw_iload_n 7 rfl dX12_climber_6 rfl ?_
        refine pw_callVP (as := [_]) 10 rfl dX12_climber_7 mX12_205 vX12_isOne (m_isOne (d := d + 243) hn hn7 _) (by first | rfl | assumption | exact rowS hh | exact mtS hm | exact ruS hr | exact mtA1 hm | exact mtA2 hm | exact mtA3 hm | exact mtA4 hm | exact mtA5 hm | exact mtA6 hm | exact mtA7 hm | exact ruA1 hr | exact ruA2 hr | exact ruA3 hr) rfl (by decide) ⟨rfl, by decide, by decide, show (parseMethodDescriptor yX12_isOne.desc).map (fun d => d.parameters.length) = some 1 by decide +kernel⟩ (by omega) (by decide) (Nat.le_of_ble_eq_true rfl) rfl ?_
        refine pw_if_eq (tgt := 22) 13 rfl dX12_climber_10 rfl (fun h10 => absurd h10 (by rw [hh]; decide)) (fun h10 => ?_)
        refine pw_iload_n 14 rfl dX12_climber_13 rfl ?_
        refine pw_iconst (v := nI 0) 15 rfl dX12_climber_14 rfl ?_
        refine pw_iconst (v := nI 5) 16 rfl dX12_climber_15 rfl ?_
        refine pw_callSP (as := [_, _, _]) 19 rfl dX12_climber_16 mX12_98 sX12_in (m_in (d := d) _ _ _) ⟨rfl, by decide, by decide, show (parseMethodDescriptor yX12_in.desc).map (fun d => d.parameters.length) = some 3 by decide +kernel⟩ (by omega) (by decide) (Nat.le_of_ble_eq_true rfl) rfl ?_
        refine pw_if_ne (tgt := 27) 22 rfl dX12_climber_19 rfl (fun h19 => ?_) (fun h19 => absurd h19 (by decide))
        refine pw_iload_n 28 rfl dX12_climber_27 rfl ?_
        refine pw_if_ne (tgt := 40) 31 rfl dX12_climber_28 rfl (fun h28 => ?_) (fun h28 => absurd h28 (by decide))
        refine pw_iload_n 41 rfl dX12_climber_40 rfl ?_
        refine pw_iconst (v := nI 5) 42 rfl dX12_climber_41 rfl ?_
        refine pw_icmp_ne (tgt := 57) 45 rfl dX12_climber_42 rfl (fun h42 => ?_) (fun h42 => absurd h42 (by decide))
        refine pw_aload_n 58 rfl dX12_climber_57 rfl ?_
        refine pw_getR 61 rfl dX12_climber_58 fX12_9 (by first | rfl | assumption | exact rowS hh | exact mtS hm | exact ruS hr | exact mtA1 hm | exact mtA2 hm | exact mtA3 hm | exact mtA4 hm | exact mtA5 hm | exact mtA6 hm | exact mtA7 hm | exact ruA1 hr | exact ruA2 hr | exact ruA3 hr) rfl (by first | rfl | assumption | exact mtR0 hm | exact mtR1 hm | exact mtR2 hm | exact mtR3 hm | exact mtR4 hm | exact mtR5 hm | exact mtR6 hm | exact ruR0 hr | exact ruR1 hr | exact ruR3 hr) ?_
        refine pw_bipush (v := nI 7) 63 rfl dX12_climber_61 rfl ?_
        refine pw_iload_n 64 rfl dX12_climber_63 rfl ?_
        refine pw_iconst (v := nI 1) 65 rfl dX12_climber_64 rfl ?_
        refine pw_isubN 66 rfl dX12_climber_65 (by omega) ?_
        first | refine pw_imulN 67 rfl dX12_climber_66 ?_ | refine pw_imul 67 rfl dX12_climber_66 ?_
        refine pw_iload_n 68 rfl dX12_climber_67 rfl ?_
        first | refine pw_iaddN 69 rfl dX12_climber_68 ?_ | refine pw_iadd 69 rfl dX12_climber_68 ?_
        rotate_left
        refine pw_ialdN 70 rfl dX12_climber_69 (by first | rfl | assumption | exact rowS hh | exact mtS hm | exact ruS hr | exact mtA1 hm | exact mtA2 hm | exact mtA3 hm | exact mtA4 hm | exact mtA5 hm | exact mtA6 hm | exact mtA7 hm | exact ruA1 hr | exact ruA2 hr | exact ruA3 hr) (by omega) (by first | decide | omega) ?_
        rotate_left
        rw [mB (7 * (1 - 1) + q) (by omega)]
        refine pw_iret dX12_climber_70 rfl ?_
        rotate_left
        exact ok (by rw [er]; show some (nI (b q)) = _; rw [show 7 * (1 - 1) + q = q by omega])
      · refine pw_aload_n 6 rfl dX12_climber_5 rfl ?_
        refine pw_iload_n 7 rfl dX12_climber_6 rfl ?_
        refine pw_callVP (as := [_]) 10 rfl dX12_climber_7 mX12_205 vX12_isOne (m_isOne (d := d + 243) hn hn7 _) (by first | rfl | assumption | exact rowS hh | exact mtS hm | exact ruS hr | exact mtA1 hm | exact mtA2 hm | exact mtA3 hm | exact mtA4 hm | exact mtA5 hm | exact mtA6 hm | exact mtA7 hm | exact ruA1 hr | exact ruA2 hr | exact ruA3 hr) rfl (by decide) ⟨rfl, by decide, by decide, show (parseMethodDescriptor yX12_isOne.desc).map (fun d => d.parameters.length) = some 1 by decide +kernel⟩ (by omega) (by decide) (Nat.le_of_ble_eq_true rfl) rfl ?_
        refine pw_if_eq (tgt := 22) 13 rfl dX12_climber_10 rfl (fun h10 => absurd h10 (by rw [hh]; decide)) (fun h10 => ?_)
        refine pw_iload_n 14 rfl dX12_climber_13 rfl ?_
        refine pw_iconst (v := nI 0) 15 rfl dX12_climber_14 rfl ?_
        refine pw_iconst (v := nI 5) 16 rfl dX12_climber_15 rfl ?_
        refine pw_callSP (as := [_, _, _]) 19 rfl dX12_climber_16 mX12_98 sX12_in (m_in (d := d) _ _ _) ⟨rfl, by decide, by decide, show (parseMethodDescriptor yX12_in.desc).map (fun d => d.parameters.length) = some 3 by decide +kernel⟩ (by omega) (by decide) (Nat.le_of_ble_eq_true rfl) rfl ?_
        refine pw_if_ne (tgt := 27) 22 rfl dX12_climber_19 rfl (fun h19 => ?_) (fun h19 => absurd h19 (by decide))
        refine pw_iload_n 28 rfl dX12_climber_27 rfl ?_
        refine pw_if_ne (tgt := 40) 31 rfl dX12_climber_28 rfl (fun h28 => ?_) (fun h28 => absurd h28 (by decide))
        refine pw_iload_n 41 rfl dX12_climber_40 rfl ?_
        refine pw_iconst (v := nI 5) 42 rfl dX12_climber_41 rfl ?_
        refine pw_icmp_ne (tgt := 57) 45 rfl dX12_climber_42 rfl (fun h42 => ?_) (fun h42 => absurd h42 (by decide))
        refine pw_aload_n 58 rfl dX12_climber_57 rfl ?_
        refine pw_getR 61 rfl dX12_climber_58 fX12_9 (by first | rfl | assumption | exact rowS hh | exact mtS hm | exact ruS hr | exact mtA1 hm | exact mtA2 hm | exact mtA3 hm | exact mtA4 hm | exact mtA5 hm | exact mtA6 hm | exact mtA7 hm | exact ruA1 hr | exact ruA2 hr | exact ruA3 hr) rfl (by first | rfl | assumption | exact mtR0 hm | exact mtR1 hm | exact mtR2 hm | exact mtR3 hm | exact mtR4 hm | exact mtR5 hm | exact mtR6 hm | exact ruR0 hr | exact ruR1 hr | exact ruR3 hr) ?_
        refine pw_bipush (v := nI 7) 63 rfl dX12_climber_61 rfl ?_
        refine pw_iload_n 64 rfl dX12_climber_63 rfl ?_
        refine pw_iconst (v := nI 1) 65 rfl dX12_climber_64 rfl ?_
        refine pw_isubN 66 rfl dX12_climber_65 (by omega) ?_
        first | refine pw_imulN 67 rfl dX12_climber_66 ?_ | refine pw_imul 67 rfl dX12_climber_66 ?_
        refine pw_iload_n 68 rfl dX12_climber_67 rfl ?_
        first | refine pw_iaddN 69 rfl dX12_climber_68 ?_ | refine pw_iadd 69 rfl dX12_climber_68 ?_
        rotate_left
        refine pw_ialdN 70 rfl dX12_climber_69 (by first | rfl | assumption | exact rowS hh | exact mtS hm | exact ruS hr | exact mtA1 hm | exact mtA2 hm | exact mtA3 hm | exact mtA4 hm | exact mtA5 hm | exact mtA6 hm | exact mtA7 hm | exact ruA1 hr | exact ruA2 hr | exact ruA3 hr) (by omega) (by first | decide | omega) ?_
        rotate_left
        rw [mB (7 * (2 - 1) + q) (by omega)]
        refine pw_iret dX12_climber_70 rfl ?_
        rotate_left
        exact ok (by rw [er]; show some (nI (b (7 + q))) = _; rw [show 7 * (2 - 1) + q = 7 + q by omega])
      · refine pw_aload_n 6 rfl dX12_climber_5 rfl ?_
        refine pw_iload_n 7 rfl dX12_climber_6 rfl ?_
        refine pw_callVP (as := [_]) 10 rfl dX12_climber_7 mX12_205 vX12_isOne (m_isOne (d := d + 243) hn hn7 _) (by first | rfl | assumption | exact rowS hh | exact mtS hm | exact ruS hr | exact mtA1 hm | exact mtA2 hm | exact mtA3 hm | exact mtA4 hm | exact mtA5 hm | exact mtA6 hm | exact mtA7 hm | exact ruA1 hr | exact ruA2 hr | exact ruA3 hr) rfl (by decide) ⟨rfl, by decide, by decide, show (parseMethodDescriptor yX12_isOne.desc).map (fun d => d.parameters.length) = some 1 by decide +kernel⟩ (by omega) (by decide) (Nat.le_of_ble_eq_true rfl) rfl ?_
        refine pw_if_eq (tgt := 22) 13 rfl dX12_climber_10 rfl (fun h10 => absurd h10 (by rw [hh]; decide)) (fun h10 => ?_)
        refine pw_iload_n 14 rfl dX12_climber_13 rfl ?_
        refine pw_iconst (v := nI 0) 15 rfl dX12_climber_14 rfl ?_
        refine pw_iconst (v := nI 5) 16 rfl dX12_climber_15 rfl ?_
        refine pw_callSP (as := [_, _, _]) 19 rfl dX12_climber_16 mX12_98 sX12_in (m_in (d := d) _ _ _) ⟨rfl, by decide, by decide, show (parseMethodDescriptor yX12_in.desc).map (fun d => d.parameters.length) = some 3 by decide +kernel⟩ (by omega) (by decide) (Nat.le_of_ble_eq_true rfl) rfl ?_
        refine pw_if_ne (tgt := 27) 22 rfl dX12_climber_19 rfl (fun h19 => ?_) (fun h19 => absurd h19 (by decide))
        refine pw_iload_n 28 rfl dX12_climber_27 rfl ?_
        refine pw_if_ne (tgt := 40) 31 rfl dX12_climber_28 rfl (fun h28 => ?_) (fun h28 => absurd h28 (by decide))
        refine pw_iload_n 41 rfl dX12_climber_40 rfl ?_
        refine pw_iconst (v := nI 5) 42 rfl dX12_climber_41 rfl ?_
        refine pw_icmp_ne (tgt := 57) 45 rfl dX12_climber_42 rfl (fun h42 => ?_) (fun h42 => absurd h42 (by decide))
        refine pw_aload_n 58 rfl dX12_climber_57 rfl ?_
        refine pw_getR 61 rfl dX12_climber_58 fX12_9 (by first | rfl | assumption | exact rowS hh | exact mtS hm | exact ruS hr | exact mtA1 hm | exact mtA2 hm | exact mtA3 hm | exact mtA4 hm | exact mtA5 hm | exact mtA6 hm | exact mtA7 hm | exact ruA1 hr | exact ruA2 hr | exact ruA3 hr) rfl (by first | rfl | assumption | exact mtR0 hm | exact mtR1 hm | exact mtR2 hm | exact mtR3 hm | exact mtR4 hm | exact mtR5 hm | exact mtR6 hm | exact ruR0 hr | exact ruR1 hr | exact ruR3 hr) ?_
        refine pw_bipush (v := nI 7) 63 rfl dX12_climber_61 rfl ?_
        refine pw_iload_n 64 rfl dX12_climber_63 rfl ?_
        refine pw_iconst (v := nI 1) 65 rfl dX12_climber_64 rfl ?_
        refine pw_isubN 66 rfl dX12_climber_65 (by omega) ?_
        first | refine pw_imulN 67 rfl dX12_climber_66 ?_ | refine pw_imul 67 rfl dX12_climber_66 ?_
        refine pw_iload_n 68 rfl dX12_climber_67 rfl ?_
        first | refine pw_iaddN 69 rfl dX12_climber_68 ?_ | refine pw_iadd 69 rfl dX12_climber_68 ?_
        rotate_left
        refine pw_ialdN 70 rfl dX12_climber_69 (by first | rfl | assumption | exact rowS hh | exact mtS hm | exact ruS hr | exact mtA1 hm | exact mtA2 hm | exact mtA3 hm | exact mtA4 hm | exact mtA5 hm | exact mtA6 hm | exact mtA7 hm | exact ruA1 hr | exact ruA2 hr | exact ruA3 hr) (by omega) (by first | decide | omega) ?_
        rotate_left
        rw [mB (7 * (3 - 1) + q) (by omega)]
        refine pw_iret dX12_climber_70 rfl ?_
        rotate_left
        exact ok (by rw [er]; show some (nI (b (14 + q))) = _; rw [show 7 * (3 - 1) + q = 14 + q by omega])
      · refine pw_aload_n 6 rfl dX12_climber_5 rfl ?_
        refine pw_iload_n 7 rfl dX12_climber_6 rfl ?_
        refine pw_callVP (as := [_]) 10 rfl dX12_climber_7 mX12_205 vX12_isOne (m_isOne (d := d + 243) hn hn7 _) (by first | rfl | assumption | exact rowS hh | exact mtS hm | exact ruS hr | exact mtA1 hm | exact mtA2 hm | exact mtA3 hm | exact mtA4 hm | exact mtA5 hm | exact mtA6 hm | exact mtA7 hm | exact ruA1 hr | exact ruA2 hr | exact ruA3 hr) rfl (by decide) ⟨rfl, by decide, by decide, show (parseMethodDescriptor yX12_isOne.desc).map (fun d => d.parameters.length) = some 1 by decide +kernel⟩ (by omega) (by decide) (Nat.le_of_ble_eq_true rfl) rfl ?_
        refine pw_if_eq (tgt := 22) 13 rfl dX12_climber_10 rfl (fun h10 => absurd h10 (by rw [hh]; decide)) (fun h10 => ?_)
        refine pw_iload_n 14 rfl dX12_climber_13 rfl ?_
        refine pw_iconst (v := nI 0) 15 rfl dX12_climber_14 rfl ?_
        refine pw_iconst (v := nI 5) 16 rfl dX12_climber_15 rfl ?_
        refine pw_callSP (as := [_, _, _]) 19 rfl dX12_climber_16 mX12_98 sX12_in (m_in (d := d) _ _ _) ⟨rfl, by decide, by decide, show (parseMethodDescriptor yX12_in.desc).map (fun d => d.parameters.length) = some 3 by decide +kernel⟩ (by omega) (by decide) (Nat.le_of_ble_eq_true rfl) rfl ?_
        refine pw_if_ne (tgt := 27) 22 rfl dX12_climber_19 rfl (fun h19 => ?_) (fun h19 => absurd h19 (by decide))
        refine pw_iload_n 28 rfl dX12_climber_27 rfl ?_
        refine pw_if_ne (tgt := 40) 31 rfl dX12_climber_28 rfl (fun h28 => ?_) (fun h28 => absurd h28 (by decide))
        refine pw_iload_n 41 rfl dX12_climber_40 rfl ?_
        refine pw_iconst (v := nI 5) 42 rfl dX12_climber_41 rfl ?_
        refine pw_icmp_ne (tgt := 57) 45 rfl dX12_climber_42 rfl (fun h42 => ?_) (fun h42 => absurd h42 (by decide))
        refine pw_aload_n 58 rfl dX12_climber_57 rfl ?_
        refine pw_getR 61 rfl dX12_climber_58 fX12_9 (by first | rfl | assumption | exact rowS hh | exact mtS hm | exact ruS hr | exact mtA1 hm | exact mtA2 hm | exact mtA3 hm | exact mtA4 hm | exact mtA5 hm | exact mtA6 hm | exact mtA7 hm | exact ruA1 hr | exact ruA2 hr | exact ruA3 hr) rfl (by first | rfl | assumption | exact mtR0 hm | exact mtR1 hm | exact mtR2 hm | exact mtR3 hm | exact mtR4 hm | exact mtR5 hm | exact mtR6 hm | exact ruR0 hr | exact ruR1 hr | exact ruR3 hr) ?_
        refine pw_bipush (v := nI 7) 63 rfl dX12_climber_61 rfl ?_
        refine pw_iload_n 64 rfl dX12_climber_63 rfl ?_
        refine pw_iconst (v := nI 1) 65 rfl dX12_climber_64 rfl ?_
        refine pw_isubN 66 rfl dX12_climber_65 (by omega) ?_
        first | refine pw_imulN 67 rfl dX12_climber_66 ?_ | refine pw_imul 67 rfl dX12_climber_66 ?_
        refine pw_iload_n 68 rfl dX12_climber_67 rfl ?_
        first | refine pw_iaddN 69 rfl dX12_climber_68 ?_ | refine pw_iadd 69 rfl dX12_climber_68 ?_
        rotate_left
        refine pw_ialdN 70 rfl dX12_climber_69 (by first | rfl | assumption | exact rowS hh | exact mtS hm | exact ruS hr | exact mtA1 hm | exact mtA2 hm | exact mtA3 hm | exact mtA4 hm | exact mtA5 hm | exact mtA6 hm | exact mtA7 hm | exact ruA1 hr | exact ruA2 hr | exact ruA3 hr) (by omega) (by first | decide | omega) ?_
        rotate_left
        rw [mB (7 * (4 - 1) + q) (by omega)]
        refine pw_iret dX12_climber_70 rfl ?_
        rotate_left
        exact ok (by rw [er]; show some (nI (b (21 + q))) = _; rw [show 7 * (4 - 1) + q = 21 + q by omega])
      · refine pw_aload_n 6 rfl dX12_climber_5 rfl ?_
        refine pw_iload_n 7 rfl dX12_climber_6 rfl ?_
        refine pw_callVP (as := [_]) 10 rfl dX12_climber_7 mX12_205 vX12_isOne (m_isOne (d := d + 243) hn hn7 _) (by first | rfl | assumption | exact rowS hh | exact mtS hm | exact ruS hr | exact mtA1 hm | exact mtA2 hm | exact mtA3 hm | exact mtA4 hm | exact mtA5 hm | exact mtA6 hm | exact mtA7 hm | exact ruA1 hr | exact ruA2 hr | exact ruA3 hr) rfl (by decide) ⟨rfl, by decide, by decide, show (parseMethodDescriptor yX12_isOne.desc).map (fun d => d.parameters.length) = some 1 by decide +kernel⟩ (by omega) (by decide) (Nat.le_of_ble_eq_true rfl) rfl ?_
        refine pw_if_eq (tgt := 22) 13 rfl dX12_climber_10 rfl (fun h10 => absurd h10 (by rw [hh]; decide)) (fun h10 => ?_)
        refine pw_iload_n 14 rfl dX12_climber_13 rfl ?_
        refine pw_iconst (v := nI 0) 15 rfl dX12_climber_14 rfl ?_
        refine pw_iconst (v := nI 5) 16 rfl dX12_climber_15 rfl ?_
        refine pw_callSP (as := [_, _, _]) 19 rfl dX12_climber_16 mX12_98 sX12_in (m_in (d := d) _ _ _) ⟨rfl, by decide, by decide, show (parseMethodDescriptor yX12_in.desc).map (fun d => d.parameters.length) = some 3 by decide +kernel⟩ (by omega) (by decide) (Nat.le_of_ble_eq_true rfl) rfl ?_
        refine pw_if_ne (tgt := 27) 22 rfl dX12_climber_19 rfl (fun h19 => ?_) (fun h19 => absurd h19 (by decide))
        refine pw_iload_n 28 rfl dX12_climber_27 rfl ?_
        refine pw_if_ne (tgt := 40) 31 rfl dX12_climber_28 rfl (fun h28 => ?_) (fun h28 => absurd h28 (by decide))
        refine pw_iload_n 41 rfl dX12_climber_40 rfl ?_
        refine pw_iconst (v := nI 5) 42 rfl dX12_climber_41 rfl ?_
        refine pw_icmp_ne (tgt := 57) 45 rfl dX12_climber_42 rfl (fun h42 => absurd (by rfl) h42) (fun h42 => ?_)
        refine pw_aload_n 46 rfl dX12_climber_45 rfl ?_
        refine pw_aload_n 47 rfl dX12_climber_46 rfl ?_
        refine pw_getR 50 rfl dX12_climber_47 fX12_9 (by first | rfl | assumption | exact rowS hh | exact mtS hm | exact ruS hr | exact mtA1 hm | exact mtA2 hm | exact mtA3 hm | exact mtA4 hm | exact mtA5 hm | exact mtA6 hm | exact mtA7 hm | exact ruA1 hr | exact ruA2 hr | exact ruA3 hr) rfl (by first | rfl | assumption | exact mtR0 hm | exact mtR1 hm | exact mtR2 hm | exact mtR3 hm | exact mtR4 hm | exact mtR5 hm | exact mtR6 hm | exact ruR0 hr | exact ruR1 hr | exact ruR3 hr) ?_
        refine pw_iload_n 51 rfl dX12_climber_50 rfl ?_
        refine pw_callV (as := [_, _]) 54 rfl dX12_climber_51 mX12_212 vX12_stepsOf (hE.2 n pc b 1 q I J rd aW.1 (Or.inl rfl) hq mC mB rfl (fun _ => rfl) (fun _ => rfl)) (by first | rfl | assumption | exact rowS hh | exact mtS hm | exact ruS hr | exact mtA1 hm | exact mtA2 hm | exact mtA3 hm | exact mtA4 hm | exact mtA5 hm | exact mtA6 hm | exact mtA7 hm | exact ruA1 hr | exact ruA2 hr | exact ruA3 hr) rfl (by decide) ⟨rfl, by decide, by decide, show (parseMethodDescriptor yX12_stepsOf.desc).map (fun d => d.parameters.length) = some 2 by decide +kernel⟩ (by omega) (by decide) (Nat.le_of_ble_eq_true rfl) rfl (fun r51 I51 J51 R51 c51 => ?_)
        obtain ⟨rfl, p1, rfl, rd2, rfl⟩ := c51
        rotate_left
        refine pw_goto (tgt := 70) dX12_climber_54 rfl ?_
        refine pw_iret dX12_climber_70 rfl ?_
        rotate_left
        refine ⟨?_, MA_rw hA0 (fun a j z => p1 a j (by omega) (by omega)) (MN_f mN (p1 _ _ (by omega) (by omega))), (MDg_f hD0 (p1 _ _ (by omega) (by omega)) (fun j => p1 _ _ (by omega) (by omega))).mono (by omega), rd2, rfl⟩
        rw [er]
        exact ⟨rfl, by rw [p1 _ _ (by omega) (by omega)]; exact h7⟩
    · have er : clAt (nI q) v (n, pc, b, us, kp, rw, tx, rt, hd, sw) = none := by unfold clAt; simp only [hi, hj]
      refine pw_aload_n 6 rfl dX12_climber_5 rfl ?_
      refine pw_iload_n 7 rfl dX12_climber_6 rfl ?_
      refine pw_callVP (as := [_]) 10 rfl dX12_climber_7 mX12_205 vX12_isOne (m_isOne (d := d + 243) hn hn7 _) (by first | rfl | assumption | exact rowS hh | exact mtS hm | exact ruS hr | exact mtA1 hm | exact mtA2 hm | exact mtA3 hm | exact mtA4 hm | exact mtA5 hm | exact mtA6 hm | exact mtA7 hm | exact ruA1 hr | exact ruA2 hr | exact ruA3 hr) rfl (by decide) ⟨rfl, by decide, by decide, show (parseMethodDescriptor yX12_isOne.desc).map (fun d => d.parameters.length) = some 1 by decide +kernel⟩ (by omega) (by decide) (Nat.le_of_ble_eq_true rfl) rfl ?_
      refine pw_if_eq (tgt := 22) 13 rfl dX12_climber_10 rfl (fun h10 => absurd h10 (by rw [hh]; decide)) (fun h10 => ?_)
      refine pw_iload_n 14 rfl dX12_climber_13 rfl ?_
      refine pw_iconst (v := nI 0) 15 rfl dX12_climber_14 rfl ?_
      refine pw_iconst (v := nI 5) 16 rfl dX12_climber_15 rfl ?_
      refine pw_callSP (as := [_, _, _]) 19 rfl dX12_climber_16 mX12_98 sX12_in (m_in (d := d) _ _ _) ⟨rfl, by decide, by decide, show (parseMethodDescriptor yX12_in.desc).map (fun d => d.parameters.length) = some 3 by decide +kernel⟩ (by omega) (by decide) (Nat.le_of_ble_eq_true rfl) rfl ?_
      refine pw_if_ne (tgt := 27) 22 rfl dX12_climber_19 rfl (fun h19 => absurd (by rw [inV_n ho]; rfl) h19) (fun h19 => ?_)
      refine pw_aload_n 23 rfl dX12_climber_22 rfl ?_
      refine pw_callV (as := []) 26 rfl dX12_climber_23 mX12_209 vX12_lost (m_lost (d := d + 244)) (by first | rfl | assumption | exact rowS hh | exact mtS hm | exact ruS hr | exact mtA1 hm | exact mtA2 hm | exact mtA3 hm | exact mtA4 hm | exact mtA5 hm | exact mtA6 hm | exact mtA7 hm | exact ruA1 hr | exact ruA2 hr | exact ruA3 hr) rfl (by decide) ⟨rfl, by decide, by decide, show (parseMethodDescriptor yX12_lost.desc).map (fun d => d.parameters.length) = some 0 by decide +kernel⟩ (by omega) (by decide) (Nat.le_of_ble_eq_true rfl) rfl (fun r23 I23 J23 R23 c23 => ?_)
      obtain ⟨rfl, rfl, rfl, rfl⟩ := c23
      refine pw_iret dX12_climber_26 rfl ?_
      rotate_left
      exact no er
  · have er : clAt w v (n, pc, b, us, kp, rw, tx, rt, hd, sw) = none := by unfold clAt; simp only [hi]
    refine pw_aload_n 6 rfl dX12_climber_5 rfl ?_
    refine pw_iload_n 7 rfl dX12_climber_6 rfl ?_
    refine pw_callVP (as := [_]) 10 rfl dX12_climber_7 mX12_205 vX12_isOne (m_isOne (d := d + 243) hn hn7 _) (by first | rfl | assumption | exact rowS hh | exact mtS hm | exact ruS hr | exact mtA1 hm | exact mtA2 hm | exact mtA3 hm | exact mtA4 hm | exact mtA5 hm | exact mtA6 hm | exact mtA7 hm | exact ruA1 hr | exact ruA2 hr | exact ruA3 hr) rfl (by decide) ⟨rfl, by decide, by decide, show (parseMethodDescriptor yX12_isOne.desc).map (fun d => d.parameters.length) = some 1 by decide +kernel⟩ (by omega) (by decide) (Nat.le_of_ble_eq_true rfl) rfl ?_
    refine pw_if_eq (tgt := 22) 13 rfl dX12_climber_10 rfl (fun h10 => ?_) (fun h10 => absurd (by rw [hh]; rfl) h10)
    refine pw_aload_n 23 rfl dX12_climber_22 rfl ?_
    refine pw_callV (as := []) 26 rfl dX12_climber_23 mX12_209 vX12_lost (m_lost (d := d + 244)) (by first | rfl | assumption | exact rowS hh | exact mtS hm | exact ruS hr | exact mtA1 hm | exact mtA2 hm | exact mtA3 hm | exact mtA4 hm | exact mtA5 hm | exact mtA6 hm | exact mtA7 hm | exact ruA1 hr | exact ruA2 hr | exact ruA3 hr) rfl (by decide) ⟨rfl, by decide, by decide, show (parseMethodDescriptor yX12_lost.desc).map (fun d => d.parameters.length) = some 0 by decide +kernel⟩ (by omega) (by decide) (Nat.le_of_ble_eq_true rfl) rfl (fun r23 I23 J23 R23 c23 => ?_)
    obtain ⟨rfl, rfl, rfl, rfl⟩ := c23
    refine pw_iret dX12_climber_26 rfl ?_
    rotate_left
    exact no er
