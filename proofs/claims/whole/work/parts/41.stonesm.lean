/-! the reference: stones, parties -/
set_option maxRecDepth 100000 in
set_option maxHeartbeats 2000000 in
theorem m_builtOf {d n s : Nat} {b : Nat → Nat} {rd rl : Option Nat} {I : pI} {J : pJ} (hn : I 0 1 = nI n) (h7 : n ≤ 7) (hs : s < 2147483648) (hB : MB I 1 b) : PC SM (d + 1) yX12_builtOf cX12_builtOf 4 (some .int) [.ref 0, .int (nI s)] (I) (J) (RM rd rl) (pPu (.int (nI (sumS (fun q => b (21 + q)) s n))) I J (RM rd rl)) := by
  refine PC.of [some (.ref 0), some (.int (nI s)), none, none] rfl rfl (Nat.le_of_ble_eq_true rfl) ?_
  refine pw_iconst (v := nI 0) 1 rfl dX12_builtOf_0 rfl ?_
  refine pw_istore_n 2 rfl dX12_builtOf_1 (by decide) ?_
  refine pw_iconst (v := nI 0) 3 rfl dX12_builtOf_2 rfl ?_
  refine pw_istore_n 4 rfl dX12_builtOf_3 (by decide) ?_
  rotate_left
  refine nat_loop n (fun k => PW SM yX12_builtOf.cls cX12_builtOf 4 (d + 1) 4 [some (.ref 0), some (.int (nI s)), some (.int (nI (sumS (fun q => b (21 + q)) s k))), some (.int (nI k))] [] (I) (J) (RM rd rl) (rX cX12_builtOf (some .int) (pPu (.int (nI (sumS (fun q => b (21 + q)) s n))) I J (RM rd rl)))) ?_ ?_
  · refine pw_iload_n 5 rfl dX12_builtOf_4 rfl ?_
    refine pw_aload_n 6 rfl dX12_builtOf_5 rfl ?_
    refine pw_getI 9 rfl dX12_builtOf_6 fX12_95 (by first | rfl | assumption | exact rowS hh | exact mtS hm | exact ruS hr | exact mtA1 hm | exact mtA2 hm | exact mtA3 hm | exact mtA4 hm | exact mtA5 hm | exact mtA6 hm | exact mtA7 hm | exact ruA1 hr | exact ruA2 hr | exact ruA3 hr) rfl ?_
    refine pw_icmp_ge (tgt := 42) 12 rfl dX12_builtOf_9 rfl (fun h9 => ?_) (fun h9 => absurd (by rw [hn]; (simp (disch := omega) only [nI_leI, nI_ltI, nI_eq, show (0 : Int32) = nI 0 from rfl, not_true_eq_false, not_false_eq_true] <;> omega)) h9)
    refine pw_iload_n 43 rfl dX12_builtOf_42 rfl ?_
    refine pw_iret dX12_builtOf_43 rfl ?_
    rotate_left
    exact ⟨rfl, rfl, rfl, rfl⟩
  · intro k hk ih
    rw [sumS] at ih
    by_cases hp : s.testBit k = true
    · rw [if_pos hp] at ih
      refine pw_iload_n 5 rfl dX12_builtOf_4 rfl ?_
      refine pw_aload_n 6 rfl dX12_builtOf_5 rfl ?_
      refine pw_getI 9 rfl dX12_builtOf_6 fX12_95 (by first | rfl | assumption | exact rowS hh | exact mtS hm | exact ruS hr | exact mtA1 hm | exact mtA2 hm | exact mtA3 hm | exact mtA4 hm | exact mtA5 hm | exact mtA6 hm | exact mtA7 hm | exact ruA1 hr | exact ruA2 hr | exact ruA3 hr) rfl ?_
      refine pw_icmp_ge (tgt := 42) 12 rfl dX12_builtOf_9 rfl (fun h9 => absurd h9 (by rw [hn]; (simp (disch := omega) only [nI_leI, nI_ltI, nI_eq, show (0 : Int32) = nI 0 from rfl, not_true_eq_false, not_false_eq_true] <;> omega))) (fun h9 => ?_)
      refine pw_iload_n 13 rfl dX12_builtOf_12 rfl ?_
      refine pw_iload_n 14 rfl dX12_builtOf_13 rfl ?_
      refine pw_iload_n 15 rfl dX12_builtOf_14 rfl ?_
      refine pw_callSP (as := [_, _]) 18 rfl dX12_builtOf_15 mX12_292 sX12_has (m_has (d := d) hs (show k < 31 by omega)) ⟨rfl, by decide, by decide, show (parseMethodDescriptor yX12_has.desc).map (fun d => d.parameters.length) = some 2 by decide +kernel⟩ (by omega) (by decide) (Nat.le_of_ble_eq_true rfl) rfl ?_
      refine pw_if_eq (tgt := 33) 21 rfl dX12_builtOf_18 rfl (fun h18 => absurd h18 (by rw [if_pos hp]; decide)) (fun h18 => ?_)
      refine pw_aload_n 22 rfl dX12_builtOf_21 rfl ?_
      refine pw_getR 25 rfl dX12_builtOf_22 fX12_9 (by first | rfl | assumption | exact rowS hh | exact mtS hm | exact ruS hr | exact mtA1 hm | exact mtA2 hm | exact mtA3 hm | exact mtA4 hm | exact mtA5 hm | exact mtA6 hm | exact mtA7 hm | exact ruA1 hr | exact ruA2 hr | exact ruA3 hr) rfl (by first | rfl | assumption | exact mtR0 hm | exact mtR1 hm | exact mtR2 hm | exact mtR3 hm | exact mtR4 hm | exact mtR5 hm | exact mtR6 hm | exact ruR0 hr | exact ruR1 hr | exact ruR3 hr) ?_
      refine pw_bipush (v := nI 21) 27 rfl dX12_builtOf_25 rfl ?_
      refine pw_iload_n 28 rfl dX12_builtOf_27 rfl ?_
      first | refine pw_iaddN 29 rfl dX12_builtOf_28 ?_ | refine pw_iadd 29 rfl dX12_builtOf_28 ?_
      refine pw_ialdN 30 rfl dX12_builtOf_29 (by first | rfl | assumption | exact rowS hh | exact mtS hm | exact ruS hr | exact mtA1 hm | exact mtA2 hm | exact mtA3 hm | exact mtA4 hm | exact mtA5 hm | exact mtA6 hm | exact mtA7 hm | exact ruA1 hr | exact ruA2 hr | exact ruA3 hr) (by omega) (by first | decide | omega) ?_
      refine pw_goto (tgt := 34) dX12_builtOf_30 rfl ?_
      rotate_left
      rw [hB (21 + k) (by omega)]
      first | refine pw_iaddN 35 rfl dX12_builtOf_34 ?_ | refine pw_iadd 35 rfl dX12_builtOf_34 ?_
      refine pw_istore_n 36 rfl dX12_builtOf_35 (by decide) ?_
      refine pw_iincN 39 rfl dX12_builtOf_36 (by decide) rfl ?_
      refine pw_goto (tgt := 4) dX12_builtOf_39 rfl ?_
      rotate_left
      exact ih
    · rw [if_neg hp] at ih
      refine pw_iload_n 5 rfl dX12_builtOf_4 rfl ?_
      refine pw_aload_n 6 rfl dX12_builtOf_5 rfl ?_
      refine pw_getI 9 rfl dX12_builtOf_6 fX12_95 (by first | rfl | assumption | exact rowS hh | exact mtS hm | exact ruS hr | exact mtA1 hm | exact mtA2 hm | exact mtA3 hm | exact mtA4 hm | exact mtA5 hm | exact mtA6 hm | exact mtA7 hm | exact ruA1 hr | exact ruA2 hr | exact ruA3 hr) rfl ?_
      refine pw_icmp_ge (tgt := 42) 12 rfl dX12_builtOf_9 rfl (fun h9 => absurd h9 (by rw [hn]; (simp (disch := omega) only [nI_leI, nI_ltI, nI_eq, show (0 : Int32) = nI 0 from rfl, not_true_eq_false, not_false_eq_true] <;> omega))) (fun h9 => ?_)
      refine pw_iload_n 13 rfl dX12_builtOf_12 rfl ?_
      refine pw_iload_n 14 rfl dX12_builtOf_13 rfl ?_
      refine pw_iload_n 15 rfl dX12_builtOf_14 rfl ?_
      refine pw_callSP (as := [_, _]) 18 rfl dX12_builtOf_15 mX12_292 sX12_has (m_has (d := d) hs (show k < 31 by omega)) ⟨rfl, by decide, by decide, show (parseMethodDescriptor yX12_has.desc).map (fun d => d.parameters.length) = some 2 by decide +kernel⟩ (by omega) (by decide) (Nat.le_of_ble_eq_true rfl) rfl ?_
      refine pw_if_eq (tgt := 33) 21 rfl dX12_builtOf_18 rfl (fun h18 => ?_) (fun h18 => absurd (by rw [if_neg hp]; rfl) h18)
      refine pw_iconst (v := nI 0) 34 rfl dX12_builtOf_33 rfl ?_
      first | refine pw_iaddN 35 rfl dX12_builtOf_34 ?_ | refine pw_iadd 35 rfl dX12_builtOf_34 ?_
      refine pw_istore_n 36 rfl dX12_builtOf_35 (by decide) ?_
      refine pw_iincN 39 rfl dX12_builtOf_36 (by decide) rfl ?_
      refine pw_goto (tgt := 4) dX12_builtOf_39 rfl ?_
      rotate_left
      exact ih
set_option maxRecDepth 100000 in
set_option maxHeartbeats 2000000 in
theorem m_pacesOf {d n s : Nat} {pc : Nat → Nat} {rd rl : Option Nat} {I : pI} {J : pJ} (hC : MC I n pc) (hs : s < 2147483648) : PC SM (d + 1) yX12_pacesOf cX12_pacesOf 4 (some .int) [.ref 0, .int (nI s)] (I) (J) (RM rd rl) (pPu (.int (nI (sumS pc s n))) I J (RM rd rl)) := by
  refine PC.of [some (.ref 0), some (.int (nI s)), none, none] rfl rfl (Nat.le_of_ble_eq_true rfl) ?_
  have hn := hC.2.1
  have h7 := hC.1
  refine pw_iconst (v := nI 0) 1 rfl dX12_pacesOf_0 rfl ?_
  refine pw_istore_n 2 rfl dX12_pacesOf_1 (by decide) ?_
  refine pw_iconst (v := nI 0) 3 rfl dX12_pacesOf_2 rfl ?_
  refine pw_istore_n 4 rfl dX12_pacesOf_3 (by decide) ?_
  rotate_left
  refine nat_loop n (fun k => PW SM yX12_pacesOf.cls cX12_pacesOf 4 (d + 1) 4 [some (.ref 0), some (.int (nI s)), some (.int (nI (sumS pc s k))), some (.int (nI k))] [] (I) (J) (RM rd rl) (rX cX12_pacesOf (some .int) (pPu (.int (nI (sumS pc s n))) I J (RM rd rl)))) ?_ ?_
  · refine pw_iload_n 5 rfl dX12_pacesOf_4 rfl ?_
    refine pw_aload_n 6 rfl dX12_pacesOf_5 rfl ?_
    refine pw_getI 9 rfl dX12_pacesOf_6 fX12_95 (by first | rfl | assumption | exact rowS hh | exact mtS hm | exact ruS hr | exact mtA1 hm | exact mtA2 hm | exact mtA3 hm | exact mtA4 hm | exact mtA5 hm | exact mtA6 hm | exact mtA7 hm | exact ruA1 hr | exact ruA2 hr | exact ruA3 hr) rfl ?_
    refine pw_icmp_ge (tgt := 39) 12 rfl dX12_pacesOf_9 rfl (fun h9 => ?_) (fun h9 => absurd (by rw [hn]; (simp (disch := omega) only [nI_leI, nI_ltI, nI_eq, show (0 : Int32) = nI 0 from rfl, not_true_eq_false, not_false_eq_true] <;> omega)) h9)
    refine pw_iload_n 40 rfl dX12_pacesOf_39 rfl ?_
    refine pw_iret dX12_pacesOf_40 rfl ?_
    rotate_left
    exact ⟨rfl, rfl, rfl, rfl⟩
  · intro k hk ih
    rw [sumS] at ih
    by_cases hp : s.testBit k = true
    · rw [if_pos hp] at ih
      refine pw_iload_n 5 rfl dX12_pacesOf_4 rfl ?_
      refine pw_aload_n 6 rfl dX12_pacesOf_5 rfl ?_
      refine pw_getI 9 rfl dX12_pacesOf_6 fX12_95 (by first | rfl | assumption | exact rowS hh | exact mtS hm | exact ruS hr | exact mtA1 hm | exact mtA2 hm | exact mtA3 hm | exact mtA4 hm | exact mtA5 hm | exact mtA6 hm | exact mtA7 hm | exact ruA1 hr | exact ruA2 hr | exact ruA3 hr) rfl ?_
      refine pw_icmp_ge (tgt := 39) 12 rfl dX12_pacesOf_9 rfl (fun h9 => absurd h9 (by rw [hn]; (simp (disch := omega) only [nI_leI, nI_ltI, nI_eq, show (0 : Int32) = nI 0 from rfl, not_true_eq_false, not_false_eq_true] <;> omega))) (fun h9 => ?_)
      refine pw_iload_n 13 rfl dX12_pacesOf_12 rfl ?_
      refine pw_iload_n 14 rfl dX12_pacesOf_13 rfl ?_
      refine pw_iload_n 15 rfl dX12_pacesOf_14 rfl ?_
      refine pw_callSP (as := [_, _]) 18 rfl dX12_pacesOf_15 mX12_292 sX12_has (m_has (d := d) hs (show k < 31 by omega)) ⟨rfl, by decide, by decide, show (parseMethodDescriptor yX12_has.desc).map (fun d => d.parameters.length) = some 2 by decide +kernel⟩ (by omega) (by decide) (Nat.le_of_ble_eq_true rfl) rfl ?_
      refine pw_if_eq (tgt := 30) 21 rfl dX12_pacesOf_18 rfl (fun h18 => absurd h18 (by rw [if_pos hp]; decide)) (fun h18 => ?_)
      refine pw_aload_n 22 rfl dX12_pacesOf_21 rfl ?_
      refine pw_getR 25 rfl dX12_pacesOf_22 fX12_13 (by first | rfl | assumption | exact rowS hh | exact mtS hm | exact ruS hr | exact mtA1 hm | exact mtA2 hm | exact mtA3 hm | exact mtA4 hm | exact mtA5 hm | exact mtA6 hm | exact mtA7 hm | exact ruA1 hr | exact ruA2 hr | exact ruA3 hr) rfl (by first | rfl | assumption | exact mtR0 hm | exact mtR1 hm | exact mtR2 hm | exact mtR3 hm | exact mtR4 hm | exact mtR5 hm | exact mtR6 hm | exact ruR0 hr | exact ruR1 hr | exact ruR3 hr) ?_
      refine pw_iload_n 26 rfl dX12_pacesOf_25 rfl ?_
      refine pw_ialdN 27 rfl dX12_pacesOf_26 (by first | rfl | assumption | exact rowS hh | exact mtS hm | exact ruS hr | exact mtA1 hm | exact mtA2 hm | exact mtA3 hm | exact mtA4 hm | exact mtA5 hm | exact mtA6 hm | exact mtA7 hm | exact ruA1 hr | exact ruA2 hr | exact ruA3 hr) (by omega) (by first | decide | omega) ?_
      refine pw_goto (tgt := 31) dX12_pacesOf_27 rfl ?_
      rotate_left
      rw [hC.2.2 k (by omega)]
      first | refine pw_iaddN 32 rfl dX12_pacesOf_31 ?_ | refine pw_iadd 32 rfl dX12_pacesOf_31 ?_
      refine pw_istore_n 33 rfl dX12_pacesOf_32 (by decide) ?_
      refine pw_iincN 36 rfl dX12_pacesOf_33 (by decide) rfl ?_
      refine pw_goto (tgt := 4) dX12_pacesOf_36 rfl ?_
      rotate_left
      exact ih
    · rw [if_neg hp] at ih
      refine pw_iload_n 5 rfl dX12_pacesOf_4 rfl ?_
      refine pw_aload_n 6 rfl dX12_pacesOf_5 rfl ?_
      refine pw_getI 9 rfl dX12_pacesOf_6 fX12_95 (by first | rfl | assumption | exact rowS hh | exact mtS hm | exact ruS hr | exact mtA1 hm | exact mtA2 hm | exact mtA3 hm | exact mtA4 hm | exact mtA5 hm | exact mtA6 hm | exact mtA7 hm | exact ruA1 hr | exact ruA2 hr | exact ruA3 hr) rfl ?_
      refine pw_icmp_ge (tgt := 39) 12 rfl dX12_pacesOf_9 rfl (fun h9 => absurd h9 (by rw [hn]; (simp (disch := omega) only [nI_leI, nI_ltI, nI_eq, show (0 : Int32) = nI 0 from rfl, not_true_eq_false, not_false_eq_true] <;> omega))) (fun h9 => ?_)
      refine pw_iload_n 13 rfl dX12_pacesOf_12 rfl ?_
      refine pw_iload_n 14 rfl dX12_pacesOf_13 rfl ?_
      refine pw_iload_n 15 rfl dX12_pacesOf_14 rfl ?_
      refine pw_callSP (as := [_, _]) 18 rfl dX12_pacesOf_15 mX12_292 sX12_has (m_has (d := d) hs (show k < 31 by omega)) ⟨rfl, by decide, by decide, show (parseMethodDescriptor yX12_has.desc).map (fun d => d.parameters.length) = some 2 by decide +kernel⟩ (by omega) (by decide) (Nat.le_of_ble_eq_true rfl) rfl ?_
      refine pw_if_eq (tgt := 30) 21 rfl dX12_pacesOf_18 rfl (fun h18 => ?_) (fun h18 => absurd (by rw [if_neg hp]; rfl) h18)
      refine pw_iconst (v := nI 0) 31 rfl dX12_pacesOf_30 rfl ?_
      first | refine pw_iaddN 32 rfl dX12_pacesOf_31 ?_ | refine pw_iadd 32 rfl dX12_pacesOf_31 ?_
      refine pw_istore_n 33 rfl dX12_pacesOf_32 (by decide) ?_
      refine pw_iincN 36 rfl dX12_pacesOf_33 (by decide) rfl ?_
      refine pw_goto (tgt := 4) dX12_pacesOf_36 rfl ?_
      rotate_left
      exact ih
set_option maxRecDepth 100000 in
set_option maxHeartbeats 2000000 in
theorem m_paces {d n : Nat} {pc : Nat → Nat} {rd rl : Option Nat} {I : pI} {J : pJ} (hC : MC I n pc) : PC SM (d) yX12_paces cX12_paces 3 (some .int) [.ref 0] (I) (J) (RM rd rl) (pPu (.int (nI (sumN pc n))) I J (RM rd rl)) := by
  refine PC.of [some (.ref 0), none, none] rfl rfl (Nat.le_of_ble_eq_true rfl) ?_
  have hn := hC.2.1
  have h7 := hC.1
  refine pw_iconst (v := nI 0) 1 rfl dX12_paces_0 rfl ?_
  refine pw_istore_n 2 rfl dX12_paces_1 (by decide) ?_
  refine pw_iconst (v := nI 0) 3 rfl dX12_paces_2 rfl ?_
  refine pw_istore_n 4 rfl dX12_paces_3 (by decide) ?_
  rotate_left
  refine nat_loop n (fun k => PW SM yX12_paces.cls cX12_paces 3 (d) 4 [some (.ref 0), some (.int (nI (sumN pc k))), some (.int (nI k))] [] (I) (J) (RM rd rl) (rX cX12_paces (some .int) (pPu (.int (nI (sumN pc n))) I J (RM rd rl)))) ?_ ?_
  · refine pw_iload_n 5 rfl dX12_paces_4 rfl ?_
    refine pw_aload_n 6 rfl dX12_paces_5 rfl ?_
    refine pw_getI 9 rfl dX12_paces_6 fX12_95 (by first | rfl | assumption | exact rowS hh | exact mtS hm | exact ruS hr | exact mtA1 hm | exact mtA2 hm | exact mtA3 hm | exact mtA4 hm | exact mtA5 hm | exact mtA6 hm | exact mtA7 hm | exact ruA1 hr | exact ruA2 hr | exact ruA3 hr) rfl ?_
    refine pw_icmp_ge (tgt := 27) 12 rfl dX12_paces_9 rfl (fun h9 => ?_) (fun h9 => absurd (by rw [hn]; (simp (disch := omega) only [nI_leI, nI_ltI, nI_eq, show (0 : Int32) = nI 0 from rfl, not_true_eq_false, not_false_eq_true] <;> omega)) h9)
    refine pw_iload_n 28 rfl dX12_paces_27 rfl ?_
    refine pw_iret dX12_paces_28 rfl ?_
    rotate_left
    exact ⟨rfl, rfl, rfl, rfl⟩
  · intro k hk ih
    rw [sumN] at ih
    refine pw_iload_n 5 rfl dX12_paces_4 rfl ?_
    refine pw_aload_n 6 rfl dX12_paces_5 rfl ?_
    refine pw_getI 9 rfl dX12_paces_6 fX12_95 (by first | rfl | assumption | exact rowS hh | exact mtS hm | exact ruS hr | exact mtA1 hm | exact mtA2 hm | exact mtA3 hm | exact mtA4 hm | exact mtA5 hm | exact mtA6 hm | exact mtA7 hm | exact ruA1 hr | exact ruA2 hr | exact ruA3 hr) rfl ?_
    refine pw_icmp_ge (tgt := 27) 12 rfl dX12_paces_9 rfl (fun h9 => absurd h9 (by rw [hn]; (simp (disch := omega) only [nI_leI, nI_ltI, nI_eq, show (0 : Int32) = nI 0 from rfl, not_true_eq_false, not_false_eq_true] <;> omega))) (fun h9 => ?_)
    refine pw_iload_n 13 rfl dX12_paces_12 rfl ?_
    refine pw_aload_n 14 rfl dX12_paces_13 rfl ?_
    refine pw_getR 17 rfl dX12_paces_14 fX12_13 (by first | rfl | assumption | exact rowS hh | exact mtS hm | exact ruS hr | exact mtA1 hm | exact mtA2 hm | exact mtA3 hm | exact mtA4 hm | exact mtA5 hm | exact mtA6 hm | exact mtA7 hm | exact ruA1 hr | exact ruA2 hr | exact ruA3 hr) rfl (by first | rfl | assumption | exact mtR0 hm | exact mtR1 hm | exact mtR2 hm | exact mtR3 hm | exact mtR4 hm | exact mtR5 hm | exact mtR6 hm | exact ruR0 hr | exact ruR1 hr | exact ruR3 hr) ?_
    refine pw_iload_n 18 rfl dX12_paces_17 rfl ?_
    refine pw_ialdN 19 rfl dX12_paces_18 (by first | rfl | assumption | exact rowS hh | exact mtS hm | exact ruS hr | exact mtA1 hm | exact mtA2 hm | exact mtA3 hm | exact mtA4 hm | exact mtA5 hm | exact mtA6 hm | exact mtA7 hm | exact ruA1 hr | exact ruA2 hr | exact ruA3 hr) (by omega) (by first | decide | omega) ?_
    rotate_left
    rw [hC.2.2 k (by omega)]
    first | refine pw_iaddN 20 rfl dX12_paces_19 ?_ | refine pw_iadd 20 rfl dX12_paces_19 ?_
    refine pw_istore_n 21 rfl dX12_paces_20 (by decide) ?_
    refine pw_iincN 24 rfl dX12_paces_21 (by decide) rfl ?_
    refine pw_goto (tgt := 4) dX12_paces_24 rfl ?_
    rotate_left
    exact ih
theorem sumN_le9 {f : Nat → Nat} {M : Nat} : ∀ k, (∀ i, i < k → f i ≤ M) → sumN f k ≤ M * k
  | 0, _ => Nat.zero_le _
  | k + 1, h => by
    rw [sumN, Nat.mul_succ]
    have := sumN_le9 k (fun i hi => h i (by omega))
    have := h k (by omega)
    omega
theorem dfr_le {n : Nat} {pc : Nat → Nat} (h7 : n ≤ 7) (hp : ∀ i, i < 7 → pc i ≤ 9) (s : Nat) : sumN pc n ≤ 63 ∧ sumS pc s n ≤ 63 ∧ dfr n pc s ≤ 200 := by
  have h1 := sumN_le9 (M := 9) n (fun i hi => hp i (by omega))
  have h2 := sumS_le (M := 9) s n (fun i hi => hp i (by omega))
  refine ⟨by omega, by omega, ?_⟩
  unfold dfr dist
  split <;> omega
set_option maxRecDepth 100000 in
set_option maxHeartbeats 2000000 in
theorem m_differing {d n s : Nat} {pc : Nat → Nat} {rd rl : Option Nat} {I : pI} {J : pJ} (hC : MC I n pc) (hp : ∀ i, i < 7 → pc i ≤ 9) (hs : s < 2147483648) : PC SM (d + 2) yX12_differing cX12_differing 2 (some .int) [.ref 0, .int (nI s)] (I) (J) (RM rd rl) (pPu (.int (nI (dfr n pc s))) I J (RM rd rl)) := by
  refine PC.of [some (.ref 0), some (.int (nI s))] rfl rfl (Nat.le_of_ble_eq_true rfl) ?_
  obtain ⟨l1, l2, l3⟩ := dfr_le hC.1 hp s
  refine pw_aload_n 1 rfl dX12_differing_0 rfl ?_
  refine pw_callVP (as := []) 4 rfl dX12_differing_1 mX12_216 vX12_paces (m_paces (d := d + 1) hC) (by first | rfl | assumption | exact rowS hh | exact mtS hm | exact ruS hr | exact mtA1 hm | exact mtA2 hm | exact mtA3 hm | exact mtA4 hm | exact mtA5 hm | exact mtA6 hm | exact mtA7 hm | exact ruA1 hr | exact ruA2 hr | exact ruA3 hr) rfl (by decide) ⟨rfl, by decide, by decide, show (parseMethodDescriptor yX12_paces.desc).map (fun d => d.parameters.length) = some 0 by decide +kernel⟩ (by omega) (by decide) (Nat.le_of_ble_eq_true rfl) rfl ?_
  refine pw_iconst (v := nI 2) 5 rfl dX12_differing_4 rfl ?_
  refine pw_aload_n 6 rfl dX12_differing_5 rfl ?_
  refine pw_iload_n 7 rfl dX12_differing_6 rfl ?_
  refine pw_callVP (as := [_]) 10 rfl dX12_differing_7 mX12_308 vX12_pacesOf (m_pacesOf (d := d) hC hs) (by first | rfl | assumption | exact rowS hh | exact mtS hm | exact ruS hr | exact mtA1 hm | exact mtA2 hm | exact mtA3 hm | exact mtA4 hm | exact mtA5 hm | exact mtA6 hm | exact mtA7 hm | exact ruA1 hr | exact ruA2 hr | exact ruA3 hr) rfl (by decide) ⟨rfl, by decide, by decide, show (parseMethodDescriptor yX12_pacesOf.desc).map (fun d => d.parameters.length) = some 1 by decide +kernel⟩ (by omega) (by decide) (Nat.le_of_ble_eq_true rfl) rfl ?_
  first | refine pw_imulN 11 rfl dX12_differing_10 ?_ | refine pw_imul 11 rfl dX12_differing_10 ?_
  refine pw_isub 12 rfl dX12_differing_11 ?_
  refine pw_mabs 15 rfl dX12_differing_12 mX12_282 (Nat.le_of_ble_eq_true rfl) ?_
  rotate_left
  rw [nI_dist (by omega) (by omega)]
  refine pw_iret dX12_differing_15 rfl ?_
  rotate_left
  exact ⟨rfl, rfl, rfl, rfl⟩
set_option maxRecDepth 100000 in
set_option maxHeartbeats 2000000 in
theorem mo_stones {d g : Nat} {s : aSt} {rd : Option Nat} {I : pI} {J : pJ} (hA : MA I J s) (hD : MDg g I) (hg : g ≤ 500000000) (hW : WA s) (v : Int32) : PC SM (d + 245) yX12_stones cX12_stones 5 (some .int) [.ref 0, .int v] (I) (J) (RM rd (some 6)) (moP (g + 10000) (qOp (qStones v) s)) := by
  refine PC.of [some (.ref 0), some (.int v), none, none, none] rfl rfl (Nat.le_of_ble_eq_true rfl) ?_
  obtain ⟨n, pc, b, us, kp, rw, tx, rt, hd, sw⟩ := s
  refine pw_aload_n 1 rfl dX12_stones_0 rfl ?_
  refine pw_iconst (v := nI 0) 2 rfl dX12_stones_1 rfl ?_
  refine pw_putI 5 rfl dX12_stones_2 fX12_88 w12_7 (by first | rfl | assumption | exact rowS hh | exact mtS hm | exact ruS hr | exact mtA1 hm | exact mtA2 hm | exact mtA3 hm | exact mtA4 hm | exact mtA5 hm | exact mtA6 hm | exact mtA7 hm | exact ruA1 hr | exact ruA2 hr | exact ruA3 hr) rfl rfl rfl ?_
  rotate_left
  have hA0 := MA_thr (v := nI 0) hA
  have hD0 : MDg g (uI I 0 7 (nI 0)) := MDg_f hD (uI_ne (by omega)) (fun j => uI_ne (by omega))
  clear hA hD
  generalize uI I 0 7 (nI 0) = I at hA0 hD0 ⊢
  obtain ⟨mC, mB, mT, mN, mR, mU, mK, mH, mG⟩ := id hA0
  obtain ⟨aW, aU, aK⟩ := id hW
  have hE := MSt_A hA0
  have hn7 := mC.1
  have hn := mC.2.1
  rcases inOf_cases (lo := 0) (hi := 999) (by decide) v (by decide) with ⟨N, h1, h2, rfl, hi⟩ | ⟨hi, ho⟩
  · have hpw : 2 ^ n ≤ 2 ^ 7 := Nat.pow_le_pow_right (by decide) hn7
    have hp1 := Nat.two_pow_pos n
    generalize hQ : (fun s => decide (sumS (fun q => b (21 + q)) s n = N)) = Q
    have hQs : ∀ s, Q s = decide (sumS (fun q => b (21 + q)) s n = N) := fun s => by rw [← hQ]
    have eq : qStones (nI N) n pc b (ruE rt) rw hd sw = (fewI (few Q (2 ^ n)), if cntP Q (2 ^ n) = 0 then rw else [lI (fewB (few Q (2 ^ n))), lI (cntP Q (2 ^ n))]) := by unfold qStones; rw [hi, ← hQ]; rfl
    refine pw_iload_n 6 rfl dX12_stones_5 rfl ?_
    refine pw_iconst (v := nI 0) 7 rfl dX12_stones_6 rfl ?_
    refine pw_sipush (v := nI 999) 10 rfl dX12_stones_7 rfl ?_
    refine pw_callSP (as := [_, _, _]) 13 rfl dX12_stones_10 mX12_98 sX12_in (m_in (d := d) _ _ _) ⟨rfl, by decide, by decide, show (parseMethodDescriptor yX12_in.desc).map (fun d => d.parameters.length) = some 3 by decide +kernel⟩ (by omega) (by decide) (Nat.le_of_ble_eq_true rfl) rfl ?_
    refine pw_if_ne (tgt := 18) 16 rfl dX12_stones_13 rfl (fun h13 => ?_) (fun h13 => absurd h13 (by rw [inV_y h1 h2 (by decide)]; decide))
    refine pw_iconst (v := -1) 19 rfl dX12_stones_18 rfl ?_
    refine pw_istore_n 20 rfl dX12_stones_19 (by decide) ?_
    refine pw_iconst (v := nI 0) 21 rfl dX12_stones_20 rfl ?_
    refine pw_istore_n 22 rfl dX12_stones_21 (by decide) ?_
    refine pw_iconst (v := nI 0) 23 rfl dX12_stones_22 rfl ?_
    refine pw_istore 25 rfl dX12_stones_23 (by decide) ?_
    rotate_left
    refine nat_loop (2 ^ n) (fun t => PW SM yX12_stones.cls cX12_stones 5 (d + 245) 25 [some (.ref 0), some (.int (nI N)), some (.int (fewV (few Q t))), some (.int (nI (cntP Q t))), some (.int (nI t))] [] (I) (J) (RM rd (some 6)) (rX cX12_stones (some .int) (moP (g + 10000) (qOp (qStones (nI N)) (n, pc, b, us, kp, rw, tx, rt, hd, sw))))) ?_ ?_
    · have hc := cntP_le Q (2 ^ n)
      cases hf : few Q (2 ^ n) with
      | none =>
        rw [hf, if_pos ((few_cnt Q _).mp hf)] at eq
        refine pw_iload 27 rfl dX12_stones_25 rfl ?_
        refine pw_aload_n 28 rfl dX12_stones_27 rfl ?_
        refine pw_callVP (as := []) 31 rfl dX12_stones_28 mX12_301 vX12_all (m_all (d := d + 244) hn hn7) (by first | rfl | assumption | exact rowS hh | exact mtS hm | exact ruS hr | exact mtA1 hm | exact mtA2 hm | exact mtA3 hm | exact mtA4 hm | exact mtA5 hm | exact mtA6 hm | exact mtA7 hm | exact ruA1 hr | exact ruA2 hr | exact ruA3 hr) rfl (by decide) ⟨rfl, by decide, by decide, show (parseMethodDescriptor yX12_all.desc).map (fun d => d.parameters.length) = some 0 by decide +kernel⟩ (by omega) (by decide) (Nat.le_of_ble_eq_true rfl) rfl ?_
        refine pw_icmp_gt (tgt := 64) 34 rfl dX12_stones_31 rfl (fun h31 => ?_) (fun h31 => absurd (by (simp (disch := omega) only [nI_leI, nI_ltI, nI_eq, show (0 : Int32) = nI 0 from rfl, not_true_eq_false, not_false_eq_true] <;> omega)) h31)
        refine pw_iload_n 65 rfl dX12_stones_64 rfl ?_
        refine pw_iconst (v := -1) 66 rfl dX12_stones_65 rfl ?_
        refine pw_icmp_ne (tgt := 72) 69 rfl dX12_stones_66 rfl (fun h66 => absurd (by rfl) h66) (fun h66 => ?_)
        refine pw_bipush (v := -2) 71 rfl dX12_stones_69 rfl ?_
        refine pw_iret dX12_stones_71 rfl ?_
        rotate_left
        exact moQ eq rfl hA0 (hD0.mono (by omega)) ⟨rd, rfl⟩
      | some s0 =>
        have hs0 := few_lt hf
        rw [hf, if_neg (fun z => by rw [(few_cnt Q _).mpr z] at hf; cases hf)] at eq
        refine pw_iload 27 rfl dX12_stones_25 rfl ?_
        refine pw_aload_n 28 rfl dX12_stones_27 rfl ?_
        refine pw_callVP (as := []) 31 rfl dX12_stones_28 mX12_301 vX12_all (m_all (d := d + 244) hn hn7) (by first | rfl | assumption | exact rowS hh | exact mtS hm | exact ruS hr | exact mtA1 hm | exact mtA2 hm | exact mtA3 hm | exact mtA4 hm | exact mtA5 hm | exact mtA6 hm | exact mtA7 hm | exact ruA1 hr | exact ruA2 hr | exact ruA3 hr) rfl (by decide) ⟨rfl, by decide, by decide, show (parseMethodDescriptor yX12_all.desc).map (fun d => d.parameters.length) = some 0 by decide +kernel⟩ (by omega) (by decide) (Nat.le_of_ble_eq_true rfl) rfl ?_
        refine pw_icmp_gt (tgt := 64) 34 rfl dX12_stones_31 rfl (fun h31 => ?_) (fun h31 => absurd (by (simp (disch := omega) only [nI_leI, nI_ltI, nI_eq, show (0 : Int32) = nI 0 from rfl, not_true_eq_false, not_false_eq_true] <;> omega)) h31)
        refine pw_iload_n 65 rfl dX12_stones_64 rfl ?_
        refine pw_iconst (v := -1) 66 rfl dX12_stones_65 rfl ?_
        refine pw_icmp_ne (tgt := 72) 69 rfl dX12_stones_66 rfl (fun h66 => ?_) (fun h66 => absurd h66 (fewV_ne (by omega)))
        refine pw_aload_n 73 rfl dX12_stones_72 rfl ?_
        refine pw_iload_n 74 rfl dX12_stones_73 rfl ?_
        refine pw_callV (as := [_]) 77 rfl dX12_stones_74 mX12_298 vX12_tellFewest (m_tellFewest (d := d + 243) mN (fun s hs => by cases hs; omega)) (by first | rfl | assumption | exact rowS hh | exact mtS hm | exact ruS hr | exact mtA1 hm | exact mtA2 hm | exact mtA3 hm | exact mtA4 hm | exact mtA5 hm | exact mtA6 hm | exact mtA7 hm | exact ruA1 hr | exact ruA2 hr | exact ruA3 hr) rfl (by decide) ⟨rfl, by decide, by decide, show (parseMethodDescriptor yX12_tellFewest.desc).map (fun d => d.parameters.length) = some 1 by decide +kernel⟩ (by omega) (by decide) (Nat.le_of_ble_eq_true rfl) rfl (fun r74 I74 J74 R74 c74 => ?_)
        obtain ⟨rfl, t1, t2, rfl⟩ := c74
        rotate_left
        refine pw_pop 78 rfl dX12_stones_77 rfl ?_
        refine pw_aload_n 79 rfl dX12_stones_78 rfl ?_
        refine pw_iload_n 80 rfl dX12_stones_79 rfl ?_
        refine pw_i2l 81 rfl dX12_stones_80 ?_
        refine pw_callV (as := [_]) 84 rfl dX12_stones_81 mX12_236 vX12_tell (m_tell (d := d + 244) t1 (by show (1 : Nat) < 12; decide)) (by first | rfl | assumption | exact rowS hh | exact mtS hm | exact ruS hr | exact mtA1 hm | exact mtA2 hm | exact mtA3 hm | exact mtA4 hm | exact mtA5 hm | exact mtA6 hm | exact mtA7 hm | exact ruA1 hr | exact ruA2 hr | exact ruA3 hr) rfl (by decide) ⟨rfl, by decide, by decide, show (parseMethodDescriptor yX12_tell.desc).map (fun d => d.parameters.length) = some 1 by decide +kernel⟩ (by omega) (by decide) (Nat.le_of_ble_eq_true rfl) rfl (fun r81 I81 J81 R81 c81 => ?_)
        obtain ⟨rfl, u1, u2, rfl⟩ := c81
        rotate_left
        have hf1 : ∀ a j, ¬ (a = 0 ∧ j = 6) → I81 a j = I a j := fun a j q => by rw [u2 a j q, t2 a j q]
        show PW _ _ _ _ _ _ [_, _, some (.int (nI s0)), _, _] _ _ _ _ _
        refine pw_iload_n 85 rfl dX12_stones_84 rfl ?_
        refine pw_callSP (as := [_]) 88 rfl dX12_stones_85 mX12_244 sJ6_bitCount_0f7a4 (x_bitCount (d := d + 244) _) ⟨rfl, by decide, by decide, show (parseMethodDescriptor yJ6_bitCount_0f7a4.desc).map (fun d => d.parameters.length) = some 1 by decide +kernel⟩ (by omega) (by decide) (Nat.le_of_ble_eq_true rfl) rfl ?_
        rotate_left
        rw [bc_pop s0 (by omega)]
        refine pw_iret dX12_stones_88 rfl ?_
        rotate_left
        exact moQ eq rfl (MA_rw hA0 (fun a j q => hf1 a j (by omega)) u1) ((MDg_f hD0 (hf1 _ _ (by omega)) (fun j => hf1 _ _ (by omega))).mono (by omega)) ⟨rd, rfl⟩
    · intro t htt ih
      have hcl := cntP_le Q t
      have hsl := sumS_le (f := fun q => b (21 + q)) (M := 999) t n (fun i hi => (aW.1.2.2.2.2 i (by omega)).2.2.2.2)
      have hsl2 : sumS (fun q => b (21 + q)) t n ≤ 999 * 7 := Nat.le_trans hsl (Nat.mul_le_mul_left 999 hn7)
      by_cases hp : sumS (fun q => b (21 + q)) t n = N
      · have hq : Q t = true := by rw [hQs]; exact decide_eq_true hp
        rw [cntP_y hq, fewK_y hq] at ih
        refine pw_iload 27 rfl dX12_stones_25 rfl ?_
        refine pw_aload_n 28 rfl dX12_stones_27 rfl ?_
        refine pw_callVP (as := []) 31 rfl dX12_stones_28 mX12_301 vX12_all (m_all (d := d + 244) hn hn7) (by first | rfl | assumption | exact rowS hh | exact mtS hm | exact ruS hr | exact mtA1 hm | exact mtA2 hm | exact mtA3 hm | exact mtA4 hm | exact mtA5 hm | exact mtA6 hm | exact mtA7 hm | exact ruA1 hr | exact ruA2 hr | exact ruA3 hr) rfl (by decide) ⟨rfl, by decide, by decide, show (parseMethodDescriptor yX12_all.desc).map (fun d => d.parameters.length) = some 0 by decide +kernel⟩ (by omega) (by decide) (Nat.le_of_ble_eq_true rfl) rfl ?_
        refine pw_icmp_gt (tgt := 64) 34 rfl dX12_stones_31 rfl (fun h31 => absurd h31 (by (simp (disch := omega) only [nI_leI, nI_ltI, nI_eq, show (0 : Int32) = nI 0 from rfl, not_true_eq_false, not_false_eq_true] <;> omega))) (fun h31 => ?_)
        refine pw_aload_n 35 rfl dX12_stones_34 rfl ?_
        refine pw_iload 37 rfl dX12_stones_35 rfl ?_
        refine pw_callVP (as := [_]) 40 rfl dX12_stones_37 mX12_305 vX12_builtOf (m_builtOf (d := d + 243) hn hn7 (show t < 2147483648 by omega) mB) (by first | rfl | assumption | exact rowS hh | exact mtS hm | exact ruS hr | exact mtA1 hm | exact mtA2 hm | exact mtA3 hm | exact mtA4 hm | exact mtA5 hm | exact mtA6 hm | exact mtA7 hm | exact ruA1 hr | exact ruA2 hr | exact ruA3 hr) rfl (by decide) ⟨rfl, by decide, by decide, show (parseMethodDescriptor yX12_builtOf.desc).map (fun d => d.parameters.length) = some 1 by decide +kernel⟩ (by omega) (by decide) (Nat.le_of_ble_eq_true rfl) rfl ?_
        refine pw_iload_n 41 rfl dX12_stones_40 rfl ?_
        refine pw_icmp_eq (tgt := 47) 44 rfl dX12_stones_41 rfl (fun h41 => ?_) (fun h41 => absurd (by rw [hp]) h41)
        refine pw_aload_n 48 rfl dX12_stones_47 rfl ?_
        refine pw_iload_n 49 rfl dX12_stones_48 rfl ?_
        refine pw_iload 51 rfl dX12_stones_49 rfl ?_
        refine pw_callVP (as := [_, _]) 54 rfl dX12_stones_51 mX12_295 vX12_fewest (m_fewest (d := d + 243) (show t < 1024 by omega) (fun s hs => by have := few_lt hs; omega)) (by first | rfl | assumption | exact rowS hh | exact mtS hm | exact ruS hr | exact mtA1 hm | exact mtA2 hm | exact mtA3 hm | exact mtA4 hm | exact mtA5 hm | exact mtA6 hm | exact mtA7 hm | exact ruA1 hr | exact ruA2 hr | exact ruA3 hr) rfl (by decide) ⟨rfl, by decide, by decide, show (parseMethodDescriptor yX12_fewest.desc).map (fun d => d.parameters.length) = some 2 by decide +kernel⟩ (by omega) (by decide) (Nat.le_of_ble_eq_true rfl) rfl ?_
        refine pw_istore_n 55 rfl dX12_stones_54 (by decide) ?_
        refine pw_iincN 58 rfl dX12_stones_55 (by decide) rfl ?_
        refine pw_iincN 61 rfl dX12_stones_58 (by decide) rfl ?_
        refine pw_goto (tgt := 25) dX12_stones_61 rfl ?_
        rotate_left
        exact ih
      · have hq : Q t = false := by rw [hQs]; exact decide_eq_false hp
        rw [cntP_n hq, fewK_n hq] at ih
        refine pw_iload 27 rfl dX12_stones_25 rfl ?_
        refine pw_aload_n 28 rfl dX12_stones_27 rfl ?_
        refine pw_callVP (as := []) 31 rfl dX12_stones_28 mX12_301 vX12_all (m_all (d := d + 244) hn hn7) (by first | rfl | assumption | exact rowS hh | exact mtS hm | exact ruS hr | exact mtA1 hm | exact mtA2 hm | exact mtA3 hm | exact mtA4 hm | exact mtA5 hm | exact mtA6 hm | exact mtA7 hm | exact ruA1 hr | exact ruA2 hr | exact ruA3 hr) rfl (by decide) ⟨rfl, by decide, by decide, show (parseMethodDescriptor yX12_all.desc).map (fun d => d.parameters.length) = some 0 by decide +kernel⟩ (by omega) (by decide) (Nat.le_of_ble_eq_true rfl) rfl ?_
        refine pw_icmp_gt (tgt := 64) 34 rfl dX12_stones_31 rfl (fun h31 => absurd h31 (by (simp (disch := omega) only [nI_leI, nI_ltI, nI_eq, show (0 : Int32) = nI 0 from rfl, not_true_eq_false, not_false_eq_true] <;> omega))) (fun h31 => ?_)
        refine pw_aload_n 35 rfl dX12_stones_34 rfl ?_
        refine pw_iload 37 rfl dX12_stones_35 rfl ?_
        refine pw_callVP (as := [_]) 40 rfl dX12_stones_37 mX12_305 vX12_builtOf (m_builtOf (d := d + 243) hn hn7 (show t < 2147483648 by omega) mB) (by first | rfl | assumption | exact rowS hh | exact mtS hm | exact ruS hr | exact mtA1 hm | exact mtA2 hm | exact mtA3 hm | exact mtA4 hm | exact mtA5 hm | exact mtA6 hm | exact mtA7 hm | exact ruA1 hr | exact ruA2 hr | exact ruA3 hr) rfl (by decide) ⟨rfl, by decide, by decide, show (parseMethodDescriptor yX12_builtOf.desc).map (fun d => d.parameters.length) = some 1 by decide +kernel⟩ (by omega) (by decide) (Nat.le_of_ble_eq_true rfl) rfl ?_
        refine pw_iload_n 41 rfl dX12_stones_40 rfl ?_
        refine pw_icmp_eq (tgt := 47) 44 rfl dX12_stones_41 rfl (fun h41 => absurd h41 (by rw [nI_eq (by omega) (by omega)]; exact hp)) (fun h41 => ?_)
        refine pw_goto (tgt := 58) dX12_stones_44 rfl ?_
        refine pw_iincN 61 rfl dX12_stones_58 (by decide) rfl ?_
        refine pw_goto (tgt := 25) dX12_stones_61 rfl ?_
        rotate_left
        exact ih
  · refine pw_iload_n 6 rfl dX12_stones_5 rfl ?_
    refine pw_iconst (v := nI 0) 7 rfl dX12_stones_6 rfl ?_
    refine pw_sipush (v := nI 999) 10 rfl dX12_stones_7 rfl ?_
    refine pw_callSP (as := [_, _, _]) 13 rfl dX12_stones_10 mX12_98 sX12_in (m_in (d := d) _ _ _) ⟨rfl, by decide, by decide, show (parseMethodDescriptor yX12_in.desc).map (fun d => d.parameters.length) = some 3 by decide +kernel⟩ (by omega) (by decide) (Nat.le_of_ble_eq_true rfl) rfl ?_
    refine pw_if_ne (tgt := 18) 16 rfl dX12_stones_13 rfl (fun h13 => absurd (by rw [inV_n ho]; rfl) h13) (fun h13 => ?_)
    refine pw_iconst (v := -1) 17 rfl dX12_stones_16 rfl ?_
    refine pw_iret dX12_stones_17 rfl ?_
    rotate_left
    exact moQ (by unfold qStones; rw [hi]; rfl) rfl hA0 (hD0.mono (by omega)) ⟨rd, rfl⟩
theorem evp_self {A : Nat} {g : Nat → Nat} (h0 : g 0 = A) : ∀ k, (evp A g k).1 = g (evp A g k).2 ∧ (evp A g k).2 ≤ k
  | 0 => ⟨h0.symm, Nat.le_refl _⟩
  | k + 1 => by
    have ih := evp_self h0 k
    rw [evp]
    split
    · exact ⟨rfl, Nat.le_succ _⟩
    · exact ⟨ih.1, Nat.le_succ_of_le ih.2⟩
set_option maxRecDepth 100000 in
set_option maxHeartbeats 2000000 in
theorem mo_parties {d g : Nat} {s : aSt} {rd : Option Nat} {I : pI} {J : pJ} (hA : MA I J s) (hD : MDg g I) (hg : g ≤ 500000000) (hW : WA s)  : PC SM (d + 245) yX12_parties cX12_parties 3 (some .int) [.ref 0] (I) (J) (RM rd (some 6)) (moP (g + 10000) (qOp qParties s)) := by
  refine PC.of [some (.ref 0), none, none] rfl rfl (Nat.le_of_ble_eq_true rfl) ?_
  obtain ⟨n, pc, b, us, kp, rw, tx, rt, hd, sw⟩ := s
  refine pw_aload_n 1 rfl dX12_parties_0 rfl ?_
  refine pw_iconst (v := nI 0) 2 rfl dX12_parties_1 rfl ?_
  refine pw_putI 5 rfl dX12_parties_2 fX12_88 w12_7 (by first | rfl | assumption | exact rowS hh | exact mtS hm | exact ruS hr | exact mtA1 hm | exact mtA2 hm | exact mtA3 hm | exact mtA4 hm | exact mtA5 hm | exact mtA6 hm | exact mtA7 hm | exact ruA1 hr | exact ruA2 hr | exact ruA3 hr) rfl rfl rfl ?_
  rotate_left
  have hA0 := MA_thr (v := nI 0) hA
  have hD0 : MDg g (uI I 0 7 (nI 0)) := MDg_f hD (uI_ne (by omega)) (fun j => uI_ne (by omega))
  clear hA hD
  generalize uI I 0 7 (nI 0) = I at hA0 hD0 ⊢
  obtain ⟨mC, mB, mT, mN, mR, mU, mK, mH, mG⟩ := id hA0
  obtain ⟨aW, aU, aK⟩ := id hW
  have hE := MSt_A hA0
  have hn7 := mC.1
  have hn := mC.2.1
  have hpw : 2 ^ n ≤ 2 ^ 7 := Nat.pow_le_pow_right (by decide) hn7
  have hp1 := Nat.two_pow_pos n
  have hpc : ∀ i, i < 7 → pc i ≤ 9 := fun i hi => (aW.1.2.2.2.2 i hi).1
  have hz : ∀ k, sumS pc 0 k = 0 := fun k => by
    induction k with
    | zero => rfl
    | succ k ih => rw [sumS, ih, Nat.zero_testBit]; rfl
  have h00 : dfr n pc 0 = sumN pc n := by rw [dfr, hz, Nat.mul_zero, dist, if_pos (Nat.zero_le _), Nat.sub_zero]
  have hes := evp_self h00
  have e1 : evp (sumN pc n) (dfr n pc) 1 = (sumN pc n, 0) := by rw [evp, show evp (sumN pc n) (dfr n pc) 0 = (sumN pc n, 0) from rfl, if_neg]; rw [h00]; exact Nat.lt_irrefl _
  have eq : qParties n pc b (ruE rt) rw hd sw = (nI (evp (sumN pc n) (dfr n pc) (2 ^ n)).1, [lI (evp (sumN pc n) (dfr n pc) (2 ^ n)).2, lI (sumS pc (evp (sumN pc n) (dfr n pc) (2 ^ n)).2 n)]) := rfl
  refine pw_iconst (v := nI 0) 6 rfl dX12_parties_5 rfl ?_
  refine pw_istore_n 7 rfl dX12_parties_6 (by decide) ?_
  refine pw_iconst (v := nI 1) 8 rfl dX12_parties_7 rfl ?_
  refine pw_istore_n 9 rfl dX12_parties_8 (by decide) ?_
  rotate_left
  have L := nat_loop (2 ^ n - 1) (fun t => PW SM yX12_parties.cls cX12_parties 3 (d + 245) 9 [some (.ref 0), some (.int (nI (evp (sumN pc n) (dfr n pc) (t + 1)).2)), some (.int (nI (t + 1)))] [] (I) (J) (RM rd (some 6)) (rX cX12_parties (some .int) (moP (g + 10000) (qOp qParties (n, pc, b, us, kp, rw, tx, rt, hd, sw))))) ?_ ?_
  · rw [show (0 : Nat) + 1 = 1 from rfl, e1] at L
    exact L
  · rw [show 2 ^ n - 1 + 1 = 2 ^ n by omega]
    have hb := hes (2 ^ n)
    generalize evp (sumN pc n) (dfr n pc) (2 ^ n) = z at hb eq
    rw [hb.1] at eq
    refine pw_iload_n 10 rfl dX12_parties_9 rfl ?_
    refine pw_aload_n 11 rfl dX12_parties_10 rfl ?_
    refine pw_callVP (as := []) 14 rfl dX12_parties_11 mX12_301 vX12_all (m_all (d := d + 244) hn hn7) (by first | rfl | assumption | exact rowS hh | exact mtS hm | exact ruS hr | exact mtA1 hm | exact mtA2 hm | exact mtA3 hm | exact mtA4 hm | exact mtA5 hm | exact mtA6 hm | exact mtA7 hm | exact ruA1 hr | exact ruA2 hr | exact ruA3 hr) rfl (by decide) ⟨rfl, by decide, by decide, show (parseMethodDescriptor yX12_all.desc).map (fun d => d.parameters.length) = some 0 by decide +kernel⟩ (by omega) (by decide) (Nat.le_of_ble_eq_true rfl) rfl ?_
    refine pw_icmp_gt (tgt := 42) 17 rfl dX12_parties_14 rfl (fun h14 => ?_) (fun h14 => absurd (by (simp (disch := omega) only [nI_leI, nI_ltI, nI_eq, show (0 : Int32) = nI 0 from rfl, not_true_eq_false, not_false_eq_true] <;> omega)) h14)
    refine pw_aload_n 43 rfl dX12_parties_42 rfl ?_
    refine pw_iconst (v := nI 0) 44 rfl dX12_parties_43 rfl ?_
    refine pw_putI 47 rfl dX12_parties_44 fX12_92 w12_6 (by first | rfl | assumption | exact rowS hh | exact mtS hm | exact ruS hr | exact mtA1 hm | exact mtA2 hm | exact mtA3 hm | exact mtA4 hm | exact mtA5 hm | exact mtA6 hm | exact mtA7 hm | exact ruA1 hr | exact ruA2 hr | exact ruA3 hr) rfl rfl rfl ?_
    refine pw_aload_n 48 rfl dX12_parties_47 rfl ?_
    refine pw_iload_n 49 rfl dX12_parties_48 rfl ?_
    refine pw_i2l 50 rfl dX12_parties_49 ?_
    refine pw_callV (as := [_]) 53 rfl dX12_parties_50 mX12_236 vX12_tell (m_tell (d := d + 244) MN_0 (by decide)) (by first | rfl | assumption | exact rowS hh | exact mtS hm | exact ruS hr | exact mtA1 hm | exact mtA2 hm | exact mtA3 hm | exact mtA4 hm | exact mtA5 hm | exact mtA6 hm | exact mtA7 hm | exact ruA1 hr | exact ruA2 hr | exact ruA3 hr) rfl (by decide) ⟨rfl, by decide, by decide, show (parseMethodDescriptor yX12_tell.desc).map (fun d => d.parameters.length) = some 1 by decide +kernel⟩ (by omega) (by decide) (Nat.le_of_ble_eq_true rfl) rfl (fun r50 I50 J50 R50 c50 => ?_)
    obtain ⟨rfl, t1, t2, rfl⟩ := c50
    rotate_left
    have mC1 : MC I50 n pc := MC_f mC (by rw [t2 _ _ (by omega), uI_ne (by omega)]) (fun j => by rw [t2 _ _ (by omega), uI_ne (by omega)])
    refine pw_aload_n 54 rfl dX12_parties_53 rfl ?_
    refine pw_aload_n 55 rfl dX12_parties_54 rfl ?_
    refine pw_iload_n 56 rfl dX12_parties_55 rfl ?_
    refine pw_callVP (as := [_]) 59 rfl dX12_parties_56 mX12_308 vX12_pacesOf (m_pacesOf (d := d + 243) mC1 (show z.2 < 2147483648 by omega)) (by first | rfl | assumption | exact rowS hh | exact mtS hm | exact ruS hr | exact mtA1 hm | exact mtA2 hm | exact mtA3 hm | exact mtA4 hm | exact mtA5 hm | exact mtA6 hm | exact mtA7 hm | exact ruA1 hr | exact ruA2 hr | exact ruA3 hr) rfl (by decide) ⟨rfl, by decide, by decide, show (parseMethodDescriptor yX12_pacesOf.desc).map (fun d => d.parameters.length) = some 1 by decide +kernel⟩ (by omega) (by decide) (Nat.le_of_ble_eq_true rfl) rfl ?_
    refine pw_i2l 60 rfl dX12_parties_59 ?_
    refine pw_callV (as := [_]) 63 rfl dX12_parties_60 mX12_236 vX12_tell (m_tell (d := d + 244) t1 (by show (1 : Nat) < 12; decide)) (by first | rfl | assumption | exact rowS hh | exact mtS hm | exact ruS hr | exact mtA1 hm | exact mtA2 hm | exact mtA3 hm | exact mtA4 hm | exact mtA5 hm | exact mtA6 hm | exact mtA7 hm | exact ruA1 hr | exact ruA2 hr | exact ruA3 hr) rfl (by decide) ⟨rfl, by decide, by decide, show (parseMethodDescriptor yX12_tell.desc).map (fun d => d.parameters.length) = some 1 by decide +kernel⟩ (by omega) (by decide) (Nat.le_of_ble_eq_true rfl) rfl (fun r60 I60 J60 R60 c60 => ?_)
    obtain ⟨rfl, u1, u2, rfl⟩ := c60
    rotate_left
    have mC2 : MC I60 n pc := MC_f mC1 (u2 _ _ (by omega)) (fun j => u2 _ _ (by omega))
    refine pw_aload_n 64 rfl dX12_parties_63 rfl ?_
    refine pw_iload_n 65 rfl dX12_parties_64 rfl ?_
    refine pw_callVP (as := [_]) 68 rfl dX12_parties_65 mX12_311 vX12_differing (m_differing (d := d + 242) mC2 hpc (show z.2 < 2147483648 by omega)) (by first | rfl | assumption | exact rowS hh | exact mtS hm | exact ruS hr | exact mtA1 hm | exact mtA2 hm | exact mtA3 hm | exact mtA4 hm | exact mtA5 hm | exact mtA6 hm | exact mtA7 hm | exact ruA1 hr | exact ruA2 hr | exact ruA3 hr) rfl (by decide) ⟨rfl, by decide, by decide, show (parseMethodDescriptor yX12_differing.desc).map (fun d => d.parameters.length) = some 1 by decide +kernel⟩ (by omega) (by decide) (Nat.le_of_ble_eq_true rfl) rfl ?_
    refine pw_iret dX12_parties_68 rfl ?_
    rotate_left
    have hf1 : ∀ a j, ¬ (a = 0 ∧ j = 6) → I60 a j = I a j := fun a j q => by rw [u2 a j q, t2 a j q, uI_ne (by omega)]
    exact moQ eq rfl (MA_rw hA0 (fun a j q => hf1 a j (by omega)) u1) ((MDg_f hD0 (hf1 _ _ (by omega)) (fun j => hf1 _ _ (by omega))).mono (by omega)) ⟨rd, rfl⟩
  · intro t htt ih
    have hb := hes (t + 1)
    have l1 := (dfr_le hn7 hpc (t + 1)).2.2
    have l2 := (dfr_le hn7 hpc (evp (sumN pc n) (dfr n pc) (t + 1)).2).2.2
    rw [show evp (sumN pc n) (dfr n pc) (t + 1 + 1) = if dfr n pc (t + 1) < (evp (sumN pc n) (dfr n pc) (t + 1)).1 then (dfr n pc (t + 1), t + 1) else evp (sumN pc n) (dfr n pc) (t + 1) from rfl, hb.1] at ih
    generalize evp (sumN pc n) (dfr n pc) (t + 1) = z at hb ih l2
    by_cases hp : dfr n pc (t + 1) < dfr n pc z.2
    · rw [if_pos hp] at ih
      refine pw_iload_n 10 rfl dX12_parties_9 rfl ?_
      refine pw_aload_n 11 rfl dX12_parties_10 rfl ?_
      refine pw_callVP (as := []) 14 rfl dX12_parties_11 mX12_301 vX12_all (m_all (d := d + 244) hn hn7) (by first | rfl | assumption | exact rowS hh | exact mtS hm | exact ruS hr | exact mtA1 hm | exact mtA2 hm | exact mtA3 hm | exact mtA4 hm | exact mtA5 hm | exact mtA6 hm | exact mtA7 hm | exact ruA1 hr | exact ruA2 hr | exact ruA3 hr) rfl (by decide) ⟨rfl, by decide, by decide, show (parseMethodDescriptor yX12_all.desc).map (fun d => d.parameters.length) = some 0 by decide +kernel⟩ (by omega) (by decide) (Nat.le_of_ble_eq_true rfl) rfl ?_
      refine pw_icmp_gt (tgt := 42) 17 rfl dX12_parties_14 rfl (fun h14 => absurd h14 (by (simp (disch := omega) only [nI_leI, nI_ltI, nI_eq, show (0 : Int32) = nI 0 from rfl, not_true_eq_false, not_false_eq_true] <;> omega))) (fun h14 => ?_)
      refine pw_aload_n 18 rfl dX12_parties_17 rfl ?_
      refine pw_iload_n 19 rfl dX12_parties_18 rfl ?_
      refine pw_callVP (as := [_]) 22 rfl dX12_parties_19 mX12_311 vX12_differing (m_differing (d := d + 242) mC hpc (show t + 1 < 2147483648 by omega)) (by first | rfl | assumption | exact rowS hh | exact mtS hm | exact ruS hr | exact mtA1 hm | exact mtA2 hm | exact mtA3 hm | exact mtA4 hm | exact mtA5 hm | exact mtA6 hm | exact mtA7 hm | exact ruA1 hr | exact ruA2 hr | exact ruA3 hr) rfl (by decide) ⟨rfl, by decide, by decide, show (parseMethodDescriptor yX12_differing.desc).map (fun d => d.parameters.length) = some 1 by decide +kernel⟩ (by omega) (by decide) (Nat.le_of_ble_eq_true rfl) rfl ?_
      refine pw_aload_n 23 rfl dX12_parties_22 rfl ?_
      refine pw_iload_n 24 rfl dX12_parties_23 rfl ?_
      refine pw_callVP (as := [_]) 27 rfl dX12_parties_24 mX12_311 vX12_differing (m_differing (d := d + 242) mC hpc (show z.2 < 2147483648 by omega)) (by first | rfl | assumption | exact rowS hh | exact mtS hm | exact ruS hr | exact mtA1 hm | exact mtA2 hm | exact mtA3 hm | exact mtA4 hm | exact mtA5 hm | exact mtA6 hm | exact mtA7 hm | exact ruA1 hr | exact ruA2 hr | exact ruA3 hr) rfl (by decide) ⟨rfl, by decide, by decide, show (parseMethodDescriptor yX12_differing.desc).map (fun d => d.parameters.length) = some 1 by decide +kernel⟩ (by omega) (by decide) (Nat.le_of_ble_eq_true rfl) rfl ?_
      refine pw_icmp_ge (tgt := 34) 30 rfl dX12_parties_27 rfl (fun h27 => absurd h27 (by (simp (disch := omega) only [nI_leI, nI_ltI, nI_eq, show (0 : Int32) = nI 0 from rfl, not_true_eq_false, not_false_eq_true] <;> omega))) (fun h27 => ?_)
      refine pw_iload_n 31 rfl dX12_parties_30 rfl ?_
      refine pw_goto (tgt := 35) dX12_parties_31 rfl ?_
      refine pw_istore_n 36 rfl dX12_parties_35 (by decide) ?_
      refine pw_iincN 39 rfl dX12_parties_36 (by decide) rfl ?_
      refine pw_goto (tgt := 9) dX12_parties_39 rfl ?_
      rotate_left
      exact ih
    · rw [if_neg hp] at ih
      refine pw_iload_n 10 rfl dX12_parties_9 rfl ?_
      refine pw_aload_n 11 rfl dX12_parties_10 rfl ?_
      refine pw_callVP (as := []) 14 rfl dX12_parties_11 mX12_301 vX12_all (m_all (d := d + 244) hn hn7) (by first | rfl | assumption | exact rowS hh | exact mtS hm | exact ruS hr | exact mtA1 hm | exact mtA2 hm | exact mtA3 hm | exact mtA4 hm | exact mtA5 hm | exact mtA6 hm | exact mtA7 hm | exact ruA1 hr | exact ruA2 hr | exact ruA3 hr) rfl (by decide) ⟨rfl, by decide, by decide, show (parseMethodDescriptor yX12_all.desc).map (fun d => d.parameters.length) = some 0 by decide +kernel⟩ (by omega) (by decide) (Nat.le_of_ble_eq_true rfl) rfl ?_
      refine pw_icmp_gt (tgt := 42) 17 rfl dX12_parties_14 rfl (fun h14 => absurd h14 (by (simp (disch := omega) only [nI_leI, nI_ltI, nI_eq, show (0 : Int32) = nI 0 from rfl, not_true_eq_false, not_false_eq_true] <;> omega))) (fun h14 => ?_)
      refine pw_aload_n 18 rfl dX12_parties_17 rfl ?_
      refine pw_iload_n 19 rfl dX12_parties_18 rfl ?_
      refine pw_callVP (as := [_]) 22 rfl dX12_parties_19 mX12_311 vX12_differing (m_differing (d := d + 242) mC hpc (show t + 1 < 2147483648 by omega)) (by first | rfl | assumption | exact rowS hh | exact mtS hm | exact ruS hr | exact mtA1 hm | exact mtA2 hm | exact mtA3 hm | exact mtA4 hm | exact mtA5 hm | exact mtA6 hm | exact mtA7 hm | exact ruA1 hr | exact ruA2 hr | exact ruA3 hr) rfl (by decide) ⟨rfl, by decide, by decide, show (parseMethodDescriptor yX12_differing.desc).map (fun d => d.parameters.length) = some 1 by decide +kernel⟩ (by omega) (by decide) (Nat.le_of_ble_eq_true rfl) rfl ?_
      refine pw_aload_n 23 rfl dX12_parties_22 rfl ?_
      refine pw_iload_n 24 rfl dX12_parties_23 rfl ?_
      refine pw_callVP (as := [_]) 27 rfl dX12_parties_24 mX12_311 vX12_differing (m_differing (d := d + 242) mC hpc (show z.2 < 2147483648 by omega)) (by first | rfl | assumption | exact rowS hh | exact mtS hm | exact ruS hr | exact mtA1 hm | exact mtA2 hm | exact mtA3 hm | exact mtA4 hm | exact mtA5 hm | exact mtA6 hm | exact mtA7 hm | exact ruA1 hr | exact ruA2 hr | exact ruA3 hr) rfl (by decide) ⟨rfl, by decide, by decide, show (parseMethodDescriptor yX12_differing.desc).map (fun d => d.parameters.length) = some 1 by decide +kernel⟩ (by omega) (by decide) (Nat.le_of_ble_eq_true rfl) rfl ?_
      refine pw_icmp_ge (tgt := 34) 30 rfl dX12_parties_27 rfl (fun h27 => ?_) (fun h27 => absurd (by (simp (disch := omega) only [nI_leI, nI_ltI, nI_eq, show (0 : Int32) = nI 0 from rfl, not_true_eq_false, not_false_eq_true] <;> omega)) h27)
      refine pw_iload_n 35 rfl dX12_parties_34 rfl ?_
      refine pw_istore_n 36 rfl dX12_parties_35 (by decide) ?_
      refine pw_iincN 39 rfl dX12_parties_36 (by decide) rfl ?_
      refine pw_goto (tgt := 9) dX12_parties_39 rfl ?_
      rotate_left
      exact ih
