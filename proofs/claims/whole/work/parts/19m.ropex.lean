def lbh (f b : Nat → Nat) (w : Nat) : Nat → Nat
  | 0 => 0
  | j + 1 => if b w < b (w + 1 + j) then max (lbh f b w j) (f (w + 1 + j)) else lbh f b w j
/-- how long a rope each of the last k can lead -/
def rpT (n : Nat) (b : Nat → Nat) : Nat → Nat → Nat
  | 0 => fun _ => 0
  | k + 1 => fun i => if i = n - 1 - k then 1 + lbh (rpT n b k) b (n - 1 - k) k else rpT n b k i
def rpM (n : Nat) (b : Nat → Nat) : Nat → Nat
  | 0 => 0
  | k + 1 => max (rpM n b k) (rpT n b (k + 1) (n - 1 - k))
theorem lbh_le {f b : Nat → Nat} {M w : Nat} (h : ∀ i, f i ≤ M) : ∀ j, lbh f b w j ≤ M
  | 0 => Nat.zero_le _
  | j + 1 => by
    rw [lbh]
    have := lbh_le (b := b) (w := w) h j
    split
    · exact Nat.max_le.mpr ⟨this, h _⟩
    · exact this
theorem rpT_le (n : Nat) (b : Nat → Nat) : ∀ k i, rpT n b k i ≤ k
  | 0, _ => Nat.le_refl _
  | k + 1, i => by
    show (if i = n - 1 - k then 1 + lbh (rpT n b k) b (n - 1 - k) k else rpT n b k i) ≤ k + 1
    have h1 := lbh_le (b := b) (w := n - 1 - k) (rpT_le n b k) k
    have h2 := rpT_le n b k i
    split <;> omega
theorem rpM_le (n : Nat) (b : Nat → Nat) : ∀ k, rpM n b k ≤ k
  | 0 => Nat.le_refl _
  | k + 1 => by
    rw [rpM]
    exact Nat.max_le.mpr ⟨Nat.le_succ_of_le (rpM_le n b k), rpT_le n b (k + 1) _⟩
set_option maxRecDepth 100000 in
set_option maxHeartbeats 2000000 in
theorem x_longestBehind {d n w : Nat} {pc b f : Nat → Nat} {I : pI} {J : pJ} (hM : XM I 1 n pc b) (hW : WF n pc b) (hw : w < n) (hf : ∀ i, w < i → i < n → I 61 i = nI (f i)) (hf7 : ∀ i, f i ≤ 100) : PC SX (d + 1) yX9_longestBehind cX9_longestBehind 4 (some .int) [.ref 60, .int (nI w)] (I) (J) (RX) (pPu (.int (nI (lbh f b w (n - (w + 1))))) I J RX) := by
  refine PC.of [some (.ref 60), some (.int (nI w)), none, none] rfl rfl (Nat.le_of_ble_eq_true rfl) ?_
  have h7 := hW.1
  have hn := hM.2.1
  have ht := hW.2.1
  refine pw_iconst (v := nI 0) 1 rfl dX9_longestBehind_0 rfl ?_
  refine pw_istore_n 2 rfl dX9_longestBehind_1 (by decide) ?_
  refine pw_iload_n 3 rfl dX9_longestBehind_2 rfl ?_
  refine pw_iconst (v := nI 1) 4 rfl dX9_longestBehind_3 rfl ?_
  first | refine pw_iaddN 5 rfl dX9_longestBehind_4 ?_ | refine pw_iadd 5 rfl dX9_longestBehind_4 ?_
  refine pw_istore_n 6 rfl dX9_longestBehind_5 (by decide) ?_
  rotate_left
  refine nat_loop (n - (w + 1)) (fun j => PW SX yX9_longestBehind.cls cX9_longestBehind 4 (d + 1) 6 [some (.ref 60), some (.int (nI w)), some (.int (nI (lbh f b w j))), some (.int (nI (w + 1 + j)))] [] (I) (J) (RX) (rX cX9_longestBehind (some .int) (pPu (.int (nI (lbh f b w (n - (w + 1))))) I J RX))) ?_ ?_
  · refine pw_iload_n 7 rfl dX9_longestBehind_6 rfl ?_
    refine pw_bipush (v := nI 7) 9 rfl dX9_longestBehind_7 rfl ?_
    refine pw_icmp_ge (tgt := 83) 12 rfl dX9_longestBehind_9 rfl (fun h9 => ?_) (fun h9 => ?_)
    refine pw_iload_n 84 rfl dX9_longestBehind_83 rfl ?_
    refine pw_iret dX9_longestBehind_84 rfl ?_
    rotate_left
    refine pw_iload_n 13 rfl dX9_longestBehind_12 rfl ?_
    refine pw_aload_n 14 rfl dX9_longestBehind_13 rfl ?_
    refine pw_getR 17 rfl dX9_longestBehind_14 fX9_15 (by first | rfl | assumption | exact rowS hh | exact mtS hm | exact ruS hr | exact mtA1 hm | exact mtA2 hm | exact mtA3 hm | exact mtA4 hm | exact mtA5 hm | exact mtA6 hm | exact mtA7 hm | exact ruA1 hr | exact ruA2 hr | exact ruA3 hr) rfl (by first | rfl | assumption | exact mtR0 hm | exact mtR1 hm | exact mtR2 hm | exact mtR3 hm | exact mtR4 hm | exact mtR5 hm | exact mtR6 hm | exact ruR0 hr | exact ruR1 hr | exact ruR3 hr) ?_
    refine pw_getI 20 rfl dX9_longestBehind_17 fX9_23 (by first | rfl | assumption | exact rowS hh | exact mtS hm | exact ruS hr | exact mtA1 hm | exact mtA2 hm | exact mtA3 hm | exact mtA4 hm | exact mtA5 hm | exact mtA6 hm | exact mtA7 hm | exact ruA1 hr | exact ruA2 hr | exact ruA3 hr) rfl ?_
    refine pw_icmp_ge (tgt := 83) 23 rfl dX9_longestBehind_20 rfl (fun h20 => ?_) (fun h20 => absurd (by rw [hn]; (simp (disch := omega) only [nI_leI, nI_ltI, nI_eq, show (0 : Int32) = nI 0 from rfl, not_true_eq_false, not_false_eq_true] <;> omega)) h20)
    refine pw_iload_n 84 rfl dX9_longestBehind_83 rfl ?_
    refine pw_iret dX9_longestBehind_84 rfl ?_
    rotate_left
    all_goals exact ⟨rfl, rfl, rfl, rfl⟩
  · intro j hj ih
    have hb1 := hW.2.2.2.2 w (by omega)
    have hb2 := hW.2.2.2.2 (w + 1 + j) (by omega)
    have e1 : I 3 w = nI (b w) := (hM.2.2.2.2.2.2 w (by omega)).2.1
    have e2 : I 3 (w + 1 + j) = nI (b (w + 1 + j)) := (hM.2.2.2.2.2.2 (w + 1 + j) (by omega)).2.1
    have hl := lbh_le (b := b) (w := w) hf7 j
    have hfj := hf7 (w + 1 + j)
    rw [lbh] at ih
    by_cases hp : b w < b (w + 1 + j)
    · rw [if_pos hp] at ih
      refine pw_iload_n 7 rfl dX9_longestBehind_6 rfl ?_
      refine pw_bipush (v := nI 7) 9 rfl dX9_longestBehind_7 rfl ?_
      refine pw_icmp_ge (tgt := 83) 12 rfl dX9_longestBehind_9 rfl (fun h9 => absurd h9 (by (simp (disch := omega) only [nI_leI, nI_ltI, nI_eq, show (0 : Int32) = nI 0 from rfl, not_true_eq_false, not_false_eq_true] <;> omega))) (fun h9 => ?_)
      refine pw_iload_n 13 rfl dX9_longestBehind_12 rfl ?_
      refine pw_aload_n 14 rfl dX9_longestBehind_13 rfl ?_
      refine pw_getR 17 rfl dX9_longestBehind_14 fX9_15 (by first | rfl | assumption | exact rowS hh | exact mtS hm | exact ruS hr | exact mtA1 hm | exact mtA2 hm | exact mtA3 hm | exact mtA4 hm | exact mtA5 hm | exact mtA6 hm | exact mtA7 hm | exact ruA1 hr | exact ruA2 hr | exact ruA3 hr) rfl (by first | rfl | assumption | exact mtR0 hm | exact mtR1 hm | exact mtR2 hm | exact mtR3 hm | exact mtR4 hm | exact mtR5 hm | exact mtR6 hm | exact ruR0 hr | exact ruR1 hr | exact ruR3 hr) ?_
      refine pw_getI 20 rfl dX9_longestBehind_17 fX9_23 (by first | rfl | assumption | exact rowS hh | exact mtS hm | exact ruS hr | exact mtA1 hm | exact mtA2 hm | exact mtA3 hm | exact mtA4 hm | exact mtA5 hm | exact mtA6 hm | exact mtA7 hm | exact ruA1 hr | exact ruA2 hr | exact ruA3 hr) rfl ?_
      refine pw_icmp_ge (tgt := 83) 23 rfl dX9_longestBehind_20 rfl (fun h20 => absurd h20 (by rw [hn]; (simp (disch := omega) only [nI_leI, nI_ltI, nI_eq, show (0 : Int32) = nI 0 from rfl, not_true_eq_false, not_false_eq_true] <;> omega))) (fun h20 => ?_)
      refine pw_aload_n 24 rfl dX9_longestBehind_23 rfl ?_
      refine pw_getR 27 rfl dX9_longestBehind_24 fX9_15 (by first | rfl | assumption | exact rowS hh | exact mtS hm | exact ruS hr | exact mtA1 hm | exact mtA2 hm | exact mtA3 hm | exact mtA4 hm | exact mtA5 hm | exact mtA6 hm | exact mtA7 hm | exact ruA1 hr | exact ruA2 hr | exact ruA3 hr) rfl (by first | rfl | assumption | exact mtR0 hm | exact mtR1 hm | exact mtR2 hm | exact mtR3 hm | exact mtR4 hm | exact mtR5 hm | exact mtR6 hm | exact ruR0 hr | exact ruR1 hr | exact ruR3 hr) ?_
      refine pw_iload_n 28 rfl dX9_longestBehind_27 rfl ?_
      refine pw_callVP (as := [_]) 31 rfl dX9_longestBehind_28 mX9_79 vX1_has (x_has (d := d) (Or.inl rfl) hn h7 _) (by first | rfl | assumption | exact rowS hh | exact mtS hm | exact ruS hr | exact mtA1 hm | exact mtA2 hm | exact mtA3 hm | exact mtA4 hm | exact mtA5 hm | exact mtA6 hm | exact mtA7 hm | exact ruA1 hr | exact ruA2 hr | exact ruA3 hr) rfl (by decide) ⟨rfl, by decide, by decide, show (parseMethodDescriptor yX1_has.desc).map (fun d => d.parameters.length) = some 1 by decide +kernel⟩ (by omega) (by decide) (Nat.le_of_ble_eq_true rfl) rfl ?_
      refine pw_if_eq (tgt := 77) 34 rfl dX9_longestBehind_31 rfl (fun h31 => absurd h31 (by rw [hasV_y hw h7]; decide)) (fun h31 => ?_)
      refine pw_aload_n 35 rfl dX9_longestBehind_34 rfl ?_
      refine pw_getR 38 rfl dX9_longestBehind_35 fX9_15 (by first | rfl | assumption | exact rowS hh | exact mtS hm | exact ruS hr | exact mtA1 hm | exact mtA2 hm | exact mtA3 hm | exact mtA4 hm | exact mtA5 hm | exact mtA6 hm | exact mtA7 hm | exact ruA1 hr | exact ruA2 hr | exact ruA3 hr) rfl (by first | rfl | assumption | exact mtR0 hm | exact mtR1 hm | exact mtR2 hm | exact mtR3 hm | exact mtR4 hm | exact mtR5 hm | exact mtR6 hm | exact ruR0 hr | exact ruR1 hr | exact ruR3 hr) ?_
      refine pw_iload_n 39 rfl dX9_longestBehind_38 rfl ?_
      refine pw_callVP (as := [_]) 42 rfl dX9_longestBehind_39 mX9_79 vX1_has (x_has (d := d) (Or.inl rfl) hn h7 _) (by first | rfl | assumption | exact rowS hh | exact mtS hm | exact ruS hr | exact mtA1 hm | exact mtA2 hm | exact mtA3 hm | exact mtA4 hm | exact mtA5 hm | exact mtA6 hm | exact mtA7 hm | exact ruA1 hr | exact ruA2 hr | exact ruA3 hr) rfl (by decide) ⟨rfl, by decide, by decide, show (parseMethodDescriptor yX1_has.desc).map (fun d => d.parameters.length) = some 1 by decide +kernel⟩ (by omega) (by decide) (Nat.le_of_ble_eq_true rfl) rfl ?_
      refine pw_if_eq (tgt := 77) 45 rfl dX9_longestBehind_42 rfl (fun h42 => absurd h42 (by rw [hasV_y (by omega) h7]; decide)) (fun h42 => ?_)
      refine pw_aload_n 46 rfl dX9_longestBehind_45 rfl ?_
      refine pw_getR 49 rfl dX9_longestBehind_46 fX9_15 (by first | rfl | assumption | exact rowS hh | exact mtS hm | exact ruS hr | exact mtA1 hm | exact mtA2 hm | exact mtA3 hm | exact mtA4 hm | exact mtA5 hm | exact mtA6 hm | exact mtA7 hm | exact ruA1 hr | exact ruA2 hr | exact ruA3 hr) rfl (by first | rfl | assumption | exact mtR0 hm | exact mtR1 hm | exact mtR2 hm | exact mtR3 hm | exact mtR4 hm | exact mtR5 hm | exact mtR6 hm | exact ruR0 hr | exact ruR1 hr | exact ruR3 hr) ?_
      refine pw_getR 52 rfl dX9_longestBehind_49 fX9_29 (by first | rfl | assumption | exact rowS hh | exact mtS hm | exact ruS hr | exact mtA1 hm | exact mtA2 hm | exact mtA3 hm | exact mtA4 hm | exact mtA5 hm | exact mtA6 hm | exact mtA7 hm | exact ruA1 hr | exact ruA2 hr | exact ruA3 hr) rfl (by first | rfl | assumption | exact mtR0 hm | exact mtR1 hm | exact mtR2 hm | exact mtR3 hm | exact mtR4 hm | exact mtR5 hm | exact mtR6 hm | exact ruR0 hr | exact ruR1 hr | exact ruR3 hr) ?_
      refine pw_iload_n 53 rfl dX9_longestBehind_52 rfl ?_
      refine pw_ialdN 54 rfl dX9_longestBehind_53 (by first | rfl | assumption | exact rowS hh | exact mtS hm | exact ruS hr | exact mtA1 hm | exact mtA2 hm | exact mtA3 hm | exact mtA4 hm | exact mtA5 hm | exact mtA6 hm | exact mtA7 hm | exact ruA1 hr | exact ruA2 hr | exact ruA3 hr) (by omega) (by decide) ?_
      refine pw_aload_n 55 rfl dX9_longestBehind_54 rfl ?_
      refine pw_getR 58 rfl dX9_longestBehind_55 fX9_15 (by first | rfl | assumption | exact rowS hh | exact mtS hm | exact ruS hr | exact mtA1 hm | exact mtA2 hm | exact mtA3 hm | exact mtA4 hm | exact mtA5 hm | exact mtA6 hm | exact mtA7 hm | exact ruA1 hr | exact ruA2 hr | exact ruA3 hr) rfl (by first | rfl | assumption | exact mtR0 hm | exact mtR1 hm | exact mtR2 hm | exact mtR3 hm | exact mtR4 hm | exact mtR5 hm | exact mtR6 hm | exact ruR0 hr | exact ruR1 hr | exact ruR3 hr) ?_
      refine pw_getR 61 rfl dX9_longestBehind_58 fX9_29 (by first | rfl | assumption | exact rowS hh | exact mtS hm | exact ruS hr | exact mtA1 hm | exact mtA2 hm | exact mtA3 hm | exact mtA4 hm | exact mtA5 hm | exact mtA6 hm | exact mtA7 hm | exact ruA1 hr | exact ruA2 hr | exact ruA3 hr) rfl (by first | rfl | assumption | exact mtR0 hm | exact mtR1 hm | exact mtR2 hm | exact mtR3 hm | exact mtR4 hm | exact mtR5 hm | exact mtR6 hm | exact ruR0 hr | exact ruR1 hr | exact ruR3 hr) ?_
      refine pw_iload_n 62 rfl dX9_longestBehind_61 rfl ?_
      refine pw_ialdN 63 rfl dX9_longestBehind_62 (by first | rfl | assumption | exact rowS hh | exact mtS hm | exact ruS hr | exact mtA1 hm | exact mtA2 hm | exact mtA3 hm | exact mtA4 hm | exact mtA5 hm | exact mtA6 hm | exact mtA7 hm | exact ruA1 hr | exact ruA2 hr | exact ruA3 hr) (by omega) (by decide) ?_
      refine pw_icmp_le (tgt := 77) 66 rfl dX9_longestBehind_63 rfl (fun h63 => absurd h63 (by rw [e1, e2]; (simp (disch := omega) only [nI_leI, nI_ltI, nI_eq, show (0 : Int32) = nI 0 from rfl, not_true_eq_false, not_false_eq_true] <;> omega))) (fun h63 => ?_)
      refine pw_iload_n 67 rfl dX9_longestBehind_66 rfl ?_
      refine pw_aload_n 68 rfl dX9_longestBehind_67 rfl ?_
      refine pw_getR 71 rfl dX9_longestBehind_68 fX9_9 (by first | rfl | assumption | exact rowS hh | exact mtS hm | exact ruS hr | exact mtA1 hm | exact mtA2 hm | exact mtA3 hm | exact mtA4 hm | exact mtA5 hm | exact mtA6 hm | exact mtA7 hm | exact ruA1 hr | exact ruA2 hr | exact ruA3 hr) rfl (by first | rfl | assumption | exact mtR0 hm | exact mtR1 hm | exact mtR2 hm | exact mtR3 hm | exact mtR4 hm | exact mtR5 hm | exact mtR6 hm | exact ruR0 hr | exact ruR1 hr | exact ruR3 hr) ?_
      refine pw_iload_n 72 rfl dX9_longestBehind_71 rfl ?_
      refine pw_ialdN 73 rfl dX9_longestBehind_72 (by first | rfl | assumption | exact rowS hh | exact mtS hm | exact ruS hr | exact mtA1 hm | exact mtA2 hm | exact mtA3 hm | exact mtA4 hm | exact mtA5 hm | exact mtA6 hm | exact mtA7 hm | exact ruA1 hr | exact ruA2 hr | exact ruA3 hr) (by omega) (by decide) ?_
      refine pw_mmax 76 rfl dX9_longestBehind_73 mX9_70 (Nat.le_of_ble_eq_true rfl) ?_
      rotate_left
      rw [hf (w + 1 + j) (by omega) (by omega), nI_max (by omega) (by omega)]
      refine pw_istore_n 77 rfl dX9_longestBehind_76 (by decide) ?_
      refine pw_iincN 80 rfl dX9_longestBehind_77 (by decide) rfl ?_
      refine pw_goto (tgt := 6) dX9_longestBehind_80 rfl ?_
      rotate_left
      exact ih
    · rw [if_neg hp] at ih
      refine pw_iload_n 7 rfl dX9_longestBehind_6 rfl ?_
      refine pw_bipush (v := nI 7) 9 rfl dX9_longestBehind_7 rfl ?_
      refine pw_icmp_ge (tgt := 83) 12 rfl dX9_longestBehind_9 rfl (fun h9 => absurd h9 (by (simp (disch := omega) only [nI_leI, nI_ltI, nI_eq, show (0 : Int32) = nI 0 from rfl, not_true_eq_false, not_false_eq_true] <;> omega))) (fun h9 => ?_)
      refine pw_iload_n 13 rfl dX9_longestBehind_12 rfl ?_
      refine pw_aload_n 14 rfl dX9_longestBehind_13 rfl ?_
      refine pw_getR 17 rfl dX9_longestBehind_14 fX9_15 (by first | rfl | assumption | exact rowS hh | exact mtS hm | exact ruS hr | exact mtA1 hm | exact mtA2 hm | exact mtA3 hm | exact mtA4 hm | exact mtA5 hm | exact mtA6 hm | exact mtA7 hm | exact ruA1 hr | exact ruA2 hr | exact ruA3 hr) rfl (by first | rfl | assumption | exact mtR0 hm | exact mtR1 hm | exact mtR2 hm | exact mtR3 hm | exact mtR4 hm | exact mtR5 hm | exact mtR6 hm | exact ruR0 hr | exact ruR1 hr | exact ruR3 hr) ?_
      refine pw_getI 20 rfl dX9_longestBehind_17 fX9_23 (by first | rfl | assumption | exact rowS hh | exact mtS hm | exact ruS hr | exact mtA1 hm | exact mtA2 hm | exact mtA3 hm | exact mtA4 hm | exact mtA5 hm | exact mtA6 hm | exact mtA7 hm | exact ruA1 hr | exact ruA2 hr | exact ruA3 hr) rfl ?_
      refine pw_icmp_ge (tgt := 83) 23 rfl dX9_longestBehind_20 rfl (fun h20 => absurd h20 (by rw [hn]; (simp (disch := omega) only [nI_leI, nI_ltI, nI_eq, show (0 : Int32) = nI 0 from rfl, not_true_eq_false, not_false_eq_true] <;> omega))) (fun h20 => ?_)
      refine pw_aload_n 24 rfl dX9_longestBehind_23 rfl ?_
      refine pw_getR 27 rfl dX9_longestBehind_24 fX9_15 (by first | rfl | assumption | exact rowS hh | exact mtS hm | exact ruS hr | exact mtA1 hm | exact mtA2 hm | exact mtA3 hm | exact mtA4 hm | exact mtA5 hm | exact mtA6 hm | exact mtA7 hm | exact ruA1 hr | exact ruA2 hr | exact ruA3 hr) rfl (by first | rfl | assumption | exact mtR0 hm | exact mtR1 hm | exact mtR2 hm | exact mtR3 hm | exact mtR4 hm | exact mtR5 hm | exact mtR6 hm | exact ruR0 hr | exact ruR1 hr | exact ruR3 hr) ?_
      refine pw_iload_n 28 rfl dX9_longestBehind_27 rfl ?_
      refine pw_callVP (as := [_]) 31 rfl dX9_longestBehind_28 mX9_79 vX1_has (x_has (d := d) (Or.inl rfl) hn h7 _) (by first | rfl | assumption | exact rowS hh | exact mtS hm | exact ruS hr | exact mtA1 hm | exact mtA2 hm | exact mtA3 hm | exact mtA4 hm | exact mtA5 hm | exact mtA6 hm | exact mtA7 hm | exact ruA1 hr | exact ruA2 hr | exact ruA3 hr) rfl (by decide) ⟨rfl, by decide, by decide, show (parseMethodDescriptor yX1_has.desc).map (fun d => d.parameters.length) = some 1 by decide +kernel⟩ (by omega) (by decide) (Nat.le_of_ble_eq_true rfl) rfl ?_
      refine pw_if_eq (tgt := 77) 34 rfl dX9_longestBehind_31 rfl (fun h31 => absurd h31 (by rw [hasV_y hw h7]; decide)) (fun h31 => ?_)
      refine pw_aload_n 35 rfl dX9_longestBehind_34 rfl ?_
      refine pw_getR 38 rfl dX9_longestBehind_35 fX9_15 (by first | rfl | assumption | exact rowS hh | exact mtS hm | exact ruS hr | exact mtA1 hm | exact mtA2 hm | exact mtA3 hm | exact mtA4 hm | exact mtA5 hm | exact mtA6 hm | exact mtA7 hm | exact ruA1 hr | exact ruA2 hr | exact ruA3 hr) rfl (by first | rfl | assumption | exact mtR0 hm | exact mtR1 hm | exact mtR2 hm | exact mtR3 hm | exact mtR4 hm | exact mtR5 hm | exact mtR6 hm | exact ruR0 hr | exact ruR1 hr | exact ruR3 hr) ?_
      refine pw_iload_n 39 rfl dX9_longestBehind_38 rfl ?_
      refine pw_callVP (as := [_]) 42 rfl dX9_longestBehind_39 mX9_79 vX1_has (x_has (d := d) (Or.inl rfl) hn h7 _) (by first | rfl | assumption | exact rowS hh | exact mtS hm | exact ruS hr | exact mtA1 hm | exact mtA2 hm | exact mtA3 hm | exact mtA4 hm | exact mtA5 hm | exact mtA6 hm | exact mtA7 hm | exact ruA1 hr | exact ruA2 hr | exact ruA3 hr) rfl (by decide) ⟨rfl, by decide, by decide, show (parseMethodDescriptor yX1_has.desc).map (fun d => d.parameters.length) = some 1 by decide +kernel⟩ (by omega) (by decide) (Nat.le_of_ble_eq_true rfl) rfl ?_
      refine pw_if_eq (tgt := 77) 45 rfl dX9_longestBehind_42 rfl (fun h42 => absurd h42 (by rw [hasV_y (by omega) h7]; decide)) (fun h42 => ?_)
      refine pw_aload_n 46 rfl dX9_longestBehind_45 rfl ?_
      refine pw_getR 49 rfl dX9_longestBehind_46 fX9_15 (by first | rfl | assumption | exact rowS hh | exact mtS hm | exact ruS hr | exact mtA1 hm | exact mtA2 hm | exact mtA3 hm | exact mtA4 hm | exact mtA5 hm | exact mtA6 hm | exact mtA7 hm | exact ruA1 hr | exact ruA2 hr | exact ruA3 hr) rfl (by first | rfl | assumption | exact mtR0 hm | exact mtR1 hm | exact mtR2 hm | exact mtR3 hm | exact mtR4 hm | exact mtR5 hm | exact mtR6 hm | exact ruR0 hr | exact ruR1 hr | exact ruR3 hr) ?_
      refine pw_getR 52 rfl dX9_longestBehind_49 fX9_29 (by first | rfl | assumption | exact rowS hh | exact mtS hm | exact ruS hr | exact mtA1 hm | exact mtA2 hm | exact mtA3 hm | exact mtA4 hm | exact mtA5 hm | exact mtA6 hm | exact mtA7 hm | exact ruA1 hr | exact ruA2 hr | exact ruA3 hr) rfl (by first | rfl | assumption | exact mtR0 hm | exact mtR1 hm | exact mtR2 hm | exact mtR3 hm | exact mtR4 hm | exact mtR5 hm | exact mtR6 hm | exact ruR0 hr | exact ruR1 hr | exact ruR3 hr) ?_
      refine pw_iload_n 53 rfl dX9_longestBehind_52 rfl ?_
      refine pw_ialdN 54 rfl dX9_longestBehind_53 (by first | rfl | assumption | exact rowS hh | exact mtS hm | exact ruS hr | exact mtA1 hm | exact mtA2 hm | exact mtA3 hm | exact mtA4 hm | exact mtA5 hm | exact mtA6 hm | exact mtA7 hm | exact ruA1 hr | exact ruA2 hr | exact ruA3 hr) (by omega) (by decide) ?_
      refine pw_aload_n 55 rfl dX9_longestBehind_54 rfl ?_
      refine pw_getR 58 rfl dX9_longestBehind_55 fX9_15 (by first | rfl | assumption | exact rowS hh | exact mtS hm | exact ruS hr | exact mtA1 hm | exact mtA2 hm | exact mtA3 hm | exact mtA4 hm | exact mtA5 hm | exact mtA6 hm | exact mtA7 hm | exact ruA1 hr | exact ruA2 hr | exact ruA3 hr) rfl (by first | rfl | assumption | exact mtR0 hm | exact mtR1 hm | exact mtR2 hm | exact mtR3 hm | exact mtR4 hm | exact mtR5 hm | exact mtR6 hm | exact ruR0 hr | exact ruR1 hr | exact ruR3 hr) ?_
      refine pw_getR 61 rfl dX9_longestBehind_58 fX9_29 (by first | rfl | assumption | exact rowS hh | exact mtS hm | exact ruS hr | exact mtA1 hm | exact mtA2 hm | exact mtA3 hm | exact mtA4 hm | exact mtA5 hm | exact mtA6 hm | exact mtA7 hm | exact ruA1 hr | exact ruA2 hr | exact ruA3 hr) rfl (by first | rfl | assumption | exact mtR0 hm | exact mtR1 hm | exact mtR2 hm | exact mtR3 hm | exact mtR4 hm | exact mtR5 hm | exact mtR6 hm | exact ruR0 hr | exact ruR1 hr | exact ruR3 hr) ?_
      refine pw_iload_n 62 rfl dX9_longestBehind_61 rfl ?_
      refine pw_ialdN 63 rfl dX9_longestBehind_62 (by first | rfl | assumption | exact rowS hh | exact mtS hm | exact ruS hr | exact mtA1 hm | exact mtA2 hm | exact mtA3 hm | exact mtA4 hm | exact mtA5 hm | exact mtA6 hm | exact mtA7 hm | exact ruA1 hr | exact ruA2 hr | exact ruA3 hr) (by omega) (by decide) ?_
      refine pw_icmp_le (tgt := 77) 66 rfl dX9_longestBehind_63 rfl (fun h63 => ?_) (fun h63 => absurd (by rw [e1, e2]; (simp (disch := omega) only [nI_leI, nI_ltI, nI_eq, show (0 : Int32) = nI 0 from rfl, not_true_eq_false, not_false_eq_true] <;> omega)) h63)
      refine pw_iincN 80 rfl dX9_longestBehind_77 (by decide) rfl ?_
      refine pw_goto (tgt := 6) dX9_longestBehind_80 rfl ?_
      rotate_left
      exact ih
/-- the row of the rope: told so far, one more than the last height, how many are left -/
def rpS (T b : Nat → Nat) (L : Nat) : Nat → List Int64 × Nat × Nat
  | 0 => ([], 0, L)
  | i + 1 => if 0 < (rpS T b L i).2.2 ∧ T i = (rpS T b L i).2.2 ∧ (rpS T b L i).2.1 ≤ b i then (nadd (rpS T b L i).1 (lI i), b i + 1, (rpS T b L i).2.2 - 1) else rpS T b L i
theorem rpS_y {T b : Nat → Nat} {L i : Nat} (h : 0 < (rpS T b L i).2.2 ∧ T i = (rpS T b L i).2.2 ∧ (rpS T b L i).2.1 ≤ b i) : rpS T b L (i + 1) = (nadd (rpS T b L i).1 (lI i), b i + 1, (rpS T b L i).2.2 - 1) := if_pos h
theorem rpS_n {T b : Nat → Nat} {L i : Nat} (h : ¬ (0 < (rpS T b L i).2.2 ∧ T i = (rpS T b L i).2.2 ∧ (rpS T b L i).2.1 ≤ b i)) : rpS T b L (i + 1) = rpS T b L i := if_neg h
theorem rpS_le {T b : Nat → Nat} {L : Nat} : ∀ i, (rpS T b L i).2.2 ≤ L
  | 0 => Nat.le_refl _
  | i + 1 => by
    have ih := rpS_le (T := T) (b := b) (L := L) i
    by_cases h : 0 < (rpS T b L i).2.2 ∧ T i = (rpS T b L i).2.2 ∧ (rpS T b L i).2.1 ≤ b i
    · rw [rpS_y h]
      show (rpS T b L i).2.2 - 1 ≤ L
      omega
    · rw [rpS_n h]; exact ih
theorem rpS_b {T b : Nat → Nat} {L M : Nat} : ∀ i, (∀ j, j < i → b j ≤ M) → (rpS T b L i).2.1 ≤ M + 1
  | 0, _ => Nat.zero_le _
  | i + 1, hb => by
    have ih := rpS_b (T := T) (L := L) i (fun j hj => hb j (by omega))
    by_cases h : 0 < (rpS T b L i).2.2 ∧ T i = (rpS T b L i).2.2 ∧ (rpS T b L i).2.1 ≤ b i
    · rw [rpS_y h]
      have := hb i (by omega)
      show b i + 1 ≤ M + 1
      omega
    · rw [rpS_n h]; exact ih
def belV (x : Nat) : Int32 := if x = 0 then -1 else nI (x - 1)
theorem belV_le {x y : Nat} (hx : x ≤ 100) (hy : y ≤ 100) : nI y ≤ belV x ↔ y < x := by
  unfold belV
  by_cases h : x = 0
  · rw [if_pos h, Int32.le_iff_toInt_le, nI_toInt (by omega)]
    rw [show (-1 : Int32).toInt = -1 from by decide]
    omega
  · rw [if_neg h, nI_leI (by omega) (by omega)]
    omega
set_option maxRecDepth 100000 in
set_option maxHeartbeats 2000000 in
theorem x_longestRope {d n : Nat} {pc b : Nat → Nat} {I : pI} {J : pJ} (hM : XM I 1 n pc b) (hW : WF n pc b) : PC SX (d + 2) yX9_longestRope cX9_longestRope 5 (some .int) [.ref 60] (I) (J) (RX) (fun r' I' J' R' => r' = some (.int (nI (rpM n b n))) ∧ XN I' J' (rpS (rpT n b n) b (rpM n b n) n).1 ∧ fS I I' ∧ R' = RX) := by
  refine PC.of [some (.ref 60), none, none, none, none] rfl rfl (Nat.le_of_ble_eq_true rfl) ?_
  have h7 := hW.1
  have hn := hM.2.1
  have ht := hW.2.1
  have hmn := rpM_le n b n
  have sub1 : ∀ x : Int32, x - nI 1 = x + Int32.ofInt (-1) := fun x => by rw [Int32.sub_eq_add_neg]; rfl
  have second : ∀ (I' : pI) (x2 x3 x4 : Option Value), (∀ i, i < n → I' 61 i = nI (rpT n b n i)) → (∀ a, a ≠ 61 → I' a = I a) → PW SX yX9_longestRope.cls cX9_longestRope 5 (d + 2) 51 [some (.ref 60), some (.int (nI (rpM n b n))), x2, x3, x4] [] (I') (J) (RX) (rX cX9_longestRope (some .int) (fun r' I' J' R' => r' = some (.int (nI (rpM n b n))) ∧ XN I' J' (rpS (rpT n b n) b (rpM n b n) n).1 ∧ fS I I' ∧ R' = RX)) := by
    intro I' x2 x3 x4 g1 g2
    refine pw_aload_n 52 rfl dX9_longestRope_51 rfl ?_
    refine pw_getR 55 rfl dX9_longestRope_52 fX9_19 (by first | rfl | assumption | exact rowS hh | exact mtS hm | exact ruS hr | exact mtA1 hm | exact mtA2 hm | exact mtA3 hm | exact mtA4 hm | exact mtA5 hm | exact mtA6 hm | exact mtA7 hm | exact ruA1 hr | exact ruA2 hr | exact ruA3 hr) rfl (by first | rfl | assumption | exact mtR0 hm | exact mtR1 hm | exact mtR2 hm | exact mtR3 hm | exact mtR4 hm | exact mtR5 hm | exact mtR6 hm | exact ruR0 hr | exact ruR1 hr | exact ruR3 hr) ?_
    refine pw_callV (as := []) 58 rfl dX9_longestRope_55 mX9_73 vX2_clear (x_clear (d := d)) (by first | rfl | assumption | exact rowS hh | exact mtS hm | exact ruS hr | exact mtA1 hm | exact mtA2 hm | exact mtA3 hm | exact mtA4 hm | exact mtA5 hm | exact mtA6 hm | exact mtA7 hm | exact ruA1 hr | exact ruA2 hr | exact ruA3 hr) rfl (by decide) ⟨rfl, by decide, by decide, show (parseMethodDescriptor yX2_clear.desc).map (fun d => d.parameters.length) = some 0 by decide +kernel⟩ (by omega) (by decide) (Nat.le_of_ble_eq_true rfl) rfl (fun r55 I55 J55 R55 c55 => ?_)
    obtain ⟨rfl, k1, k2, rfl⟩ := c55
    refine pw_iload_n 59 rfl dX9_longestRope_58 rfl ?_
    refine pw_istore_n 60 rfl dX9_longestRope_59 (by decide) ?_
    refine pw_iconst (v := -1) 61 rfl dX9_longestRope_60 rfl ?_
    refine pw_istore_n 62 rfl dX9_longestRope_61 (by decide) ?_
    refine pw_iconst (v := nI 0) 63 rfl dX9_longestRope_62 rfl ?_
    refine pw_istore 65 rfl dX9_longestRope_63 (by decide) ?_
    rotate_left
    have L := nat_loop n (fun i => ∀ (I2 : pI) (J2 : pJ), XN I2 J2 (rpS (rpT n b n) b (rpM n b n) i).1 → (∀ a, a ≠ 19 → I2 a = I' a) → PW SX yX9_longestRope.cls cX9_longestRope 5 (d + 2) 65 [some (.ref 60), some (.int (nI (rpM n b n))), some (.int (nI (rpS (rpT n b n) b (rpM n b n) i).2.2)), some (.int (belV (rpS (rpT n b n) b (rpM n b n) i).2.1)), some (.int (nI i))] [] (I2) (J2) (RX) (rX cX9_longestRope (some .int) (fun r' I' J' R' => r' = some (.int (nI (rpM n b n))) ∧ XN I' J' (rpS (rpT n b n) b (rpM n b n) n).1 ∧ fS I I' ∧ R' = RX))) ?_ ?_
    · exact L _ _ k1 k2
    · intro I2 J2 p1 p2
      refine pw_iload 67 rfl dX9_longestRope_65 rfl ?_
      refine pw_bipush (v := nI 7) 69 rfl dX9_longestRope_67 rfl ?_
      refine pw_icmp_ge (tgt := 143) 72 rfl dX9_longestRope_69 rfl (fun h69 => ?_) (fun h69 => ?_)
      refine pw_iload_n 144 rfl dX9_longestRope_143 rfl ?_
      refine pw_iret dX9_longestRope_144 rfl ?_
      rotate_left
      refine pw_iload 74 rfl dX9_longestRope_72 rfl ?_
      refine pw_aload_n 75 rfl dX9_longestRope_74 rfl ?_
      refine pw_getR 78 rfl dX9_longestRope_75 fX9_15 (by first | rfl | assumption | exact rowS hh | exact mtS hm | exact ruS hr | exact mtA1 hm | exact mtA2 hm | exact mtA3 hm | exact mtA4 hm | exact mtA5 hm | exact mtA6 hm | exact mtA7 hm | exact ruA1 hr | exact ruA2 hr | exact ruA3 hr) rfl (by first | rfl | assumption | exact mtR0 hm | exact mtR1 hm | exact mtR2 hm | exact mtR3 hm | exact mtR4 hm | exact mtR5 hm | exact mtR6 hm | exact ruR0 hr | exact ruR1 hr | exact ruR3 hr) ?_
      refine pw_getI 81 rfl dX9_longestRope_78 fX9_23 (by first | rfl | assumption | exact rowS hh | exact mtS hm | exact ruS hr | exact mtA1 hm | exact mtA2 hm | exact mtA3 hm | exact mtA4 hm | exact mtA5 hm | exact mtA6 hm | exact mtA7 hm | exact ruA1 hr | exact ruA2 hr | exact ruA3 hr) rfl ?_
      refine pw_icmp_ge (tgt := 143) 84 rfl dX9_longestRope_81 rfl (fun h81 => ?_) (fun h81 => absurd (by rw [p2 1 (by omega), g2 1 (by omega), hn]; (simp (disch := omega) only [nI_leI, nI_ltI, nI_eq, show (0 : Int32) = nI 0 from rfl, not_true_eq_false, not_false_eq_true] <;> omega)) h81)
      refine pw_iload_n 144 rfl dX9_longestRope_143 rfl ?_
      refine pw_iret dX9_longestRope_144 rfl ?_
      rotate_left
      · exact ⟨rfl, p1, fun a h1 h2 => by rw [p2 a h1, g2 a h2], rfl⟩
      · exact ⟨rfl, p1, fun a h1 h2 => by rw [p2 a h1, g2 a h2], rfl⟩
    · intro i hi ih I2 J2 p1 p2
      have hb := hW.2.2.2.2 i (by omega)
      have e1 : I2 3 i = nI (b i) := by rw [p2 3 (by omega), g2 3 (by omega)]; exact (hM.2.2.2.2.2.2 i (by omega)).2.1
      have e2 : I2 61 i = nI (rpT n b n i) := by rw [p2 61 (by omega)]; exact g1 i hi
      have l1 := rpS_le (T := rpT n b n) (b := b) (L := rpM n b n) i
      have l2 := rpS_b (T := rpT n b n) (b := b) (L := rpM n b n) (M := 9) i (fun j hj => by have := hW.2.2.2.2 j (by omega); omega)
      have l3 := rpT_le n b n i
      by_cases c1 : 0 < (rpS (rpT n b n) b (rpM n b n) i).2.2
      · by_cases c2 : rpT n b n i = (rpS (rpT n b n) b (rpM n b n) i).2.2
        · by_cases c3 : (rpS (rpT n b n) b (rpM n b n) i).2.1 ≤ b i
          · rw [rpS_y ⟨c1, c2, c3⟩] at ih
            refine pw_iload 67 rfl dX9_longestRope_65 rfl ?_
            refine pw_bipush (v := nI 7) 69 rfl dX9_longestRope_67 rfl ?_
            refine pw_icmp_ge (tgt := 143) 72 rfl dX9_longestRope_69 rfl (fun h69 => absurd h69 (by (simp (disch := omega) only [nI_leI, nI_ltI, nI_eq, show (0 : Int32) = nI 0 from rfl, not_true_eq_false, not_false_eq_true] <;> omega))) (fun h69 => ?_)
            refine pw_iload 74 rfl dX9_longestRope_72 rfl ?_
            refine pw_aload_n 75 rfl dX9_longestRope_74 rfl ?_
            refine pw_getR 78 rfl dX9_longestRope_75 fX9_15 (by first | rfl | assumption | exact rowS hh | exact mtS hm | exact ruS hr | exact mtA1 hm | exact mtA2 hm | exact mtA3 hm | exact mtA4 hm | exact mtA5 hm | exact mtA6 hm | exact mtA7 hm | exact ruA1 hr | exact ruA2 hr | exact ruA3 hr) rfl (by first | rfl | assumption | exact mtR0 hm | exact mtR1 hm | exact mtR2 hm | exact mtR3 hm | exact mtR4 hm | exact mtR5 hm | exact mtR6 hm | exact ruR0 hr | exact ruR1 hr | exact ruR3 hr) ?_
            refine pw_getI 81 rfl dX9_longestRope_78 fX9_23 (by first | rfl | assumption | exact rowS hh | exact mtS hm | exact ruS hr | exact mtA1 hm | exact mtA2 hm | exact mtA3 hm | exact mtA4 hm | exact mtA5 hm | exact mtA6 hm | exact mtA7 hm | exact ruA1 hr | exact ruA2 hr | exact ruA3 hr) rfl ?_
            refine pw_icmp_ge (tgt := 143) 84 rfl dX9_longestRope_81 rfl (fun h81 => absurd h81 (by rw [p2 1 (by omega), g2 1 (by omega), hn]; (simp (disch := omega) only [nI_leI, nI_ltI, nI_eq, show (0 : Int32) = nI 0 from rfl, not_true_eq_false, not_false_eq_true] <;> omega))) (fun h81 => ?_)
            refine pw_iload_n 85 rfl dX9_longestRope_84 rfl ?_
            refine pw_if_le (tgt := 137) 88 rfl dX9_longestRope_85 rfl (fun h85 => absurd h85 (nI_nle c1 (by omega))) (fun h85 => ?_)
            refine pw_aload_n 89 rfl dX9_longestRope_88 rfl ?_
            refine pw_getR 92 rfl dX9_longestRope_89 fX9_9 (by first | rfl | assumption | exact rowS hh | exact mtS hm | exact ruS hr | exact mtA1 hm | exact mtA2 hm | exact mtA3 hm | exact mtA4 hm | exact mtA5 hm | exact mtA6 hm | exact mtA7 hm | exact ruA1 hr | exact ruA2 hr | exact ruA3 hr) rfl (by first | rfl | assumption | exact mtR0 hm | exact mtR1 hm | exact mtR2 hm | exact mtR3 hm | exact mtR4 hm | exact mtR5 hm | exact mtR6 hm | exact ruR0 hr | exact ruR1 hr | exact ruR3 hr) ?_
            refine pw_iload 94 rfl dX9_longestRope_92 rfl ?_
            refine pw_ialdN 95 rfl dX9_longestRope_94 (by first | rfl | assumption | exact rowS hh | exact mtS hm | exact ruS hr | exact mtA1 hm | exact mtA2 hm | exact mtA3 hm | exact mtA4 hm | exact mtA5 hm | exact mtA6 hm | exact mtA7 hm | exact ruA1 hr | exact ruA2 hr | exact ruA3 hr) (by omega) (by decide) ?_
            refine pw_iload_n 96 rfl dX9_longestRope_95 rfl ?_
            refine pw_icmp_ne (tgt := 137) 99 rfl dX9_longestRope_96 rfl (fun h96 => absurd (by rw [e2, c2]) h96) (fun h96 => ?_)
            refine pw_aload_n 100 rfl dX9_longestRope_99 rfl ?_
            refine pw_getR 103 rfl dX9_longestRope_100 fX9_15 (by first | rfl | assumption | exact rowS hh | exact mtS hm | exact ruS hr | exact mtA1 hm | exact mtA2 hm | exact mtA3 hm | exact mtA4 hm | exact mtA5 hm | exact mtA6 hm | exact mtA7 hm | exact ruA1 hr | exact ruA2 hr | exact ruA3 hr) rfl (by first | rfl | assumption | exact mtR0 hm | exact mtR1 hm | exact mtR2 hm | exact mtR3 hm | exact mtR4 hm | exact mtR5 hm | exact mtR6 hm | exact ruR0 hr | exact ruR1 hr | exact ruR3 hr) ?_
            refine pw_getR 106 rfl dX9_longestRope_103 fX9_29 (by first | rfl | assumption | exact rowS hh | exact mtS hm | exact ruS hr | exact mtA1 hm | exact mtA2 hm | exact mtA3 hm | exact mtA4 hm | exact mtA5 hm | exact mtA6 hm | exact mtA7 hm | exact ruA1 hr | exact ruA2 hr | exact ruA3 hr) rfl (by first | rfl | assumption | exact mtR0 hm | exact mtR1 hm | exact mtR2 hm | exact mtR3 hm | exact mtR4 hm | exact mtR5 hm | exact mtR6 hm | exact ruR0 hr | exact ruR1 hr | exact ruR3 hr) ?_
            refine pw_iload 108 rfl dX9_longestRope_106 rfl ?_
            refine pw_ialdN 109 rfl dX9_longestRope_108 (by first | rfl | assumption | exact rowS hh | exact mtS hm | exact ruS hr | exact mtA1 hm | exact mtA2 hm | exact mtA3 hm | exact mtA4 hm | exact mtA5 hm | exact mtA6 hm | exact mtA7 hm | exact ruA1 hr | exact ruA2 hr | exact ruA3 hr) (by omega) (by decide) ?_
            refine pw_iload_n 110 rfl dX9_longestRope_109 rfl ?_
            refine pw_icmp_le (tgt := 137) 113 rfl dX9_longestRope_110 rfl (fun h110 => absurd h110 (by rw [e1, belV_le (by omega) (by omega)]; omega)) (fun h110 => ?_)
            refine pw_aload_n 114 rfl dX9_longestRope_113 rfl ?_
            refine pw_getR 117 rfl dX9_longestRope_114 fX9_19 (by first | rfl | assumption | exact rowS hh | exact mtS hm | exact ruS hr | exact mtA1 hm | exact mtA2 hm | exact mtA3 hm | exact mtA4 hm | exact mtA5 hm | exact mtA6 hm | exact mtA7 hm | exact ruA1 hr | exact ruA2 hr | exact ruA3 hr) rfl (by first | rfl | assumption | exact mtR0 hm | exact mtR1 hm | exact mtR2 hm | exact mtR3 hm | exact mtR4 hm | exact mtR5 hm | exact mtR6 hm | exact ruR0 hr | exact ruR1 hr | exact ruR3 hr) ?_
            refine pw_iload 119 rfl dX9_longestRope_117 rfl ?_
            refine pw_i2l 120 rfl dX9_longestRope_119 ?_
            refine pw_callV (as := [_]) 123 rfl dX9_longestRope_120 mX9_76 vX2_add (x_add (d := d) _ p1) (by first | rfl | assumption | exact rowS hh | exact mtS hm | exact ruS hr | exact mtA1 hm | exact mtA2 hm | exact mtA3 hm | exact mtA4 hm | exact mtA5 hm | exact mtA6 hm | exact mtA7 hm | exact ruA1 hr | exact ruA2 hr | exact ruA3 hr) rfl (by decide) ⟨rfl, by decide, by decide, show (parseMethodDescriptor yX2_add.desc).map (fun d => d.parameters.length) = some 1 by decide +kernel⟩ (by omega) (by decide) (Nat.le_of_ble_eq_true rfl) rfl (fun r120 I120 J120 R120 c120 => ?_)
            obtain ⟨rfl, n1, n2, rfl⟩ := c120
            refine pw_aload_n 124 rfl dX9_longestRope_123 rfl ?_
            refine pw_getR 127 rfl dX9_longestRope_124 fX9_15 (by first | rfl | assumption | exact rowS hh | exact mtS hm | exact ruS hr | exact mtA1 hm | exact mtA2 hm | exact mtA3 hm | exact mtA4 hm | exact mtA5 hm | exact mtA6 hm | exact mtA7 hm | exact ruA1 hr | exact ruA2 hr | exact ruA3 hr) rfl (by first | rfl | assumption | exact mtR0 hm | exact mtR1 hm | exact mtR2 hm | exact mtR3 hm | exact mtR4 hm | exact mtR5 hm | exact mtR6 hm | exact ruR0 hr | exact ruR1 hr | exact ruR3 hr) ?_
            refine pw_getR 130 rfl dX9_longestRope_127 fX9_29 (by first | rfl | assumption | exact rowS hh | exact mtS hm | exact ruS hr | exact mtA1 hm | exact mtA2 hm | exact mtA3 hm | exact mtA4 hm | exact mtA5 hm | exact mtA6 hm | exact mtA7 hm | exact ruA1 hr | exact ruA2 hr | exact ruA3 hr) rfl (by first | rfl | assumption | exact mtR0 hm | exact mtR1 hm | exact mtR2 hm | exact mtR3 hm | exact mtR4 hm | exact mtR5 hm | exact mtR6 hm | exact ruR0 hr | exact ruR1 hr | exact ruR3 hr) ?_
            refine pw_iload 132 rfl dX9_longestRope_130 rfl ?_
            refine pw_ialdN 133 rfl dX9_longestRope_132 (by first | rfl | assumption | exact rowS hh | exact mtS hm | exact ruS hr | exact mtA1 hm | exact mtA2 hm | exact mtA3 hm | exact mtA4 hm | exact mtA5 hm | exact mtA6 hm | exact mtA7 hm | exact ruA1 hr | exact ruA2 hr | exact ruA3 hr) (by omega) (by decide) ?_
            rotate_left
            rw [n2 3 (by omega), e1]
            refine pw_istore_n 134 rfl dX9_longestRope_133 (by decide) ?_
            refine pw_iinc 137 rfl dX9_longestRope_134 (by decide) rfl ?_
            refine pw_iincN 140 rfl dX9_longestRope_137 (by decide) rfl ?_
            refine pw_goto (tgt := 65) dX9_longestRope_140 rfl ?_
            rotate_left
            have hd : nI (rpS (rpT n b n) b (rpM n b n) i).2.2 + Int32.ofInt (-1) = nI ((rpS (rpT n b n) b (rpM n b n) i).2.2 - 1) := by
              obtain ⟨z, hz⟩ : ∃ z, (rpS (rpT n b n) b (rpM n b n) i).2.2 = z + 1 := ⟨(rpS (rpT n b n) b (rpM n b n) i).2.2 - 1, by omega⟩
              rw [hz]
              exact pk_m1 z
            rw [hd]
            exact ih _ _ n1 (fun a h => by rw [n2 a h, p2 a h])
          · rw [rpS_n (fun z => c3 z.2.2)] at ih
            refine pw_iload 67 rfl dX9_longestRope_65 rfl ?_
            refine pw_bipush (v := nI 7) 69 rfl dX9_longestRope_67 rfl ?_
            refine pw_icmp_ge (tgt := 143) 72 rfl dX9_longestRope_69 rfl (fun h69 => absurd h69 (by (simp (disch := omega) only [nI_leI, nI_ltI, nI_eq, show (0 : Int32) = nI 0 from rfl, not_true_eq_false, not_false_eq_true] <;> omega))) (fun h69 => ?_)
            refine pw_iload 74 rfl dX9_longestRope_72 rfl ?_
            refine pw_aload_n 75 rfl dX9_longestRope_74 rfl ?_
            refine pw_getR 78 rfl dX9_longestRope_75 fX9_15 (by first | rfl | assumption | exact rowS hh | exact mtS hm | exact ruS hr | exact mtA1 hm | exact mtA2 hm | exact mtA3 hm | exact mtA4 hm | exact mtA5 hm | exact mtA6 hm | exact mtA7 hm | exact ruA1 hr | exact ruA2 hr | exact ruA3 hr) rfl (by first | rfl | assumption | exact mtR0 hm | exact mtR1 hm | exact mtR2 hm | exact mtR3 hm | exact mtR4 hm | exact mtR5 hm | exact mtR6 hm | exact ruR0 hr | exact ruR1 hr | exact ruR3 hr) ?_
            refine pw_getI 81 rfl dX9_longestRope_78 fX9_23 (by first | rfl | assumption | exact rowS hh | exact mtS hm | exact ruS hr | exact mtA1 hm | exact mtA2 hm | exact mtA3 hm | exact mtA4 hm | exact mtA5 hm | exact mtA6 hm | exact mtA7 hm | exact ruA1 hr | exact ruA2 hr | exact ruA3 hr) rfl ?_
            refine pw_icmp_ge (tgt := 143) 84 rfl dX9_longestRope_81 rfl (fun h81 => absurd h81 (by rw [p2 1 (by omega), g2 1 (by omega), hn]; (simp (disch := omega) only [nI_leI, nI_ltI, nI_eq, show (0 : Int32) = nI 0 from rfl, not_true_eq_false, not_false_eq_true] <;> omega))) (fun h81 => ?_)
            refine pw_iload_n 85 rfl dX9_longestRope_84 rfl ?_
            refine pw_if_le (tgt := 137) 88 rfl dX9_longestRope_85 rfl (fun h85 => absurd h85 (nI_nle c1 (by omega))) (fun h85 => ?_)
            refine pw_aload_n 89 rfl dX9_longestRope_88 rfl ?_
            refine pw_getR 92 rfl dX9_longestRope_89 fX9_9 (by first | rfl | assumption | exact rowS hh | exact mtS hm | exact ruS hr | exact mtA1 hm | exact mtA2 hm | exact mtA3 hm | exact mtA4 hm | exact mtA5 hm | exact mtA6 hm | exact mtA7 hm | exact ruA1 hr | exact ruA2 hr | exact ruA3 hr) rfl (by first | rfl | assumption | exact mtR0 hm | exact mtR1 hm | exact mtR2 hm | exact mtR3 hm | exact mtR4 hm | exact mtR5 hm | exact mtR6 hm | exact ruR0 hr | exact ruR1 hr | exact ruR3 hr) ?_
            refine pw_iload 94 rfl dX9_longestRope_92 rfl ?_
            refine pw_ialdN 95 rfl dX9_longestRope_94 (by first | rfl | assumption | exact rowS hh | exact mtS hm | exact ruS hr | exact mtA1 hm | exact mtA2 hm | exact mtA3 hm | exact mtA4 hm | exact mtA5 hm | exact mtA6 hm | exact mtA7 hm | exact ruA1 hr | exact ruA2 hr | exact ruA3 hr) (by omega) (by decide) ?_
            refine pw_iload_n 96 rfl dX9_longestRope_95 rfl ?_
            refine pw_icmp_ne (tgt := 137) 99 rfl dX9_longestRope_96 rfl (fun h96 => absurd (by rw [e2, c2]) h96) (fun h96 => ?_)
            refine pw_aload_n 100 rfl dX9_longestRope_99 rfl ?_
            refine pw_getR 103 rfl dX9_longestRope_100 fX9_15 (by first | rfl | assumption | exact rowS hh | exact mtS hm | exact ruS hr | exact mtA1 hm | exact mtA2 hm | exact mtA3 hm | exact mtA4 hm | exact mtA5 hm | exact mtA6 hm | exact mtA7 hm | exact ruA1 hr | exact ruA2 hr | exact ruA3 hr) rfl (by first | rfl | assumption | exact mtR0 hm | exact mtR1 hm | exact mtR2 hm | exact mtR3 hm | exact mtR4 hm | exact mtR5 hm | exact mtR6 hm | exact ruR0 hr | exact ruR1 hr | exact ruR3 hr) ?_
            refine pw_getR 106 rfl dX9_longestRope_103 fX9_29 (by first | rfl | assumption | exact rowS hh | exact mtS hm | exact ruS hr | exact mtA1 hm | exact mtA2 hm | exact mtA3 hm | exact mtA4 hm | exact mtA5 hm | exact mtA6 hm | exact mtA7 hm | exact ruA1 hr | exact ruA2 hr | exact ruA3 hr) rfl (by first | rfl | assumption | exact mtR0 hm | exact mtR1 hm | exact mtR2 hm | exact mtR3 hm | exact mtR4 hm | exact mtR5 hm | exact mtR6 hm | exact ruR0 hr | exact ruR1 hr | exact ruR3 hr) ?_
            refine pw_iload 108 rfl dX9_longestRope_106 rfl ?_
            refine pw_ialdN 109 rfl dX9_longestRope_108 (by first | rfl | assumption | exact rowS hh | exact mtS hm | exact ruS hr | exact mtA1 hm | exact mtA2 hm | exact mtA3 hm | exact mtA4 hm | exact mtA5 hm | exact mtA6 hm | exact mtA7 hm | exact ruA1 hr | exact ruA2 hr | exact ruA3 hr) (by omega) (by decide) ?_
            refine pw_iload_n 110 rfl dX9_longestRope_109 rfl ?_
            refine pw_icmp_le (tgt := 137) 113 rfl dX9_longestRope_110 rfl (fun h110 => ?_) (fun h110 => absurd (by rw [e1, belV_le (by omega) (by omega)]; omega) h110)
            refine pw_iincN 140 rfl dX9_longestRope_137 (by decide) rfl ?_
            refine pw_goto (tgt := 65) dX9_longestRope_140 rfl ?_
            rotate_left
            exact ih _ _ p1 p2
        · rw [rpS_n (fun z => c2 z.2.1)] at ih
          refine pw_iload 67 rfl dX9_longestRope_65 rfl ?_
          refine pw_bipush (v := nI 7) 69 rfl dX9_longestRope_67 rfl ?_
          refine pw_icmp_ge (tgt := 143) 72 rfl dX9_longestRope_69 rfl (fun h69 => absurd h69 (by (simp (disch := omega) only [nI_leI, nI_ltI, nI_eq, show (0 : Int32) = nI 0 from rfl, not_true_eq_false, not_false_eq_true] <;> omega))) (fun h69 => ?_)
          refine pw_iload 74 rfl dX9_longestRope_72 rfl ?_
          refine pw_aload_n 75 rfl dX9_longestRope_74 rfl ?_
          refine pw_getR 78 rfl dX9_longestRope_75 fX9_15 (by first | rfl | assumption | exact rowS hh | exact mtS hm | exact ruS hr | exact mtA1 hm | exact mtA2 hm | exact mtA3 hm | exact mtA4 hm | exact mtA5 hm | exact mtA6 hm | exact mtA7 hm | exact ruA1 hr | exact ruA2 hr | exact ruA3 hr) rfl (by first | rfl | assumption | exact mtR0 hm | exact mtR1 hm | exact mtR2 hm | exact mtR3 hm | exact mtR4 hm | exact mtR5 hm | exact mtR6 hm | exact ruR0 hr | exact ruR1 hr | exact ruR3 hr) ?_
          refine pw_getI 81 rfl dX9_longestRope_78 fX9_23 (by first | rfl | assumption | exact rowS hh | exact mtS hm | exact ruS hr | exact mtA1 hm | exact mtA2 hm | exact mtA3 hm | exact mtA4 hm | exact mtA5 hm | exact mtA6 hm | exact mtA7 hm | exact ruA1 hr | exact ruA2 hr | exact ruA3 hr) rfl ?_
          refine pw_icmp_ge (tgt := 143) 84 rfl dX9_longestRope_81 rfl (fun h81 => absurd h81 (by rw [p2 1 (by omega), g2 1 (by omega), hn]; (simp (disch := omega) only [nI_leI, nI_ltI, nI_eq, show (0 : Int32) = nI 0 from rfl, not_true_eq_false, not_false_eq_true] <;> omega))) (fun h81 => ?_)
          refine pw_iload_n 85 rfl dX9_longestRope_84 rfl ?_
          refine pw_if_le (tgt := 137) 88 rfl dX9_longestRope_85 rfl (fun h85 => absurd h85 (nI_nle c1 (by omega))) (fun h85 => ?_)
          refine pw_aload_n 89 rfl dX9_longestRope_88 rfl ?_
          refine pw_getR 92 rfl dX9_longestRope_89 fX9_9 (by first | rfl | assumption | exact rowS hh | exact mtS hm | exact ruS hr | exact mtA1 hm | exact mtA2 hm | exact mtA3 hm | exact mtA4 hm | exact mtA5 hm | exact mtA6 hm | exact mtA7 hm | exact ruA1 hr | exact ruA2 hr | exact ruA3 hr) rfl (by first | rfl | assumption | exact mtR0 hm | exact mtR1 hm | exact mtR2 hm | exact mtR3 hm | exact mtR4 hm | exact mtR5 hm | exact mtR6 hm | exact ruR0 hr | exact ruR1 hr | exact ruR3 hr) ?_
          refine pw_iload 94 rfl dX9_longestRope_92 rfl ?_
          refine pw_ialdN 95 rfl dX9_longestRope_94 (by first | rfl | assumption | exact rowS hh | exact mtS hm | exact ruS hr | exact mtA1 hm | exact mtA2 hm | exact mtA3 hm | exact mtA4 hm | exact mtA5 hm | exact mtA6 hm | exact mtA7 hm | exact ruA1 hr | exact ruA2 hr | exact ruA3 hr) (by omega) (by decide) ?_
          refine pw_iload_n 96 rfl dX9_longestRope_95 rfl ?_
          refine pw_icmp_ne (tgt := 137) 99 rfl dX9_longestRope_96 rfl (fun h96 => ?_) (fun h96 => absurd h96 (by rw [e2, nI_eq (by omega) (by omega)]; exact c2))
          refine pw_iincN 140 rfl dX9_longestRope_137 (by decide) rfl ?_
          refine pw_goto (tgt := 65) dX9_longestRope_140 rfl ?_
          rotate_left
          exact ih _ _ p1 p2
      · rw [rpS_n (fun z => c1 z.1)] at ih
        refine pw_iload 67 rfl dX9_longestRope_65 rfl ?_
        refine pw_bipush (v := nI 7) 69 rfl dX9_longestRope_67 rfl ?_
        refine pw_icmp_ge (tgt := 143) 72 rfl dX9_longestRope_69 rfl (fun h69 => absurd h69 (by (simp (disch := omega) only [nI_leI, nI_ltI, nI_eq, show (0 : Int32) = nI 0 from rfl, not_true_eq_false, not_false_eq_true] <;> omega))) (fun h69 => ?_)
        refine pw_iload 74 rfl dX9_longestRope_72 rfl ?_
        refine pw_aload_n 75 rfl dX9_longestRope_74 rfl ?_
        refine pw_getR 78 rfl dX9_longestRope_75 fX9_15 (by first | rfl | assumption | exact rowS hh | exact mtS hm | exact ruS hr | exact mtA1 hm | exact mtA2 hm | exact mtA3 hm | exact mtA4 hm | exact mtA5 hm | exact mtA6 hm | exact mtA7 hm | exact ruA1 hr | exact ruA2 hr | exact ruA3 hr) rfl (by first | rfl | assumption | exact mtR0 hm | exact mtR1 hm | exact mtR2 hm | exact mtR3 hm | exact mtR4 hm | exact mtR5 hm | exact mtR6 hm | exact ruR0 hr | exact ruR1 hr | exact ruR3 hr) ?_
        refine pw_getI 81 rfl dX9_longestRope_78 fX9_23 (by first | rfl | assumption | exact rowS hh | exact mtS hm | exact ruS hr | exact mtA1 hm | exact mtA2 hm | exact mtA3 hm | exact mtA4 hm | exact mtA5 hm | exact mtA6 hm | exact mtA7 hm | exact ruA1 hr | exact ruA2 hr | exact ruA3 hr) rfl ?_
        refine pw_icmp_ge (tgt := 143) 84 rfl dX9_longestRope_81 rfl (fun h81 => absurd h81 (by rw [p2 1 (by omega), g2 1 (by omega), hn]; (simp (disch := omega) only [nI_leI, nI_ltI, nI_eq, show (0 : Int32) = nI 0 from rfl, not_true_eq_false, not_false_eq_true] <;> omega))) (fun h81 => ?_)
        refine pw_iload_n 85 rfl dX9_longestRope_84 rfl ?_
        refine pw_if_le (tgt := 137) 88 rfl dX9_longestRope_85 rfl (fun h85 => ?_) (fun h85 => absurd (by rw [show (rpS (rpT n b n) b (rpM n b n) i).2.2 = 0 by omega]; decide) h85)
        refine pw_iincN 140 rfl dX9_longestRope_137 (by decide) rfl ?_
        refine pw_goto (tgt := 65) dX9_longestRope_140 rfl ?_
        rotate_left
        exact ih _ _ p1 p2
  refine pw_iconst (v := nI 0) 1 rfl dX9_longestRope_0 rfl ?_
  refine pw_istore_n 2 rfl dX9_longestRope_1 (by decide) ?_
  refine pw_aload_n 3 rfl dX9_longestRope_2 rfl ?_
  refine pw_getR 6 rfl dX9_longestRope_3 fX9_15 (by first | rfl | assumption | exact rowS hh | exact mtS hm | exact ruS hr | exact mtA1 hm | exact mtA2 hm | exact mtA3 hm | exact mtA4 hm | exact mtA5 hm | exact mtA6 hm | exact mtA7 hm | exact ruA1 hr | exact ruA2 hr | exact ruA3 hr) rfl (by first | rfl | assumption | exact mtR0 hm | exact mtR1 hm | exact mtR2 hm | exact mtR3 hm | exact mtR4 hm | exact mtR5 hm | exact mtR6 hm | exact ruR0 hr | exact ruR1 hr | exact ruR3 hr) ?_
  refine pw_getI 9 rfl dX9_longestRope_6 fX9_23 (by first | rfl | assumption | exact rowS hh | exact mtS hm | exact ruS hr | exact mtA1 hm | exact mtA2 hm | exact mtA3 hm | exact mtA4 hm | exact mtA5 hm | exact mtA6 hm | exact mtA7 hm | exact ruA1 hr | exact ruA2 hr | exact ruA3 hr) rfl ?_
  refine pw_bipush (v := nI 7) 11 rfl dX9_longestRope_9 rfl ?_
  refine pw_mmin 14 rfl dX9_longestRope_11 mX9_64 (Nat.le_of_ble_eq_true rfl) ?_
  rotate_left
  rw [hn, nI_min (by omega) (by decide), Nat.min_eq_left h7]
  refine pw_iconst (v := nI 1) 15 rfl dX9_longestRope_14 rfl ?_
  refine pw_isub 16 rfl dX9_longestRope_15 ?_
  rotate_left
  rw [sub1]
  refine pw_istore_n 17 rfl dX9_longestRope_16 (by decide) ?_
  rotate_left
  have L := nat_loop n (fun k => ∀ (I' : pI), (∀ i, n - k ≤ i → i < n → I' 61 i = nI (rpT n b k i)) → (∀ a, a ≠ 61 → I' a = I a) → PW SX yX9_longestRope.cls cX9_longestRope 5 (d + 2) 17 [some (.ref 60), some (.int (nI (rpM n b k))), some (.int (nI (n - k) + Int32.ofInt (-1))), none, none] [] (I') (J) (RX) (rX cX9_longestRope (some .int) (fun r' I' J' R' => r' = some (.int (nI (rpM n b n))) ∧ XN I' J' (rpS (rpT n b n) b (rpM n b n) n).1 ∧ fS I I' ∧ R' = RX))) ?_ ?_
  · exact L I (fun i h1 h2 => by omega) (fun _ _ => rfl)
  · intro I' g1 g2
    rw [Nat.sub_self]
    refine pw_iload_n 18 rfl dX9_longestRope_17 rfl ?_
    refine pw_if_lt (tgt := 51) 21 rfl dX9_longestRope_18 rfl (fun h18 => ?_) (fun h18 => absurd (by decide) h18)
    rotate_left
    exact second I' _ _ _ (fun i hi => g1 i (by omega) hi) g2
  · intro k hk ih I' g1 g2
    rw [show nI (n - k) + Int32.ofInt (-1) = nI (n - 1 - k) from by rw [show n - k = (n - 1 - k) + 1 by omega]; exact pk_m1 (n - 1 - k)]
    have hM' : XM I' 1 n pc b := XM_fr hM (fun a h1 h2 => g2 a (by omega))
    have lT := lbh_le (b := b) (w := n - 1 - k) (rpT_le n b k) k
    have lM := rpM_le n b k
    have eT : rpT n b (k + 1) (n - 1 - k) = 1 + lbh (rpT n b k) b (n - 1 - k) k := if_pos rfl
    refine pw_iload_n 18 rfl dX9_longestRope_17 rfl ?_
    refine pw_if_lt (tgt := 51) 21 rfl dX9_longestRope_18 rfl (fun h18 => absurd h18 (nI_pos (by omega))) (fun h18 => ?_)
    refine pw_aload_n 22 rfl dX9_longestRope_21 rfl ?_
    refine pw_getR 25 rfl dX9_longestRope_22 fX9_9 (by first | rfl | assumption | exact rowS hh | exact mtS hm | exact ruS hr | exact mtA1 hm | exact mtA2 hm | exact mtA3 hm | exact mtA4 hm | exact mtA5 hm | exact mtA6 hm | exact mtA7 hm | exact ruA1 hr | exact ruA2 hr | exact ruA3 hr) rfl (by first | rfl | assumption | exact mtR0 hm | exact mtR1 hm | exact mtR2 hm | exact mtR3 hm | exact mtR4 hm | exact mtR5 hm | exact mtR6 hm | exact ruR0 hr | exact ruR1 hr | exact ruR3 hr) ?_
    refine pw_iload_n 26 rfl dX9_longestRope_25 rfl ?_
    refine pw_iconst (v := nI 1) 27 rfl dX9_longestRope_26 rfl ?_
    refine pw_aload_n 28 rfl dX9_longestRope_27 rfl ?_
    refine pw_iload_n 29 rfl dX9_longestRope_28 rfl ?_
    refine pw_callVP (as := [_]) 32 rfl dX9_longestRope_29 mX9_67 vX9_longestBehind (x_longestBehind (d := d) (f := rpT n b k) hM' hW (show n - 1 - k < n by omega) (fun i h1 h2 => g1 i (by omega) h2) (fun i => Nat.le_trans (rpT_le n b k i) (by omega))) (by first | rfl | assumption | exact rowS hh | exact mtS hm | exact ruS hr | exact mtA1 hm | exact mtA2 hm | exact mtA3 hm | exact mtA4 hm | exact mtA5 hm | exact mtA6 hm | exact mtA7 hm | exact ruA1 hr | exact ruA2 hr | exact ruA3 hr) rfl (by decide) ⟨rfl, by decide, by decide, show (parseMethodDescriptor yX9_longestBehind.desc).map (fun d => d.parameters.length) = some 1 by decide +kernel⟩ (by omega) (by decide) (Nat.le_of_ble_eq_true rfl) rfl ?_
    rotate_left
    rw [show n - (n - 1 - k + 1) = k by omega]
    first | refine pw_iaddN 33 rfl dX9_longestRope_32 ?_ | refine pw_iadd 33 rfl dX9_longestRope_32 ?_
    refine pw_iastN 34 rfl dX9_longestRope_33 (by first | rfl | assumption | exact rowS hh | exact mtS hm | exact ruS hr | exact mtA1 hm | exact mtA2 hm | exact mtA3 hm | exact mtA4 hm | exact mtA5 hm | exact mtA6 hm | exact mtA7 hm | exact ruA1 hr | exact ruA2 hr | exact ruA3 hr) (by omega) (by decide) ?_
    refine pw_iload_n 35 rfl dX9_longestRope_34 rfl ?_
    refine pw_aload_n 36 rfl dX9_longestRope_35 rfl ?_
    refine pw_getR 39 rfl dX9_longestRope_36 fX9_9 (by first | rfl | assumption | exact rowS hh | exact mtS hm | exact ruS hr | exact mtA1 hm | exact mtA2 hm | exact mtA3 hm | exact mtA4 hm | exact mtA5 hm | exact mtA6 hm | exact mtA7 hm | exact ruA1 hr | exact ruA2 hr | exact ruA3 hr) rfl (by first | rfl | assumption | exact mtR0 hm | exact mtR1 hm | exact mtR2 hm | exact mtR3 hm | exact mtR4 hm | exact mtR5 hm | exact mtR6 hm | exact ruR0 hr | exact ruR1 hr | exact ruR3 hr) ?_
    refine pw_iload_n 40 rfl dX9_longestRope_39 rfl ?_
    refine pw_ialdN 41 rfl dX9_longestRope_40 (by first | rfl | assumption | exact rowS hh | exact mtS hm | exact ruS hr | exact mtA1 hm | exact mtA2 hm | exact mtA3 hm | exact mtA4 hm | exact mtA5 hm | exact mtA6 hm | exact mtA7 hm | exact ruA1 hr | exact ruA2 hr | exact ruA3 hr) (by omega) (by decide) ?_
    refine pw_mmax 44 rfl dX9_longestRope_41 mX9_70 (Nat.le_of_ble_eq_true rfl) ?_
    rotate_left
    rw [uI_eq, nI_max (by omega) (by omega), ← eT]
    refine pw_istore_n 45 rfl dX9_longestRope_44 (by decide) ?_
    refine pw_iinc 48 rfl dX9_longestRope_45 (by decide) rfl ?_
    refine pw_goto (tgt := 17) dX9_longestRope_48 rfl ?_
    rotate_left
    have := ih (uI I' 61 (n - 1 - k) (nI (rpT n b (k + 1) (n - 1 - k)))) (fun i h1 h2 => by
      by_cases e : i = n - 1 - k
      · rw [e, uI_eq]
      · rw [uI_ne (by omega), show rpT n b (k + 1) i = rpT n b k i from if_neg e]
        exact g1 i (by omega) h2) (fun a ha => by rw [uI, if_neg ha, g2 a ha])
    rw [show n - (k + 1) = n - 1 - k by omega] at this
    exact this
