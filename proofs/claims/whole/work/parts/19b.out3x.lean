/-- how many have a way at height h -/
def wat (n : Nat) (b : Nat → Nat) (h : Nat) : Nat := cntP (fun q => decide (b (7 + q) ≠ 0 ∧ b q = h)) n
theorem wat_y {b : Nat → Nat} {k h : Nat} (h1 : b (7 + k) ≠ 0 ∧ b k = h) : wat (k + 1) b h = wat k b h + 1 := cntP_y (P := fun q => decide (b (7 + q) ≠ 0 ∧ b q = h)) (decide_eq_true h1)
theorem wat_n {b : Nat → Nat} {k h : Nat} (h1 : ¬ (b (7 + k) ≠ 0 ∧ b k = h)) : wat (k + 1) b h = wat k b h := cntP_n (P := fun q => decide (b (7 + q) ≠ 0 ∧ b q = h)) (decide_eq_false h1)
set_option maxRecDepth 100000 in
set_option maxHeartbeats 2000000 in
theorem x_countCrowds {d n : Nat} {pc b : Nat → Nat} {I : pI} {J : pJ} (hM : XM I 43 n pc b) (hW : WF n pc b) : PC SX (d) yX3_countCrowds cX3_countCrowds 3 none [.ref 40] (I) (J) (RX) (fun r' I' J' R' => r' = none ∧ (∀ h, h < 10 → I' 42 h = nI (wat n b h)) ∧ (∀ a, a ≠ 42 → I' a = I a) ∧ J = J' ∧ R' = RX) := by
  refine PC.of [some (.ref 40), none, none] rfl rfl (Nat.le_of_ble_eq_true rfl) ?_
  obtain ⟨h7, hn, -, -, -, -, hA⟩ := hM
  obtain ⟨-, ⟨t1, t2⟩, -, -, hB⟩ := hW
  have loop2 : ∀ (I' : pI) (x2 : Option Value), (∀ h, h < 10 → I' 42 h = nI 0) → (∀ a, a ≠ 42 → I' a = I a) → PW SX yX3_countCrowds.cls cX3_countCrowds 3 (d) 23 [some (.ref 40), some (.int (nI 0)), x2] [] (I') (J) (RX) (rX cX3_countCrowds none (fun r' I' J' R' => r' = none ∧ (∀ h, h < 10 → I' 42 h = nI (wat n b h)) ∧ (∀ a, a ≠ 42 → I' a = I a) ∧ J = J' ∧ R' = RX)) := by
    have L := nat_loop n (fun k => ∀ (I' : pI) (x2 : Option Value), (∀ h, h < 10 → I' 42 h = nI (wat k b h)) → (∀ a, a ≠ 42 → I' a = I a) → PW SX yX3_countCrowds.cls cX3_countCrowds 3 (d) 23 [some (.ref 40), some (.int (nI k)), x2] [] (I') (J) (RX) (rX cX3_countCrowds none (fun r' I' J' R' => r' = none ∧ (∀ h, h < 10 → I' 42 h = nI (wat n b h)) ∧ (∀ a, a ≠ 42 → I' a = I a) ∧ J = J' ∧ R' = RX))) ?_ ?_
    · exact fun I' x2 g1 g2 => L I' x2 g1 g2
    · intro I' x2 g1 g2
      refine pw_iload_n 24 rfl dX3_countCrowds_23 rfl ?_
      refine pw_bipush (v := nI 7) 26 rfl dX3_countCrowds_24 rfl ?_
      refine pw_icmp_ge (tgt := 88) 29 rfl dX3_countCrowds_26 rfl (fun h26 => ?_) (fun h26 => ?_)
      refine pw_vret dX3_countCrowds_88 ?_
      rotate_left
      refine pw_iload_n 30 rfl dX3_countCrowds_29 rfl ?_
      refine pw_aload_n 31 rfl dX3_countCrowds_30 rfl ?_
      refine pw_getR 34 rfl dX3_countCrowds_31 fX3_12 (by first | rfl | assumption | exact rowS hh | exact mtS hm | exact ruS hr | exact mtA1 hm | exact mtA2 hm | exact mtA3 hm | exact mtA4 hm | exact mtA5 hm | exact mtA6 hm | exact mtA7 hm | exact ruA1 hr | exact ruA2 hr | exact ruA3 hr) rfl (by first | rfl | assumption | exact mtR0 hm | exact mtR1 hm | exact mtR2 hm | exact mtR3 hm | exact mtR4 hm | exact mtR5 hm | exact mtR6 hm | exact ruR0 hr | exact ruR1 hr | exact ruR3 hr) ?_
      refine pw_getI 37 rfl dX3_countCrowds_34 fX3_73 (by first | rfl | assumption | exact rowS hh | exact mtS hm | exact ruS hr | exact mtA1 hm | exact mtA2 hm | exact mtA3 hm | exact mtA4 hm | exact mtA5 hm | exact mtA6 hm | exact mtA7 hm | exact ruA1 hr | exact ruA2 hr | exact ruA3 hr) rfl ?_
      refine pw_icmp_ge (tgt := 88) 40 rfl dX3_countCrowds_37 rfl (fun h37 => ?_) (fun h37 => absurd (by rw [g2 43 (by omega), hn]; (simp (disch := omega) only [nI_leI, nI_ltI, nI_eq, show (0 : Int32) = nI 0 from rfl, not_true_eq_false, not_false_eq_true] <;> omega)) h37)
      refine pw_vret dX3_countCrowds_88 ?_
      rotate_left
      all_goals exact ⟨rfl, g1, g2, rfl, rfl⟩
    · intro k hk ih I' x2 g1 g2
      obtain ⟨-, v2, v3, -, -⟩ := hA k (by omega)
      have hb := hB k (by omega)
      have w2 : I' 45 k = nI (b k) := by rw [g2 45 (by omega)]; exact v2
      have w3 : I' 46 k = nI (b (7 + k)) := by rw [g2 46 (by omega)]; exact v3
      by_cases h0 : b (7 + k) = 0
      · refine pw_iload_n 24 rfl dX3_countCrowds_23 rfl ?_
        refine pw_bipush (v := nI 7) 26 rfl dX3_countCrowds_24 rfl ?_
        refine pw_icmp_ge (tgt := 88) 29 rfl dX3_countCrowds_26 rfl (fun h26 => absurd h26 (by (simp (disch := omega) only [nI_leI, nI_ltI, nI_eq, show (0 : Int32) = nI 0 from rfl, not_true_eq_false, not_false_eq_true] <;> omega))) (fun h26 => ?_)
        refine pw_iload_n 30 rfl dX3_countCrowds_29 rfl ?_
        refine pw_aload_n 31 rfl dX3_countCrowds_30 rfl ?_
        refine pw_getR 34 rfl dX3_countCrowds_31 fX3_12 (by first | rfl | assumption | exact rowS hh | exact mtS hm | exact ruS hr | exact mtA1 hm | exact mtA2 hm | exact mtA3 hm | exact mtA4 hm | exact mtA5 hm | exact mtA6 hm | exact mtA7 hm | exact ruA1 hr | exact ruA2 hr | exact ruA3 hr) rfl (by first | rfl | assumption | exact mtR0 hm | exact mtR1 hm | exact mtR2 hm | exact mtR3 hm | exact mtR4 hm | exact mtR5 hm | exact mtR6 hm | exact ruR0 hr | exact ruR1 hr | exact ruR3 hr) ?_
        refine pw_getI 37 rfl dX3_countCrowds_34 fX3_73 (by first | rfl | assumption | exact rowS hh | exact mtS hm | exact ruS hr | exact mtA1 hm | exact mtA2 hm | exact mtA3 hm | exact mtA4 hm | exact mtA5 hm | exact mtA6 hm | exact mtA7 hm | exact ruA1 hr | exact ruA2 hr | exact ruA3 hr) rfl ?_
        refine pw_icmp_ge (tgt := 88) 40 rfl dX3_countCrowds_37 rfl (fun h37 => absurd h37 (by rw [g2 43 (by omega), hn]; (simp (disch := omega) only [nI_leI, nI_ltI, nI_eq, show (0 : Int32) = nI 0 from rfl, not_true_eq_false, not_false_eq_true] <;> omega))) (fun h37 => ?_)
        refine pw_aload_n 41 rfl dX3_countCrowds_40 rfl ?_
        refine pw_getR 44 rfl dX3_countCrowds_41 fX3_12 (by first | rfl | assumption | exact rowS hh | exact mtS hm | exact ruS hr | exact mtA1 hm | exact mtA2 hm | exact mtA3 hm | exact mtA4 hm | exact mtA5 hm | exact mtA6 hm | exact mtA7 hm | exact ruA1 hr | exact ruA2 hr | exact ruA3 hr) rfl (by first | rfl | assumption | exact mtR0 hm | exact mtR1 hm | exact mtR2 hm | exact mtR3 hm | exact mtR4 hm | exact mtR5 hm | exact mtR6 hm | exact ruR0 hr | exact ruR1 hr | exact ruR3 hr) ?_
        refine pw_getR 47 rfl dX3_countCrowds_44 fX3_98 (by first | rfl | assumption | exact rowS hh | exact mtS hm | exact ruS hr | exact mtA1 hm | exact mtA2 hm | exact mtA3 hm | exact mtA4 hm | exact mtA5 hm | exact mtA6 hm | exact mtA7 hm | exact ruA1 hr | exact ruA2 hr | exact ruA3 hr) rfl (by first | rfl | assumption | exact mtR0 hm | exact mtR1 hm | exact mtR2 hm | exact mtR3 hm | exact mtR4 hm | exact mtR5 hm | exact mtR6 hm | exact ruR0 hr | exact ruR1 hr | exact ruR3 hr) ?_
        refine pw_iload_n 48 rfl dX3_countCrowds_47 rfl ?_
        refine pw_ialdN 49 rfl dX3_countCrowds_48 (by first | rfl | assumption | exact rowS hh | exact mtS hm | exact ruS hr | exact mtA1 hm | exact mtA2 hm | exact mtA3 hm | exact mtA4 hm | exact mtA5 hm | exact mtA6 hm | exact mtA7 hm | exact ruA1 hr | exact ruA2 hr | exact ruA3 hr) (by omega) (by decide) ?_
        refine pw_istore_n 50 rfl dX3_countCrowds_49 (by decide) ?_
        refine pw_aload_n 51 rfl dX3_countCrowds_50 rfl ?_
        refine pw_getR 54 rfl dX3_countCrowds_51 fX3_12 (by first | rfl | assumption | exact rowS hh | exact mtS hm | exact ruS hr | exact mtA1 hm | exact mtA2 hm | exact mtA3 hm | exact mtA4 hm | exact mtA5 hm | exact mtA6 hm | exact mtA7 hm | exact ruA1 hr | exact ruA2 hr | exact ruA3 hr) rfl (by first | rfl | assumption | exact mtR0 hm | exact mtR1 hm | exact mtR2 hm | exact mtR3 hm | exact mtR4 hm | exact mtR5 hm | exact mtR6 hm | exact ruR0 hr | exact ruR1 hr | exact ruR3 hr) ?_
        refine pw_getR 57 rfl dX3_countCrowds_54 fX3_92 (by first | rfl | assumption | exact rowS hh | exact mtS hm | exact ruS hr | exact mtA1 hm | exact mtA2 hm | exact mtA3 hm | exact mtA4 hm | exact mtA5 hm | exact mtA6 hm | exact mtA7 hm | exact ruA1 hr | exact ruA2 hr | exact ruA3 hr) rfl (by first | rfl | assumption | exact mtR0 hm | exact mtR1 hm | exact mtR2 hm | exact mtR3 hm | exact mtR4 hm | exact mtR5 hm | exact mtR6 hm | exact ruR0 hr | exact ruR1 hr | exact ruR3 hr) ?_
        refine pw_iload_n 58 rfl dX3_countCrowds_57 rfl ?_
        refine pw_ialdN 59 rfl dX3_countCrowds_58 (by first | rfl | assumption | exact rowS hh | exact mtS hm | exact ruS hr | exact mtA1 hm | exact mtA2 hm | exact mtA3 hm | exact mtA4 hm | exact mtA5 hm | exact mtA6 hm | exact mtA7 hm | exact ruA1 hr | exact ruA2 hr | exact ruA3 hr) (by omega) (by decide) ?_
        refine pw_if_eq (tgt := 82) 62 rfl dX3_countCrowds_59 rfl (fun h59 => ?_) (fun h59 => absurd (by rw [w3, h0]; rfl) h59)
        refine pw_iincN 85 rfl dX3_countCrowds_82 (by decide) rfl ?_
        refine pw_goto (tgt := 23) dX3_countCrowds_85 rfl ?_
        rotate_left
        refine ih I' _ (fun h hh => ?_) g2
        rw [wat_n (fun z => z.1 h0)]; exact g1 h hh
      · refine pw_iload_n 24 rfl dX3_countCrowds_23 rfl ?_
        refine pw_bipush (v := nI 7) 26 rfl dX3_countCrowds_24 rfl ?_
        refine pw_icmp_ge (tgt := 88) 29 rfl dX3_countCrowds_26 rfl (fun h26 => absurd h26 (by (simp (disch := omega) only [nI_leI, nI_ltI, nI_eq, show (0 : Int32) = nI 0 from rfl, not_true_eq_false, not_false_eq_true] <;> omega))) (fun h26 => ?_)
        refine pw_iload_n 30 rfl dX3_countCrowds_29 rfl ?_
        refine pw_aload_n 31 rfl dX3_countCrowds_30 rfl ?_
        refine pw_getR 34 rfl dX3_countCrowds_31 fX3_12 (by first | rfl | assumption | exact rowS hh | exact mtS hm | exact ruS hr | exact mtA1 hm | exact mtA2 hm | exact mtA3 hm | exact mtA4 hm | exact mtA5 hm | exact mtA6 hm | exact mtA7 hm | exact ruA1 hr | exact ruA2 hr | exact ruA3 hr) rfl (by first | rfl | assumption | exact mtR0 hm | exact mtR1 hm | exact mtR2 hm | exact mtR3 hm | exact mtR4 hm | exact mtR5 hm | exact mtR6 hm | exact ruR0 hr | exact ruR1 hr | exact ruR3 hr) ?_
        refine pw_getI 37 rfl dX3_countCrowds_34 fX3_73 (by first | rfl | assumption | exact rowS hh | exact mtS hm | exact ruS hr | exact mtA1 hm | exact mtA2 hm | exact mtA3 hm | exact mtA4 hm | exact mtA5 hm | exact mtA6 hm | exact mtA7 hm | exact ruA1 hr | exact ruA2 hr | exact ruA3 hr) rfl ?_
        refine pw_icmp_ge (tgt := 88) 40 rfl dX3_countCrowds_37 rfl (fun h37 => absurd h37 (by rw [g2 43 (by omega), hn]; (simp (disch := omega) only [nI_leI, nI_ltI, nI_eq, show (0 : Int32) = nI 0 from rfl, not_true_eq_false, not_false_eq_true] <;> omega))) (fun h37 => ?_)
        refine pw_aload_n 41 rfl dX3_countCrowds_40 rfl ?_
        refine pw_getR 44 rfl dX3_countCrowds_41 fX3_12 (by first | rfl | assumption | exact rowS hh | exact mtS hm | exact ruS hr | exact mtA1 hm | exact mtA2 hm | exact mtA3 hm | exact mtA4 hm | exact mtA5 hm | exact mtA6 hm | exact mtA7 hm | exact ruA1 hr | exact ruA2 hr | exact ruA3 hr) rfl (by first | rfl | assumption | exact mtR0 hm | exact mtR1 hm | exact mtR2 hm | exact mtR3 hm | exact mtR4 hm | exact mtR5 hm | exact mtR6 hm | exact ruR0 hr | exact ruR1 hr | exact ruR3 hr) ?_
        refine pw_getR 47 rfl dX3_countCrowds_44 fX3_98 (by first | rfl | assumption | exact rowS hh | exact mtS hm | exact ruS hr | exact mtA1 hm | exact mtA2 hm | exact mtA3 hm | exact mtA4 hm | exact mtA5 hm | exact mtA6 hm | exact mtA7 hm | exact ruA1 hr | exact ruA2 hr | exact ruA3 hr) rfl (by first | rfl | assumption | exact mtR0 hm | exact mtR1 hm | exact mtR2 hm | exact mtR3 hm | exact mtR4 hm | exact mtR5 hm | exact mtR6 hm | exact ruR0 hr | exact ruR1 hr | exact ruR3 hr) ?_
        refine pw_iload_n 48 rfl dX3_countCrowds_47 rfl ?_
        refine pw_ialdN 49 rfl dX3_countCrowds_48 (by first | rfl | assumption | exact rowS hh | exact mtS hm | exact ruS hr | exact mtA1 hm | exact mtA2 hm | exact mtA3 hm | exact mtA4 hm | exact mtA5 hm | exact mtA6 hm | exact mtA7 hm | exact ruA1 hr | exact ruA2 hr | exact ruA3 hr) (by omega) (by decide) ?_
        refine pw_istore_n 50 rfl dX3_countCrowds_49 (by decide) ?_
        rotate_left
        rw [w2]
        refine pw_aload_n 51 rfl dX3_countCrowds_50 rfl ?_
        refine pw_getR 54 rfl dX3_countCrowds_51 fX3_12 (by first | rfl | assumption | exact rowS hh | exact mtS hm | exact ruS hr | exact mtA1 hm | exact mtA2 hm | exact mtA3 hm | exact mtA4 hm | exact mtA5 hm | exact mtA6 hm | exact mtA7 hm | exact ruA1 hr | exact ruA2 hr | exact ruA3 hr) rfl (by first | rfl | assumption | exact mtR0 hm | exact mtR1 hm | exact mtR2 hm | exact mtR3 hm | exact mtR4 hm | exact mtR5 hm | exact mtR6 hm | exact ruR0 hr | exact ruR1 hr | exact ruR3 hr) ?_
        refine pw_getR 57 rfl dX3_countCrowds_54 fX3_92 (by first | rfl | assumption | exact rowS hh | exact mtS hm | exact ruS hr | exact mtA1 hm | exact mtA2 hm | exact mtA3 hm | exact mtA4 hm | exact mtA5 hm | exact mtA6 hm | exact mtA7 hm | exact ruA1 hr | exact ruA2 hr | exact ruA3 hr) rfl (by first | rfl | assumption | exact mtR0 hm | exact mtR1 hm | exact mtR2 hm | exact mtR3 hm | exact mtR4 hm | exact mtR5 hm | exact mtR6 hm | exact ruR0 hr | exact ruR1 hr | exact ruR3 hr) ?_
        refine pw_iload_n 58 rfl dX3_countCrowds_57 rfl ?_
        refine pw_ialdN 59 rfl dX3_countCrowds_58 (by first | rfl | assumption | exact rowS hh | exact mtS hm | exact ruS hr | exact mtA1 hm | exact mtA2 hm | exact mtA3 hm | exact mtA4 hm | exact mtA5 hm | exact mtA6 hm | exact mtA7 hm | exact ruA1 hr | exact ruA2 hr | exact ruA3 hr) (by omega) (by decide) ?_
        refine pw_if_eq (tgt := 82) 62 rfl dX3_countCrowds_59 rfl (fun h59 => absurd h59 (by rw [w3]; exact nI_ne0 (by omega) (by omega))) (fun h59 => ?_)
        refine pw_iload_n 63 rfl dX3_countCrowds_62 rfl ?_
        refine pw_if_lt (tgt := 82) 66 rfl dX3_countCrowds_63 rfl (fun h63 => absurd h63 (nI_pos (by omega))) (fun h63 => ?_)
        refine pw_iload_n 67 rfl dX3_countCrowds_66 rfl ?_
        refine pw_bipush (v := nI 9) 69 rfl dX3_countCrowds_67 rfl ?_
        refine pw_icmp_gt (tgt := 82) 72 rfl dX3_countCrowds_69 rfl (fun h69 => absurd h69 (by (simp (disch := omega) only [nI_leI, nI_ltI, nI_eq, show (0 : Int32) = nI 0 from rfl, not_true_eq_false, not_false_eq_true] <;> omega))) (fun h69 => ?_)
        refine pw_aload_n 73 rfl dX3_countCrowds_72 rfl ?_
        refine pw_getR 76 rfl dX3_countCrowds_73 fX3_22 (by first | rfl | assumption | exact rowS hh | exact mtS hm | exact ruS hr | exact mtA1 hm | exact mtA2 hm | exact mtA3 hm | exact mtA4 hm | exact mtA5 hm | exact mtA6 hm | exact mtA7 hm | exact ruA1 hr | exact ruA2 hr | exact ruA3 hr) rfl (by first | rfl | assumption | exact mtR0 hm | exact mtR1 hm | exact mtR2 hm | exact mtR3 hm | exact mtR4 hm | exact mtR5 hm | exact mtR6 hm | exact ruR0 hr | exact ruR1 hr | exact ruR3 hr) ?_
        refine pw_iload_n 77 rfl dX3_countCrowds_76 rfl ?_
        refine pw_dup2 78 rfl dX3_countCrowds_77 rfl rfl ?_
        refine pw_ialdN 79 rfl dX3_countCrowds_78 (by first | rfl | assumption | exact rowS hh | exact mtS hm | exact ruS hr | exact mtA1 hm | exact mtA2 hm | exact mtA3 hm | exact mtA4 hm | exact mtA5 hm | exact mtA6 hm | exact mtA7 hm | exact ruA1 hr | exact ruA2 hr | exact ruA3 hr) (by omega) (by decide) ?_
        rotate_left
        rw [g1 _ (by omega)]
        refine pw_iconst (v := nI 1) 80 rfl dX3_countCrowds_79 rfl ?_
        first | refine pw_iaddN 81 rfl dX3_countCrowds_80 ?_ | refine pw_iadd 81 rfl dX3_countCrowds_80 ?_
        refine pw_iastN 82 rfl dX3_countCrowds_81 (by first | rfl | assumption | exact rowS hh | exact mtS hm | exact ruS hr | exact mtA1 hm | exact mtA2 hm | exact mtA3 hm | exact mtA4 hm | exact mtA5 hm | exact mtA6 hm | exact mtA7 hm | exact ruA1 hr | exact ruA2 hr | exact ruA3 hr) (by omega) (by decide) ?_
        refine pw_iincN 85 rfl dX3_countCrowds_82 (by decide) rfl ?_
        refine pw_goto (tgt := 23) dX3_countCrowds_85 rfl ?_
        rotate_left
        refine ih _ _ (fun h hh => ?_) (fun a ha => by rw [uI, if_neg ha, g2 a ha])
        by_cases e : h = b k
        · rw [wat_y ⟨h0, e.symm⟩, e, uI_eq]
        · rw [wat_n (fun z => e z.2.symm), uI_ne (by omega)]; exact g1 h hh
  refine pw_iconst (v := nI 0) 1 rfl dX3_countCrowds_0 rfl ?_
  refine pw_istore_n 2 rfl dX3_countCrowds_1 (by decide) ?_
  rotate_left
  have L := nat_loop 10 (fun k => ∀ (I' : pI), (∀ h, h < k → I' 42 h = nI 0) → (∀ a, a ≠ 42 → I' a = I a) → PW SX yX3_countCrowds.cls cX3_countCrowds 3 (d) 2 [some (.ref 40), some (.int (nI k)), none] [] (I') (J) (RX) (rX cX3_countCrowds none (fun r' I' J' R' => r' = none ∧ (∀ h, h < 10 → I' 42 h = nI (wat n b h)) ∧ (∀ a, a ≠ 42 → I' a = I a) ∧ J = J' ∧ R' = RX))) ?_ ?_
  · exact L I (fun q hq => by omega) (fun _ _ => rfl)
  · intro I' g1 g2
    refine pw_iload_n 3 rfl dX3_countCrowds_2 rfl ?_
    refine pw_bipush (v := nI 9) 5 rfl dX3_countCrowds_3 rfl ?_
    refine pw_icmp_gt (tgt := 21) 8 rfl dX3_countCrowds_5 rfl (fun h5 => ?_) (fun h5 => absurd (by (simp (disch := omega) only [nI_leI, nI_ltI, nI_eq, show (0 : Int32) = nI 0 from rfl, not_true_eq_false, not_false_eq_true] <;> omega)) h5)
    refine pw_iconst (v := nI 0) 22 rfl dX3_countCrowds_21 rfl ?_
    refine pw_istore_n 23 rfl dX3_countCrowds_22 (by decide) ?_
    rotate_left
    exact loop2 I' _ g1 g2
  · intro k hk ih I' g1 g2
    refine pw_iload_n 3 rfl dX3_countCrowds_2 rfl ?_
    refine pw_bipush (v := nI 9) 5 rfl dX3_countCrowds_3 rfl ?_
    refine pw_icmp_gt (tgt := 21) 8 rfl dX3_countCrowds_5 rfl (fun h5 => absurd h5 (by (simp (disch := omega) only [nI_leI, nI_ltI, nI_eq, show (0 : Int32) = nI 0 from rfl, not_true_eq_false, not_false_eq_true] <;> omega))) (fun h5 => ?_)
    refine pw_aload_n 9 rfl dX3_countCrowds_8 rfl ?_
    refine pw_getR 12 rfl dX3_countCrowds_9 fX3_22 (by first | rfl | assumption | exact rowS hh | exact mtS hm | exact ruS hr | exact mtA1 hm | exact mtA2 hm | exact mtA3 hm | exact mtA4 hm | exact mtA5 hm | exact mtA6 hm | exact mtA7 hm | exact ruA1 hr | exact ruA2 hr | exact ruA3 hr) rfl (by first | rfl | assumption | exact mtR0 hm | exact mtR1 hm | exact mtR2 hm | exact mtR3 hm | exact mtR4 hm | exact mtR5 hm | exact mtR6 hm | exact ruR0 hr | exact ruR1 hr | exact ruR3 hr) ?_
    refine pw_iload_n 13 rfl dX3_countCrowds_12 rfl ?_
    refine pw_iconst (v := nI 0) 14 rfl dX3_countCrowds_13 rfl ?_
    refine pw_iastN 15 rfl dX3_countCrowds_14 (by first | rfl | assumption | exact rowS hh | exact mtS hm | exact ruS hr | exact mtA1 hm | exact mtA2 hm | exact mtA3 hm | exact mtA4 hm | exact mtA5 hm | exact mtA6 hm | exact mtA7 hm | exact ruA1 hr | exact ruA2 hr | exact ruA3 hr) (by omega) (by decide) ?_
    refine pw_iincN 18 rfl dX3_countCrowds_15 (by decide) rfl ?_
    refine pw_goto (tgt := 2) dX3_countCrowds_18 rfl ?_
    rotate_left
    refine ih _ (fun q hq => ?_) (fun a ha => by rw [uI, if_neg ha, g2 a ha])
    by_cases e : q = k
    · rw [e, uI_eq]
    · rw [uI_ne (by omega)]; exact g1 q (by omega)
def sumN (f : Nat → Nat) : Nat → Nat
  | 0 => 0
  | k + 1 => sumN f k + f k
/-- the first greatest among the first k: how great, and where -/
def mxA (c : Nat → Nat) : Nat → Nat × Nat
  | 0 => (0, 0)
  | k + 1 => if (mxA c k).1 < c k then (c k, k) else mxA c k
theorem mxA_le {c : Nat → Nat} {M : Nat} (h : ∀ k, c k ≤ M) : ∀ k, (mxA c k).1 ≤ M
  | 0 => Nat.zero_le _
  | k + 1 => by
    rw [mxA]
    split
    · exact h k
    · exact mxA_le h k
theorem mxA_lt {c : Nat → Nat} : ∀ k, 0 < k → (mxA c k).2 < k
  | 0, h => by omega
  | k + 1, _ => by
    rw [mxA]
    split
    · exact Nat.lt_succ_self k
    · by_cases hk : 0 < k
      · exact Nat.lt_succ_of_lt (mxA_lt k hk)
      · rw [show k = 0 by omega]; exact Nat.zero_lt_one
/-- crowds, one behind the other: ten heights an hour -/
def crd (n : Nat) (pc : Nat → Nat) (E : (Nat → Int32) → Nat) (b : Nat → Nat) : Nat → Nat := fun j => wat n (hrs n pc E (j / 10) b) (j % 10)
def crw (c : Nat → Nat) (k : Nat) : List Int64 := if (mxA c k).1 = 0 then [] else [lI ((mxA c k).2 % 10), lI ((mxA c k).2 / 10)]
theorem crd_le (n : Nat) (pc : Nat → Nat) (E : (Nat → Int32) → Nat) (b : Nat → Nat) (j : Nat) : crd n pc E b j ≤ n := cntP_le _ n
set_option maxRecDepth 100000 in
set_option maxHeartbeats 2000000 in
theorem x_thickest {d n N : Nat} {pc b : Nat → Nat} {E : (Nat → Int32) → Nat} {I : pI} {J : pJ} (hM : XM I 1 n pc b) (hW : WF n pc b) (hE : XE I 9 E) (hN : N ≤ 99) : PC SX (d + 6) yX3_thickest cX3_thickest 5 (some .int) [.ref 40, .int (nI N)] (I) (J) (RX) (fun r' I' J' R' => r' = some (.int (nI (mxA (crd n pc E b) (10 * (N + 1))).1)) ∧ XN I' J' (crw (crd n pc E b) (10 * (N + 1))) ∧ fO I I' ∧ R' = RX) := by
  refine PC.of [some (.ref 40), some (.int (nI N)), none, none, none] rfl rfl (Nat.le_of_ble_eq_true rfl) ?_
  have h7 := hW.1
  refine pw_aload_n 1 rfl dX3_thickest_0 rfl ?_
  refine pw_getR 4 rfl dX3_thickest_1 fX3_12 (by first | rfl | assumption | exact rowS hh | exact mtS hm | exact ruS hr | exact mtA1 hm | exact mtA2 hm | exact mtA3 hm | exact mtA4 hm | exact mtA5 hm | exact mtA6 hm | exact mtA7 hm | exact ruA1 hr | exact ruA2 hr | exact ruA3 hr) rfl (by first | rfl | assumption | exact mtR0 hm | exact mtR1 hm | exact mtR2 hm | exact mtR3 hm | exact mtR4 hm | exact mtR5 hm | exact mtR6 hm | exact ruR0 hr | exact ruR1 hr | exact ruR3 hr) ?_
  refine pw_aload_n 5 rfl dX3_thickest_4 rfl ?_
  refine pw_getR 8 rfl dX3_thickest_5 fX3_25 (by first | rfl | assumption | exact rowS hh | exact mtS hm | exact ruS hr | exact mtA1 hm | exact mtA2 hm | exact mtA3 hm | exact mtA4 hm | exact mtA5 hm | exact mtA6 hm | exact mtA7 hm | exact ruA1 hr | exact ruA2 hr | exact ruA3 hr) rfl (by first | rfl | assumption | exact mtR0 hm | exact mtR1 hm | exact mtR2 hm | exact mtR3 hm | exact mtR4 hm | exact mtR5 hm | exact mtR6 hm | exact ruR0 hr | exact ruR1 hr | exact ruR3 hr) ?_
  refine pw_callV (as := [_]) 11 rfl dX3_thickest_8 mX3_36 vX1_copyFrom (x_copyFrom (d := d) (Or.inl rfl) hM) (by first | rfl | assumption | exact rowS hh | exact mtS hm | exact ruS hr | exact mtA1 hm | exact mtA2 hm | exact mtA3 hm | exact mtA4 hm | exact mtA5 hm | exact mtA6 hm | exact mtA7 hm | exact ruA1 hr | exact ruA2 hr | exact ruA3 hr) rfl (by decide) ⟨rfl, by decide, by decide, show (parseMethodDescriptor yX1_copyFrom.desc).map (fun d => d.parameters.length) = some 1 by decide +kernel⟩ (by omega) (by decide) (Nat.le_of_ble_eq_true rfl) rfl (fun r8 I8 J8 R8 c8 => ?_)
  obtain ⟨rfl, a1, a2, a3, rfl, rfl⟩ := c8; have e8 := XE_fr hE (a3 9 (by omega)) (a3 10 (by omega))
  refine pw_aload_n 12 rfl dX3_thickest_11 rfl ?_
  refine pw_getR 15 rfl dX3_thickest_12 fX3_32 (by first | rfl | assumption | exact rowS hh | exact mtS hm | exact ruS hr | exact mtA1 hm | exact mtA2 hm | exact mtA3 hm | exact mtA4 hm | exact mtA5 hm | exact mtA6 hm | exact mtA7 hm | exact ruA1 hr | exact ruA2 hr | exact ruA3 hr) rfl (by first | rfl | assumption | exact mtR0 hm | exact mtR1 hm | exact mtR2 hm | exact mtR3 hm | exact mtR4 hm | exact mtR5 hm | exact mtR6 hm | exact ruR0 hr | exact ruR1 hr | exact ruR3 hr) ?_
  refine pw_callV (as := []) 18 rfl dX3_thickest_15 mX3_80 vX2_clear (x_clear (d := d)) (by first | rfl | assumption | exact rowS hh | exact mtS hm | exact ruS hr | exact mtA1 hm | exact mtA2 hm | exact mtA3 hm | exact mtA4 hm | exact mtA5 hm | exact mtA6 hm | exact mtA7 hm | exact ruA1 hr | exact ruA2 hr | exact ruA3 hr) rfl (by decide) ⟨rfl, by decide, by decide, show (parseMethodDescriptor yX2_clear.desc).map (fun d => d.parameters.length) = some 0 by decide +kernel⟩ (by omega) (by decide) (Nat.le_of_ble_eq_true rfl) rfl (fun r15 I15 J15 R15 c15 => ?_)
  obtain ⟨rfl, k1, k2, rfl⟩ := c15
  refine pw_iconst (v := nI 0) 19 rfl dX3_thickest_18 rfl ?_
  refine pw_istore_n 20 rfl dX3_thickest_19 (by decide) ?_
  refine pw_iconst (v := nI 0) 21 rfl dX3_thickest_20 rfl ?_
  refine pw_istore_n 22 rfl dX3_thickest_21 (by decide) ?_
  rotate_left
  have L := nat_loop (N + 1) (fun t => ∀ (I' : pI) (J' : pJ) (x4 : Option Value), XM I' 43 n pc (hrs n pc E (t - 1) b) → XE I' 9 E → XN I' J' (crw (crd n pc E b) (10 * t)) → fO I I' → PW SX yX3_thickest.cls cX3_thickest 5 (d + 6) 22 [some (.ref 40), some (.int (nI N)), some (.int (nI (mxA (crd n pc E b) (10 * t)).1)), some (.int (nI t)), x4] [] (I') (J') (RX) (rX cX3_thickest (some .int) (fun r' I' J' R' => r' = some (.int (nI (mxA (crd n pc E b) (10 * (N + 1))).1)) ∧ XN I' J' (crw (crd n pc E b) (10 * (N + 1))) ∧ fO I I' ∧ R' = RX))) ?_ ?_
  · exact L _ _ _ (XM_fr a1 (fun a h1 h2 => k2 a (by omega))) (XE_fr e8 (k2 9 (by omega)) (k2 10 (by omega))) k1 (fun a h1 h2 h3 => by rw [k2 a h2, a3 a (by omega)])
  · intro I' J' x4 g1 g2 g3 g4
    refine pw_iload_n 23 rfl dX3_thickest_22 rfl ?_
    refine pw_iload_n 24 rfl dX3_thickest_23 rfl ?_
    refine pw_icmp_gt (tgt := 99) 27 rfl dX3_thickest_24 rfl (fun h24 => ?_) (fun h24 => absurd (by (simp (disch := omega) only [nI_leI, nI_ltI, nI_eq, show (0 : Int32) = nI 0 from rfl, not_true_eq_false, not_false_eq_true] <;> omega)) h24)
    refine pw_iload_n 100 rfl dX3_thickest_99 rfl ?_
    refine pw_iret dX3_thickest_100 rfl ?_
    rotate_left
    exact ⟨rfl, g3, g4, rfl⟩
  · intro t ht ih I' J' x4 g1 g2 g3 g4
    have tail : ∀ (I' : pI), XM I' 43 n pc (hrs n pc E t b) → XE I' 9 E → XN I' J' (crw (crd n pc E b) (10 * t)) → fO I I' → PW SX yX3_thickest.cls cX3_thickest 5 (d + 6) 42 [some (.ref 40), some (.int (nI N)), some (.int (nI (mxA (crd n pc E b) (10 * t)).1)), some (.int (nI t)), x4] [] (I') (J') (RX) (rX cX3_thickest (some .int) (fun r' I' J' R' => r' = some (.int (nI (mxA (crd n pc E b) (10 * (N + 1))).1)) ∧ XN I' J' (crw (crd n pc E b) (10 * (N + 1))) ∧ fO I I' ∧ R' = RX)) := by
      intro I' g1 g2 g3 g4
      refine pw_aload_n 43 rfl dX3_thickest_42 rfl ?_
      refine pw_callV (as := []) 46 rfl dX3_thickest_43 mX3_101 vX3_countCrowds (x_countCrowds (d := d) g1 (WF_hrs E hW t)) (by first | rfl | assumption | exact rowS hh | exact mtS hm | exact ruS hr | exact mtA1 hm | exact mtA2 hm | exact mtA3 hm | exact mtA4 hm | exact mtA5 hm | exact mtA6 hm | exact mtA7 hm | exact ruA1 hr | exact ruA2 hr | exact ruA3 hr) rfl (by decide) ⟨rfl, by decide, by decide, show (parseMethodDescriptor yX3_countCrowds.desc).map (fun d => d.parameters.length) = some 0 by decide +kernel⟩ (by omega) (by decide) (Nat.le_of_ble_eq_true rfl) rfl (fun r43 I43 J43 R43 c43 => ?_)
      obtain ⟨rfl, q1, q2, rfl, rfl⟩ := c43
      refine pw_iconst (v := nI 0) 47 rfl dX3_thickest_46 rfl ?_
      refine pw_istore 49 rfl dX3_thickest_47 (by decide) ?_
      rotate_left
      have L2 := nat_loop 10 (fun k => ∀ (I2 : pI) (J2 : pJ), XN I2 J2 (crw (crd n pc E b) (10 * t + k)) → (∀ a, a ≠ 19 → I2 a = I43 a) → PW SX yX3_thickest.cls cX3_thickest 5 (d + 6) 49 [some (.ref 40), some (.int (nI N)), some (.int (nI (mxA (crd n pc E b) (10 * t + k)).1)), some (.int (nI t)), some (.int (nI k))] [] (I2) (J2) (RX) (rX cX3_thickest (some .int) (fun r' I' J' R' => r' = some (.int (nI (mxA (crd n pc E b) (10 * (N + 1))).1)) ∧ XN I' J' (crw (crd n pc E b) (10 * (N + 1))) ∧ fO I I' ∧ R' = RX))) ?_ ?_
      · exact L2 _ _ (XN_fr g3 (q2 19 (by omega))) (fun _ _ => rfl)
      · intro I2 J2 p1 p2
        refine pw_iload 51 rfl dX3_thickest_49 rfl ?_
        refine pw_bipush (v := nI 9) 53 rfl dX3_thickest_51 rfl ?_
        refine pw_icmp_gt (tgt := 93) 56 rfl dX3_thickest_53 rfl (fun h53 => ?_) (fun h53 => absurd (by (simp (disch := omega) only [nI_leI, nI_ltI, nI_eq, show (0 : Int32) = nI 0 from rfl, not_true_eq_false, not_false_eq_true] <;> omega)) h53)
        refine pw_iincN 96 rfl dX3_thickest_93 (by decide) rfl ?_
        refine pw_goto (tgt := 22) dX3_thickest_96 rfl ?_
        rotate_left
        exact ih I2 J2 _ (XM_fr g1 (fun a h1 h2 => by rw [p2 a (by omega), q2 a (by omega)])) (XE_fr g2 (by rw [p2 9 (by omega), q2 9 (by omega)]) (by rw [p2 10 (by omega), q2 10 (by omega)])) p1 (fun a h1 h2 h3 => by rw [p2 a h2, q2 a (by omega), g4 a h1 h2 h3])
      · intro k hk ih2 I2 J2 p1 p2
        have ec : I2 42 k = nI (crd n pc E b (10 * t + k)) := by
          rw [p2 42 (by omega), q1 k hk, crd, show (10 * t + k) / 10 = t by omega, show (10 * t + k) % 10 = k by omega]
        have l1 := mxA_le (crd_le n pc E b) (10 * t + k)
        have l2 := crd_le n pc E b (10 * t + k)
        by_cases hc : (mxA (crd n pc E b) (10 * t + k)).1 < crd n pc E b (10 * t + k)
        · have e1 : mxA (crd n pc E b) (10 * t + (k + 1)) = (crd n pc E b (10 * t + k), 10 * t + k) := if_pos hc
          refine pw_iload 51 rfl dX3_thickest_49 rfl ?_
          refine pw_bipush (v := nI 9) 53 rfl dX3_thickest_51 rfl ?_
          refine pw_icmp_gt (tgt := 93) 56 rfl dX3_thickest_53 rfl (fun h53 => absurd h53 (by (simp (disch := omega) only [nI_leI, nI_ltI, nI_eq, show (0 : Int32) = nI 0 from rfl, not_true_eq_false, not_false_eq_true] <;> omega))) (fun h53 => ?_)
          refine pw_aload_n 57 rfl dX3_thickest_56 rfl ?_
          refine pw_getR 60 rfl dX3_thickest_57 fX3_22 (by first | rfl | assumption | exact rowS hh | exact mtS hm | exact ruS hr | exact mtA1 hm | exact mtA2 hm | exact mtA3 hm | exact mtA4 hm | exact mtA5 hm | exact mtA6 hm | exact mtA7 hm | exact ruA1 hr | exact ruA2 hr | exact ruA3 hr) rfl (by first | rfl | assumption | exact mtR0 hm | exact mtR1 hm | exact mtR2 hm | exact mtR3 hm | exact mtR4 hm | exact mtR5 hm | exact mtR6 hm | exact ruR0 hr | exact ruR1 hr | exact ruR3 hr) ?_
          refine pw_iload 62 rfl dX3_thickest_60 rfl ?_
          refine pw_ialdN 63 rfl dX3_thickest_62 (by first | rfl | assumption | exact rowS hh | exact mtS hm | exact ruS hr | exact mtA1 hm | exact mtA2 hm | exact mtA3 hm | exact mtA4 hm | exact mtA5 hm | exact mtA6 hm | exact mtA7 hm | exact ruA1 hr | exact ruA2 hr | exact ruA3 hr) (by omega) (by decide) ?_
          refine pw_iload_n 64 rfl dX3_thickest_63 rfl ?_
          refine pw_icmp_le (tgt := 87) 67 rfl dX3_thickest_64 rfl (fun h64 => absurd h64 (by rw [ec]; (simp (disch := omega) only [nI_leI, nI_ltI, nI_eq, show (0 : Int32) = nI 0 from rfl, not_true_eq_false, not_false_eq_true] <;> omega))) (fun h64 => ?_)
          refine pw_aload_n 68 rfl dX3_thickest_67 rfl ?_
          refine pw_getR 71 rfl dX3_thickest_68 fX3_22 (by first | rfl | assumption | exact rowS hh | exact mtS hm | exact ruS hr | exact mtA1 hm | exact mtA2 hm | exact mtA3 hm | exact mtA4 hm | exact mtA5 hm | exact mtA6 hm | exact mtA7 hm | exact ruA1 hr | exact ruA2 hr | exact ruA3 hr) rfl (by first | rfl | assumption | exact mtR0 hm | exact mtR1 hm | exact mtR2 hm | exact mtR3 hm | exact mtR4 hm | exact mtR5 hm | exact mtR6 hm | exact ruR0 hr | exact ruR1 hr | exact ruR3 hr) ?_
          refine pw_iload 73 rfl dX3_thickest_71 rfl ?_
          refine pw_ialdN 74 rfl dX3_thickest_73 (by first | rfl | assumption | exact rowS hh | exact mtS hm | exact ruS hr | exact mtA1 hm | exact mtA2 hm | exact mtA3 hm | exact mtA4 hm | exact mtA5 hm | exact mtA6 hm | exact mtA7 hm | exact ruA1 hr | exact ruA2 hr | exact ruA3 hr) (by omega) (by decide) ?_
          rotate_left
          rw [ec]
          refine pw_istore_n 75 rfl dX3_thickest_74 (by decide) ?_
          refine pw_aload_n 76 rfl dX3_thickest_75 rfl ?_
          refine pw_getR 79 rfl dX3_thickest_76 fX3_32 (by first | rfl | assumption | exact rowS hh | exact mtS hm | exact ruS hr | exact mtA1 hm | exact mtA2 hm | exact mtA3 hm | exact mtA4 hm | exact mtA5 hm | exact mtA6 hm | exact mtA7 hm | exact ruA1 hr | exact ruA2 hr | exact ruA3 hr) rfl (by first | rfl | assumption | exact mtR0 hm | exact mtR1 hm | exact mtR2 hm | exact mtR3 hm | exact mtR4 hm | exact mtR5 hm | exact mtR6 hm | exact ruR0 hr | exact ruR1 hr | exact ruR3 hr) ?_
          refine pw_iload 81 rfl dX3_thickest_79 rfl ?_
          refine pw_i2l 82 rfl dX3_thickest_81 ?_
          refine pw_iload_n 83 rfl dX3_thickest_82 rfl ?_
          refine pw_i2l 84 rfl dX3_thickest_83 ?_
          refine pw_callV (as := [_, _]) 87 rfl dX3_thickest_84 mX3_48 vX2_tellTwo (x_tellTwo (d := d) _ _) (by first | rfl | assumption | exact rowS hh | exact mtS hm | exact ruS hr | exact mtA1 hm | exact mtA2 hm | exact mtA3 hm | exact mtA4 hm | exact mtA5 hm | exact mtA6 hm | exact mtA7 hm | exact ruA1 hr | exact ruA2 hr | exact ruA3 hr) rfl (by decide) ⟨rfl, by decide, by decide, show (parseMethodDescriptor yX2_tellTwo.desc).map (fun d => d.parameters.length) = some 2 by decide +kernel⟩ (by omega) (by decide) (Nat.le_of_ble_eq_true rfl) rfl (fun r84 I84 J84 R84 c84 => ?_)
          obtain ⟨rfl, n1, n2, rfl⟩ := c84
          refine pw_iincN 90 rfl dX3_thickest_87 (by decide) rfl ?_
          refine pw_goto (tgt := 49) dX3_thickest_90 rfl ?_
          rotate_left
          have := ih2 I84 J84 (by
            rw [crw, e1, if_neg (by show ¬ crd n pc E b (10 * t + k) = 0; omega)]
            show XN _ _ [lI ((10 * t + k) % 10), lI ((10 * t + k) / 10)]
            rw [show (10 * t + k) / 10 = t by omega, show (10 * t + k) % 10 = k by omega]
            exact n1) (fun a h => by rw [n2 a h, p2 a h])
          rw [e1] at this
          exact this
        · have e1 : mxA (crd n pc E b) (10 * t + (k + 1)) = mxA (crd n pc E b) (10 * t + k) := if_neg hc
          refine pw_iload 51 rfl dX3_thickest_49 rfl ?_
          refine pw_bipush (v := nI 9) 53 rfl dX3_thickest_51 rfl ?_
          refine pw_icmp_gt (tgt := 93) 56 rfl dX3_thickest_53 rfl (fun h53 => absurd h53 (by (simp (disch := omega) only [nI_leI, nI_ltI, nI_eq, show (0 : Int32) = nI 0 from rfl, not_true_eq_false, not_false_eq_true] <;> omega))) (fun h53 => ?_)
          refine pw_aload_n 57 rfl dX3_thickest_56 rfl ?_
          refine pw_getR 60 rfl dX3_thickest_57 fX3_22 (by first | rfl | assumption | exact rowS hh | exact mtS hm | exact ruS hr | exact mtA1 hm | exact mtA2 hm | exact mtA3 hm | exact mtA4 hm | exact mtA5 hm | exact mtA6 hm | exact mtA7 hm | exact ruA1 hr | exact ruA2 hr | exact ruA3 hr) rfl (by first | rfl | assumption | exact mtR0 hm | exact mtR1 hm | exact mtR2 hm | exact mtR3 hm | exact mtR4 hm | exact mtR5 hm | exact mtR6 hm | exact ruR0 hr | exact ruR1 hr | exact ruR3 hr) ?_
          refine pw_iload 62 rfl dX3_thickest_60 rfl ?_
          refine pw_ialdN 63 rfl dX3_thickest_62 (by first | rfl | assumption | exact rowS hh | exact mtS hm | exact ruS hr | exact mtA1 hm | exact mtA2 hm | exact mtA3 hm | exact mtA4 hm | exact mtA5 hm | exact mtA6 hm | exact mtA7 hm | exact ruA1 hr | exact ruA2 hr | exact ruA3 hr) (by omega) (by decide) ?_
          refine pw_iload_n 64 rfl dX3_thickest_63 rfl ?_
          refine pw_icmp_le (tgt := 87) 67 rfl dX3_thickest_64 rfl (fun h64 => ?_) (fun h64 => absurd (by rw [ec]; (simp (disch := omega) only [nI_leI, nI_ltI, nI_eq, show (0 : Int32) = nI 0 from rfl, not_true_eq_false, not_false_eq_true] <;> omega)) h64)
          refine pw_iincN 90 rfl dX3_thickest_87 (by decide) rfl ?_
          refine pw_goto (tgt := 49) dX3_thickest_90 rfl ?_
          rotate_left
          have := ih2 I2 J2 (by rw [crw, e1]; exact p1) p2
          rw [e1] at this
          exact this
    by_cases h0 : t = 0
    · subst h0
      refine pw_iload_n 23 rfl dX3_thickest_22 rfl ?_
      refine pw_iload_n 24 rfl dX3_thickest_23 rfl ?_
      refine pw_icmp_gt (tgt := 99) 27 rfl dX3_thickest_24 rfl (fun h24 => absurd h24 (by (simp (disch := omega) only [nI_leI, nI_ltI, nI_eq, show (0 : Int32) = nI 0 from rfl, not_true_eq_false, not_false_eq_true] <;> omega))) (fun h24 => ?_)
      refine pw_iload_n 28 rfl dX3_thickest_27 rfl ?_
      refine pw_if_le (tgt := 42) 31 rfl dX3_thickest_28 rfl (fun h28 => ?_) (fun h28 => absurd (by decide) h28)
      rotate_left
      exact tail I' g1 g2 g3 g4
    · refine pw_iload_n 23 rfl dX3_thickest_22 rfl ?_
      refine pw_iload_n 24 rfl dX3_thickest_23 rfl ?_
      refine pw_icmp_gt (tgt := 99) 27 rfl dX3_thickest_24 rfl (fun h24 => absurd h24 (by (simp (disch := omega) only [nI_leI, nI_ltI, nI_eq, show (0 : Int32) = nI 0 from rfl, not_true_eq_false, not_false_eq_true] <;> omega))) (fun h24 => ?_)
      refine pw_iload_n 28 rfl dX3_thickest_27 rfl ?_
      refine pw_if_le (tgt := 42) 31 rfl dX3_thickest_28 rfl (fun h28 => absurd h28 (nI_nle (by omega) (by omega))) (fun h28 => ?_)
      refine pw_aload_n 32 rfl dX3_thickest_31 rfl ?_
      refine pw_getR 35 rfl dX3_thickest_32 fX3_12 (by first | rfl | assumption | exact rowS hh | exact mtS hm | exact ruS hr | exact mtA1 hm | exact mtA2 hm | exact mtA3 hm | exact mtA4 hm | exact mtA5 hm | exact mtA6 hm | exact mtA7 hm | exact ruA1 hr | exact ruA2 hr | exact ruA3 hr) rfl (by first | rfl | assumption | exact mtR0 hm | exact mtR1 hm | exact mtR2 hm | exact mtR3 hm | exact mtR4 hm | exact mtR5 hm | exact mtR6 hm | exact ruR0 hr | exact ruR1 hr | exact ruR3 hr) ?_
      refine pw_aload_n 36 rfl dX3_thickest_35 rfl ?_
      refine pw_getR 39 rfl dX3_thickest_36 fX3_28 (by first | rfl | assumption | exact rowS hh | exact mtS hm | exact ruS hr | exact mtA1 hm | exact mtA2 hm | exact mtA3 hm | exact mtA4 hm | exact mtA5 hm | exact mtA6 hm | exact mtA7 hm | exact ruA1 hr | exact ruA2 hr | exact ruA3 hr) rfl (by first | rfl | assumption | exact mtR0 hm | exact mtR1 hm | exact mtR2 hm | exact mtR3 hm | exact mtR4 hm | exact mtR5 hm | exact mtR6 hm | exact ruR0 hr | exact ruR1 hr | exact ruR3 hr) ?_
      refine pw_callV (as := [_]) 42 rfl dX3_thickest_39 mX3_58 vX1_passHour (x_hour43 (d := d) g1 hW g2) (by first | rfl | assumption | exact rowS hh | exact mtS hm | exact ruS hr | exact mtA1 hm | exact mtA2 hm | exact mtA3 hm | exact mtA4 hm | exact mtA5 hm | exact mtA6 hm | exact mtA7 hm | exact ruA1 hr | exact ruA2 hr | exact ruA3 hr) rfl (by decide) ⟨rfl, by decide, by decide, show (parseMethodDescriptor yX1_passHour.desc).map (fun d => d.parameters.length) = some 1 by decide +kernel⟩ (by omega) (by decide) (Nat.le_of_ble_eq_true rfl) rfl (fun r39 I39 J39 R39 c39 => ?_)
      obtain ⟨rfl, b1, b2, b3, b4, b5, rfl, rfl⟩ := c39
      rotate_left
      rw [show t - 1 + 1 = t by omega] at b1
      exact tail _ b1 b2 (XN_fr g3 (b5 19 (by omega) (by omega))) (fun a h1 h2 h3 => by rw [b5 a h1 (by omega), g4 a h1 h2 h3])
/-- changes of owners: how often, the run, the longest run and whose -/
def chO (o : Nat → Nat) : Nat → Nat
  | 0 => 0
  | k + 1 => if o (k + 1) ≠ o k then chO o k + 1 else chO o k
def chR (o : Nat → Nat) : Nat → Nat
  | 0 => 0
  | k + 1 => if o (k + 1) = 7 then 0 else if o (k + 1) ≠ o k then 1 else chR o k + 1
def chL (o : Nat → Nat) : Nat → Nat × Nat
  | 0 => (0, 7)
  | k + 1 => if (chL o k).1 < chR o (k + 1) then (chR o (k + 1), o (k + 1)) else chL o k
theorem chR_le (o : Nat → Nat) : ∀ k, chR o k ≤ k
  | 0 => Nat.le_refl _
  | k + 1 => by
    rw [chR]
    have := chR_le o k
    split
    · omega
    · split <;> omega
theorem chO_le (o : Nat → Nat) : ∀ k, chO o k ≤ k
  | 0 => Nat.le_refl _
  | k + 1 => by rw [chO]; have := chO_le o k; split <;> omega
theorem chL_le (o : Nat → Nat) : ∀ k, (chL o k).1 ≤ k
  | 0 => Nat.le_refl _
  | k + 1 => by
    rw [chL]
    have := chL_le o k
    have := chR_le o (k + 1)
    split
    · exact this
    · omega
set_option maxRecDepth 100000 in
set_option maxHeartbeats 2000000 in
theorem x_ownersChange {d n N : Nat} {pc b : Nat → Nat} {E : (Nat → Int32) → Nat} {I : pI} {J : pJ} (hM : XM I 1 n pc b) (hW : WF n pc b) (hE : XE I 9 E) (hN : N ≤ 99) : PC SX (d + 6) yX3_ownersChange cX3_ownersChange 8 (some .int) [.ref 40, .int (nI N)] (I) (J) (RX) (fun r' I' J' R' => r' = some (.int (nI (chO (fun t => hrs n pc E t b 29) N))) ∧ XN I' J' [lI (chL (fun t => hrs n pc E t b 29) N).1, lI (chL (fun t => hrs n pc E t b 29) N).2] ∧ fO I I' ∧ R' = RX) := by
  refine PC.of [some (.ref 40), some (.int (nI N)), none, none, none, none, none, none] rfl rfl (Nat.le_of_ble_eq_true rfl) ?_
  have h7 := hW.1
  refine pw_aload_n 1 rfl dX3_ownersChange_0 rfl ?_
  refine pw_getR 4 rfl dX3_ownersChange_1 fX3_12 (by first | rfl | assumption | exact rowS hh | exact mtS hm | exact ruS hr | exact mtA1 hm | exact mtA2 hm | exact mtA3 hm | exact mtA4 hm | exact mtA5 hm | exact mtA6 hm | exact mtA7 hm | exact ruA1 hr | exact ruA2 hr | exact ruA3 hr) rfl (by first | rfl | assumption | exact mtR0 hm | exact mtR1 hm | exact mtR2 hm | exact mtR3 hm | exact mtR4 hm | exact mtR5 hm | exact mtR6 hm | exact ruR0 hr | exact ruR1 hr | exact ruR3 hr) ?_
  refine pw_aload_n 5 rfl dX3_ownersChange_4 rfl ?_
  refine pw_getR 8 rfl dX3_ownersChange_5 fX3_25 (by first | rfl | assumption | exact rowS hh | exact mtS hm | exact ruS hr | exact mtA1 hm | exact mtA2 hm | exact mtA3 hm | exact mtA4 hm | exact mtA5 hm | exact mtA6 hm | exact mtA7 hm | exact ruA1 hr | exact ruA2 hr | exact ruA3 hr) rfl (by first | rfl | assumption | exact mtR0 hm | exact mtR1 hm | exact mtR2 hm | exact mtR3 hm | exact mtR4 hm | exact mtR5 hm | exact mtR6 hm | exact ruR0 hr | exact ruR1 hr | exact ruR3 hr) ?_
  refine pw_callV (as := [_]) 11 rfl dX3_ownersChange_8 mX3_36 vX1_copyFrom (x_copyFrom (d := d) (Or.inl rfl) hM) (by first | rfl | assumption | exact rowS hh | exact mtS hm | exact ruS hr | exact mtA1 hm | exact mtA2 hm | exact mtA3 hm | exact mtA4 hm | exact mtA5 hm | exact mtA6 hm | exact mtA7 hm | exact ruA1 hr | exact ruA2 hr | exact ruA3 hr) rfl (by decide) ⟨rfl, by decide, by decide, show (parseMethodDescriptor yX1_copyFrom.desc).map (fun d => d.parameters.length) = some 1 by decide +kernel⟩ (by omega) (by decide) (Nat.le_of_ble_eq_true rfl) rfl (fun r8 I8 J8 R8 c8 => ?_)
  obtain ⟨rfl, a1, a2, a3, rfl, rfl⟩ := c8; have e8 := XE_fr hE (a3 9 (by omega)) (a3 10 (by omega))
  refine pw_iconst (v := nI 0) 12 rfl dX3_ownersChange_11 rfl ?_
  refine pw_istore_n 13 rfl dX3_ownersChange_12 (by decide) ?_
  refine pw_iconst (v := nI 0) 14 rfl dX3_ownersChange_13 rfl ?_
  refine pw_istore_n 15 rfl dX3_ownersChange_14 (by decide) ?_
  refine pw_iconst (v := nI 0) 16 rfl dX3_ownersChange_15 rfl ?_
  refine pw_istore 18 rfl dX3_ownersChange_16 (by decide) ?_
  refine pw_bipush (v := nI 7) 20 rfl dX3_ownersChange_18 rfl ?_
  refine pw_istore 22 rfl dX3_ownersChange_20 (by decide) ?_
  refine pw_iconst (v := nI 1) 23 rfl dX3_ownersChange_22 rfl ?_
  refine pw_istore 25 rfl dX3_ownersChange_23 (by decide) ?_
  rotate_left
  have L := nat_loop N (fun t => ∀ (I' : pI) (x7 : Option Value), XM I' 43 n pc (hrs n pc E t b) → XE I' 9 E → (∀ a, a ≠ 11 → ¬ (43 ≤ a ∧ a ≤ 50) → I' a = I a) → PW SX yX3_ownersChange.cls cX3_ownersChange 8 (d + 6) 25 [some (.ref 40), some (.int (nI N)), some (.int (nI (chO (fun t => hrs n pc E t b 29) t))), some (.int (nI (chR (fun t => hrs n pc E t b 29) t))), some (.int (nI (chL (fun t => hrs n pc E t b 29) t).1)), some (.int (nI (chL (fun t => hrs n pc E t b 29) t).2)), some (.int (nI (t + 1))), x7] [] (I') (J) (RX) (rX cX3_ownersChange (some .int) (fun r' I' J' R' => r' = some (.int (nI (chO (fun t => hrs n pc E t b 29) N))) ∧ XN I' J' [lI (chL (fun t => hrs n pc E t b 29) N).1, lI (chL (fun t => hrs n pc E t b 29) N).2] ∧ fO I I' ∧ R' = RX))) ?_ ?_
  · exact L _ _ a1 e8 (fun a h1 h2 => a3 a h2)
  · intro I' x7 g1 g2 g3
    refine pw_iload 27 rfl dX3_ownersChange_25 rfl ?_
    refine pw_iload_n 28 rfl dX3_ownersChange_27 rfl ?_
    refine pw_icmp_gt (tgt := 112) 31 rfl dX3_ownersChange_28 rfl (fun h28 => ?_) (fun h28 => absurd (by (simp (disch := omega) only [nI_leI, nI_ltI, nI_eq, show (0 : Int32) = nI 0 from rfl, not_true_eq_false, not_false_eq_true] <;> omega)) h28)
    refine pw_aload_n 113 rfl dX3_ownersChange_112 rfl ?_
    refine pw_getR 116 rfl dX3_ownersChange_113 fX3_32 (by first | rfl | assumption | exact rowS hh | exact mtS hm | exact ruS hr | exact mtA1 hm | exact mtA2 hm | exact mtA3 hm | exact mtA4 hm | exact mtA5 hm | exact mtA6 hm | exact mtA7 hm | exact ruA1 hr | exact ruA2 hr | exact ruA3 hr) rfl (by first | rfl | assumption | exact mtR0 hm | exact mtR1 hm | exact mtR2 hm | exact mtR3 hm | exact mtR4 hm | exact mtR5 hm | exact mtR6 hm | exact ruR0 hr | exact ruR1 hr | exact ruR3 hr) ?_
    refine pw_iload 118 rfl dX3_ownersChange_116 rfl ?_
    refine pw_i2l 119 rfl dX3_ownersChange_118 ?_
    refine pw_iload 121 rfl dX3_ownersChange_119 rfl ?_
    refine pw_i2l 122 rfl dX3_ownersChange_121 ?_
    refine pw_callV (as := [_, _]) 125 rfl dX3_ownersChange_122 mX3_48 vX2_tellTwo (x_tellTwo (d := d) _ _) (by first | rfl | assumption | exact rowS hh | exact mtS hm | exact ruS hr | exact mtA1 hm | exact mtA2 hm | exact mtA3 hm | exact mtA4 hm | exact mtA5 hm | exact mtA6 hm | exact mtA7 hm | exact ruA1 hr | exact ruA2 hr | exact ruA3 hr) rfl (by decide) ⟨rfl, by decide, by decide, show (parseMethodDescriptor yX2_tellTwo.desc).map (fun d => d.parameters.length) = some 2 by decide +kernel⟩ (by omega) (by decide) (Nat.le_of_ble_eq_true rfl) rfl (fun r122 I122 J122 R122 c122 => ?_)
    obtain ⟨rfl, n1, n2, rfl⟩ := c122
    rotate_left
    refine pw_iload_n 126 rfl dX3_ownersChange_125 rfl ?_
    refine pw_iret dX3_ownersChange_126 rfl ?_
    rotate_left
    exact ⟨rfl, n1, fun a h1 h2 h3 => by rw [n2 a h2, g3 a h1 (by omega)], rfl⟩
  · intro t ht ih I' x7 g1 g2 g3
    have w0 := (WF_hrs E hW t).2.2.1
    have w1 := (WF_hrs E hW (t + 1)).2.2.1
    have lR := chR_le (fun t => hrs n pc E t b 29) t
    have lR1 := chR_le (fun t => hrs n pc E t b 29) (t + 1)
    have lL := chL_le (fun t => hrs n pc E t b 29) t
    refine pw_iload 27 rfl dX3_ownersChange_25 rfl ?_
    refine pw_iload_n 28 rfl dX3_ownersChange_27 rfl ?_
    refine pw_icmp_gt (tgt := 112) 31 rfl dX3_ownersChange_28 rfl (fun h28 => absurd h28 (by (simp (disch := omega) only [nI_leI, nI_ltI, nI_eq, show (0 : Int32) = nI 0 from rfl, not_true_eq_false, not_false_eq_true] <;> omega))) (fun h28 => ?_)
    refine pw_aload_n 32 rfl dX3_ownersChange_31 rfl ?_
    refine pw_getR 35 rfl dX3_ownersChange_32 fX3_12 (by first | rfl | assumption | exact rowS hh | exact mtS hm | exact ruS hr | exact mtA1 hm | exact mtA2 hm | exact mtA3 hm | exact mtA4 hm | exact mtA5 hm | exact mtA6 hm | exact mtA7 hm | exact ruA1 hr | exact ruA2 hr | exact ruA3 hr) rfl (by first | rfl | assumption | exact mtR0 hm | exact mtR1 hm | exact mtR2 hm | exact mtR3 hm | exact mtR4 hm | exact mtR5 hm | exact mtR6 hm | exact ruR0 hr | exact ruR1 hr | exact ruR3 hr) ?_
    refine pw_getI 38 rfl dX3_ownersChange_35 fX3_54 (by first | rfl | assumption | exact rowS hh | exact mtS hm | exact ruS hr | exact mtA1 hm | exact mtA2 hm | exact mtA3 hm | exact mtA4 hm | exact mtA5 hm | exact mtA6 hm | exact mtA7 hm | exact ruA1 hr | exact ruA2 hr | exact ruA3 hr) rfl ?_
    refine pw_istore 40 rfl dX3_ownersChange_38 (by decide) ?_
    rotate_left
    rw [g1.2.2.2.1]
    refine pw_aload_n 41 rfl dX3_ownersChange_40 rfl ?_
    refine pw_getR 44 rfl dX3_ownersChange_41 fX3_12 (by first | rfl | assumption | exact rowS hh | exact mtS hm | exact ruS hr | exact mtA1 hm | exact mtA2 hm | exact mtA3 hm | exact mtA4 hm | exact mtA5 hm | exact mtA6 hm | exact mtA7 hm | exact ruA1 hr | exact ruA2 hr | exact ruA3 hr) rfl (by first | rfl | assumption | exact mtR0 hm | exact mtR1 hm | exact mtR2 hm | exact mtR3 hm | exact mtR4 hm | exact mtR5 hm | exact mtR6 hm | exact ruR0 hr | exact ruR1 hr | exact ruR3 hr) ?_
    refine pw_aload_n 45 rfl dX3_ownersChange_44 rfl ?_
    refine pw_getR 48 rfl dX3_ownersChange_45 fX3_28 (by first | rfl | assumption | exact rowS hh | exact mtS hm | exact ruS hr | exact mtA1 hm | exact mtA2 hm | exact mtA3 hm | exact mtA4 hm | exact mtA5 hm | exact mtA6 hm | exact mtA7 hm | exact ruA1 hr | exact ruA2 hr | exact ruA3 hr) rfl (by first | rfl | assumption | exact mtR0 hm | exact mtR1 hm | exact mtR2 hm | exact mtR3 hm | exact mtR4 hm | exact mtR5 hm | exact mtR6 hm | exact ruR0 hr | exact ruR1 hr | exact ruR3 hr) ?_
    refine pw_callV (as := [_]) 51 rfl dX3_ownersChange_48 mX3_58 vX1_passHour (x_hour43 (d := d) g1 hW g2) (by first | rfl | assumption | exact rowS hh | exact mtS hm | exact ruS hr | exact mtA1 hm | exact mtA2 hm | exact mtA3 hm | exact mtA4 hm | exact mtA5 hm | exact mtA6 hm | exact mtA7 hm | exact ruA1 hr | exact ruA2 hr | exact ruA3 hr) rfl (by decide) ⟨rfl, by decide, by decide, show (parseMethodDescriptor yX1_passHour.desc).map (fun d => d.parameters.length) = some 1 by decide +kernel⟩ (by omega) (by decide) (Nat.le_of_ble_eq_true rfl) rfl (fun r48 I48 J48 R48 c48 => ?_)
    obtain ⟨rfl, b1, b2, b3, b4, b5, rfl, rfl⟩ := c48
    rotate_left
    have o1 := b1.2.2.2.1
    have ih' := ih I48 (some (.int (nI (hrs n pc E t b 29)))) b1 b2 (fun a h1 h2 => by rw [b5 a h1 h2, g3 a h1 h2])
    have last : PW SX yX3_ownersChange.cls cX3_ownersChange 8 (d + 6) 88 [some (.ref 40), some (.int (nI N)), some (.int (nI (chO (fun t => hrs n pc E t b 29) (t + 1)))), some (.int (nI (chR (fun t => hrs n pc E t b 29) (t + 1)))), some (.int (nI (chL (fun t => hrs n pc E t b 29) t).1)), some (.int (nI (chL (fun t => hrs n pc E t b 29) t).2)), some (.int (nI (t + 1))), some (.int (nI (hrs n pc E t b 29)))] [] (I48) (J) (RX) (rX cX3_ownersChange (some .int) (fun r' I' J' R' => r' = some (.int (nI (chO (fun t => hrs n pc E t b 29) N))) ∧ XN I' J' [lI (chL (fun t => hrs n pc E t b 29) N).1, lI (chL (fun t => hrs n pc E t b 29) N).2] ∧ fO I I' ∧ R' = RX)) := by
      by_cases hc : (chL (fun t => hrs n pc E t b 29) t).1 < chR (fun t => hrs n pc E t b 29) (t + 1)
      · rw [show chL (fun t => hrs n pc E t b 29) (t + 1) = (chR (fun t => hrs n pc E t b 29) (t + 1), hrs n pc E (t + 1) b 29) from if_pos hc] at ih'
        refine pw_iload_n 89 rfl dX3_ownersChange_88 rfl ?_
        refine pw_iload 91 rfl dX3_ownersChange_89 rfl ?_
        refine pw_icmp_le (tgt := 106) 94 rfl dX3_ownersChange_91 rfl (fun h91 => absurd h91 (by (simp (disch := omega) only [nI_leI, nI_ltI, nI_eq, show (0 : Int32) = nI 0 from rfl, not_true_eq_false, not_false_eq_true] <;> omega))) (fun h91 => ?_)
        refine pw_iload_n 95 rfl dX3_ownersChange_94 rfl ?_
        refine pw_istore 97 rfl dX3_ownersChange_95 (by decide) ?_
        refine pw_aload_n 98 rfl dX3_ownersChange_97 rfl ?_
        refine pw_getR 101 rfl dX3_ownersChange_98 fX3_12 (by first | rfl | assumption | exact rowS hh | exact mtS hm | exact ruS hr | exact mtA1 hm | exact mtA2 hm | exact mtA3 hm | exact mtA4 hm | exact mtA5 hm | exact mtA6 hm | exact mtA7 hm | exact ruA1 hr | exact ruA2 hr | exact ruA3 hr) rfl (by first | rfl | assumption | exact mtR0 hm | exact mtR1 hm | exact mtR2 hm | exact mtR3 hm | exact mtR4 hm | exact mtR5 hm | exact mtR6 hm | exact ruR0 hr | exact ruR1 hr | exact ruR3 hr) ?_
        refine pw_getI 104 rfl dX3_ownersChange_101 fX3_54 (by first | rfl | assumption | exact rowS hh | exact mtS hm | exact ruS hr | exact mtA1 hm | exact mtA2 hm | exact mtA3 hm | exact mtA4 hm | exact mtA5 hm | exact mtA6 hm | exact mtA7 hm | exact ruA1 hr | exact ruA2 hr | exact ruA3 hr) rfl ?_
        rotate_left
        rw [o1]
        refine pw_istore 106 rfl dX3_ownersChange_104 (by decide) ?_
        refine pw_iincN 109 rfl dX3_ownersChange_106 (by decide) rfl ?_
        refine pw_goto (tgt := 25) dX3_ownersChange_109 rfl ?_
        rotate_left
        exact ih'
      · rw [show chL (fun t => hrs n pc E t b 29) (t + 1) = chL (fun t => hrs n pc E t b 29) t from if_neg hc] at ih'
        refine pw_iload_n 89 rfl dX3_ownersChange_88 rfl ?_
        refine pw_iload 91 rfl dX3_ownersChange_89 rfl ?_
        refine pw_icmp_le (tgt := 106) 94 rfl dX3_ownersChange_91 rfl (fun h91 => ?_) (fun h91 => absurd (by (simp (disch := omega) only [nI_leI, nI_ltI, nI_eq, show (0 : Int32) = nI 0 from rfl, not_true_eq_false, not_false_eq_true] <;> omega)) h91)
        refine pw_iincN 109 rfl dX3_ownersChange_106 (by decide) rfl ?_
        refine pw_goto (tgt := 25) dX3_ownersChange_109 rfl ?_
        rotate_left
        exact ih'
    by_cases hs : hrs n pc E (t + 1) b 29 = hrs n pc E t b 29
    · have eO : chO (fun t => hrs n pc E t b 29) (t + 1) = chO (fun t => hrs n pc E t b 29) t := if_neg (fun z => z hs)
      rw [eO] at last
      by_cases h70 : hrs n pc E (t + 1) b 29 = 7
      · have eR : chR (fun t => hrs n pc E t b 29) (t + 1) = 0 := if_pos h70
        rw [eR] at last
        refine pw_aload_n 52 rfl dX3_ownersChange_51 rfl ?_
        refine pw_getR 55 rfl dX3_ownersChange_52 fX3_12 (by first | rfl | assumption | exact rowS hh | exact mtS hm | exact ruS hr | exact mtA1 hm | exact mtA2 hm | exact mtA3 hm | exact mtA4 hm | exact mtA5 hm | exact mtA6 hm | exact mtA7 hm | exact ruA1 hr | exact ruA2 hr | exact ruA3 hr) rfl (by first | rfl | assumption | exact mtR0 hm | exact mtR1 hm | exact mtR2 hm | exact mtR3 hm | exact mtR4 hm | exact mtR5 hm | exact mtR6 hm | exact ruR0 hr | exact ruR1 hr | exact ruR3 hr) ?_
        refine pw_getI 58 rfl dX3_ownersChange_55 fX3_54 (by first | rfl | assumption | exact rowS hh | exact mtS hm | exact ruS hr | exact mtA1 hm | exact mtA2 hm | exact mtA3 hm | exact mtA4 hm | exact mtA5 hm | exact mtA6 hm | exact mtA7 hm | exact ruA1 hr | exact ruA2 hr | exact ruA3 hr) rfl ?_
        refine pw_iload 60 rfl dX3_ownersChange_58 rfl ?_
        refine pw_icmp_eq (tgt := 68) 63 rfl dX3_ownersChange_60 rfl (fun h60 => ?_) (fun h60 => absurd (by rw [o1, hs]) h60)
        refine pw_aload_n 69 rfl dX3_ownersChange_68 rfl ?_
        refine pw_getR 72 rfl dX3_ownersChange_69 fX3_12 (by first | rfl | assumption | exact rowS hh | exact mtS hm | exact ruS hr | exact mtA1 hm | exact mtA2 hm | exact mtA3 hm | exact mtA4 hm | exact mtA5 hm | exact mtA6 hm | exact mtA7 hm | exact ruA1 hr | exact ruA2 hr | exact ruA3 hr) rfl (by first | rfl | assumption | exact mtR0 hm | exact mtR1 hm | exact mtR2 hm | exact mtR3 hm | exact mtR4 hm | exact mtR5 hm | exact mtR6 hm | exact ruR0 hr | exact ruR1 hr | exact ruR3 hr) ?_
        refine pw_getI 75 rfl dX3_ownersChange_72 fX3_54 (by first | rfl | assumption | exact rowS hh | exact mtS hm | exact ruS hr | exact mtA1 hm | exact mtA2 hm | exact mtA3 hm | exact mtA4 hm | exact mtA5 hm | exact mtA6 hm | exact mtA7 hm | exact ruA1 hr | exact ruA2 hr | exact ruA3 hr) rfl ?_
        refine pw_bipush (v := nI 7) 77 rfl dX3_ownersChange_75 rfl ?_
        refine pw_icmp_ne (tgt := 84) 80 rfl dX3_ownersChange_77 rfl (fun h77 => absurd (by rw [o1, h70]) h77) (fun h77 => ?_)
        refine pw_iconst (v := nI 0) 81 rfl dX3_ownersChange_80 rfl ?_
        refine pw_goto (tgt := 87) dX3_ownersChange_81 rfl ?_
        refine pw_istore_n 88 rfl dX3_ownersChange_87 (by decide) ?_
        rotate_left
        exact last
      · have eR : chR (fun t => hrs n pc E t b 29) (t + 1) = chR (fun t => hrs n pc E t b 29) t + 1 := by
          rw [chR, if_neg h70, if_neg (fun z => z hs)]
        rw [eR] at last
        refine pw_aload_n 52 rfl dX3_ownersChange_51 rfl ?_
        refine pw_getR 55 rfl dX3_ownersChange_52 fX3_12 (by first | rfl | assumption | exact rowS hh | exact mtS hm | exact ruS hr | exact mtA1 hm | exact mtA2 hm | exact mtA3 hm | exact mtA4 hm | exact mtA5 hm | exact mtA6 hm | exact mtA7 hm | exact ruA1 hr | exact ruA2 hr | exact ruA3 hr) rfl (by first | rfl | assumption | exact mtR0 hm | exact mtR1 hm | exact mtR2 hm | exact mtR3 hm | exact mtR4 hm | exact mtR5 hm | exact mtR6 hm | exact ruR0 hr | exact ruR1 hr | exact ruR3 hr) ?_
        refine pw_getI 58 rfl dX3_ownersChange_55 fX3_54 (by first | rfl | assumption | exact rowS hh | exact mtS hm | exact ruS hr | exact mtA1 hm | exact mtA2 hm | exact mtA3 hm | exact mtA4 hm | exact mtA5 hm | exact mtA6 hm | exact mtA7 hm | exact ruA1 hr | exact ruA2 hr | exact ruA3 hr) rfl ?_
        refine pw_iload 60 rfl dX3_ownersChange_58 rfl ?_
        refine pw_icmp_eq (tgt := 68) 63 rfl dX3_ownersChange_60 rfl (fun h60 => ?_) (fun h60 => absurd (by rw [o1, hs]) h60)
        refine pw_aload_n 69 rfl dX3_ownersChange_68 rfl ?_
        refine pw_getR 72 rfl dX3_ownersChange_69 fX3_12 (by first | rfl | assumption | exact rowS hh | exact mtS hm | exact ruS hr | exact mtA1 hm | exact mtA2 hm | exact mtA3 hm | exact mtA4 hm | exact mtA5 hm | exact mtA6 hm | exact mtA7 hm | exact ruA1 hr | exact ruA2 hr | exact ruA3 hr) rfl (by first | rfl | assumption | exact mtR0 hm | exact mtR1 hm | exact mtR2 hm | exact mtR3 hm | exact mtR4 hm | exact mtR5 hm | exact mtR6 hm | exact ruR0 hr | exact ruR1 hr | exact ruR3 hr) ?_
        refine pw_getI 75 rfl dX3_ownersChange_72 fX3_54 (by first | rfl | assumption | exact rowS hh | exact mtS hm | exact ruS hr | exact mtA1 hm | exact mtA2 hm | exact mtA3 hm | exact mtA4 hm | exact mtA5 hm | exact mtA6 hm | exact mtA7 hm | exact ruA1 hr | exact ruA2 hr | exact ruA3 hr) rfl ?_
        refine pw_bipush (v := nI 7) 77 rfl dX3_ownersChange_75 rfl ?_
        refine pw_icmp_ne (tgt := 84) 80 rfl dX3_ownersChange_77 rfl (fun h77 => ?_) (fun h77 => absurd h77 (by rw [o1, nI_eq (by omega) (by decide)]; exact h70))
        refine pw_iload_n 85 rfl dX3_ownersChange_84 rfl ?_
        refine pw_iconst (v := nI 1) 86 rfl dX3_ownersChange_85 rfl ?_
        first | refine pw_iaddN 87 rfl dX3_ownersChange_86 ?_ | refine pw_iadd 87 rfl dX3_ownersChange_86 ?_
        refine pw_istore_n 88 rfl dX3_ownersChange_87 (by decide) ?_
        rotate_left
        exact last
    · have eO : chO (fun t => hrs n pc E t b 29) (t + 1) = chO (fun t => hrs n pc E t b 29) t + 1 := if_pos hs
      rw [eO] at last
      by_cases h70 : hrs n pc E (t + 1) b 29 = 7
      · have eR : chR (fun t => hrs n pc E t b 29) (t + 1) = 0 := if_pos h70
        rw [eR] at last
        refine pw_aload_n 52 rfl dX3_ownersChange_51 rfl ?_
        refine pw_getR 55 rfl dX3_ownersChange_52 fX3_12 (by first | rfl | assumption | exact rowS hh | exact mtS hm | exact ruS hr | exact mtA1 hm | exact mtA2 hm | exact mtA3 hm | exact mtA4 hm | exact mtA5 hm | exact mtA6 hm | exact mtA7 hm | exact ruA1 hr | exact ruA2 hr | exact ruA3 hr) rfl (by first | rfl | assumption | exact mtR0 hm | exact mtR1 hm | exact mtR2 hm | exact mtR3 hm | exact mtR4 hm | exact mtR5 hm | exact mtR6 hm | exact ruR0 hr | exact ruR1 hr | exact ruR3 hr) ?_
        refine pw_getI 58 rfl dX3_ownersChange_55 fX3_54 (by first | rfl | assumption | exact rowS hh | exact mtS hm | exact ruS hr | exact mtA1 hm | exact mtA2 hm | exact mtA3 hm | exact mtA4 hm | exact mtA5 hm | exact mtA6 hm | exact mtA7 hm | exact ruA1 hr | exact ruA2 hr | exact ruA3 hr) rfl ?_
        refine pw_iload 60 rfl dX3_ownersChange_58 rfl ?_
        refine pw_icmp_eq (tgt := 68) 63 rfl dX3_ownersChange_60 rfl (fun h60 => absurd h60 (by rw [o1, nI_eq (by omega) (by omega)]; exact hs)) (fun h60 => ?_)
        refine pw_iincN 66 rfl dX3_ownersChange_63 (by decide) rfl ?_
        refine pw_iconst (v := nI 0) 67 rfl dX3_ownersChange_66 rfl ?_
        refine pw_istore_n 68 rfl dX3_ownersChange_67 (by decide) ?_
        refine pw_aload_n 69 rfl dX3_ownersChange_68 rfl ?_
        refine pw_getR 72 rfl dX3_ownersChange_69 fX3_12 (by first | rfl | assumption | exact rowS hh | exact mtS hm | exact ruS hr | exact mtA1 hm | exact mtA2 hm | exact mtA3 hm | exact mtA4 hm | exact mtA5 hm | exact mtA6 hm | exact mtA7 hm | exact ruA1 hr | exact ruA2 hr | exact ruA3 hr) rfl (by first | rfl | assumption | exact mtR0 hm | exact mtR1 hm | exact mtR2 hm | exact mtR3 hm | exact mtR4 hm | exact mtR5 hm | exact mtR6 hm | exact ruR0 hr | exact ruR1 hr | exact ruR3 hr) ?_
        refine pw_getI 75 rfl dX3_ownersChange_72 fX3_54 (by first | rfl | assumption | exact rowS hh | exact mtS hm | exact ruS hr | exact mtA1 hm | exact mtA2 hm | exact mtA3 hm | exact mtA4 hm | exact mtA5 hm | exact mtA6 hm | exact mtA7 hm | exact ruA1 hr | exact ruA2 hr | exact ruA3 hr) rfl ?_
        refine pw_bipush (v := nI 7) 77 rfl dX3_ownersChange_75 rfl ?_
        refine pw_icmp_ne (tgt := 84) 80 rfl dX3_ownersChange_77 rfl (fun h77 => absurd (by rw [o1, h70]) h77) (fun h77 => ?_)
        refine pw_iconst (v := nI 0) 81 rfl dX3_ownersChange_80 rfl ?_
        refine pw_goto (tgt := 87) dX3_ownersChange_81 rfl ?_
        refine pw_istore_n 88 rfl dX3_ownersChange_87 (by decide) ?_
        rotate_left
        exact last
      · have eR : chR (fun t => hrs n pc E t b 29) (t + 1) = 1 := by
          rw [chR, if_neg h70, if_pos hs]
        rw [eR] at last
        refine pw_aload_n 52 rfl dX3_ownersChange_51 rfl ?_
        refine pw_getR 55 rfl dX3_ownersChange_52 fX3_12 (by first | rfl | assumption | exact rowS hh | exact mtS hm | exact ruS hr | exact mtA1 hm | exact mtA2 hm | exact mtA3 hm | exact mtA4 hm | exact mtA5 hm | exact mtA6 hm | exact mtA7 hm | exact ruA1 hr | exact ruA2 hr | exact ruA3 hr) rfl (by first | rfl | assumption | exact mtR0 hm | exact mtR1 hm | exact mtR2 hm | exact mtR3 hm | exact mtR4 hm | exact mtR5 hm | exact mtR6 hm | exact ruR0 hr | exact ruR1 hr | exact ruR3 hr) ?_
        refine pw_getI 58 rfl dX3_ownersChange_55 fX3_54 (by first | rfl | assumption | exact rowS hh | exact mtS hm | exact ruS hr | exact mtA1 hm | exact mtA2 hm | exact mtA3 hm | exact mtA4 hm | exact mtA5 hm | exact mtA6 hm | exact mtA7 hm | exact ruA1 hr | exact ruA2 hr | exact ruA3 hr) rfl ?_
        refine pw_iload 60 rfl dX3_ownersChange_58 rfl ?_
        refine pw_icmp_eq (tgt := 68) 63 rfl dX3_ownersChange_60 rfl (fun h60 => absurd h60 (by rw [o1, nI_eq (by omega) (by omega)]; exact hs)) (fun h60 => ?_)
        refine pw_iincN 66 rfl dX3_ownersChange_63 (by decide) rfl ?_
        refine pw_iconst (v := nI 0) 67 rfl dX3_ownersChange_66 rfl ?_
        refine pw_istore_n 68 rfl dX3_ownersChange_67 (by decide) ?_
        refine pw_aload_n 69 rfl dX3_ownersChange_68 rfl ?_
        refine pw_getR 72 rfl dX3_ownersChange_69 fX3_12 (by first | rfl | assumption | exact rowS hh | exact mtS hm | exact ruS hr | exact mtA1 hm | exact mtA2 hm | exact mtA3 hm | exact mtA4 hm | exact mtA5 hm | exact mtA6 hm | exact mtA7 hm | exact ruA1 hr | exact ruA2 hr | exact ruA3 hr) rfl (by first | rfl | assumption | exact mtR0 hm | exact mtR1 hm | exact mtR2 hm | exact mtR3 hm | exact mtR4 hm | exact mtR5 hm | exact mtR6 hm | exact ruR0 hr | exact ruR1 hr | exact ruR3 hr) ?_
        refine pw_getI 75 rfl dX3_ownersChange_72 fX3_54 (by first | rfl | assumption | exact rowS hh | exact mtS hm | exact ruS hr | exact mtA1 hm | exact mtA2 hm | exact mtA3 hm | exact mtA4 hm | exact mtA5 hm | exact mtA6 hm | exact mtA7 hm | exact ruA1 hr | exact ruA2 hr | exact ruA3 hr) rfl ?_
        refine pw_bipush (v := nI 7) 77 rfl dX3_ownersChange_75 rfl ?_
        refine pw_icmp_ne (tgt := 84) 80 rfl dX3_ownersChange_77 rfl (fun h77 => ?_) (fun h77 => absurd h77 (by rw [o1, nI_eq (by omega) (by decide)]; exact h70))
        refine pw_iload_n 85 rfl dX3_ownersChange_84 rfl ?_
        refine pw_iconst (v := nI 1) 86 rfl dX3_ownersChange_85 rfl ?_
        first | refine pw_iaddN 87 rfl dX3_ownersChange_86 ?_ | refine pw_iadd 87 rfl dX3_ownersChange_86 ?_
        refine pw_istore_n 88 rfl dX3_ownersChange_87 (by decide) ?_
        rotate_left
        exact last

set_option maxRecDepth 100000 in
set_option maxHeartbeats 2000000 in
theorem x_sumOf {m d n h : Nat} {f : Nat → Nat} (hm : isMt m) {I : pI} {J : pJ} (hn : I m 7 = nI n) (h7 : n ≤ 7) (hh : SX[h]? = some (100, 7)) (hf : ∀ q, q < n → I h q = nI (f q)) : PC SX (d) yX1_sumOf cX1_sumOf 4 (some .int) [.ref m, .ref h] (I) (J) (RX) (pPu (.int (nI (sumN f n))) I J RX) := by
  refine PC.of [some (.ref m), some (.ref h), none, none] rfl rfl (Nat.le_of_ble_eq_true rfl) ?_
  refine pw_iconst (v := nI 0) 1 rfl dX1_sumOf_0 rfl ?_
  refine pw_istore_n 2 rfl dX1_sumOf_1 (by decide) ?_
  refine pw_iconst (v := nI 0) 3 rfl dX1_sumOf_2 rfl ?_
  refine pw_istore_n 4 rfl dX1_sumOf_3 (by decide) ?_
  rotate_left
  refine nat_loop n (fun k => PW SX yX1_sumOf.cls cX1_sumOf 4 (d) 4 [some (.ref m), some (.ref h), some (.int (nI (sumN f k))), some (.int (nI k))] [] (I) (J) (RX) (rX cX1_sumOf (some .int) (pPu (.int (nI (sumN f n))) I J RX))) ?_ ?_
  · refine pw_iload_n 5 rfl dX1_sumOf_4 rfl ?_
    refine pw_aload_n 6 rfl dX1_sumOf_5 rfl ?_
    refine pw_getI 9 rfl dX1_sumOf_6 fX1_33 (by first | rfl | assumption | exact rowS hh | exact mtS hm | exact ruS hr | exact mtA1 hm | exact mtA2 hm | exact mtA3 hm | exact mtA4 hm | exact mtA5 hm | exact mtA6 hm | exact mtA7 hm | exact ruA1 hr | exact ruA2 hr | exact ruA3 hr) rfl ?_
    refine pw_icmp_ge (tgt := 30) 12 rfl dX1_sumOf_9 rfl (fun h9 => ?_) (fun h9 => absurd (by rw [hn]; (simp (disch := omega) only [nI_leI, nI_ltI, nI_eq, show (0 : Int32) = nI 0 from rfl, not_true_eq_false, not_false_eq_true] <;> omega)) h9)
    refine pw_iload_n 31 rfl dX1_sumOf_30 rfl ?_
    refine pw_iret dX1_sumOf_31 rfl ?_
    rotate_left
    exact ⟨rfl, rfl, rfl, rfl⟩
  · intro k hk ih
    refine pw_iload_n 5 rfl dX1_sumOf_4 rfl ?_
    refine pw_aload_n 6 rfl dX1_sumOf_5 rfl ?_
    refine pw_getI 9 rfl dX1_sumOf_6 fX1_33 (by first | rfl | assumption | exact rowS hh | exact mtS hm | exact ruS hr | exact mtA1 hm | exact mtA2 hm | exact mtA3 hm | exact mtA4 hm | exact mtA5 hm | exact mtA6 hm | exact mtA7 hm | exact ruA1 hr | exact ruA2 hr | exact ruA3 hr) rfl ?_
    refine pw_icmp_ge (tgt := 30) 12 rfl dX1_sumOf_9 rfl (fun h9 => absurd h9 (by rw [hn]; (simp (disch := omega) only [nI_leI, nI_ltI, nI_eq, show (0 : Int32) = nI 0 from rfl, not_true_eq_false, not_false_eq_true] <;> omega))) (fun h9 => ?_)
    refine pw_iload_n 13 rfl dX1_sumOf_12 rfl ?_
    refine pw_aload_n 14 rfl dX1_sumOf_13 rfl ?_
    refine pw_alen 15 rfl dX1_sumOf_14 (by first | rfl | assumption | exact rowS hh | exact mtS hm | exact ruS hr | exact mtA1 hm | exact mtA2 hm | exact mtA3 hm | exact mtA4 hm | exact mtA5 hm | exact mtA6 hm | exact mtA7 hm | exact ruA1 hr | exact ruA2 hr | exact ruA3 hr) rfl (by decide) rfl ?_
    refine pw_icmp_ge (tgt := 30) 18 rfl dX1_sumOf_15 rfl (fun h15 => absurd h15 (by show ¬ nI 7 ≤ nI k; (simp (disch := omega) only [nI_leI, nI_ltI, nI_eq, show (0 : Int32) = nI 0 from rfl, not_true_eq_false, not_false_eq_true] <;> omega))) (fun h15 => ?_)
    refine pw_iload_n 19 rfl dX1_sumOf_18 rfl ?_
    refine pw_aload_n 20 rfl dX1_sumOf_19 rfl ?_
    refine pw_iload_n 21 rfl dX1_sumOf_20 rfl ?_
    refine pw_ialdN 22 rfl dX1_sumOf_21 (by first | rfl | assumption | exact rowS hh | exact mtS hm | exact ruS hr | exact mtA1 hm | exact mtA2 hm | exact mtA3 hm | exact mtA4 hm | exact mtA5 hm | exact mtA6 hm | exact mtA7 hm | exact ruA1 hr | exact ruA2 hr | exact ruA3 hr) (by omega) (by decide) ?_
    rotate_left
    rw [hf k hk]
    first | refine pw_iaddN 23 rfl dX1_sumOf_22 ?_ | refine pw_iadd 23 rfl dX1_sumOf_22 ?_
    refine pw_istore_n 24 rfl dX1_sumOf_23 (by decide) ?_
    refine pw_iincN 27 rfl dX1_sumOf_24 (by decide) rfl ?_
    refine pw_goto (tgt := 4) dX1_sumOf_27 rfl ?_
    rotate_left
    exact ih
/-- heights gone by q in the first t hours -/
def gon (n : Nat) (pc : Nat → Nat) (E : (Nat → Int32) → Nat) (b : Nat → Nat) (q : Nat) : Nat → Nat := sumN (fun t => dist (hrs n pc E (t + 1) b q) (hrs n pc E t b q))
set_option maxRecDepth 100000 in
set_option maxHeartbeats 2000000 in
theorem x_heightsGone {d n N : Nat} {pc b : Nat → Nat} {E : (Nat → Int32) → Nat} {I : pI} {J : pJ} (hM : XM I 1 n pc b) (hW : WF n pc b) (hE : XE I 9 E) (hN : N ≤ 99) : PC SX (d + 6) yX3_heightsGone cX3_heightsGone 4 (some .int) [.ref 40, .int (nI N)] (I) (J) (RX) (fun r' I' J' R' => r' = some (.int (nI (sumN (fun q => gon n pc E b q N) n))) ∧ XN I' J' (nseq (fun q => lI (gon n pc E b q N)) n) ∧ fO I I' ∧ R' = RX) := by
  refine PC.of [some (.ref 40), some (.int (nI N)), none, none] rfl rfl (Nat.le_of_ble_eq_true rfl) ?_
  have h7 := hW.1
  refine pw_aload_n 1 rfl dX3_heightsGone_0 rfl ?_
  refine pw_getR 4 rfl dX3_heightsGone_1 fX3_12 (by first | rfl | assumption | exact rowS hh | exact mtS hm | exact ruS hr | exact mtA1 hm | exact mtA2 hm | exact mtA3 hm | exact mtA4 hm | exact mtA5 hm | exact mtA6 hm | exact mtA7 hm | exact ruA1 hr | exact ruA2 hr | exact ruA3 hr) rfl (by first | rfl | assumption | exact mtR0 hm | exact mtR1 hm | exact mtR2 hm | exact mtR3 hm | exact mtR4 hm | exact mtR5 hm | exact mtR6 hm | exact ruR0 hr | exact ruR1 hr | exact ruR3 hr) ?_
  refine pw_aload_n 5 rfl dX3_heightsGone_4 rfl ?_
  refine pw_getR 8 rfl dX3_heightsGone_5 fX3_25 (by first | rfl | assumption | exact rowS hh | exact mtS hm | exact ruS hr | exact mtA1 hm | exact mtA2 hm | exact mtA3 hm | exact mtA4 hm | exact mtA5 hm | exact mtA6 hm | exact mtA7 hm | exact ruA1 hr | exact ruA2 hr | exact ruA3 hr) rfl (by first | rfl | assumption | exact mtR0 hm | exact mtR1 hm | exact mtR2 hm | exact mtR3 hm | exact mtR4 hm | exact mtR5 hm | exact mtR6 hm | exact ruR0 hr | exact ruR1 hr | exact ruR3 hr) ?_
  refine pw_callV (as := [_]) 11 rfl dX3_heightsGone_8 mX3_36 vX1_copyFrom (x_copyFrom (d := d) (Or.inl rfl) hM) (by first | rfl | assumption | exact rowS hh | exact mtS hm | exact ruS hr | exact mtA1 hm | exact mtA2 hm | exact mtA3 hm | exact mtA4 hm | exact mtA5 hm | exact mtA6 hm | exact mtA7 hm | exact ruA1 hr | exact ruA2 hr | exact ruA3 hr) rfl (by decide) ⟨rfl, by decide, by decide, show (parseMethodDescriptor yX1_copyFrom.desc).map (fun d => d.parameters.length) = some 1 by decide +kernel⟩ (by omega) (by decide) (Nat.le_of_ble_eq_true rfl) rfl (fun r8 I8 J8 R8 c8 => ?_)
  obtain ⟨rfl, a1, a2, a3, rfl, rfl⟩ := c8; have e8 := XE_fr hE (a3 9 (by omega)) (a3 10 (by omega))
  refine pw_aload_n 12 rfl dX3_heightsGone_11 rfl ?_
  refine pw_callV (as := []) 15 rfl dX3_heightsGone_12 mX3_66 vX3_clearEach (x_clearEach (d := d)) (by first | rfl | assumption | exact rowS hh | exact mtS hm | exact ruS hr | exact mtA1 hm | exact mtA2 hm | exact mtA3 hm | exact mtA4 hm | exact mtA5 hm | exact mtA6 hm | exact mtA7 hm | exact ruA1 hr | exact ruA2 hr | exact ruA3 hr) rfl (by decide) ⟨rfl, by decide, by decide, show (parseMethodDescriptor yX3_clearEach.desc).map (fun d => d.parameters.length) = some 0 by decide +kernel⟩ (by omega) (by decide) (Nat.le_of_ble_eq_true rfl) rfl (fun r12 I12 J12 R12 c12 => ?_)
  obtain ⟨rfl, k1, k2, rfl, rfl⟩ := c12
  refine pw_iconst (v := nI 1) 16 rfl dX3_heightsGone_15 rfl ?_
  refine pw_istore_n 17 rfl dX3_heightsGone_16 (by decide) ?_
  rotate_left
  have L := nat_loop N (fun t => ∀ (I' : pI) (x3 : Option Value), XM I' 43 n pc (hrs n pc E t b) → XE I' 9 E → (∀ q, q < n → I' 41 q = nI (gon n pc E b q t)) → (∀ a, a ≠ 11 → ¬ (41 ≤ a ∧ a ≤ 50) → I' a = I a) → PW SX yX3_heightsGone.cls cX3_heightsGone 4 (d + 6) 17 [some (.ref 40), some (.int (nI N)), some (.int (nI (t + 1))), x3] [] (I') (J) (RX) (rX cX3_heightsGone (some .int) (fun r' I' J' R' => r' = some (.int (nI (sumN (fun q => gon n pc E b q N) n))) ∧ XN I' J' (nseq (fun q => lI (gon n pc E b q N)) n) ∧ fO I I' ∧ R' = RX))) ?_ ?_
  · exact L _ _ (XM_fr a1 (fun a h1 h2 => k2 a (by omega))) (XE_fr e8 (k2 9 (by omega)) (k2 10 (by omega))) (fun q hq => k1 q (by omega)) (fun a h1 h2 => by rw [k2 a (by omega), a3 a (by omega)])
  · intro I' x3 g1 g2 g3 g4
    have hn' : I' 1 7 = nI n := by rw [g4 1 (by omega) (by omega)]; exact hM.2.1
    refine pw_iload_n 18 rfl dX3_heightsGone_17 rfl ?_
    refine pw_iload_n 19 rfl dX3_heightsGone_18 rfl ?_
    refine pw_icmp_gt (tgt := 82) 22 rfl dX3_heightsGone_19 rfl (fun h19 => ?_) (fun h19 => absurd (by (simp (disch := omega) only [nI_leI, nI_ltI, nI_eq, show (0 : Int32) = nI 0 from rfl, not_true_eq_false, not_false_eq_true] <;> omega)) h19)
    refine pw_aload_n 83 rfl dX3_heightsGone_82 rfl ?_
    refine pw_getR 86 rfl dX3_heightsGone_83 fX3_32 (by first | rfl | assumption | exact rowS hh | exact mtS hm | exact ruS hr | exact mtA1 hm | exact mtA2 hm | exact mtA3 hm | exact mtA4 hm | exact mtA5 hm | exact mtA6 hm | exact mtA7 hm | exact ruA1 hr | exact ruA2 hr | exact ruA3 hr) rfl (by first | rfl | assumption | exact mtR0 hm | exact mtR1 hm | exact mtR2 hm | exact mtR3 hm | exact mtR4 hm | exact mtR5 hm | exact mtR6 hm | exact ruR0 hr | exact ruR1 hr | exact ruR3 hr) ?_
    refine pw_aload_n 87 rfl dX3_heightsGone_86 rfl ?_
    refine pw_getR 90 rfl dX3_heightsGone_87 fX3_18 (by first | rfl | assumption | exact rowS hh | exact mtS hm | exact ruS hr | exact mtA1 hm | exact mtA2 hm | exact mtA3 hm | exact mtA4 hm | exact mtA5 hm | exact mtA6 hm | exact mtA7 hm | exact ruA1 hr | exact ruA2 hr | exact ruA3 hr) rfl (by first | rfl | assumption | exact mtR0 hm | exact mtR1 hm | exact mtR2 hm | exact mtR3 hm | exact mtR4 hm | exact mtR5 hm | exact mtR6 hm | exact ruR0 hr | exact ruR1 hr | exact ruR3 hr) ?_
    refine pw_aload_n 91 rfl dX3_heightsGone_90 rfl ?_
    refine pw_getR 94 rfl dX3_heightsGone_91 fX3_25 (by first | rfl | assumption | exact rowS hh | exact mtS hm | exact ruS hr | exact mtA1 hm | exact mtA2 hm | exact mtA3 hm | exact mtA4 hm | exact mtA5 hm | exact mtA6 hm | exact mtA7 hm | exact ruA1 hr | exact ruA2 hr | exact ruA3 hr) rfl (by first | rfl | assumption | exact mtR0 hm | exact mtR1 hm | exact mtR2 hm | exact mtR3 hm | exact mtR4 hm | exact mtR5 hm | exact mtR6 hm | exact ruR0 hr | exact ruR1 hr | exact ruR3 hr) ?_
    refine pw_getI 97 rfl dX3_heightsGone_94 fX3_73 (by first | rfl | assumption | exact rowS hh | exact mtS hm | exact ruS hr | exact mtA1 hm | exact mtA2 hm | exact mtA3 hm | exact mtA4 hm | exact mtA5 hm | exact mtA6 hm | exact mtA7 hm | exact ruA1 hr | exact ruA2 hr | exact ruA3 hr) rfl ?_
    rotate_left
    rw [hn']
    refine pw_callV (as := [_, _]) 100 rfl dX3_heightsGone_97 mX3_76 vX2_tellEach (x_tellEach (d := d) rfl (by omega) h7) (by first | rfl | assumption | exact rowS hh | exact mtS hm | exact ruS hr | exact mtA1 hm | exact mtA2 hm | exact mtA3 hm | exact mtA4 hm | exact mtA5 hm | exact mtA6 hm | exact mtA7 hm | exact ruA1 hr | exact ruA2 hr | exact ruA3 hr) rfl (by decide) ⟨rfl, by decide, by decide, show (parseMethodDescriptor yX2_tellEach.desc).map (fun d => d.parameters.length) = some 2 by decide +kernel⟩ (by omega) (by decide) (Nat.le_of_ble_eq_true rfl) rfl (fun r97 I97 J97 R97 c97 => ?_)
    obtain ⟨rfl, n1, n2, rfl⟩ := c97
    refine pw_aload_n 101 rfl dX3_heightsGone_100 rfl ?_
    refine pw_getR 104 rfl dX3_heightsGone_101 fX3_25 (by first | rfl | assumption | exact rowS hh | exact mtS hm | exact ruS hr | exact mtA1 hm | exact mtA2 hm | exact mtA3 hm | exact mtA4 hm | exact mtA5 hm | exact mtA6 hm | exact mtA7 hm | exact ruA1 hr | exact ruA2 hr | exact ruA3 hr) rfl (by first | rfl | assumption | exact mtR0 hm | exact mtR1 hm | exact mtR2 hm | exact mtR3 hm | exact mtR4 hm | exact mtR5 hm | exact mtR6 hm | exact ruR0 hr | exact ruR1 hr | exact ruR3 hr) ?_
    refine pw_aload_n 105 rfl dX3_heightsGone_104 rfl ?_
    refine pw_getR 108 rfl dX3_heightsGone_105 fX3_18 (by first | rfl | assumption | exact rowS hh | exact mtS hm | exact ruS hr | exact mtA1 hm | exact mtA2 hm | exact mtA3 hm | exact mtA4 hm | exact mtA5 hm | exact mtA6 hm | exact mtA7 hm | exact ruA1 hr | exact ruA2 hr | exact ruA3 hr) rfl (by first | rfl | assumption | exact mtR0 hm | exact mtR1 hm | exact mtR2 hm | exact mtR3 hm | exact mtR4 hm | exact mtR5 hm | exact mtR6 hm | exact ruR0 hr | exact ruR1 hr | exact ruR3 hr) ?_
    refine pw_callVP (as := [_]) 111 rfl dX3_heightsGone_108 mX3_107 vX1_sumOf (x_sumOf (d := d) (Or.inl rfl) (by rw [n2 1 (by omega)]; exact hn') h7 rfl (fun q hq => by rw [n2 41 (by omega)]; exact g3 q hq)) (by first | rfl | assumption | exact rowS hh | exact mtS hm | exact ruS hr | exact mtA1 hm | exact mtA2 hm | exact mtA3 hm | exact mtA4 hm | exact mtA5 hm | exact mtA6 hm | exact mtA7 hm | exact ruA1 hr | exact ruA2 hr | exact ruA3 hr) rfl (by decide) ⟨rfl, by decide, by decide, show (parseMethodDescriptor yX1_sumOf.desc).map (fun d => d.parameters.length) = some 1 by decide +kernel⟩ (by omega) (by decide) (Nat.le_of_ble_eq_true rfl) rfl ?_
    refine pw_iret dX3_heightsGone_111 rfl ?_
    rotate_left
    refine ⟨rfl, ?_, fun a h1 h2 h3 => by rw [n2 a h2, g4 a h1 (by omega)], rfl⟩
    rw [nseq_congr (fun k hk => congrArg Int32.toInt64 (g3 k hk))] at n1
    exact n1
  · intro t ht ih I' x3 g1 g2 g3 g4
    refine pw_iload_n 18 rfl dX3_heightsGone_17 rfl ?_
    refine pw_iload_n 19 rfl dX3_heightsGone_18 rfl ?_
    refine pw_icmp_gt (tgt := 82) 22 rfl dX3_heightsGone_19 rfl (fun h19 => absurd h19 (by (simp (disch := omega) only [nI_leI, nI_ltI, nI_eq, show (0 : Int32) = nI 0 from rfl, not_true_eq_false, not_false_eq_true] <;> omega))) (fun h19 => ?_)
    refine pw_aload_n 23 rfl dX3_heightsGone_22 rfl ?_
    refine pw_getR 26 rfl dX3_heightsGone_23 fX3_12 (by first | rfl | assumption | exact rowS hh | exact mtS hm | exact ruS hr | exact mtA1 hm | exact mtA2 hm | exact mtA3 hm | exact mtA4 hm | exact mtA5 hm | exact mtA6 hm | exact mtA7 hm | exact ruA1 hr | exact ruA2 hr | exact ruA3 hr) rfl (by first | rfl | assumption | exact mtR0 hm | exact mtR1 hm | exact mtR2 hm | exact mtR3 hm | exact mtR4 hm | exact mtR5 hm | exact mtR6 hm | exact ruR0 hr | exact ruR1 hr | exact ruR3 hr) ?_
    refine pw_aload_n 27 rfl dX3_heightsGone_26 rfl ?_
    refine pw_getR 30 rfl dX3_heightsGone_27 fX3_28 (by first | rfl | assumption | exact rowS hh | exact mtS hm | exact ruS hr | exact mtA1 hm | exact mtA2 hm | exact mtA3 hm | exact mtA4 hm | exact mtA5 hm | exact mtA6 hm | exact mtA7 hm | exact ruA1 hr | exact ruA2 hr | exact ruA3 hr) rfl (by first | rfl | assumption | exact mtR0 hm | exact mtR1 hm | exact mtR2 hm | exact mtR3 hm | exact mtR4 hm | exact mtR5 hm | exact mtR6 hm | exact ruR0 hr | exact ruR1 hr | exact ruR3 hr) ?_
    refine pw_callV (as := [_]) 33 rfl dX3_heightsGone_30 mX3_58 vX1_passHour (x_hour43 (d := d) g1 hW g2) (by first | rfl | assumption | exact rowS hh | exact mtS hm | exact ruS hr | exact mtA1 hm | exact mtA2 hm | exact mtA3 hm | exact mtA4 hm | exact mtA5 hm | exact mtA6 hm | exact mtA7 hm | exact ruA1 hr | exact ruA2 hr | exact ruA3 hr) rfl (by decide) ⟨rfl, by decide, by decide, show (parseMethodDescriptor yX1_passHour.desc).map (fun d => d.parameters.length) = some 1 by decide +kernel⟩ (by omega) (by decide) (Nat.le_of_ble_eq_true rfl) rfl (fun r30 I30 J30 R30 c30 => ?_)
    obtain ⟨rfl, b1, b2, b3, b4, b5, rfl, rfl⟩ := c30
    refine pw_iconst (v := nI 0) 34 rfl dX3_heightsGone_33 rfl ?_
    refine pw_istore_n 35 rfl dX3_heightsGone_34 (by decide) ?_
    rotate_left
    have hn' : I30 1 7 = nI n := by rw [b5 1 (by omega) (by omega), g4 1 (by omega) (by omega)]; exact hM.2.1
    have L2 := nat_loop n (fun k => ∀ (I2 : pI), (∀ q, q < n → I2 41 q = nI (gon n pc E b q (if q < k then t + 1 else t))) → (∀ a, a ≠ 41 → I2 a = I30 a) → PW SX yX3_heightsGone.cls cX3_heightsGone 4 (d + 6) 35 [some (.ref 40), some (.int (nI N)), some (.int (nI (t + 1))), some (.int (nI k))] [] (I2) (J) (RX) (rX cX3_heightsGone (some .int) (fun r' I' J' R' => r' = some (.int (nI (sumN (fun q => gon n pc E b q N) n))) ∧ XN I' J' (nseq (fun q => lI (gon n pc E b q N)) n) ∧ fO I I' ∧ R' = RX))) ?_ ?_
    · exact L2 _ (fun q hq => by rw [b5 41 (by omega) (by omega), if_neg (by omega)]; exact g3 q hq) (fun _ _ => rfl)
    · intro I2 p1 p2
      have fin : PW SX yX3_heightsGone.cls cX3_heightsGone 4 (d + 6) 17 [some (.ref 40), some (.int (nI N)), some (.int (nI (t + 1 + 1))), some (.int (nI n))] [] (I2) (J) (RX) (rX cX3_heightsGone (some .int) (fun r' I' J' R' => r' = some (.int (nI (sumN (fun q => gon n pc E b q N) n))) ∧ XN I' J' (nseq (fun q => lI (gon n pc E b q N)) n) ∧ fO I I' ∧ R' = RX)) := ih I2 _ (XM_fr b1 (fun a h1 h2 => p2 a (by omega))) (XE_fr b2 (p2 9 (by omega)) (p2 10 (by omega))) (fun q hq => by rw [p1 q hq, if_pos hq]) (fun a h1 h2 => by rw [p2 a (by omega), b5 a h1 (by omega), g4 a h1 h2])
      refine pw_iload_n 36 rfl dX3_heightsGone_35 rfl ?_
      refine pw_bipush (v := nI 7) 38 rfl dX3_heightsGone_36 rfl ?_
      refine pw_icmp_ge (tgt := 76) 41 rfl dX3_heightsGone_38 rfl (fun h38 => ?_) (fun h38 => ?_)
      refine pw_iincN 79 rfl dX3_heightsGone_76 (by decide) rfl ?_
      refine pw_goto (tgt := 17) dX3_heightsGone_79 rfl ?_
      rotate_left
      refine pw_iload_n 42 rfl dX3_heightsGone_41 rfl ?_
      refine pw_aload_n 43 rfl dX3_heightsGone_42 rfl ?_
      refine pw_getR 46 rfl dX3_heightsGone_43 fX3_25 (by first | rfl | assumption | exact rowS hh | exact mtS hm | exact ruS hr | exact mtA1 hm | exact mtA2 hm | exact mtA3 hm | exact mtA4 hm | exact mtA5 hm | exact mtA6 hm | exact mtA7 hm | exact ruA1 hr | exact ruA2 hr | exact ruA3 hr) rfl (by first | rfl | assumption | exact mtR0 hm | exact mtR1 hm | exact mtR2 hm | exact mtR3 hm | exact mtR4 hm | exact mtR5 hm | exact mtR6 hm | exact ruR0 hr | exact ruR1 hr | exact ruR3 hr) ?_
      refine pw_getI 49 rfl dX3_heightsGone_46 fX3_73 (by first | rfl | assumption | exact rowS hh | exact mtS hm | exact ruS hr | exact mtA1 hm | exact mtA2 hm | exact mtA3 hm | exact mtA4 hm | exact mtA5 hm | exact mtA6 hm | exact mtA7 hm | exact ruA1 hr | exact ruA2 hr | exact ruA3 hr) rfl ?_
      refine pw_icmp_ge (tgt := 76) 52 rfl dX3_heightsGone_49 rfl (fun h49 => ?_) (fun h49 => absurd (by rw [p2 1 (by omega), hn']; (simp (disch := omega) only [nI_leI, nI_ltI, nI_eq, show (0 : Int32) = nI 0 from rfl, not_true_eq_false, not_false_eq_true] <;> omega)) h49)
      refine pw_iincN 79 rfl dX3_heightsGone_76 (by decide) rfl ?_
      refine pw_goto (tgt := 17) dX3_heightsGone_79 rfl ?_
      rotate_left
      · exact fin
      · exact fin
    · intro k hk ih2 I2 p1 p2
      refine pw_iload_n 36 rfl dX3_heightsGone_35 rfl ?_
      refine pw_bipush (v := nI 7) 38 rfl dX3_heightsGone_36 rfl ?_
      refine pw_icmp_ge (tgt := 76) 41 rfl dX3_heightsGone_38 rfl (fun h38 => absurd h38 (by (simp (disch := omega) only [nI_leI, nI_ltI, nI_eq, show (0 : Int32) = nI 0 from rfl, not_true_eq_false, not_false_eq_true] <;> omega))) (fun h38 => ?_)
      refine pw_iload_n 42 rfl dX3_heightsGone_41 rfl ?_
      refine pw_aload_n 43 rfl dX3_heightsGone_42 rfl ?_
      refine pw_getR 46 rfl dX3_heightsGone_43 fX3_25 (by first | rfl | assumption | exact rowS hh | exact mtS hm | exact ruS hr | exact mtA1 hm | exact mtA2 hm | exact mtA3 hm | exact mtA4 hm | exact mtA5 hm | exact mtA6 hm | exact mtA7 hm | exact ruA1 hr | exact ruA2 hr | exact ruA3 hr) rfl (by first | rfl | assumption | exact mtR0 hm | exact mtR1 hm | exact mtR2 hm | exact mtR3 hm | exact mtR4 hm | exact mtR5 hm | exact mtR6 hm | exact ruR0 hr | exact ruR1 hr | exact ruR3 hr) ?_
      refine pw_getI 49 rfl dX3_heightsGone_46 fX3_73 (by first | rfl | assumption | exact rowS hh | exact mtS hm | exact ruS hr | exact mtA1 hm | exact mtA2 hm | exact mtA3 hm | exact mtA4 hm | exact mtA5 hm | exact mtA6 hm | exact mtA7 hm | exact ruA1 hr | exact ruA2 hr | exact ruA3 hr) rfl ?_
      refine pw_icmp_ge (tgt := 76) 52 rfl dX3_heightsGone_49 rfl (fun h49 => absurd h49 (by rw [p2 1 (by omega), hn']; (simp (disch := omega) only [nI_leI, nI_ltI, nI_eq, show (0 : Int32) = nI 0 from rfl, not_true_eq_false, not_false_eq_true] <;> omega))) (fun h49 => ?_)
      refine pw_aload_n 53 rfl dX3_heightsGone_52 rfl ?_
      refine pw_getR 56 rfl dX3_heightsGone_53 fX3_18 (by first | rfl | assumption | exact rowS hh | exact mtS hm | exact ruS hr | exact mtA1 hm | exact mtA2 hm | exact mtA3 hm | exact mtA4 hm | exact mtA5 hm | exact mtA6 hm | exact mtA7 hm | exact ruA1 hr | exact ruA2 hr | exact ruA3 hr) rfl (by first | rfl | assumption | exact mtR0 hm | exact mtR1 hm | exact mtR2 hm | exact mtR3 hm | exact mtR4 hm | exact mtR5 hm | exact mtR6 hm | exact ruR0 hr | exact ruR1 hr | exact ruR3 hr) ?_
      refine pw_iload_n 57 rfl dX3_heightsGone_56 rfl ?_
      refine pw_dup2 58 rfl dX3_heightsGone_57 rfl rfl ?_
      refine pw_ialdN 59 rfl dX3_heightsGone_58 (by first | rfl | assumption | exact rowS hh | exact mtS hm | exact ruS hr | exact mtA1 hm | exact mtA2 hm | exact mtA3 hm | exact mtA4 hm | exact mtA5 hm | exact mtA6 hm | exact mtA7 hm | exact ruA1 hr | exact ruA2 hr | exact ruA3 hr) (by omega) (by decide) ?_
      refine pw_aload_n 60 rfl dX3_heightsGone_59 rfl ?_
      refine pw_getR 63 rfl dX3_heightsGone_60 fX3_12 (by first | rfl | assumption | exact rowS hh | exact mtS hm | exact ruS hr | exact mtA1 hm | exact mtA2 hm | exact mtA3 hm | exact mtA4 hm | exact mtA5 hm | exact mtA6 hm | exact mtA7 hm | exact ruA1 hr | exact ruA2 hr | exact ruA3 hr) rfl (by first | rfl | assumption | exact mtR0 hm | exact mtR1 hm | exact mtR2 hm | exact mtR3 hm | exact mtR4 hm | exact mtR5 hm | exact mtR6 hm | exact ruR0 hr | exact ruR1 hr | exact ruR3 hr) ?_
      refine pw_getR 66 rfl dX3_heightsGone_63 fX3_104 (by first | rfl | assumption | exact rowS hh | exact mtS hm | exact ruS hr | exact mtA1 hm | exact mtA2 hm | exact mtA3 hm | exact mtA4 hm | exact mtA5 hm | exact mtA6 hm | exact mtA7 hm | exact ruA1 hr | exact ruA2 hr | exact ruA3 hr) rfl (by first | rfl | assumption | exact mtR0 hm | exact mtR1 hm | exact mtR2 hm | exact mtR3 hm | exact mtR4 hm | exact mtR5 hm | exact mtR6 hm | exact ruR0 hr | exact ruR1 hr | exact ruR3 hr) ?_
      refine pw_iload_n 67 rfl dX3_heightsGone_66 rfl ?_
      refine pw_ialdN 68 rfl dX3_heightsGone_67 (by first | rfl | assumption | exact rowS hh | exact mtS hm | exact ruS hr | exact mtA1 hm | exact mtA2 hm | exact mtA3 hm | exact mtA4 hm | exact mtA5 hm | exact mtA6 hm | exact mtA7 hm | exact ruA1 hr | exact ruA2 hr | exact ruA3 hr) (by omega) (by decide) ?_
      rotate_left
      rw [p1 k hk, if_neg (by omega), p2 50 (by omega), b4 k hk]
      first | refine pw_iaddN 69 rfl dX3_heightsGone_68 ?_ | refine pw_iadd 69 rfl dX3_heightsGone_68 ?_
      refine pw_iastN 70 rfl dX3_heightsGone_69 (by first | rfl | assumption | exact rowS hh | exact mtS hm | exact ruS hr | exact mtA1 hm | exact mtA2 hm | exact mtA3 hm | exact mtA4 hm | exact mtA5 hm | exact mtA6 hm | exact mtA7 hm | exact ruA1 hr | exact ruA2 hr | exact ruA3 hr) (by omega) (by decide) ?_
      refine pw_iincN 73 rfl dX3_heightsGone_70 (by decide) rfl ?_
      refine pw_goto (tgt := 35) dX3_heightsGone_73 rfl ?_
      rotate_left
      refine ih2 _ (fun q hq => ?_) (fun a ha => by rw [uI, if_neg ha, p2 a ha])
      by_cases e : q = k
      · rw [e, uI_eq, if_pos (by omega)]; rfl
      · rw [uI_ne (by omega), p1 q hq]
        by_cases e1 : q < k
        · rw [if_pos e1, if_pos (by omega)]
        · rw [if_neg e1, if_neg (by omega)]
