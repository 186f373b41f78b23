/-! the class's Past: pages -/
def Pg (f : Nat → Int32) (b : Nat → Nat) (k : Nat) : Prop := f 0 = nI (b 28) ∧ f 1 = nI (b 29) ∧ f 2 = nI (b 30) ∧ f 3 = nI (b 31) ∧ ∀ i, i < k → f (4 + 4 * i) = nI (b i) ∧ f (5 + 4 * i) = nI (b (7 + i)) ∧ f (6 + 4 * i) = nI (b (14 + i)) ∧ f (7 + 4 * i) = nI (b (21 + i))
set_option maxRecDepth 100000 in
set_option maxHeartbeats 2000000 in
theorem x_write {d h n : Nat} {pc b : Nat → Nat} {I : pI} {J : pJ} (hM : XM I 1 n pc b) (hh : SX[h]? = some (100, 32)) (h9 : 9 ≤ h) : PC SX (d) yX4_write cX4_write 3 none [.ref 1, .ref h] (I) (J) (RX) (fun r' I' J' R' => r' = none ∧ Pg (I' h) b 7 ∧ (∀ a, a ≠ h → I' a = I a) ∧ J = J' ∧ R' = RX) := by
  refine PC.of [some (.ref 1), some (.ref h), none] rfl rfl (Nat.le_of_ble_eq_true rfl) ?_
  obtain ⟨h7, i7, i8, i9, i10, i11, hA⟩ := hM
  refine pw_aload_n 1 rfl dX4_write_0 rfl ?_
  refine pw_alen 2 rfl dX4_write_1 (by first | rfl | assumption | exact rowS hh | exact mtS hm | exact ruS hr | exact mtA1 hm | exact mtA2 hm | exact mtA3 hm | exact mtA4 hm | exact mtA5 hm | exact mtA6 hm | exact mtA7 hm | exact ruA1 hr | exact ruA2 hr | exact ruA3 hr) rfl (by decide) rfl ?_
  refine pw_bipush (v := nI 32) 4 rfl dX4_write_2 rfl ?_
  refine pw_icmp_ge (tgt := 8) 7 rfl dX4_write_4 rfl (fun h4 => ?_) (fun h4 => absurd (by show nI 32 ≤ nI 32; (simp (disch := omega) only [nI_leI, nI_ltI, nI_eq, show (0 : Int32) = nI 0 from rfl, not_true_eq_false, not_false_eq_true] <;> omega)) h4)
  refine pw_aload_n 9 rfl dX4_write_8 rfl ?_
  refine pw_iconst (v := nI 0) 10 rfl dX4_write_9 rfl ?_
  refine pw_aload_n 11 rfl dX4_write_10 rfl ?_
  refine pw_getI 14 rfl dX4_write_11 fX4_48 (by first | rfl | assumption | exact rowS hh | exact mtS hm | exact ruS hr | exact mtA1 hm | exact mtA2 hm | exact mtA3 hm | exact mtA4 hm | exact mtA5 hm | exact mtA6 hm | exact mtA7 hm | exact ruA1 hr | exact ruA2 hr | exact ruA3 hr) rfl ?_
  rotate_left
  rw [i8]
  refine pw_iastN 15 rfl dX4_write_14 (by first | rfl | assumption | exact rowS hh | exact mtS hm | exact ruS hr | exact mtA1 hm | exact mtA2 hm | exact mtA3 hm | exact mtA4 hm | exact mtA5 hm | exact mtA6 hm | exact mtA7 hm | exact ruA1 hr | exact ruA2 hr | exact ruA3 hr) (by omega) (by decide) ?_
  refine pw_aload_n 16 rfl dX4_write_15 rfl ?_
  refine pw_iconst (v := nI 1) 17 rfl dX4_write_16 rfl ?_
  refine pw_aload_n 18 rfl dX4_write_17 rfl ?_
  refine pw_getI 21 rfl dX4_write_18 fX4_53 (by first | rfl | assumption | exact rowS hh | exact mtS hm | exact ruS hr | exact mtA1 hm | exact mtA2 hm | exact mtA3 hm | exact mtA4 hm | exact mtA5 hm | exact mtA6 hm | exact mtA7 hm | exact ruA1 hr | exact ruA2 hr | exact ruA3 hr) rfl ?_
  rotate_left
  rw [uI_ne (by omega), i9]
  refine pw_iastN 22 rfl dX4_write_21 (by first | rfl | assumption | exact rowS hh | exact mtS hm | exact ruS hr | exact mtA1 hm | exact mtA2 hm | exact mtA3 hm | exact mtA4 hm | exact mtA5 hm | exact mtA6 hm | exact mtA7 hm | exact ruA1 hr | exact ruA2 hr | exact ruA3 hr) (by omega) (by decide) ?_
  refine pw_aload_n 23 rfl dX4_write_22 rfl ?_
  refine pw_iconst (v := nI 2) 24 rfl dX4_write_23 rfl ?_
  refine pw_aload_n 25 rfl dX4_write_24 rfl ?_
  refine pw_getI 28 rfl dX4_write_25 fX4_56 (by first | rfl | assumption | exact rowS hh | exact mtS hm | exact ruS hr | exact mtA1 hm | exact mtA2 hm | exact mtA3 hm | exact mtA4 hm | exact mtA5 hm | exact mtA6 hm | exact mtA7 hm | exact ruA1 hr | exact ruA2 hr | exact ruA3 hr) rfl ?_
  rotate_left
  rw [uI_ne (by omega), uI_ne (by omega), i10]
  refine pw_iastN 29 rfl dX4_write_28 (by first | rfl | assumption | exact rowS hh | exact mtS hm | exact ruS hr | exact mtA1 hm | exact mtA2 hm | exact mtA3 hm | exact mtA4 hm | exact mtA5 hm | exact mtA6 hm | exact mtA7 hm | exact ruA1 hr | exact ruA2 hr | exact ruA3 hr) (by omega) (by decide) ?_
  refine pw_aload_n 30 rfl dX4_write_29 rfl ?_
  refine pw_iconst (v := nI 3) 31 rfl dX4_write_30 rfl ?_
  refine pw_aload_n 32 rfl dX4_write_31 rfl ?_
  refine pw_getI 35 rfl dX4_write_32 fX4_59 (by first | rfl | assumption | exact rowS hh | exact mtS hm | exact ruS hr | exact mtA1 hm | exact mtA2 hm | exact mtA3 hm | exact mtA4 hm | exact mtA5 hm | exact mtA6 hm | exact mtA7 hm | exact ruA1 hr | exact ruA2 hr | exact ruA3 hr) rfl ?_
  rotate_left
  rw [uI_ne (by omega), uI_ne (by omega), uI_ne (by omega), i11]
  refine pw_iastN 36 rfl dX4_write_35 (by first | rfl | assumption | exact rowS hh | exact mtS hm | exact ruS hr | exact mtA1 hm | exact mtA2 hm | exact mtA3 hm | exact mtA4 hm | exact mtA5 hm | exact mtA6 hm | exact mtA7 hm | exact ruA1 hr | exact ruA2 hr | exact ruA3 hr) (by omega) (by decide) ?_
  refine pw_iconst (v := nI 0) 37 rfl dX4_write_36 rfl ?_
  refine pw_istore_n 38 rfl dX4_write_37 (by decide) ?_
  rotate_left
  have L := nat_loop 7 (fun k => ∀ (I' : pI), Pg (I' h) b k → (∀ a, a ≠ h → I' a = I a) → PW SX yX4_write.cls cX4_write 3 (d) 38 [some (.ref 1), some (.ref h), some (.int (nI k))] [] (I') (J) (RX) (rX cX4_write none (fun r' I' J' R' => r' = none ∧ Pg (I' h) b 7 ∧ (∀ a, a ≠ h → I' a = I a) ∧ J = J' ∧ R' = RX))) ?_ ?_
  · refine L _ ⟨?_, ?_, ?_, ?_, fun i hi => by omega⟩ (fun a ha => by rw [uI, if_neg ha, uI, if_neg ha, uI, if_neg ha, uI, if_neg ha])
    · rw [uI_ne (by omega), uI_ne (by omega), uI_ne (by omega), uI_eq]
    · rw [uI_ne (by omega), uI_ne (by omega), uI_eq]
    · rw [uI_ne (by omega), uI_eq]
    · rw [uI_eq]
  · intro I' g1 g2
    refine pw_iload_n 39 rfl dX4_write_38 rfl ?_
    refine pw_bipush (v := nI 7) 41 rfl dX4_write_39 rfl ?_
    refine pw_icmp_ge (tgt := 104) 44 rfl dX4_write_41 rfl (fun h41 => ?_) (fun h41 => absurd (by (simp (disch := omega) only [nI_leI, nI_ltI, nI_eq, show (0 : Int32) = nI 0 from rfl, not_true_eq_false, not_false_eq_true] <;> omega)) h41)
    refine pw_vret dX4_write_104 ?_
    rotate_left
    exact ⟨rfl, g1, g2, rfl, rfl⟩
  · intro k hk ih I' g1 g2
    obtain ⟨a1, a2, a3, a4, a5⟩ := hA k hk
    refine pw_iload_n 39 rfl dX4_write_38 rfl ?_
    refine pw_bipush (v := nI 7) 41 rfl dX4_write_39 rfl ?_
    refine pw_icmp_ge (tgt := 104) 44 rfl dX4_write_41 rfl (fun h41 => absurd h41 (by (simp (disch := omega) only [nI_leI, nI_ltI, nI_eq, show (0 : Int32) = nI 0 from rfl, not_true_eq_false, not_false_eq_true] <;> omega))) (fun h41 => ?_)
    refine pw_aload_n 45 rfl dX4_write_44 rfl ?_
    refine pw_iconst (v := nI 4) 46 rfl dX4_write_45 rfl ?_
    refine pw_iconst (v := nI 4) 47 rfl dX4_write_46 rfl ?_
    refine pw_iload_n 48 rfl dX4_write_47 rfl ?_
    first | refine pw_imulN 49 rfl dX4_write_48 ?_ | refine pw_imul 49 rfl dX4_write_48 ?_
    first | refine pw_iaddN 50 rfl dX4_write_49 ?_ | refine pw_iadd 50 rfl dX4_write_49 ?_
    refine pw_aload_n 51 rfl dX4_write_50 rfl ?_
    refine pw_getR 54 rfl dX4_write_51 fX4_62 (by first | rfl | assumption | exact rowS hh | exact mtS hm | exact ruS hr | exact mtA1 hm | exact mtA2 hm | exact mtA3 hm | exact mtA4 hm | exact mtA5 hm | exact mtA6 hm | exact mtA7 hm | exact ruA1 hr | exact ruA2 hr | exact ruA3 hr) rfl (by first | rfl | assumption | exact mtR0 hm | exact mtR1 hm | exact mtR2 hm | exact mtR3 hm | exact mtR4 hm | exact mtR5 hm | exact mtR6 hm | exact ruR0 hr | exact ruR1 hr | exact ruR3 hr) ?_
    refine pw_iload_n 55 rfl dX4_write_54 rfl ?_
    refine pw_ialdN 56 rfl dX4_write_55 (by first | rfl | assumption | exact rowS hh | exact mtS hm | exact ruS hr | exact mtA1 hm | exact mtA2 hm | exact mtA3 hm | exact mtA4 hm | exact mtA5 hm | exact mtA6 hm | exact mtA7 hm | exact ruA1 hr | exact ruA2 hr | exact ruA3 hr) (by omega) (by decide) ?_
    rotate_left
    rw [g2 3 (by omega), a2]
    refine pw_iastN 57 rfl dX4_write_56 (by first | rfl | assumption | exact rowS hh | exact mtS hm | exact ruS hr | exact mtA1 hm | exact mtA2 hm | exact mtA3 hm | exact mtA4 hm | exact mtA5 hm | exact mtA6 hm | exact mtA7 hm | exact ruA1 hr | exact ruA2 hr | exact ruA3 hr) (by omega) (by decide) ?_
    refine pw_aload_n 58 rfl dX4_write_57 rfl ?_
    refine pw_iconst (v := nI 5) 59 rfl dX4_write_58 rfl ?_
    refine pw_iconst (v := nI 4) 60 rfl dX4_write_59 rfl ?_
    refine pw_iload_n 61 rfl dX4_write_60 rfl ?_
    first | refine pw_imulN 62 rfl dX4_write_61 ?_ | refine pw_imul 62 rfl dX4_write_61 ?_
    first | refine pw_iaddN 63 rfl dX4_write_62 ?_ | refine pw_iadd 63 rfl dX4_write_62 ?_
    refine pw_aload_n 64 rfl dX4_write_63 rfl ?_
    refine pw_getR 67 rfl dX4_write_64 fX4_65 (by first | rfl | assumption | exact rowS hh | exact mtS hm | exact ruS hr | exact mtA1 hm | exact mtA2 hm | exact mtA3 hm | exact mtA4 hm | exact mtA5 hm | exact mtA6 hm | exact mtA7 hm | exact ruA1 hr | exact ruA2 hr | exact ruA3 hr) rfl (by first | rfl | assumption | exact mtR0 hm | exact mtR1 hm | exact mtR2 hm | exact mtR3 hm | exact mtR4 hm | exact mtR5 hm | exact mtR6 hm | exact ruR0 hr | exact ruR1 hr | exact ruR3 hr) ?_
    refine pw_iload_n 68 rfl dX4_write_67 rfl ?_
    refine pw_ialdN 69 rfl dX4_write_68 (by first | rfl | assumption | exact rowS hh | exact mtS hm | exact ruS hr | exact mtA1 hm | exact mtA2 hm | exact mtA3 hm | exact mtA4 hm | exact mtA5 hm | exact mtA6 hm | exact mtA7 hm | exact ruA1 hr | exact ruA2 hr | exact ruA3 hr) (by omega) (by decide) ?_
    rotate_left
    rw [uI_ne (by omega), g2 4 (by omega), a3]
    refine pw_iastN 70 rfl dX4_write_69 (by first | rfl | assumption | exact rowS hh | exact mtS hm | exact ruS hr | exact mtA1 hm | exact mtA2 hm | exact mtA3 hm | exact mtA4 hm | exact mtA5 hm | exact mtA6 hm | exact mtA7 hm | exact ruA1 hr | exact ruA2 hr | exact ruA3 hr) (by omega) (by decide) ?_
    refine pw_aload_n 71 rfl dX4_write_70 rfl ?_
    refine pw_bipush (v := nI 6) 73 rfl dX4_write_71 rfl ?_
    refine pw_iconst (v := nI 4) 74 rfl dX4_write_73 rfl ?_
    refine pw_iload_n 75 rfl dX4_write_74 rfl ?_
    first | refine pw_imulN 76 rfl dX4_write_75 ?_ | refine pw_imul 76 rfl dX4_write_75 ?_
    first | refine pw_iaddN 77 rfl dX4_write_76 ?_ | refine pw_iadd 77 rfl dX4_write_76 ?_
    refine pw_aload_n 78 rfl dX4_write_77 rfl ?_
    refine pw_getR 81 rfl dX4_write_78 fX4_68 (by first | rfl | assumption | exact rowS hh | exact mtS hm | exact ruS hr | exact mtA1 hm | exact mtA2 hm | exact mtA3 hm | exact mtA4 hm | exact mtA5 hm | exact mtA6 hm | exact mtA7 hm | exact ruA1 hr | exact ruA2 hr | exact ruA3 hr) rfl (by first | rfl | assumption | exact mtR0 hm | exact mtR1 hm | exact mtR2 hm | exact mtR3 hm | exact mtR4 hm | exact mtR5 hm | exact mtR6 hm | exact ruR0 hr | exact ruR1 hr | exact ruR3 hr) ?_
    refine pw_iload_n 82 rfl dX4_write_81 rfl ?_
    refine pw_ialdN 83 rfl dX4_write_82 (by first | rfl | assumption | exact rowS hh | exact mtS hm | exact ruS hr | exact mtA1 hm | exact mtA2 hm | exact mtA3 hm | exact mtA4 hm | exact mtA5 hm | exact mtA6 hm | exact mtA7 hm | exact ruA1 hr | exact ruA2 hr | exact ruA3 hr) (by omega) (by decide) ?_
    rotate_left
    rw [uI_ne (by omega), uI_ne (by omega), g2 5 (by omega), a4]
    refine pw_iastN 84 rfl dX4_write_83 (by first | rfl | assumption | exact rowS hh | exact mtS hm | exact ruS hr | exact mtA1 hm | exact mtA2 hm | exact mtA3 hm | exact mtA4 hm | exact mtA5 hm | exact mtA6 hm | exact mtA7 hm | exact ruA1 hr | exact ruA2 hr | exact ruA3 hr) (by omega) (by decide) ?_
    refine pw_aload_n 85 rfl dX4_write_84 rfl ?_
    refine pw_bipush (v := nI 7) 87 rfl dX4_write_85 rfl ?_
    refine pw_iconst (v := nI 4) 88 rfl dX4_write_87 rfl ?_
    refine pw_iload_n 89 rfl dX4_write_88 rfl ?_
    first | refine pw_imulN 90 rfl dX4_write_89 ?_ | refine pw_imul 90 rfl dX4_write_89 ?_
    first | refine pw_iaddN 91 rfl dX4_write_90 ?_ | refine pw_iadd 91 rfl dX4_write_90 ?_
    refine pw_aload_n 92 rfl dX4_write_91 rfl ?_
    refine pw_getR 95 rfl dX4_write_92 fX4_71 (by first | rfl | assumption | exact rowS hh | exact mtS hm | exact ruS hr | exact mtA1 hm | exact mtA2 hm | exact mtA3 hm | exact mtA4 hm | exact mtA5 hm | exact mtA6 hm | exact mtA7 hm | exact ruA1 hr | exact ruA2 hr | exact ruA3 hr) rfl (by first | rfl | assumption | exact mtR0 hm | exact mtR1 hm | exact mtR2 hm | exact mtR3 hm | exact mtR4 hm | exact mtR5 hm | exact mtR6 hm | exact ruR0 hr | exact ruR1 hr | exact ruR3 hr) ?_
    refine pw_iload_n 96 rfl dX4_write_95 rfl ?_
    refine pw_ialdN 97 rfl dX4_write_96 (by first | rfl | assumption | exact rowS hh | exact mtS hm | exact ruS hr | exact mtA1 hm | exact mtA2 hm | exact mtA3 hm | exact mtA4 hm | exact mtA5 hm | exact mtA6 hm | exact mtA7 hm | exact ruA1 hr | exact ruA2 hr | exact ruA3 hr) (by omega) (by decide) ?_
    rotate_left
    rw [uI_ne (by omega), uI_ne (by omega), uI_ne (by omega), g2 6 (by omega), a5]
    refine pw_iastN 98 rfl dX4_write_97 (by first | rfl | assumption | exact rowS hh | exact mtS hm | exact ruS hr | exact mtA1 hm | exact mtA2 hm | exact mtA3 hm | exact mtA4 hm | exact mtA5 hm | exact mtA6 hm | exact mtA7 hm | exact ruA1 hr | exact ruA2 hr | exact ruA3 hr) (by omega) (by decide) ?_
    refine pw_iincN 101 rfl dX4_write_98 (by decide) rfl ?_
    refine pw_goto (tgt := 38) dX4_write_101 rfl ?_
    rotate_left
    obtain ⟨p1, p2, p3, p4, p5⟩ := g1
    refine ih _ ⟨?_, ?_, ?_, ?_, fun i hi => ?_⟩ (fun a ha => by rw [uI, if_neg ha, uI, if_neg ha, uI, if_neg ha, uI, if_neg ha]; exact g2 a ha)
    · rw [uI_ne (by omega), uI_ne (by omega), uI_ne (by omega), uI_ne (by omega)]; exact p1
    · rw [uI_ne (by omega), uI_ne (by omega), uI_ne (by omega), uI_ne (by omega)]; exact p2
    · rw [uI_ne (by omega), uI_ne (by omega), uI_ne (by omega), uI_ne (by omega)]; exact p3
    · rw [uI_ne (by omega), uI_ne (by omega), uI_ne (by omega), uI_ne (by omega)]; exact p4
    · by_cases e : i = k
      · subst e
        refine ⟨?_, ?_, ?_, uI_eq _ _ _ _⟩
        · rw [uI_ne (by omega), uI_ne (by omega), uI_ne (by omega), uI_eq]
        · rw [uI_ne (by omega), uI_ne (by omega), uI_eq]
        · rw [uI_ne (by omega), uI_eq]
      · obtain ⟨q1, q2, q3, q4⟩ := p5 i (by omega)
        refine ⟨?_, ?_, ?_, ?_⟩
        · rw [uI_ne (by omega), uI_ne (by omega), uI_ne (by omega), uI_ne (by omega)]; exact q1
        · rw [uI_ne (by omega), uI_ne (by omega), uI_ne (by omega), uI_ne (by omega)]; exact q2
        · rw [uI_ne (by omega), uI_ne (by omega), uI_ne (by omega), uI_ne (by omega)]; exact q3
        · rw [uI_ne (by omega), uI_ne (by omega), uI_ne (by omega), uI_ne (by omega)]; exact q4
set_option maxRecDepth 100000 in
set_option maxHeartbeats 2000000 in
theorem x_read {d h n : Nat} {pc b b' : Nat → Nat} {I : pI} {J : pJ} (hM : XM I 1 n pc b') (hP : Pg (I h) b 7) (hh : SX[h]? = some (100, 32)) (h9 : 9 ≤ h) : PC SX (d) yX4_read cX4_read 3 none [.ref h, .ref 1] (I) (J) (RX) (fun r' I' J' R' => r' = none ∧ XM I' 1 n pc b ∧ fM 1 I I' ∧ J = J' ∧ R' = RX) := by
  refine PC.of [some (.ref h), some (.ref 1), none] rfl rfl (Nat.le_of_ble_eq_true rfl) ?_
  obtain ⟨h7, i7, i8, i9, i10, i11, hA⟩ := hM
  obtain ⟨p1, p2, p3, p4, p5⟩ := hP
  refine pw_aload_n 1 rfl dX4_read_0 rfl ?_
  refine pw_alen 2 rfl dX4_read_1 (by first | rfl | assumption | exact rowS hh | exact mtS hm | exact ruS hr | exact mtA1 hm | exact mtA2 hm | exact mtA3 hm | exact mtA4 hm | exact mtA5 hm | exact mtA6 hm | exact mtA7 hm | exact ruA1 hr | exact ruA2 hr | exact ruA3 hr) rfl (by decide) rfl ?_
  refine pw_bipush (v := nI 32) 4 rfl dX4_read_2 rfl ?_
  refine pw_icmp_ge (tgt := 8) 7 rfl dX4_read_4 rfl (fun h4 => ?_) (fun h4 => absurd (by show nI 32 ≤ nI 32; (simp (disch := omega) only [nI_leI, nI_ltI, nI_eq, show (0 : Int32) = nI 0 from rfl, not_true_eq_false, not_false_eq_true] <;> omega)) h4)
  refine pw_aload_n 9 rfl dX4_read_8 rfl ?_
  refine pw_aload_n 10 rfl dX4_read_9 rfl ?_
  refine pw_iconst (v := nI 0) 11 rfl dX4_read_10 rfl ?_
  refine pw_ialdN 12 rfl dX4_read_11 (by first | rfl | assumption | exact rowS hh | exact mtS hm | exact ruS hr | exact mtA1 hm | exact mtA2 hm | exact mtA3 hm | exact mtA4 hm | exact mtA5 hm | exact mtA6 hm | exact mtA7 hm | exact ruA1 hr | exact ruA2 hr | exact ruA3 hr) (by omega) (by decide) ?_
  rotate_left
  rw [p1]
  refine pw_putI 15 rfl dX4_read_12 fX4_48 w1_8 (by first | rfl | assumption | exact rowS hh | exact mtS hm | exact ruS hr | exact mtA1 hm | exact mtA2 hm | exact mtA3 hm | exact mtA4 hm | exact mtA5 hm | exact mtA6 hm | exact mtA7 hm | exact ruA1 hr | exact ruA2 hr | exact ruA3 hr) rfl rfl rfl ?_
  refine pw_aload_n 16 rfl dX4_read_15 rfl ?_
  refine pw_aload_n 17 rfl dX4_read_16 rfl ?_
  refine pw_iconst (v := nI 1) 18 rfl dX4_read_17 rfl ?_
  refine pw_ialdN 19 rfl dX4_read_18 (by first | rfl | assumption | exact rowS hh | exact mtS hm | exact ruS hr | exact mtA1 hm | exact mtA2 hm | exact mtA3 hm | exact mtA4 hm | exact mtA5 hm | exact mtA6 hm | exact mtA7 hm | exact ruA1 hr | exact ruA2 hr | exact ruA3 hr) (by omega) (by decide) ?_
  rotate_left
  rw [uI_ne (by omega), p2]
  refine pw_putI 22 rfl dX4_read_19 fX4_53 w1_9 (by first | rfl | assumption | exact rowS hh | exact mtS hm | exact ruS hr | exact mtA1 hm | exact mtA2 hm | exact mtA3 hm | exact mtA4 hm | exact mtA5 hm | exact mtA6 hm | exact mtA7 hm | exact ruA1 hr | exact ruA2 hr | exact ruA3 hr) rfl rfl rfl ?_
  refine pw_aload_n 23 rfl dX4_read_22 rfl ?_
  refine pw_aload_n 24 rfl dX4_read_23 rfl ?_
  refine pw_iconst (v := nI 2) 25 rfl dX4_read_24 rfl ?_
  refine pw_ialdN 26 rfl dX4_read_25 (by first | rfl | assumption | exact rowS hh | exact mtS hm | exact ruS hr | exact mtA1 hm | exact mtA2 hm | exact mtA3 hm | exact mtA4 hm | exact mtA5 hm | exact mtA6 hm | exact mtA7 hm | exact ruA1 hr | exact ruA2 hr | exact ruA3 hr) (by omega) (by decide) ?_
  rotate_left
  rw [uI_ne (by omega), uI_ne (by omega), p3]
  refine pw_putI 29 rfl dX4_read_26 fX4_56 w1_10 (by first | rfl | assumption | exact rowS hh | exact mtS hm | exact ruS hr | exact mtA1 hm | exact mtA2 hm | exact mtA3 hm | exact mtA4 hm | exact mtA5 hm | exact mtA6 hm | exact mtA7 hm | exact ruA1 hr | exact ruA2 hr | exact ruA3 hr) rfl rfl rfl ?_
  refine pw_aload_n 30 rfl dX4_read_29 rfl ?_
  refine pw_aload_n 31 rfl dX4_read_30 rfl ?_
  refine pw_iconst (v := nI 3) 32 rfl dX4_read_31 rfl ?_
  refine pw_ialdN 33 rfl dX4_read_32 (by first | rfl | assumption | exact rowS hh | exact mtS hm | exact ruS hr | exact mtA1 hm | exact mtA2 hm | exact mtA3 hm | exact mtA4 hm | exact mtA5 hm | exact mtA6 hm | exact mtA7 hm | exact ruA1 hr | exact ruA2 hr | exact ruA3 hr) (by omega) (by decide) ?_
  rotate_left
  rw [uI_ne (by omega), uI_ne (by omega), uI_ne (by omega), p4]
  refine pw_putI 36 rfl dX4_read_33 fX4_59 w1_11 (by first | rfl | assumption | exact rowS hh | exact mtS hm | exact ruS hr | exact mtA1 hm | exact mtA2 hm | exact mtA3 hm | exact mtA4 hm | exact mtA5 hm | exact mtA6 hm | exact mtA7 hm | exact ruA1 hr | exact ruA2 hr | exact ruA3 hr) rfl rfl rfl ?_
  refine pw_iconst (v := nI 0) 37 rfl dX4_read_36 rfl ?_
  refine pw_istore_n 38 rfl dX4_read_37 (by decide) ?_
  rotate_left
  have L := nat_loop 7 (fun k => ∀ (I' : pI), (∀ a, ¬ (1 ≤ a ∧ a ≤ 8) → I' a = I a) → I' 1 7 = nI n → I' 1 8 = nI (b 28) → I' 1 9 = nI (b 29) → I' 1 10 = nI (b 30) → I' 1 11 = nI (b 31) → I' 2 = I 2 → (∀ i, i < k → I' 3 i = nI (b i) ∧ I' 4 i = nI (b (7 + i)) ∧ I' 5 i = nI (b (14 + i)) ∧ I' 6 i = nI (b (21 + i))) → PW SX yX4_read.cls cX4_read 3 (d) 38 [some (.ref h), some (.ref 1), some (.int (nI k))] [] (I') (J) (RX) (rX cX4_read none (fun r' I' J' R' => r' = none ∧ XM I' 1 n pc b ∧ fM 1 I I' ∧ J = J' ∧ R' = RX))) ?_ ?_
  · refine L _ (fun a ha => by rw [uI, if_neg (by omega), uI, if_neg (by omega), uI, if_neg (by omega), uI, if_neg (by omega)]) ?_ ?_ ?_ ?_ ?_ ?_ (fun i hi => by omega)
    · rw [uI_ne (by omega), uI_ne (by omega), uI_ne (by omega), uI_ne (by omega)]; exact i7
    · rw [uI_ne (by omega), uI_ne (by omega), uI_ne (by omega), uI_eq]
    · rw [uI_ne (by omega), uI_ne (by omega), uI_eq]
    · rw [uI_ne (by omega), uI_eq]
    · rw [uI_eq]
    · rw [uI, if_neg (by omega), uI, if_neg (by omega), uI, if_neg (by omega), uI, if_neg (by omega)]
  · intro I' g0 g7 g8 g9 g10 g11 g2 g3
    refine pw_iload_n 39 rfl dX4_read_38 rfl ?_
    refine pw_bipush (v := nI 7) 41 rfl dX4_read_39 rfl ?_
    refine pw_icmp_ge (tgt := 104) 44 rfl dX4_read_41 rfl (fun h41 => ?_) (fun h41 => absurd (by (simp (disch := omega) only [nI_leI, nI_ltI, nI_eq, show (0 : Int32) = nI 0 from rfl, not_true_eq_false, not_false_eq_true] <;> omega)) h41)
    refine pw_vret dX4_read_104 ?_
    rotate_left
    exact ⟨rfl, ⟨h7, g7, g8, g9, g10, g11, fun k hk => ⟨by rw [g2]; exact (hA k hk).1, g3 k hk⟩⟩, g0, rfl, rfl⟩
  · intro k hk ih I' g0 g7 g8 g9 g10 g11 g2 g3
    obtain ⟨q1, q2, q3, q4⟩ := p5 k hk
    refine pw_iload_n 39 rfl dX4_read_38 rfl ?_
    refine pw_bipush (v := nI 7) 41 rfl dX4_read_39 rfl ?_
    refine pw_icmp_ge (tgt := 104) 44 rfl dX4_read_41 rfl (fun h41 => absurd h41 (by (simp (disch := omega) only [nI_leI, nI_ltI, nI_eq, show (0 : Int32) = nI 0 from rfl, not_true_eq_false, not_false_eq_true] <;> omega))) (fun h41 => ?_)
    refine pw_aload_n 45 rfl dX4_read_44 rfl ?_
    refine pw_getR 48 rfl dX4_read_45 fX4_62 (by first | rfl | assumption | exact rowS hh | exact mtS hm | exact ruS hr | exact mtA1 hm | exact mtA2 hm | exact mtA3 hm | exact mtA4 hm | exact mtA5 hm | exact mtA6 hm | exact mtA7 hm | exact ruA1 hr | exact ruA2 hr | exact ruA3 hr) rfl (by first | rfl | assumption | exact mtR0 hm | exact mtR1 hm | exact mtR2 hm | exact mtR3 hm | exact mtR4 hm | exact mtR5 hm | exact mtR6 hm | exact ruR0 hr | exact ruR1 hr | exact ruR3 hr) ?_
    refine pw_iload_n 49 rfl dX4_read_48 rfl ?_
    refine pw_aload_n 50 rfl dX4_read_49 rfl ?_
    refine pw_iconst (v := nI 4) 51 rfl dX4_read_50 rfl ?_
    refine pw_iconst (v := nI 4) 52 rfl dX4_read_51 rfl ?_
    refine pw_iload_n 53 rfl dX4_read_52 rfl ?_
    first | refine pw_imulN 54 rfl dX4_read_53 ?_ | refine pw_imul 54 rfl dX4_read_53 ?_
    first | refine pw_iaddN 55 rfl dX4_read_54 ?_ | refine pw_iadd 55 rfl dX4_read_54 ?_
    refine pw_ialdN 56 rfl dX4_read_55 (by first | rfl | assumption | exact rowS hh | exact mtS hm | exact ruS hr | exact mtA1 hm | exact mtA2 hm | exact mtA3 hm | exact mtA4 hm | exact mtA5 hm | exact mtA6 hm | exact mtA7 hm | exact ruA1 hr | exact ruA2 hr | exact ruA3 hr) (by omega) (by decide) ?_
    rotate_left
    rw [g0 h (by omega), q1]
    refine pw_iastN 57 rfl dX4_read_56 (by first | rfl | assumption | exact rowS hh | exact mtS hm | exact ruS hr | exact mtA1 hm | exact mtA2 hm | exact mtA3 hm | exact mtA4 hm | exact mtA5 hm | exact mtA6 hm | exact mtA7 hm | exact ruA1 hr | exact ruA2 hr | exact ruA3 hr) (by omega) (by decide) ?_
    refine pw_aload_n 58 rfl dX4_read_57 rfl ?_
    refine pw_getR 61 rfl dX4_read_58 fX4_65 (by first | rfl | assumption | exact rowS hh | exact mtS hm | exact ruS hr | exact mtA1 hm | exact mtA2 hm | exact mtA3 hm | exact mtA4 hm | exact mtA5 hm | exact mtA6 hm | exact mtA7 hm | exact ruA1 hr | exact ruA2 hr | exact ruA3 hr) rfl (by first | rfl | assumption | exact mtR0 hm | exact mtR1 hm | exact mtR2 hm | exact mtR3 hm | exact mtR4 hm | exact mtR5 hm | exact mtR6 hm | exact ruR0 hr | exact ruR1 hr | exact ruR3 hr) ?_
    refine pw_iload_n 62 rfl dX4_read_61 rfl ?_
    refine pw_aload_n 63 rfl dX4_read_62 rfl ?_
    refine pw_iconst (v := nI 5) 64 rfl dX4_read_63 rfl ?_
    refine pw_iconst (v := nI 4) 65 rfl dX4_read_64 rfl ?_
    refine pw_iload_n 66 rfl dX4_read_65 rfl ?_
    first | refine pw_imulN 67 rfl dX4_read_66 ?_ | refine pw_imul 67 rfl dX4_read_66 ?_
    first | refine pw_iaddN 68 rfl dX4_read_67 ?_ | refine pw_iadd 68 rfl dX4_read_67 ?_
    refine pw_ialdN 69 rfl dX4_read_68 (by first | rfl | assumption | exact rowS hh | exact mtS hm | exact ruS hr | exact mtA1 hm | exact mtA2 hm | exact mtA3 hm | exact mtA4 hm | exact mtA5 hm | exact mtA6 hm | exact mtA7 hm | exact ruA1 hr | exact ruA2 hr | exact ruA3 hr) (by omega) (by decide) ?_
    rotate_left
    rw [uI_ne (by omega), g0 h (by omega), q2]
    refine pw_iastN 70 rfl dX4_read_69 (by first | rfl | assumption | exact rowS hh | exact mtS hm | exact ruS hr | exact mtA1 hm | exact mtA2 hm | exact mtA3 hm | exact mtA4 hm | exact mtA5 hm | exact mtA6 hm | exact mtA7 hm | exact ruA1 hr | exact ruA2 hr | exact ruA3 hr) (by omega) (by decide) ?_
    refine pw_aload_n 71 rfl dX4_read_70 rfl ?_
    refine pw_getR 74 rfl dX4_read_71 fX4_68 (by first | rfl | assumption | exact rowS hh | exact mtS hm | exact ruS hr | exact mtA1 hm | exact mtA2 hm | exact mtA3 hm | exact mtA4 hm | exact mtA5 hm | exact mtA6 hm | exact mtA7 hm | exact ruA1 hr | exact ruA2 hr | exact ruA3 hr) rfl (by first | rfl | assumption | exact mtR0 hm | exact mtR1 hm | exact mtR2 hm | exact mtR3 hm | exact mtR4 hm | exact mtR5 hm | exact mtR6 hm | exact ruR0 hr | exact ruR1 hr | exact ruR3 hr) ?_
    refine pw_iload_n 75 rfl dX4_read_74 rfl ?_
    refine pw_aload_n 76 rfl dX4_read_75 rfl ?_
    refine pw_bipush (v := nI 6) 78 rfl dX4_read_76 rfl ?_
    refine pw_iconst (v := nI 4) 79 rfl dX4_read_78 rfl ?_
    refine pw_iload_n 80 rfl dX4_read_79 rfl ?_
    first | refine pw_imulN 81 rfl dX4_read_80 ?_ | refine pw_imul 81 rfl dX4_read_80 ?_
    first | refine pw_iaddN 82 rfl dX4_read_81 ?_ | refine pw_iadd 82 rfl dX4_read_81 ?_
    refine pw_ialdN 83 rfl dX4_read_82 (by first | rfl | assumption | exact rowS hh | exact mtS hm | exact ruS hr | exact mtA1 hm | exact mtA2 hm | exact mtA3 hm | exact mtA4 hm | exact mtA5 hm | exact mtA6 hm | exact mtA7 hm | exact ruA1 hr | exact ruA2 hr | exact ruA3 hr) (by omega) (by decide) ?_
    rotate_left
    rw [uI_ne (by omega), uI_ne (by omega), g0 h (by omega), q3]
    refine pw_iastN 84 rfl dX4_read_83 (by first | rfl | assumption | exact rowS hh | exact mtS hm | exact ruS hr | exact mtA1 hm | exact mtA2 hm | exact mtA3 hm | exact mtA4 hm | exact mtA5 hm | exact mtA6 hm | exact mtA7 hm | exact ruA1 hr | exact ruA2 hr | exact ruA3 hr) (by omega) (by decide) ?_
    refine pw_aload_n 85 rfl dX4_read_84 rfl ?_
    refine pw_getR 88 rfl dX4_read_85 fX4_71 (by first | rfl | assumption | exact rowS hh | exact mtS hm | exact ruS hr | exact mtA1 hm | exact mtA2 hm | exact mtA3 hm | exact mtA4 hm | exact mtA5 hm | exact mtA6 hm | exact mtA7 hm | exact ruA1 hr | exact ruA2 hr | exact ruA3 hr) rfl (by first | rfl | assumption | exact mtR0 hm | exact mtR1 hm | exact mtR2 hm | exact mtR3 hm | exact mtR4 hm | exact mtR5 hm | exact mtR6 hm | exact ruR0 hr | exact ruR1 hr | exact ruR3 hr) ?_
    refine pw_iload_n 89 rfl dX4_read_88 rfl ?_
    refine pw_aload_n 90 rfl dX4_read_89 rfl ?_
    refine pw_bipush (v := nI 7) 92 rfl dX4_read_90 rfl ?_
    refine pw_iconst (v := nI 4) 93 rfl dX4_read_92 rfl ?_
    refine pw_iload_n 94 rfl dX4_read_93 rfl ?_
    first | refine pw_imulN 95 rfl dX4_read_94 ?_ | refine pw_imul 95 rfl dX4_read_94 ?_
    first | refine pw_iaddN 96 rfl dX4_read_95 ?_ | refine pw_iadd 96 rfl dX4_read_95 ?_
    refine pw_ialdN 97 rfl dX4_read_96 (by first | rfl | assumption | exact rowS hh | exact mtS hm | exact ruS hr | exact mtA1 hm | exact mtA2 hm | exact mtA3 hm | exact mtA4 hm | exact mtA5 hm | exact mtA6 hm | exact mtA7 hm | exact ruA1 hr | exact ruA2 hr | exact ruA3 hr) (by omega) (by decide) ?_
    rotate_left
    rw [uI_ne (by omega), uI_ne (by omega), uI_ne (by omega), g0 h (by omega), q4]
    refine pw_iastN 98 rfl dX4_read_97 (by first | rfl | assumption | exact rowS hh | exact mtS hm | exact ruS hr | exact mtA1 hm | exact mtA2 hm | exact mtA3 hm | exact mtA4 hm | exact mtA5 hm | exact mtA6 hm | exact mtA7 hm | exact ruA1 hr | exact ruA2 hr | exact ruA3 hr) (by omega) (by decide) ?_
    refine pw_iincN 101 rfl dX4_read_98 (by decide) rfl ?_
    refine pw_goto (tgt := 38) dX4_read_101 rfl ?_
    rotate_left
    refine ih _ (fun a ha => by rw [uI, if_neg (by omega), uI, if_neg (by omega), uI, if_neg (by omega), uI, if_neg (by omega)]; exact g0 a ha) ?_ ?_ ?_ ?_ ?_ ?_ (fun i hi => ?_)
    · rw [uI_ne (by omega), uI_ne (by omega), uI_ne (by omega), uI_ne (by omega)]; exact g7
    · rw [uI_ne (by omega), uI_ne (by omega), uI_ne (by omega), uI_ne (by omega)]; exact g8
    · rw [uI_ne (by omega), uI_ne (by omega), uI_ne (by omega), uI_ne (by omega)]; exact g9
    · rw [uI_ne (by omega), uI_ne (by omega), uI_ne (by omega), uI_ne (by omega)]; exact g10
    · rw [uI_ne (by omega), uI_ne (by omega), uI_ne (by omega), uI_ne (by omega)]; exact g11
    · rw [uI, if_neg (by omega), uI, if_neg (by omega), uI, if_neg (by omega), uI, if_neg (by omega)]; exact g2
    · by_cases e : i = k
      · subst e
        refine ⟨?_, ?_, ?_, uI_eq _ _ _ _⟩
        · rw [uI_ne (by omega), uI_ne (by omega), uI_ne (by omega), uI_eq]
        · rw [uI_ne (by omega), uI_ne (by omega), uI_eq]
        · rw [uI_ne (by omega), uI_eq]
      · obtain ⟨r1, r2, r3, r4⟩ := g3 i (by omega)
        refine ⟨?_, ?_, ?_, ?_⟩
        · rw [uI_ne (by omega), uI_ne (by omega), uI_ne (by omega), uI_ne (by omega)]; exact r1
        · rw [uI_ne (by omega), uI_ne (by omega), uI_ne (by omega), uI_ne (by omega)]; exact r2
        · rw [uI_ne (by omega), uI_ne (by omega), uI_ne (by omega), uI_ne (by omega)]; exact r3
        · rw [uI_ne (by omega), uI_ne (by omega), uI_ne (by omega), uI_ne (by omega)]; exact r4
/-- what can be undone, oldest first; what is kept -/
def XU (I : pI) (us : List (Nat → Nat)) : Prop := ∃ o, o < 12 ∧ I 21 4 = nI o ∧ I 21 5 = nI us.length ∧ us.length ≤ 12 ∧ ∀ j b, us[j]? = some b → Pg (I (26 + (o + j) % 12)) b 7
def XK (I : pI) (kp : Nat → Option (Nat → Nat)) : Prop := ∀ i, i < 2 → match kp i with
  | none => I 24 i = nI 0
  | some b => I 24 i = nI 1 ∧ Pg (I (38 + i)) b 7
theorem XU_fr {I I' : pI} {us : List (Nat → Nat)} (h : XU I us) (h1 : ∀ a, 21 ≤ a → a ≤ 37 → a ≠ 25 → a ≠ 24 → I' a = I a) : XU I' us := by
  obtain ⟨o, a1, a2, a3, a4, a5⟩ := h
  refine ⟨o, a1, ?_, ?_, a4, fun j b hj => ?_⟩
  · rw [h1 21 (by omega) (by omega) (by omega) (by omega)]; exact a2
  · rw [h1 21 (by omega) (by omega) (by omega) (by omega)]; exact a3
  · rw [h1 _ (by omega) (by omega) (by omega) (by omega)]; exact a5 j b hj
theorem XK_fr {I I' : pI} {kp : Nat → Option (Nat → Nat)} (h : XK I kp) (h1 : I' 24 = I 24) (h2 : I' 38 = I 38) (h3 : I' 39 = I 39) : XK I' kp := by
  intro i hi
  have := h i hi
  have e : I' (38 + i) = I (38 + i) := by
    rcases (show i = 0 ∨ i = 1 by omega) with rfl | rfl
    · exact h2
    · exact h3
  rw [h1, e]
  exact this
def aKeep (us : List (Nat → Nat)) (b : Nat → Nat) : List (Nat → Nat) := if us.length < 12 then us ++ [b] else us.drop 1 ++ [b]
set_option maxRecDepth 100000 in
set_option maxHeartbeats 2000000 in
theorem x_note {d n : Nat} {pc b : Nat → Nat} {I : pI} {J : pJ} (hM : XM I 1 n pc b) : PC SX (d + 1) yX4_note cX4_note 2 none [.ref 21, .ref 1] (I) (J) (RX) (fun r' I' J' R' => r' = none ∧ Pg (I' 25) b 7 ∧ (∀ a, a ≠ 25 → I' a = I a) ∧ J = J' ∧ R' = RX) := by
  refine PC.of [some (.ref 21), some (.ref 1)] rfl rfl (Nat.le_of_ble_eq_true rfl) ?_
  refine pw_aload_n 1 rfl dX4_note_0 rfl ?_
  refine pw_aload_n 2 rfl dX4_note_1 rfl ?_
  refine pw_getR 5 rfl dX4_note_2 fX4_23 (by first | rfl | assumption | exact rowS hh | exact mtS hm | exact ruS hr | exact mtA1 hm | exact mtA2 hm | exact mtA3 hm | exact mtA4 hm | exact mtA5 hm | exact mtA6 hm | exact mtA7 hm | exact ruA1 hr | exact ruA2 hr | exact ruA3 hr) rfl (by first | rfl | assumption | exact mtR0 hm | exact mtR1 hm | exact mtR2 hm | exact mtR3 hm | exact mtR4 hm | exact mtR5 hm | exact mtR6 hm | exact ruR0 hr | exact ruR1 hr | exact ruR3 hr) ?_
  refine pw_callS (as := [_, _]) 8 rfl dX4_note_5 mX4_34 sX4_write (x_write (d := d) (h := 25) hM rfl (by decide)) ⟨rfl, by decide, by decide, show (parseMethodDescriptor yX4_write.desc).map (fun d => d.parameters.length) = some 2 by decide +kernel⟩ (by omega) (by decide) (Nat.le_of_ble_eq_true rfl) rfl (fun r5 I5 J5 R5 c5 => ?_)
  obtain ⟨rfl, a1, a2, rfl, rfl⟩ := c5
  rotate_left
  refine pw_vret dX4_note_8 ?_
  rotate_left
  exact ⟨rfl, a1, a2, rfl, rfl⟩
theorem pgH (p : Nat) (h : p < 12) : SX[26 + p]? = some (100, 32) := by
  rcases (show p = 0 ∨ p = 1 ∨ p = 2 ∨ p = 3 ∨ p = 4 ∨ p = 5 ∨ p = 6 ∨ p = 7 ∨ p = 8 ∨ p = 9 ∨ p = 10 ∨ p = 11 by omega) with rfl | rfl | rfl | rfl | rfl | rfl | rfl | rfl | rfl | rfl | rfl | rfl <;> rfl
theorem pgR (p : Nat) (h : p < 12) : RX 22 p = some (26 + p) := by
  rcases (show p = 0 ∨ p = 1 ∨ p = 2 ∨ p = 3 ∨ p = 4 ∨ p = 5 ∨ p = 6 ∨ p = 7 ∨ p = 8 ∨ p = 9 ∨ p = 10 ∨ p = 11 by omega) with rfl | rfl | rfl | rfl | rfl | rfl | rfl | rfl | rfl | rfl | rfl | rfl <;> rfl
theorem ktH (p : Nat) (h : p < 2) : SX[38 + p]? = some (100, 32) := by
  rcases (show p = 0 ∨ p = 1 by omega) with rfl | rfl <;> rfl
theorem ktR (p : Nat) (h : p < 2) : RX 23 p = some (38 + p) := by
  rcases (show p = 0 ∨ p = 1 by omega) with rfl | rfl <;> rfl
theorem Pg_cp {f g : Nat → Int32} {b : Nat → Nat} (h : Pg f b 7) : Pg (va_cpy f g (nI 0).toNatClampNeg (nI 0).toNatClampNeg (nI 32).toNatClampNeg) b 7 := by
  have e : ∀ j, j < 32 → va_cpy f g (nI 0).toNatClampNeg (nI 0).toNatClampNeg (nI 32).toNatClampNeg j = f j := by
    intro j hj
    rw [show (nI 0).toNatClampNeg = 0 from by decide, show (nI 32).toNatClampNeg = 32 from by decide, pk_cpy_in (by omega) (by omega)]
    rw [show 0 + (j - 0) = j by omega]
  obtain ⟨p1, p2, p3, p4, p5⟩ := h
  refine ⟨by rw [e 0 (by omega)]; exact p1, by rw [e 1 (by omega)]; exact p2, by rw [e 2 (by omega)]; exact p3, by rw [e 3 (by omega)]; exact p4, fun i hi => ?_⟩
  obtain ⟨q1, q2, q3, q4⟩ := p5 i hi
  exact ⟨by rw [e _ (by omega)]; exact q1, by rw [e _ (by omega)]; exact q2, by rw [e _ (by omega)]; exact q3, by rw [e _ (by omega)]; exact q4⟩
set_option maxRecDepth 100000 in
set_option maxHeartbeats 2000000 in
theorem x_keepNoted {d : Nat} {b : Nat → Nat} {us : List (Nat → Nat)} {I : pI} {J : pJ} (hU : XU I us) (hP : Pg (I 25) b 7) : PC SX (d + 1) yX4_keepNoted cX4_keepNoted 2 none [.ref 21] (I) (J) (RX) (fun r' I' J' R' => r' = none ∧ XU I' (aKeep us b) ∧ (∀ a, ¬ (21 ≤ a ∧ a ≤ 37 ∧ a ≠ 24 ∧ a ≠ 25) → I' a = I a) ∧ J = J' ∧ R' = RX) := by
  refine PC.of [some (.ref 21), none] rfl rfl (Nat.le_of_ble_eq_true rfl) ?_
  obtain ⟨o, o1, o2, o3, o4, o5⟩ := hU
  have tail : ∀ (I1 : pI) (o1 s1 : Nat), o1 < 12 → 1 ≤ s1 → s1 ≤ 12 → I1 21 4 = nI o1 → I1 21 5 = nI s1 → (∀ a, a ≠ 21 → I1 a = I a) → (∀ I', (∀ a, a ≠ 26 + (o1 + s1 - 1) % 12 → I' a = I1 a) → Pg (I' (26 + (o1 + s1 - 1) % 12)) b 7 → XU I' (aKeep us b)) → PW SX yX4_keepNoted.cls cX4_keepNoted 2 (d + 1) 35 [some (.ref 21), none] [] (I1) (J) (RX) (rX cX4_keepNoted none (fun r' I' J' R' => r' = none ∧ XU I' (aKeep us b) ∧ (∀ a, ¬ (21 ≤ a ∧ a ≤ 37 ∧ a ≠ 24 ∧ a ≠ 25) → I' a = I a) ∧ J = J' ∧ R' = RX)) := by
    intro I1 o1 s1 h1 h2 h3 e1 e2 e3 fin
    have hp : (o1 + s1 - 1) % 12 < 12 := Nat.mod_lt _ (by decide)
    refine pw_aload_n 36 rfl dX4_keepNoted_35 rfl ?_
    refine pw_getI 39 rfl dX4_keepNoted_36 fX4_27 (by first | rfl | assumption | exact rowS hh | exact mtS hm | exact ruS hr | exact mtA1 hm | exact mtA2 hm | exact mtA3 hm | exact mtA4 hm | exact mtA5 hm | exact mtA6 hm | exact mtA7 hm | exact ruA1 hr | exact ruA2 hr | exact ruA3 hr) rfl ?_
    rotate_left
    rw [e1]
    refine pw_aload_n 40 rfl dX4_keepNoted_39 rfl ?_
    refine pw_getI 43 rfl dX4_keepNoted_40 fX4_31 (by first | rfl | assumption | exact rowS hh | exact mtS hm | exact ruS hr | exact mtA1 hm | exact mtA2 hm | exact mtA3 hm | exact mtA4 hm | exact mtA5 hm | exact mtA6 hm | exact mtA7 hm | exact ruA1 hr | exact ruA2 hr | exact ruA3 hr) rfl ?_
    rotate_left
    rw [e2]
    first | refine pw_iaddN 44 rfl dX4_keepNoted_43 ?_ | refine pw_iadd 44 rfl dX4_keepNoted_43 ?_
    refine pw_iconst (v := nI 1) 45 rfl dX4_keepNoted_44 rfl ?_
    refine pw_isubN 46 rfl dX4_keepNoted_45 (by omega) ?_
    refine pw_bipush (v := nI 12) 48 rfl dX4_keepNoted_46 rfl ?_
    refine pw_iremN 49 rfl dX4_keepNoted_48 (by omega) (by omega) (by omega) ?_
    rotate_left
    generalize (o1 + s1 - 1) % 12 = p at hp fin ⊢
    have hg := pgH p hp
    refine pw_istore_n 50 rfl dX4_keepNoted_49 (by decide) ?_
    refine pw_iload_n 51 rfl dX4_keepNoted_50 rfl ?_
    refine pw_if_lt (tgt := 77) 54 rfl dX4_keepNoted_51 rfl (fun h51 => absurd h51 (nI_pos (by omega))) (fun h51 => ?_)
    refine pw_iload_n 55 rfl dX4_keepNoted_54 rfl ?_
    refine pw_bipush (v := nI 12) 57 rfl dX4_keepNoted_55 rfl ?_
    refine pw_icmp_ge (tgt := 77) 60 rfl dX4_keepNoted_57 rfl (fun h57 => absurd h57 (by (simp (disch := omega) only [nI_leI, nI_ltI, nI_eq, show (0 : Int32) = nI 0 from rfl, not_true_eq_false, not_false_eq_true] <;> omega))) (fun h57 => ?_)
    refine pw_aload_n 61 rfl dX4_keepNoted_60 rfl ?_
    refine pw_getR 64 rfl dX4_keepNoted_61 fX4_23 (by first | rfl | assumption | exact rowS hh | exact mtS hm | exact ruS hr | exact mtA1 hm | exact mtA2 hm | exact mtA3 hm | exact mtA4 hm | exact mtA5 hm | exact mtA6 hm | exact mtA7 hm | exact ruA1 hr | exact ruA2 hr | exact ruA3 hr) rfl (by first | rfl | assumption | exact mtR0 hm | exact mtR1 hm | exact mtR2 hm | exact mtR3 hm | exact mtR4 hm | exact mtR5 hm | exact mtR6 hm | exact ruR0 hr | exact ruR1 hr | exact ruR3 hr) ?_
    refine pw_iconst (v := nI 0) 65 rfl dX4_keepNoted_64 rfl ?_
    refine pw_aload_n 66 rfl dX4_keepNoted_65 rfl ?_
    refine pw_getR 69 rfl dX4_keepNoted_66 fX4_13 (by first | rfl | assumption | exact rowS hh | exact mtS hm | exact ruS hr | exact mtA1 hm | exact mtA2 hm | exact mtA3 hm | exact mtA4 hm | exact mtA5 hm | exact mtA6 hm | exact mtA7 hm | exact ruA1 hr | exact ruA2 hr | exact ruA3 hr) rfl (by first | rfl | assumption | exact mtR0 hm | exact mtR1 hm | exact mtR2 hm | exact mtR3 hm | exact mtR4 hm | exact mtR5 hm | exact mtR6 hm | exact ruR0 hr | exact ruR1 hr | exact ruR3 hr) ?_
    refine pw_iload_n 70 rfl dX4_keepNoted_69 rfl ?_
    refine pw_aaldN 71 rfl dX4_keepNoted_70 (by first | rfl | assumption | exact rowS hh | exact mtS hm | exact ruS hr | exact mtA1 hm | exact mtA2 hm | exact mtA3 hm | exact mtA4 hm | exact mtA5 hm | exact mtA6 hm | exact mtA7 hm | exact ruA1 hr | exact ruA2 hr | exact ruA3 hr) (by omega) (by decide) (pgR p hp) ?_
    refine pw_iconst (v := nI 0) 72 rfl dX4_keepNoted_71 rfl ?_
    refine pw_bipush (v := nI 32) 74 rfl dX4_keepNoted_72 rfl ?_
    refine pw_copy 77 rfl dX4_keepNoted_74 mX4_38 (by first | rfl | assumption | exact rowS hh | exact mtS hm | exact ruS hr | exact mtA1 hm | exact mtA2 hm | exact mtA3 hm | exact mtA4 hm | exact mtA5 hm | exact mtA6 hm | exact mtA7 hm | exact ruA1 hr | exact ruA2 hr | exact ruA3 hr) (by first | rfl | assumption | exact rowS hh | exact mtS hm | exact ruS hr | exact mtA1 hm | exact mtA2 hm | exact mtA3 hm | exact mtA4 hm | exact mtA5 hm | exact mtA6 hm | exact mtA7 hm | exact ruA1 hr | exact ruA2 hr | exact ruA3 hr) (by decide) (by decide) (by decide) (by decide) (by decide) (Nat.le_of_ble_eq_true rfl) (by decide) ?_
    refine pw_vret dX4_keepNoted_77 ?_
    rotate_left
    refine ⟨rfl, fin _ (fun a ha => by show (if a = 26 + p then _ else I1 a) = _; rw [if_neg ha]) ?_, fun a ha => ?_, rfl, rfl⟩
    · show Pg (if 26 + p = 26 + p then _ else I1 (26 + p)) b 7
      rw [if_pos rfl]
      exact Pg_cp (by rw [e3 25 (by omega)]; exact hP)
    · show (if a = 26 + p then _ else I1 a) = _
      rw [if_neg (by omega), e3 a (by omega)]
  by_cases hl : us.length < 12
  · refine pw_aload_n 1 rfl dX4_keepNoted_0 rfl ?_
    refine pw_getI 4 rfl dX4_keepNoted_1 fX4_31 (by first | rfl | assumption | exact rowS hh | exact mtS hm | exact ruS hr | exact mtA1 hm | exact mtA2 hm | exact mtA3 hm | exact mtA4 hm | exact mtA5 hm | exact mtA6 hm | exact mtA7 hm | exact ruA1 hr | exact ruA2 hr | exact ruA3 hr) rfl ?_
    refine pw_bipush (v := nI 12) 6 rfl dX4_keepNoted_4 rfl ?_
    refine pw_icmp_ge (tgt := 22) 9 rfl dX4_keepNoted_6 rfl (fun h6 => absurd h6 (by rw [o3]; (simp (disch := omega) only [nI_leI, nI_ltI, nI_eq, show (0 : Int32) = nI 0 from rfl, not_true_eq_false, not_false_eq_true] <;> omega))) (fun h6 => ?_)
    refine pw_aload_n 10 rfl dX4_keepNoted_9 rfl ?_
    refine pw_dup 11 rfl dX4_keepNoted_10 rfl ?_
    refine pw_getI 14 rfl dX4_keepNoted_11 fX4_31 (by first | rfl | assumption | exact rowS hh | exact mtS hm | exact ruS hr | exact mtA1 hm | exact mtA2 hm | exact mtA3 hm | exact mtA4 hm | exact mtA5 hm | exact mtA6 hm | exact mtA7 hm | exact ruA1 hr | exact ruA2 hr | exact ruA3 hr) rfl ?_
    rotate_left
    rw [o3]
    refine pw_iconst (v := nI 1) 15 rfl dX4_keepNoted_14 rfl ?_
    first | refine pw_iaddN 16 rfl dX4_keepNoted_15 ?_ | refine pw_iadd 16 rfl dX4_keepNoted_15 ?_
    refine pw_putI 19 rfl dX4_keepNoted_16 fX4_31 w4_5 (by first | rfl | assumption | exact rowS hh | exact mtS hm | exact ruS hr | exact mtA1 hm | exact mtA2 hm | exact mtA3 hm | exact mtA4 hm | exact mtA5 hm | exact mtA6 hm | exact mtA7 hm | exact ruA1 hr | exact ruA2 hr | exact ruA3 hr) rfl rfl rfl ?_
    refine pw_goto (tgt := 35) dX4_keepNoted_19 rfl ?_
    rotate_left
    refine tail _ o (us.length + 1) o1 (by omega) (by omega) (by rw [uI_ne (by omega)]; exact o2) (uI_eq _ _ _ _) (fun a ha => by rw [uI, if_neg ha]) ?_
    intro I' f1 f2
    rw [aKeep, if_pos hl]
    have e : (o + (us.length + 1) - 1) % 12 = (o + us.length) % 12 := by rw [show o + (us.length + 1) - 1 = o + us.length by omega]
    rw [e] at f1 f2
    refine ⟨o, o1, ?_, ?_, ?_, fun j c hj => ?_⟩
    · rw [f1 21 (by omega), uI_ne (by omega)]; exact o2
    · rw [f1 21 (by omega), uI_eq, List.length_append]; rfl
    · rw [List.length_append]; show us.length + 1 ≤ 12; omega
    · by_cases ej : j = us.length
      · subst ej
        rw [List.getElem?_append_right (Nat.le_refl _), Nat.sub_self] at hj
        cases hj
        exact f2
      · have hjl := (List.getElem?_eq_some_iff.mp hj).1
        rw [List.length_append] at hjl
        have hjl' : j < us.length + 1 := hjl
        rw [List.getElem?_append_left (by omega)] at hj
        rw [f1 _ (by omega), uI, if_neg (by omega)]
        exact o5 j c hj
  · refine pw_aload_n 1 rfl dX4_keepNoted_0 rfl ?_
    refine pw_getI 4 rfl dX4_keepNoted_1 fX4_31 (by first | rfl | assumption | exact rowS hh | exact mtS hm | exact ruS hr | exact mtA1 hm | exact mtA2 hm | exact mtA3 hm | exact mtA4 hm | exact mtA5 hm | exact mtA6 hm | exact mtA7 hm | exact ruA1 hr | exact ruA2 hr | exact ruA3 hr) rfl ?_
    refine pw_bipush (v := nI 12) 6 rfl dX4_keepNoted_4 rfl ?_
    refine pw_icmp_ge (tgt := 22) 9 rfl dX4_keepNoted_6 rfl (fun h6 => ?_) (fun h6 => absurd (by rw [o3]; (simp (disch := omega) only [nI_leI, nI_ltI, nI_eq, show (0 : Int32) = nI 0 from rfl, not_true_eq_false, not_false_eq_true] <;> omega)) h6)
    refine pw_aload_n 23 rfl dX4_keepNoted_22 rfl ?_
    refine pw_aload_n 24 rfl dX4_keepNoted_23 rfl ?_
    refine pw_getI 27 rfl dX4_keepNoted_24 fX4_27 (by first | rfl | assumption | exact rowS hh | exact mtS hm | exact ruS hr | exact mtA1 hm | exact mtA2 hm | exact mtA3 hm | exact mtA4 hm | exact mtA5 hm | exact mtA6 hm | exact mtA7 hm | exact ruA1 hr | exact ruA2 hr | exact ruA3 hr) rfl ?_
    rotate_left
    rw [o2]
    refine pw_iconst (v := nI 1) 28 rfl dX4_keepNoted_27 rfl ?_
    first | refine pw_iaddN 29 rfl dX4_keepNoted_28 ?_ | refine pw_iadd 29 rfl dX4_keepNoted_28 ?_
    refine pw_bipush (v := nI 12) 31 rfl dX4_keepNoted_29 rfl ?_
    refine pw_iremN 32 rfl dX4_keepNoted_31 (by omega) (by omega) (by omega) ?_
    refine pw_putI 35 rfl dX4_keepNoted_32 fX4_27 w4_4 (by first | rfl | assumption | exact rowS hh | exact mtS hm | exact ruS hr | exact mtA1 hm | exact mtA2 hm | exact mtA3 hm | exact mtA4 hm | exact mtA5 hm | exact mtA6 hm | exact mtA7 hm | exact ruA1 hr | exact ruA2 hr | exact ruA3 hr) rfl rfl rfl ?_
    rotate_left
    have h12 : us.length = 12 := by omega
    refine tail _ ((o + 1) % 12) 12 (Nat.mod_lt _ (by decide)) (by omega) (by omega) (uI_eq _ _ _ _) (by rw [uI_ne (by omega), o3, h12]) (fun a ha => by rw [uI, if_neg ha]) ?_
    intro I' f1 f2
    rw [aKeep, if_neg hl]
    have hdl : (us.drop 1).length = 11 := by rw [List.length_drop, h12]
    refine ⟨(o + 1) % 12, Nat.mod_lt _ (by decide), ?_, ?_, ?_, fun j c hj => ?_⟩
    · rw [f1 21 (by omega), uI_eq]
    · rw [f1 21 (by omega), uI_ne (by omega), o3, List.length_append, hdl, h12]; rfl
    · rw [List.length_append, hdl]; show 11 + 1 ≤ 12; omega
    · by_cases ej : j = 11
      · subst ej
        rw [List.getElem?_append_right (by omega), hdl, Nat.sub_self] at hj
        cases hj
        rw [show (o + 1) % 12 + 11 = (o + 1) % 12 + 12 - 1 by omega]
        exact f2
      · have hjl := (List.getElem?_eq_some_iff.mp hj).1
        rw [List.length_append, hdl] at hjl
        have hjl' : j < 11 + 1 := hjl
        rw [List.getElem?_append_left (by omega), List.getElem?_drop] at hj
        rw [f1 _ (by omega), uI, if_neg (by omega), show ((o + 1) % 12 + j) % 12 = (o + (1 + j)) % 12 by omega]
        exact o5 (1 + j) c hj
