/-! the reference: who it was -/
set_option maxRecDepth 100000 in
set_option maxHeartbeats 2000000 in
theorem m_isSo {d n q w V : Nat} {pc b : Nat → Nat} {rd rl : Option Nat} {I : pI} {J : pJ} (hC : MC I n pc) (hB : MB I 1 b) (hW : WF n pc b) (hq : q < n) (hw : w < 5) (hV : V ≤ 99) : PC SM (d) yX12_isSo cX12_isSo 4 (some .boolean) [.ref 0, .int (nI q), .int (nI w), .int (nI V)] (I) (J) (RM rd rl) (pPu (.int (nI (if soN n pc b q w V = true then 1 else 0))) I J (RM rd rl)) := by
  refine PC.of [some (.ref 0), some (.int (nI q)), some (.int (nI w)), some (.int (nI V))] rfl rfl (Nat.le_of_ble_eq_true rfl) ?_
  have h7 := hC.1
  have hb := hW.2.2.2.2 q (by omega)
  have ht := hW.2.1
  rcases (show w = 0 ∨ w = 1 ∨ w = 2 ∨ w = 3 ∨ w = 4 by omega) with rfl | rfl | rfl | rfl | rfl
  · have e1 := hC.2.2 q (by omega)
    rw [show soN n pc b q 0 V = decide (V ≤ pc q) from by show (decide (q < n) && decide (V ≤ pc q)) = _; rw [decide_eq_true hq, Bool.true_and]]
    by_cases hp : V ≤ pc q
    · rw [if_pos (decide_eq_true hp)]
      refine pw_iload_n 1 rfl dX12_isSo_0 rfl ?_
      refine pw_tableIn (tgt := 32) (off := 31) dX12_isSo_1 (by decide) (by decide) (by decide) rfl ?_
      refine pw_aload_n 33 rfl dX12_isSo_32 rfl ?_
      refine pw_getR 36 rfl dX12_isSo_33 fX12_13 (by first | rfl | assumption | exact rowS hh | exact mtS hm | exact ruS hr | exact mtA1 hm | exact mtA2 hm | exact mtA3 hm | exact mtA4 hm | exact mtA5 hm | exact mtA6 hm | exact mtA7 hm | exact ruA1 hr | exact ruA2 hr | exact ruA3 hr) rfl (by first | rfl | assumption | exact mtR0 hm | exact mtR1 hm | exact mtR2 hm | exact mtR3 hm | exact mtR4 hm | exact mtR5 hm | exact mtR6 hm | exact ruR0 hr | exact ruR1 hr | exact ruR3 hr) ?_
      refine pw_iload_n 37 rfl dX12_isSo_36 rfl ?_
      refine pw_ialdN 38 rfl dX12_isSo_37 (by first | rfl | assumption | exact rowS hh | exact mtS hm | exact ruS hr | exact mtA1 hm | exact mtA2 hm | exact mtA3 hm | exact mtA4 hm | exact mtA5 hm | exact mtA6 hm | exact mtA7 hm | exact ruA1 hr | exact ruA2 hr | exact ruA3 hr) (by omega) (by first | decide | omega) ?_
      refine pw_iload_n 39 rfl dX12_isSo_38 rfl ?_
      refine pw_icmp_lt (tgt := 46) 42 rfl dX12_isSo_39 rfl (fun h39 => absurd h39 (by rw [e1]; (simp (disch := omega) only [nI_leI, nI_ltI, nI_eq, show (0 : Int32) = nI 0 from rfl, not_true_eq_false, not_false_eq_true] <;> omega))) (fun h39 => ?_)
      refine pw_iconst (v := nI 1) 43 rfl dX12_isSo_42 rfl ?_
      refine pw_goto (tgt := 47) dX12_isSo_43 rfl ?_
      refine pw_iret dX12_isSo_47 rfl ?_
      rotate_left
      exact ⟨rfl, rfl, rfl, rfl⟩
    · rw [if_neg (fun z => hp (of_decide_eq_true z))]
      refine pw_iload_n 1 rfl dX12_isSo_0 rfl ?_
      refine pw_tableIn (tgt := 32) (off := 31) dX12_isSo_1 (by decide) (by decide) (by decide) rfl ?_
      refine pw_aload_n 33 rfl dX12_isSo_32 rfl ?_
      refine pw_getR 36 rfl dX12_isSo_33 fX12_13 (by first | rfl | assumption | exact rowS hh | exact mtS hm | exact ruS hr | exact mtA1 hm | exact mtA2 hm | exact mtA3 hm | exact mtA4 hm | exact mtA5 hm | exact mtA6 hm | exact mtA7 hm | exact ruA1 hr | exact ruA2 hr | exact ruA3 hr) rfl (by first | rfl | assumption | exact mtR0 hm | exact mtR1 hm | exact mtR2 hm | exact mtR3 hm | exact mtR4 hm | exact mtR5 hm | exact mtR6 hm | exact ruR0 hr | exact ruR1 hr | exact ruR3 hr) ?_
      refine pw_iload_n 37 rfl dX12_isSo_36 rfl ?_
      refine pw_ialdN 38 rfl dX12_isSo_37 (by first | rfl | assumption | exact rowS hh | exact mtS hm | exact ruS hr | exact mtA1 hm | exact mtA2 hm | exact mtA3 hm | exact mtA4 hm | exact mtA5 hm | exact mtA6 hm | exact mtA7 hm | exact ruA1 hr | exact ruA2 hr | exact ruA3 hr) (by omega) (by first | decide | omega) ?_
      refine pw_iload_n 39 rfl dX12_isSo_38 rfl ?_
      refine pw_icmp_lt (tgt := 46) 42 rfl dX12_isSo_39 rfl (fun h39 => ?_) (fun h39 => absurd (by rw [e1]; (simp (disch := omega) only [nI_leI, nI_ltI, nI_eq, show (0 : Int32) = nI 0 from rfl, not_true_eq_false, not_false_eq_true] <;> omega)) h39)
      refine pw_iconst (v := nI 0) 47 rfl dX12_isSo_46 rfl ?_
      refine pw_iret dX12_isSo_47 rfl ?_
      rotate_left
      exact ⟨rfl, rfl, rfl, rfl⟩
  · have e1 := hB (21 + q) (by omega)
    rw [show soN n pc b q 1 V = decide (V ≤ b (21 + q)) from by show (decide (q < n) && decide (V ≤ b (21 + q))) = _; rw [decide_eq_true hq, Bool.true_and]]
    by_cases hp : V ≤ b (21 + q)
    · rw [if_pos (decide_eq_true hp)]
      refine pw_iload_n 1 rfl dX12_isSo_0 rfl ?_
      refine pw_tableIn (tgt := 48) (off := 47) dX12_isSo_1 (by decide) (by decide) (by decide) rfl ?_
      refine pw_aload_n 49 rfl dX12_isSo_48 rfl ?_
      refine pw_getR 52 rfl dX12_isSo_49 fX12_9 (by first | rfl | assumption | exact rowS hh | exact mtS hm | exact ruS hr | exact mtA1 hm | exact mtA2 hm | exact mtA3 hm | exact mtA4 hm | exact mtA5 hm | exact mtA6 hm | exact mtA7 hm | exact ruA1 hr | exact ruA2 hr | exact ruA3 hr) rfl (by first | rfl | assumption | exact mtR0 hm | exact mtR1 hm | exact mtR2 hm | exact mtR3 hm | exact mtR4 hm | exact mtR5 hm | exact mtR6 hm | exact ruR0 hr | exact ruR1 hr | exact ruR3 hr) ?_
      refine pw_bipush (v := nI 21) 54 rfl dX12_isSo_52 rfl ?_
      refine pw_iload_n 55 rfl dX12_isSo_54 rfl ?_
      first | refine pw_iaddN 56 rfl dX12_isSo_55 ?_ | refine pw_iadd 56 rfl dX12_isSo_55 ?_
      refine pw_ialdN 57 rfl dX12_isSo_56 (by first | rfl | assumption | exact rowS hh | exact mtS hm | exact ruS hr | exact mtA1 hm | exact mtA2 hm | exact mtA3 hm | exact mtA4 hm | exact mtA5 hm | exact mtA6 hm | exact mtA7 hm | exact ruA1 hr | exact ruA2 hr | exact ruA3 hr) (by omega) (by first | decide | omega) ?_
      refine pw_iload_n 58 rfl dX12_isSo_57 rfl ?_
      refine pw_icmp_lt (tgt := 65) 61 rfl dX12_isSo_58 rfl (fun h58 => absurd h58 (by rw [e1]; (simp (disch := omega) only [nI_leI, nI_ltI, nI_eq, show (0 : Int32) = nI 0 from rfl, not_true_eq_false, not_false_eq_true] <;> omega))) (fun h58 => ?_)
      refine pw_iconst (v := nI 1) 62 rfl dX12_isSo_61 rfl ?_
      refine pw_goto (tgt := 66) dX12_isSo_62 rfl ?_
      refine pw_iret dX12_isSo_66 rfl ?_
      rotate_left
      exact ⟨rfl, rfl, rfl, rfl⟩
    · rw [if_neg (fun z => hp (of_decide_eq_true z))]
      refine pw_iload_n 1 rfl dX12_isSo_0 rfl ?_
      refine pw_tableIn (tgt := 48) (off := 47) dX12_isSo_1 (by decide) (by decide) (by decide) rfl ?_
      refine pw_aload_n 49 rfl dX12_isSo_48 rfl ?_
      refine pw_getR 52 rfl dX12_isSo_49 fX12_9 (by first | rfl | assumption | exact rowS hh | exact mtS hm | exact ruS hr | exact mtA1 hm | exact mtA2 hm | exact mtA3 hm | exact mtA4 hm | exact mtA5 hm | exact mtA6 hm | exact mtA7 hm | exact ruA1 hr | exact ruA2 hr | exact ruA3 hr) rfl (by first | rfl | assumption | exact mtR0 hm | exact mtR1 hm | exact mtR2 hm | exact mtR3 hm | exact mtR4 hm | exact mtR5 hm | exact mtR6 hm | exact ruR0 hr | exact ruR1 hr | exact ruR3 hr) ?_
      refine pw_bipush (v := nI 21) 54 rfl dX12_isSo_52 rfl ?_
      refine pw_iload_n 55 rfl dX12_isSo_54 rfl ?_
      first | refine pw_iaddN 56 rfl dX12_isSo_55 ?_ | refine pw_iadd 56 rfl dX12_isSo_55 ?_
      refine pw_ialdN 57 rfl dX12_isSo_56 (by first | rfl | assumption | exact rowS hh | exact mtS hm | exact ruS hr | exact mtA1 hm | exact mtA2 hm | exact mtA3 hm | exact mtA4 hm | exact mtA5 hm | exact mtA6 hm | exact mtA7 hm | exact ruA1 hr | exact ruA2 hr | exact ruA3 hr) (by omega) (by first | decide | omega) ?_
      refine pw_iload_n 58 rfl dX12_isSo_57 rfl ?_
      refine pw_icmp_lt (tgt := 65) 61 rfl dX12_isSo_58 rfl (fun h58 => ?_) (fun h58 => absurd (by rw [e1]; (simp (disch := omega) only [nI_leI, nI_ltI, nI_eq, show (0 : Int32) = nI 0 from rfl, not_true_eq_false, not_false_eq_true] <;> omega)) h58)
      refine pw_iconst (v := nI 0) 66 rfl dX12_isSo_65 rfl ?_
      refine pw_iret dX12_isSo_66 rfl ?_
      rotate_left
      exact ⟨rfl, rfl, rfl, rfl⟩
  · have e1 := hB (7 + q) (by omega)
    rw [show soN n pc b q 2 V = decide (b (7 + q) = V) from by show (decide (q < n) && decide (b (7 + q) = V)) = _; rw [decide_eq_true hq, Bool.true_and]]
    by_cases hp : b (7 + q) = V
    · rw [if_pos (decide_eq_true hp)]
      refine pw_iload_n 1 rfl dX12_isSo_0 rfl ?_
      refine pw_tableIn (tgt := 67) (off := 66) dX12_isSo_1 (by decide) (by decide) (by decide) rfl ?_
      refine pw_aload_n 68 rfl dX12_isSo_67 rfl ?_
      refine pw_getR 71 rfl dX12_isSo_68 fX12_9 (by first | rfl | assumption | exact rowS hh | exact mtS hm | exact ruS hr | exact mtA1 hm | exact mtA2 hm | exact mtA3 hm | exact mtA4 hm | exact mtA5 hm | exact mtA6 hm | exact mtA7 hm | exact ruA1 hr | exact ruA2 hr | exact ruA3 hr) rfl (by first | rfl | assumption | exact mtR0 hm | exact mtR1 hm | exact mtR2 hm | exact mtR3 hm | exact mtR4 hm | exact mtR5 hm | exact mtR6 hm | exact ruR0 hr | exact ruR1 hr | exact ruR3 hr) ?_
      refine pw_bipush (v := nI 7) 73 rfl dX12_isSo_71 rfl ?_
      refine pw_iload_n 74 rfl dX12_isSo_73 rfl ?_
      first | refine pw_iaddN 75 rfl dX12_isSo_74 ?_ | refine pw_iadd 75 rfl dX12_isSo_74 ?_
      refine pw_ialdN 76 rfl dX12_isSo_75 (by first | rfl | assumption | exact rowS hh | exact mtS hm | exact ruS hr | exact mtA1 hm | exact mtA2 hm | exact mtA3 hm | exact mtA4 hm | exact mtA5 hm | exact mtA6 hm | exact mtA7 hm | exact ruA1 hr | exact ruA2 hr | exact ruA3 hr) (by omega) (by first | decide | omega) ?_
      refine pw_iload_n 77 rfl dX12_isSo_76 rfl ?_
      refine pw_icmp_ne (tgt := 84) 80 rfl dX12_isSo_77 rfl (fun h77 => absurd (by rw [e1, hp]) h77) (fun h77 => ?_)
      refine pw_iconst (v := nI 1) 81 rfl dX12_isSo_80 rfl ?_
      refine pw_goto (tgt := 85) dX12_isSo_81 rfl ?_
      refine pw_iret dX12_isSo_85 rfl ?_
      rotate_left
      exact ⟨rfl, rfl, rfl, rfl⟩
    · rw [if_neg (fun z => hp (of_decide_eq_true z))]
      refine pw_iload_n 1 rfl dX12_isSo_0 rfl ?_
      refine pw_tableIn (tgt := 67) (off := 66) dX12_isSo_1 (by decide) (by decide) (by decide) rfl ?_
      refine pw_aload_n 68 rfl dX12_isSo_67 rfl ?_
      refine pw_getR 71 rfl dX12_isSo_68 fX12_9 (by first | rfl | assumption | exact rowS hh | exact mtS hm | exact ruS hr | exact mtA1 hm | exact mtA2 hm | exact mtA3 hm | exact mtA4 hm | exact mtA5 hm | exact mtA6 hm | exact mtA7 hm | exact ruA1 hr | exact ruA2 hr | exact ruA3 hr) rfl (by first | rfl | assumption | exact mtR0 hm | exact mtR1 hm | exact mtR2 hm | exact mtR3 hm | exact mtR4 hm | exact mtR5 hm | exact mtR6 hm | exact ruR0 hr | exact ruR1 hr | exact ruR3 hr) ?_
      refine pw_bipush (v := nI 7) 73 rfl dX12_isSo_71 rfl ?_
      refine pw_iload_n 74 rfl dX12_isSo_73 rfl ?_
      first | refine pw_iaddN 75 rfl dX12_isSo_74 ?_ | refine pw_iadd 75 rfl dX12_isSo_74 ?_
      refine pw_ialdN 76 rfl dX12_isSo_75 (by first | rfl | assumption | exact rowS hh | exact mtS hm | exact ruS hr | exact mtA1 hm | exact mtA2 hm | exact mtA3 hm | exact mtA4 hm | exact mtA5 hm | exact mtA6 hm | exact mtA7 hm | exact ruA1 hr | exact ruA2 hr | exact ruA3 hr) (by omega) (by first | decide | omega) ?_
      refine pw_iload_n 77 rfl dX12_isSo_76 rfl ?_
      refine pw_icmp_ne (tgt := 84) 80 rfl dX12_isSo_77 rfl (fun h77 => ?_) (fun h77 => absurd h77 (by rw [e1, nI_eq (by omega) (by omega)]; exact hp))
      refine pw_iconst (v := nI 0) 85 rfl dX12_isSo_84 rfl ?_
      refine pw_iret dX12_isSo_85 rfl ?_
      rotate_left
      exact ⟨rfl, rfl, rfl, rfl⟩
  · have e1 := hB q (by omega)
    rw [show soN n pc b q 3 V = decide (V ≤ b q) from by show (decide (q < n) && decide (V ≤ b q)) = _; rw [decide_eq_true hq, Bool.true_and]]
    by_cases hp : V ≤ b q
    · rw [if_pos (decide_eq_true hp)]
      refine pw_iload_n 1 rfl dX12_isSo_0 rfl ?_
      refine pw_tableIn (tgt := 86) (off := 85) dX12_isSo_1 (by decide) (by decide) (by decide) rfl ?_
      refine pw_aload_n 87 rfl dX12_isSo_86 rfl ?_
      refine pw_getR 90 rfl dX12_isSo_87 fX12_9 (by first | rfl | assumption | exact rowS hh | exact mtS hm | exact ruS hr | exact mtA1 hm | exact mtA2 hm | exact mtA3 hm | exact mtA4 hm | exact mtA5 hm | exact mtA6 hm | exact mtA7 hm | exact ruA1 hr | exact ruA2 hr | exact ruA3 hr) rfl (by first | rfl | assumption | exact mtR0 hm | exact mtR1 hm | exact mtR2 hm | exact mtR3 hm | exact mtR4 hm | exact mtR5 hm | exact mtR6 hm | exact ruR0 hr | exact ruR1 hr | exact ruR3 hr) ?_
      refine pw_iload_n 91 rfl dX12_isSo_90 rfl ?_
      refine pw_ialdN 92 rfl dX12_isSo_91 (by first | rfl | assumption | exact rowS hh | exact mtS hm | exact ruS hr | exact mtA1 hm | exact mtA2 hm | exact mtA3 hm | exact mtA4 hm | exact mtA5 hm | exact mtA6 hm | exact mtA7 hm | exact ruA1 hr | exact ruA2 hr | exact ruA3 hr) (by omega) (by first | decide | omega) ?_
      refine pw_iload_n 93 rfl dX12_isSo_92 rfl ?_
      refine pw_icmp_lt (tgt := 100) 96 rfl dX12_isSo_93 rfl (fun h93 => absurd h93 (by rw [e1]; (simp (disch := omega) only [nI_leI, nI_ltI, nI_eq, show (0 : Int32) = nI 0 from rfl, not_true_eq_false, not_false_eq_true] <;> omega))) (fun h93 => ?_)
      refine pw_iconst (v := nI 1) 97 rfl dX12_isSo_96 rfl ?_
      refine pw_goto (tgt := 101) dX12_isSo_97 rfl ?_
      refine pw_iret dX12_isSo_101 rfl ?_
      rotate_left
      exact ⟨rfl, rfl, rfl, rfl⟩
    · rw [if_neg (fun z => hp (of_decide_eq_true z))]
      refine pw_iload_n 1 rfl dX12_isSo_0 rfl ?_
      refine pw_tableIn (tgt := 86) (off := 85) dX12_isSo_1 (by decide) (by decide) (by decide) rfl ?_
      refine pw_aload_n 87 rfl dX12_isSo_86 rfl ?_
      refine pw_getR 90 rfl dX12_isSo_87 fX12_9 (by first | rfl | assumption | exact rowS hh | exact mtS hm | exact ruS hr | exact mtA1 hm | exact mtA2 hm | exact mtA3 hm | exact mtA4 hm | exact mtA5 hm | exact mtA6 hm | exact mtA7 hm | exact ruA1 hr | exact ruA2 hr | exact ruA3 hr) rfl (by first | rfl | assumption | exact mtR0 hm | exact mtR1 hm | exact mtR2 hm | exact mtR3 hm | exact mtR4 hm | exact mtR5 hm | exact mtR6 hm | exact ruR0 hr | exact ruR1 hr | exact ruR3 hr) ?_
      refine pw_iload_n 91 rfl dX12_isSo_90 rfl ?_
      refine pw_ialdN 92 rfl dX12_isSo_91 (by first | rfl | assumption | exact rowS hh | exact mtS hm | exact ruS hr | exact mtA1 hm | exact mtA2 hm | exact mtA3 hm | exact mtA4 hm | exact mtA5 hm | exact mtA6 hm | exact mtA7 hm | exact ruA1 hr | exact ruA2 hr | exact ruA3 hr) (by omega) (by first | decide | omega) ?_
      refine pw_iload_n 93 rfl dX12_isSo_92 rfl ?_
      refine pw_icmp_lt (tgt := 100) 96 rfl dX12_isSo_93 rfl (fun h93 => ?_) (fun h93 => absurd (by rw [e1]; (simp (disch := omega) only [nI_leI, nI_ltI, nI_eq, show (0 : Int32) = nI 0 from rfl, not_true_eq_false, not_false_eq_true] <;> omega)) h93)
      refine pw_iconst (v := nI 0) 101 rfl dX12_isSo_100 rfl ?_
      refine pw_iret dX12_isSo_101 rfl ?_
      rotate_left
      exact ⟨rfl, rfl, rfl, rfl⟩
  · have e1 := hB (14 + q) (by omega)
    rw [show soN n pc b q 4 V = decide (b (14 + q) ≠ 0 ↔ V = 1) from by show (decide (q < n) && decide (b (14 + q) ≠ 0 ↔ V = 1)) = _; rw [decide_eq_true hq, Bool.true_and]]
    by_cases h1 : b (14 + q) = 0
    · by_cases h2 : V = 1
      · rw [if_neg (fun z => ((of_decide_eq_true z).mpr h2) h1)]
        refine pw_iload_n 1 rfl dX12_isSo_0 rfl ?_
        refine pw_tableOut (tgt := 102) dX12_isSo_1 (by decide) rfl ?_
        refine pw_aload_n 103 rfl dX12_isSo_102 rfl ?_
        refine pw_getR 106 rfl dX12_isSo_103 fX12_9 (by first | rfl | assumption | exact rowS hh | exact mtS hm | exact ruS hr | exact mtA1 hm | exact mtA2 hm | exact mtA3 hm | exact mtA4 hm | exact mtA5 hm | exact mtA6 hm | exact mtA7 hm | exact ruA1 hr | exact ruA2 hr | exact ruA3 hr) rfl (by first | rfl | assumption | exact mtR0 hm | exact mtR1 hm | exact mtR2 hm | exact mtR3 hm | exact mtR4 hm | exact mtR5 hm | exact mtR6 hm | exact ruR0 hr | exact ruR1 hr | exact ruR3 hr) ?_
        refine pw_bipush (v := nI 14) 108 rfl dX12_isSo_106 rfl ?_
        refine pw_iload_n 109 rfl dX12_isSo_108 rfl ?_
        first | refine pw_iaddN 110 rfl dX12_isSo_109 ?_ | refine pw_iadd 110 rfl dX12_isSo_109 ?_
        refine pw_ialdN 111 rfl dX12_isSo_110 (by first | rfl | assumption | exact rowS hh | exact mtS hm | exact ruS hr | exact mtA1 hm | exact mtA2 hm | exact mtA3 hm | exact mtA4 hm | exact mtA5 hm | exact mtA6 hm | exact mtA7 hm | exact ruA1 hr | exact ruA2 hr | exact ruA3 hr) (by omega) (by first | decide | omega) ?_
        refine pw_if_le (tgt := 118) 114 rfl dX12_isSo_111 rfl (fun h111 => ?_) (fun h111 => absurd (by rw [e1, h1]; decide) h111)
        refine pw_iconst (v := nI 0) 119 rfl dX12_isSo_118 rfl ?_
        refine pw_iload_n 120 rfl dX12_isSo_119 rfl ?_
        refine pw_iconst (v := nI 1) 121 rfl dX12_isSo_120 rfl ?_
        refine pw_icmp_ne (tgt := 128) 124 rfl dX12_isSo_121 rfl (fun h121 => absurd (by rw [h2]) h121) (fun h121 => ?_)
        refine pw_iconst (v := nI 1) 125 rfl dX12_isSo_124 rfl ?_
        refine pw_goto (tgt := 129) dX12_isSo_125 rfl ?_
        refine pw_icmp_ne (tgt := 136) 132 rfl dX12_isSo_129 rfl (fun h129 => ?_) (fun h129 => absurd h129 (by decide))
        refine pw_iconst (v := nI 0) 137 rfl dX12_isSo_136 rfl ?_
        refine pw_iret dX12_isSo_137 rfl ?_
        rotate_left
        exact ⟨rfl, rfl, rfl, rfl⟩
      · rw [if_pos (decide_eq_true ⟨fun z => absurd h1 z, fun z => absurd z h2⟩)]
        refine pw_iload_n 1 rfl dX12_isSo_0 rfl ?_
        refine pw_tableOut (tgt := 102) dX12_isSo_1 (by decide) rfl ?_
        refine pw_aload_n 103 rfl dX12_isSo_102 rfl ?_
        refine pw_getR 106 rfl dX12_isSo_103 fX12_9 (by first | rfl | assumption | exact rowS hh | exact mtS hm | exact ruS hr | exact mtA1 hm | exact mtA2 hm | exact mtA3 hm | exact mtA4 hm | exact mtA5 hm | exact mtA6 hm | exact mtA7 hm | exact ruA1 hr | exact ruA2 hr | exact ruA3 hr) rfl (by first | rfl | assumption | exact mtR0 hm | exact mtR1 hm | exact mtR2 hm | exact mtR3 hm | exact mtR4 hm | exact mtR5 hm | exact mtR6 hm | exact ruR0 hr | exact ruR1 hr | exact ruR3 hr) ?_
        refine pw_bipush (v := nI 14) 108 rfl dX12_isSo_106 rfl ?_
        refine pw_iload_n 109 rfl dX12_isSo_108 rfl ?_
        first | refine pw_iaddN 110 rfl dX12_isSo_109 ?_ | refine pw_iadd 110 rfl dX12_isSo_109 ?_
        refine pw_ialdN 111 rfl dX12_isSo_110 (by first | rfl | assumption | exact rowS hh | exact mtS hm | exact ruS hr | exact mtA1 hm | exact mtA2 hm | exact mtA3 hm | exact mtA4 hm | exact mtA5 hm | exact mtA6 hm | exact mtA7 hm | exact ruA1 hr | exact ruA2 hr | exact ruA3 hr) (by omega) (by first | decide | omega) ?_
        refine pw_if_le (tgt := 118) 114 rfl dX12_isSo_111 rfl (fun h111 => ?_) (fun h111 => absurd (by rw [e1, h1]; decide) h111)
        refine pw_iconst (v := nI 0) 119 rfl dX12_isSo_118 rfl ?_
        refine pw_iload_n 120 rfl dX12_isSo_119 rfl ?_
        refine pw_iconst (v := nI 1) 121 rfl dX12_isSo_120 rfl ?_
        refine pw_icmp_ne (tgt := 128) 124 rfl dX12_isSo_121 rfl (fun h121 => ?_) (fun h121 => absurd h121 (by rw [nI_eq (by omega) (by decide)]; exact h2))
        refine pw_iconst (v := nI 0) 129 rfl dX12_isSo_128 rfl ?_
        refine pw_icmp_ne (tgt := 136) 132 rfl dX12_isSo_129 rfl (fun h129 => absurd (by rfl) h129) (fun h129 => ?_)
        refine pw_iconst (v := nI 1) 133 rfl dX12_isSo_132 rfl ?_
        refine pw_goto (tgt := 137) dX12_isSo_133 rfl ?_
        refine pw_iret dX12_isSo_137 rfl ?_
        rotate_left
        exact ⟨rfl, rfl, rfl, rfl⟩
    · by_cases h2 : V = 1
      · rw [if_pos (decide_eq_true ⟨fun _ => h2, fun _ => h1⟩)]
        refine pw_iload_n 1 rfl dX12_isSo_0 rfl ?_
        refine pw_tableOut (tgt := 102) dX12_isSo_1 (by decide) rfl ?_
        refine pw_aload_n 103 rfl dX12_isSo_102 rfl ?_
        refine pw_getR 106 rfl dX12_isSo_103 fX12_9 (by first | rfl | assumption | exact rowS hh | exact mtS hm | exact ruS hr | exact mtA1 hm | exact mtA2 hm | exact mtA3 hm | exact mtA4 hm | exact mtA5 hm | exact mtA6 hm | exact mtA7 hm | exact ruA1 hr | exact ruA2 hr | exact ruA3 hr) rfl (by first | rfl | assumption | exact mtR0 hm | exact mtR1 hm | exact mtR2 hm | exact mtR3 hm | exact mtR4 hm | exact mtR5 hm | exact mtR6 hm | exact ruR0 hr | exact ruR1 hr | exact ruR3 hr) ?_
        refine pw_bipush (v := nI 14) 108 rfl dX12_isSo_106 rfl ?_
        refine pw_iload_n 109 rfl dX12_isSo_108 rfl ?_
        first | refine pw_iaddN 110 rfl dX12_isSo_109 ?_ | refine pw_iadd 110 rfl dX12_isSo_109 ?_
        refine pw_ialdN 111 rfl dX12_isSo_110 (by first | rfl | assumption | exact rowS hh | exact mtS hm | exact ruS hr | exact mtA1 hm | exact mtA2 hm | exact mtA3 hm | exact mtA4 hm | exact mtA5 hm | exact mtA6 hm | exact mtA7 hm | exact ruA1 hr | exact ruA2 hr | exact ruA3 hr) (by omega) (by first | decide | omega) ?_
        refine pw_if_le (tgt := 118) 114 rfl dX12_isSo_111 rfl (fun h111 => absurd h111 (by rw [e1]; exact nI_nle (by omega) (by omega))) (fun h111 => ?_)
        refine pw_iconst (v := nI 1) 115 rfl dX12_isSo_114 rfl ?_
        refine pw_goto (tgt := 119) dX12_isSo_115 rfl ?_
        refine pw_iload_n 120 rfl dX12_isSo_119 rfl ?_
        refine pw_iconst (v := nI 1) 121 rfl dX12_isSo_120 rfl ?_
        refine pw_icmp_ne (tgt := 128) 124 rfl dX12_isSo_121 rfl (fun h121 => absurd (by rw [h2]) h121) (fun h121 => ?_)
        refine pw_iconst (v := nI 1) 125 rfl dX12_isSo_124 rfl ?_
        refine pw_goto (tgt := 129) dX12_isSo_125 rfl ?_
        refine pw_icmp_ne (tgt := 136) 132 rfl dX12_isSo_129 rfl (fun h129 => absurd (by rfl) h129) (fun h129 => ?_)
        refine pw_iconst (v := nI 1) 133 rfl dX12_isSo_132 rfl ?_
        refine pw_goto (tgt := 137) dX12_isSo_133 rfl ?_
        refine pw_iret dX12_isSo_137 rfl ?_
        rotate_left
        exact ⟨rfl, rfl, rfl, rfl⟩
      · rw [if_neg (fun z => h2 ((of_decide_eq_true z).mp h1))]
        refine pw_iload_n 1 rfl dX12_isSo_0 rfl ?_
        refine pw_tableOut (tgt := 102) dX12_isSo_1 (by decide) rfl ?_
        refine pw_aload_n 103 rfl dX12_isSo_102 rfl ?_
        refine pw_getR 106 rfl dX12_isSo_103 fX12_9 (by first | rfl | assumption | exact rowS hh | exact mtS hm | exact ruS hr | exact mtA1 hm | exact mtA2 hm | exact mtA3 hm | exact mtA4 hm | exact mtA5 hm | exact mtA6 hm | exact mtA7 hm | exact ruA1 hr | exact ruA2 hr | exact ruA3 hr) rfl (by first | rfl | assumption | exact mtR0 hm | exact mtR1 hm | exact mtR2 hm | exact mtR3 hm | exact mtR4 hm | exact mtR5 hm | exact mtR6 hm | exact ruR0 hr | exact ruR1 hr | exact ruR3 hr) ?_
        refine pw_bipush (v := nI 14) 108 rfl dX12_isSo_106 rfl ?_
        refine pw_iload_n 109 rfl dX12_isSo_108 rfl ?_
        first | refine pw_iaddN 110 rfl dX12_isSo_109 ?_ | refine pw_iadd 110 rfl dX12_isSo_109 ?_
        refine pw_ialdN 111 rfl dX12_isSo_110 (by first | rfl | assumption | exact rowS hh | exact mtS hm | exact ruS hr | exact mtA1 hm | exact mtA2 hm | exact mtA3 hm | exact mtA4 hm | exact mtA5 hm | exact mtA6 hm | exact mtA7 hm | exact ruA1 hr | exact ruA2 hr | exact ruA3 hr) (by omega) (by first | decide | omega) ?_
        refine pw_if_le (tgt := 118) 114 rfl dX12_isSo_111 rfl (fun h111 => absurd h111 (by rw [e1]; exact nI_nle (by omega) (by omega))) (fun h111 => ?_)
        refine pw_iconst (v := nI 1) 115 rfl dX12_isSo_114 rfl ?_
        refine pw_goto (tgt := 119) dX12_isSo_115 rfl ?_
        refine pw_iload_n 120 rfl dX12_isSo_119 rfl ?_
        refine pw_iconst (v := nI 1) 121 rfl dX12_isSo_120 rfl ?_
        refine pw_icmp_ne (tgt := 128) 124 rfl dX12_isSo_121 rfl (fun h121 => ?_) (fun h121 => absurd h121 (by rw [nI_eq (by omega) (by decide)]; exact h2))
        refine pw_iconst (v := nI 0) 129 rfl dX12_isSo_128 rfl ?_
        refine pw_icmp_ne (tgt := 136) 132 rfl dX12_isSo_129 rfl (fun h129 => ?_) (fun h129 => absurd h129 (by decide))
        refine pw_iconst (v := nI 0) 137 rfl dX12_isSo_136 rfl ?_
        refine pw_iret dX12_isSo_137 rfl ?_
        rotate_left
        exact ⟨rfl, rfl, rfl, rfl⟩
set_option maxRecDepth 100000 in
set_option maxHeartbeats 2000000 in
theorem m_fitting {d n : Nat} {pc b : Nat → Nat} {hd : List (Nat × Nat)} {rd rl : Option Nat} {I : pI} {J : pJ} (hC : MC I n pc) (hB : MB I 1 b) (hW : WF n pc b) (hH : MH I hd) : PC SM (d + 1) yX12_fitting cX12_fitting 5 (some .int) [.ref 0] (I) (J) (RM rd rl) (pPu (.int (nI (bts (fitP n pc b hd) n))) I J (RM rd rl)) := by
  refine PC.of [some (.ref 0), none, none, none, none] rfl rfl (Nat.le_of_ble_eq_true rfl) ?_
  have h7 := hC.1
  have hn := hC.2.1
  obtain ⟨n1, n2, n3⟩ := id hH
  refine pw_iconst (v := nI 0) 1 rfl dX12_fitting_0 rfl ?_
  refine pw_istore_n 2 rfl dX12_fitting_1 (by decide) ?_
  refine pw_iconst (v := nI 0) 3 rfl dX12_fitting_2 rfl ?_
  refine pw_istore_n 4 rfl dX12_fitting_3 (by decide) ?_
  rotate_left
  have L := nat_loop n (fun q => ∀ (x3 x4 : Option Value), PW SM yX12_fitting.cls cX12_fitting 5 (d + 1) 4 [some (.ref 0), some (.int (nI (bts (fitP n pc b hd) q))), some (.int (nI q)), x3, x4] [] (I) (J) (RM rd rl) (rX cX12_fitting (some .int) (pPu (.int (nI (bts (fitP n pc b hd) n))) I J (RM rd rl)))) ?_ ?_
  · exact L none none
  · intro x3 x4
    refine pw_iload_n 5 rfl dX12_fitting_4 rfl ?_
    refine pw_aload_n 6 rfl dX12_fitting_5 rfl ?_
    refine pw_getI 9 rfl dX12_fitting_6 fX12_95 (by first | rfl | assumption | exact rowS hh | exact mtS hm | exact ruS hr | exact mtA1 hm | exact mtA2 hm | exact mtA3 hm | exact mtA4 hm | exact mtA5 hm | exact mtA6 hm | exact mtA7 hm | exact ruA1 hr | exact ruA2 hr | exact ruA3 hr) rfl ?_
    refine pw_icmp_ge (tgt := 84) 12 rfl dX12_fitting_9 rfl (fun h9 => ?_) (fun h9 => absurd (by rw [hn]; (simp (disch := omega) only [nI_leI, nI_ltI, nI_eq, show (0 : Int32) = nI 0 from rfl, not_true_eq_false, not_false_eq_true] <;> omega)) h9)
    refine pw_iload_n 85 rfl dX12_fitting_84 rfl ?_
    refine pw_iret dX12_fitting_85 rfl ?_
    rotate_left
    exact ⟨rfl, rfl, rfl, rfl⟩
  · intro q hq ih x3 x4
    refine pw_iload_n 5 rfl dX12_fitting_4 rfl ?_
    refine pw_aload_n 6 rfl dX12_fitting_5 rfl ?_
    refine pw_getI 9 rfl dX12_fitting_6 fX12_95 (by first | rfl | assumption | exact rowS hh | exact mtS hm | exact ruS hr | exact mtA1 hm | exact mtA2 hm | exact mtA3 hm | exact mtA4 hm | exact mtA5 hm | exact mtA6 hm | exact mtA7 hm | exact ruA1 hr | exact ruA2 hr | exact ruA3 hr) rfl ?_
    refine pw_icmp_ge (tgt := 84) 12 rfl dX12_fitting_9 rfl (fun h9 => absurd h9 (by rw [hn]; (simp (disch := omega) only [nI_leI, nI_ltI, nI_eq, show (0 : Int32) = nI 0 from rfl, not_true_eq_false, not_false_eq_true] <;> omega))) (fun h9 => ?_)
    refine pw_iconst (v := nI 1) 13 rfl dX12_fitting_12 rfl ?_
    refine pw_istore_n 14 rfl dX12_fitting_13 (by decide) ?_
    refine pw_iconst (v := nI 0) 15 rfl dX12_fitting_14 rfl ?_
    refine pw_istore 17 rfl dX12_fitting_15 (by decide) ?_
    rotate_left
    have hlt := bts_lt (fitP n pc b hd) q
    refine nat_loop hd.length (fun k => PW SM yX12_fitting.cls cX12_fitting 5 (d + 1) 17 [some (.ref 0), some (.int (nI (bts (fitP n pc b hd) q))), some (.int (nI q)), some (.int (nI (if (hd.take k).all (fun p => soN n pc b q p.1 p.2) = true then 1 else 0))), some (.int (nI k))] [] (I) (J) (RM rd rl) (rX cX12_fitting (some .int) (pPu (.int (nI (bts (fitP n pc b hd) n))) I J (RM rd rl)))) ?_ ?_
    · rw [List.take_length]
      rw [bts] at ih
      cases hA : hd.all (fun p => soN n pc b q p.1 p.2)
      · rw [if_neg (show ¬ fitP n pc b hd q = true from fun z => by rw [show fitP n pc b hd q = false from hA] at z; cases z)] at ih
        refine pw_iload 19 rfl dX12_fitting_17 rfl ?_
        refine pw_aload_n 20 rfl dX12_fitting_19 rfl ?_
        refine pw_getI 23 rfl dX12_fitting_20 fX12_314 (by first | rfl | assumption | exact rowS hh | exact mtS hm | exact ruS hr | exact mtA1 hm | exact mtA2 hm | exact mtA3 hm | exact mtA4 hm | exact mtA5 hm | exact mtA6 hm | exact mtA7 hm | exact ruA1 hr | exact ruA2 hr | exact ruA3 hr) rfl ?_
        refine pw_icmp_ge (tgt := 64) 26 rfl dX12_fitting_23 rfl (fun h23 => ?_) (fun h23 => absurd (by rw [n1]; (simp (disch := omega) only [nI_leI, nI_ltI, nI_eq, show (0 : Int32) = nI 0 from rfl, not_true_eq_false, not_false_eq_true] <;> omega)) h23)
        refine pw_iload_n 65 rfl dX12_fitting_64 rfl ?_
        refine pw_iload_n 66 rfl dX12_fitting_65 rfl ?_
        refine pw_if_eq (tgt := 75) 69 rfl dX12_fitting_66 rfl (fun h66 => ?_) (fun h66 => absurd (by rfl) h66)
        refine pw_iconst (v := nI 0) 76 rfl dX12_fitting_75 rfl ?_
        refine pw_ior 77 rfl dX12_fitting_76 ?_
        rotate_left
        rw [show nI (bts (fitP n pc b hd) q) ||| nI 0 = nI (bts (fitP n pc b hd) q + 0) by rw [nI_or, Nat.or_zero]; rfl]
        refine pw_istore_n 78 rfl dX12_fitting_77 (by decide) ?_
        refine pw_iincN 81 rfl dX12_fitting_78 (by decide) rfl ?_
        refine pw_goto (tgt := 4) dX12_fitting_81 rfl ?_
        rotate_left
        exact ih _ _
      · rw [if_pos (show fitP n pc b hd q = true from hA)] at ih
        refine pw_iload 19 rfl dX12_fitting_17 rfl ?_
        refine pw_aload_n 20 rfl dX12_fitting_19 rfl ?_
        refine pw_getI 23 rfl dX12_fitting_20 fX12_314 (by first | rfl | assumption | exact rowS hh | exact mtS hm | exact ruS hr | exact mtA1 hm | exact mtA2 hm | exact mtA3 hm | exact mtA4 hm | exact mtA5 hm | exact mtA6 hm | exact mtA7 hm | exact ruA1 hr | exact ruA2 hr | exact ruA3 hr) rfl ?_
        refine pw_icmp_ge (tgt := 64) 26 rfl dX12_fitting_23 rfl (fun h23 => ?_) (fun h23 => absurd (by rw [n1]; (simp (disch := omega) only [nI_leI, nI_ltI, nI_eq, show (0 : Int32) = nI 0 from rfl, not_true_eq_false, not_false_eq_true] <;> omega)) h23)
        refine pw_iload_n 65 rfl dX12_fitting_64 rfl ?_
        refine pw_iload_n 66 rfl dX12_fitting_65 rfl ?_
        refine pw_if_eq (tgt := 75) 69 rfl dX12_fitting_66 rfl (fun h66 => absurd h66 (by decide)) (fun h66 => ?_)
        refine pw_iconst (v := nI 1) 70 rfl dX12_fitting_69 rfl ?_
        refine pw_iload_n 71 rfl dX12_fitting_70 rfl ?_
        refine pw_ishl 72 rfl dX12_fitting_71 ?_
        refine pw_goto (tgt := 76) dX12_fitting_72 rfl ?_
        refine pw_ior 77 rfl dX12_fitting_76 ?_
        rotate_left
        rw [nI_bit (by omega) hlt]
        refine pw_istore_n 78 rfl dX12_fitting_77 (by decide) ?_
        refine pw_iincN 81 rfl dX12_fitting_78 (by decide) rfl ?_
        refine pw_goto (tgt := 4) dX12_fitting_81 rfl ?_
        rotate_left
        exact ih _ _
    · intro k hk ih2
      obtain ⟨p, hp⟩ : ∃ p, hd[k]? = some p := ⟨_, List.getElem?_eq_getElem hk⟩
      obtain ⟨e1, e2, e3, e4⟩ := n3 k p hp
      have hmo := moN_le p.1
      rw [show (hd.take (k + 1)).all (fun p => soN n pc b q p.1 p.2) = ((hd.take k).all (fun p => soN n pc b q p.1 p.2) && soN n pc b q p.1 p.2) from by rw [List.take_succ, hp, List.all_append]; simp] at ih2
      cases hA : (hd.take k).all (fun p => soN n pc b q p.1 p.2)
      · rw [hA, Bool.false_and] at ih2
        refine pw_iload 19 rfl dX12_fitting_17 rfl ?_
        refine pw_aload_n 20 rfl dX12_fitting_19 rfl ?_
        refine pw_getI 23 rfl dX12_fitting_20 fX12_314 (by first | rfl | assumption | exact rowS hh | exact mtS hm | exact ruS hr | exact mtA1 hm | exact mtA2 hm | exact mtA3 hm | exact mtA4 hm | exact mtA5 hm | exact mtA6 hm | exact mtA7 hm | exact ruA1 hr | exact ruA2 hr | exact ruA3 hr) rfl ?_
        refine pw_icmp_ge (tgt := 64) 26 rfl dX12_fitting_23 rfl (fun h23 => absurd h23 (by rw [n1]; (simp (disch := omega) only [nI_leI, nI_ltI, nI_eq, show (0 : Int32) = nI 0 from rfl, not_true_eq_false, not_false_eq_true] <;> omega))) (fun h23 => ?_)
        refine pw_iload_n 27 rfl dX12_fitting_26 rfl ?_
        refine pw_if_eq (tgt := 56) 30 rfl dX12_fitting_27 rfl (fun h27 => ?_) (fun h27 => absurd (by rfl) h27)
        refine pw_iconst (v := nI 0) 57 rfl dX12_fitting_56 rfl ?_
        refine pw_istore_n 58 rfl dX12_fitting_57 (by decide) ?_
        refine pw_iincN 61 rfl dX12_fitting_58 (by decide) rfl ?_
        refine pw_goto (tgt := 17) dX12_fitting_61 rfl ?_
        rotate_left
        exact ih2
      · rw [hA, Bool.true_and] at ih2
        refine pw_iload 19 rfl dX12_fitting_17 rfl ?_
        refine pw_aload_n 20 rfl dX12_fitting_19 rfl ?_
        refine pw_getI 23 rfl dX12_fitting_20 fX12_314 (by first | rfl | assumption | exact rowS hh | exact mtS hm | exact ruS hr | exact mtA1 hm | exact mtA2 hm | exact mtA3 hm | exact mtA4 hm | exact mtA5 hm | exact mtA6 hm | exact mtA7 hm | exact ruA1 hr | exact ruA2 hr | exact ruA3 hr) rfl ?_
        refine pw_icmp_ge (tgt := 64) 26 rfl dX12_fitting_23 rfl (fun h23 => absurd h23 (by rw [n1]; (simp (disch := omega) only [nI_leI, nI_ltI, nI_eq, show (0 : Int32) = nI 0 from rfl, not_true_eq_false, not_false_eq_true] <;> omega))) (fun h23 => ?_)
        refine pw_iload_n 27 rfl dX12_fitting_26 rfl ?_
        refine pw_if_eq (tgt := 56) 30 rfl dX12_fitting_27 rfl (fun h27 => absurd h27 (by decide)) (fun h27 => ?_)
        refine pw_aload_n 31 rfl dX12_fitting_30 rfl ?_
        refine pw_iload_n 32 rfl dX12_fitting_31 rfl ?_
        refine pw_aload_n 33 rfl dX12_fitting_32 rfl ?_
        refine pw_getR 36 rfl dX12_fitting_33 fX12_63 (by first | rfl | assumption | exact rowS hh | exact mtS hm | exact ruS hr | exact mtA1 hm | exact mtA2 hm | exact mtA3 hm | exact mtA4 hm | exact mtA5 hm | exact mtA6 hm | exact mtA7 hm | exact ruA1 hr | exact ruA2 hr | exact ruA3 hr) rfl (by first | rfl | assumption | exact mtR0 hm | exact mtR1 hm | exact mtR2 hm | exact mtR3 hm | exact mtR4 hm | exact mtR5 hm | exact mtR6 hm | exact ruR0 hr | exact ruR1 hr | exact ruR3 hr) ?_
        refine pw_iload 38 rfl dX12_fitting_36 rfl ?_
        refine pw_ialdN 39 rfl dX12_fitting_38 (by first | rfl | assumption | exact rowS hh | exact mtS hm | exact ruS hr | exact mtA1 hm | exact mtA2 hm | exact mtA3 hm | exact mtA4 hm | exact mtA5 hm | exact mtA6 hm | exact mtA7 hm | exact ruA1 hr | exact ruA2 hr | exact ruA3 hr) (by omega) (by first | decide | omega) ?_
        refine pw_aload_n 40 rfl dX12_fitting_39 rfl ?_
        refine pw_getR 43 rfl dX12_fitting_40 fX12_66 (by first | rfl | assumption | exact rowS hh | exact mtS hm | exact ruS hr | exact mtA1 hm | exact mtA2 hm | exact mtA3 hm | exact mtA4 hm | exact mtA5 hm | exact mtA6 hm | exact mtA7 hm | exact ruA1 hr | exact ruA2 hr | exact ruA3 hr) rfl (by first | rfl | assumption | exact mtR0 hm | exact mtR1 hm | exact mtR2 hm | exact mtR3 hm | exact mtR4 hm | exact mtR5 hm | exact mtR6 hm | exact ruR0 hr | exact ruR1 hr | exact ruR3 hr) ?_
        refine pw_iload 45 rfl dX12_fitting_43 rfl ?_
        refine pw_ialdN 46 rfl dX12_fitting_45 (by first | rfl | assumption | exact rowS hh | exact mtS hm | exact ruS hr | exact mtA1 hm | exact mtA2 hm | exact mtA3 hm | exact mtA4 hm | exact mtA5 hm | exact mtA6 hm | exact mtA7 hm | exact ruA1 hr | exact ruA2 hr | exact ruA3 hr) (by omega) (by first | decide | omega) ?_
        rotate_left
        rw [e1, e2]
        by_cases hs : soN n pc b q p.1 p.2 = true
        · rw [if_pos hs] at ih2
          refine pw_callVP (as := [_, _, _]) 49 rfl dX12_fitting_46 mX12_317 vX12_isSo (m_isSo (d := d) hC hB hW hq e3 (show p.2 ≤ 99 by omega)) (by first | rfl | assumption | exact rowS hh | exact mtS hm | exact ruS hr | exact mtA1 hm | exact mtA2 hm | exact mtA3 hm | exact mtA4 hm | exact mtA5 hm | exact mtA6 hm | exact mtA7 hm | exact ruA1 hr | exact ruA2 hr | exact ruA3 hr) rfl (by decide) ⟨rfl, by decide, by decide, show (parseMethodDescriptor yX12_isSo.desc).map (fun d => d.parameters.length) = some 3 by decide +kernel⟩ (by omega) (by decide) (Nat.le_of_ble_eq_true rfl) rfl ?_
          refine pw_if_eq (tgt := 56) 52 rfl dX12_fitting_49 rfl (fun h49 => absurd h49 (by rw [if_pos hs]; decide)) (fun h49 => ?_)
          refine pw_iconst (v := nI 1) 53 rfl dX12_fitting_52 rfl ?_
          refine pw_goto (tgt := 57) dX12_fitting_53 rfl ?_
          refine pw_istore_n 58 rfl dX12_fitting_57 (by decide) ?_
          refine pw_iincN 61 rfl dX12_fitting_58 (by decide) rfl ?_
          refine pw_goto (tgt := 17) dX12_fitting_61 rfl ?_
          rotate_left
          exact ih2
        · rw [if_neg hs] at ih2
          refine pw_callVP (as := [_, _, _]) 49 rfl dX12_fitting_46 mX12_317 vX12_isSo (m_isSo (d := d) hC hB hW hq e3 (show p.2 ≤ 99 by omega)) (by first | rfl | assumption | exact rowS hh | exact mtS hm | exact ruS hr | exact mtA1 hm | exact mtA2 hm | exact mtA3 hm | exact mtA4 hm | exact mtA5 hm | exact mtA6 hm | exact mtA7 hm | exact ruA1 hr | exact ruA2 hr | exact ruA3 hr) rfl (by decide) ⟨rfl, by decide, by decide, show (parseMethodDescriptor yX12_isSo.desc).map (fun d => d.parameters.length) = some 3 by decide +kernel⟩ (by omega) (by decide) (Nat.le_of_ble_eq_true rfl) rfl ?_
          refine pw_if_eq (tgt := 56) 52 rfl dX12_fitting_49 rfl (fun h49 => ?_) (fun h49 => absurd (by rw [if_neg hs]; rfl) h49)
          refine pw_iconst (v := nI 0) 57 rfl dX12_fitting_56 rfl ?_
          refine pw_istore_n 58 rfl dX12_fitting_57 (by decide) ?_
          refine pw_iincN 61 rfl dX12_fitting_58 (by decide) rfl ?_
          refine pw_goto (tgt := 17) dX12_fitting_61 rfl ?_
          rotate_left
          exact ih2
set_option maxRecDepth 100000 in
set_option maxHeartbeats 2000000 in
theorem mo_fits {d g : Nat} {s : aSt} {rd : Option Nat} {I : pI} {J : pJ} (hA : MA I J s) (hD : MDg g I) (hg : g ≤ 500000000) (hW : WA s)  : PC SM (d + 245) yX12_fits cX12_fits 2 (some .int) [.ref 0] (I) (J) (RM rd (some 6)) (moP (g + 10000) (qOp qFits s)) := by
  refine PC.of [some (.ref 0), none] rfl rfl (Nat.le_of_ble_eq_true rfl) ?_
  obtain ⟨n, pc, b, us, kp, rw, tx, rt, hd, sw⟩ := s
  refine pw_aload_n 1 rfl dX12_fits_0 rfl ?_
  refine pw_iconst (v := nI 0) 2 rfl dX12_fits_1 rfl ?_
  refine pw_putI 5 rfl dX12_fits_2 fX12_88 w12_7 (by first | rfl | assumption | exact rowS hh | exact mtS hm | exact ruS hr | exact mtA1 hm | exact mtA2 hm | exact mtA3 hm | exact mtA4 hm | exact mtA5 hm | exact mtA6 hm | exact mtA7 hm | exact ruA1 hr | exact ruA2 hr | exact ruA3 hr) rfl rfl rfl ?_
  rotate_left
  have hA0 := MA_thr (v := nI 0) hA
  have hD0 : MDg g (uI I 0 7 (nI 0)) := MDg_f hD (uI_ne (by omega)) (fun j => uI_ne (by omega))
  clear hA hD
  generalize uI I 0 7 (nI 0) = I at hA0 hD0 ⊢
  obtain ⟨mC, mB, mT, mN, mR, mU, mK, mH, mG⟩ := id hA0
  obtain ⟨aW, aU, aK⟩ := id hW
  have hE := MSt_A hA0
  have hn7 := mC.1
  have hn := mC.2.1
  have hlt : bts (fitP n pc b hd) n < 128 := Nat.lt_of_lt_of_le (bts_lt _ n) (Nat.le_trans (Nat.pow_le_pow_right (by decide) hn7) (by decide))
  refine pw_aload_n 6 rfl dX12_fits_5 rfl ?_
  refine pw_callVP (as := []) 9 rfl dX12_fits_6 mX12_320 vX12_fitting (m_fitting (d := d + 243) mC mB aW.1 mH) (by first | rfl | assumption | exact rowS hh | exact mtS hm | exact ruS hr | exact mtA1 hm | exact mtA2 hm | exact mtA3 hm | exact mtA4 hm | exact mtA5 hm | exact mtA6 hm | exact mtA7 hm | exact ruA1 hr | exact ruA2 hr | exact ruA3 hr) rfl (by decide) ⟨rfl, by decide, by decide, show (parseMethodDescriptor yX12_fitting.desc).map (fun d => d.parameters.length) = some 0 by decide +kernel⟩ (by omega) (by decide) (Nat.le_of_ble_eq_true rfl) rfl ?_
  refine pw_istore_n 10 rfl dX12_fits_9 (by decide) ?_
  refine pw_aload_n 11 rfl dX12_fits_10 rfl ?_
  refine pw_iconst (v := nI 0) 12 rfl dX12_fits_11 rfl ?_
  refine pw_putI 15 rfl dX12_fits_12 fX12_92 w12_6 (by first | rfl | assumption | exact rowS hh | exact mtS hm | exact ruS hr | exact mtA1 hm | exact mtA2 hm | exact mtA3 hm | exact mtA4 hm | exact mtA5 hm | exact mtA6 hm | exact mtA7 hm | exact ruA1 hr | exact ruA2 hr | exact ruA3 hr) rfl rfl rfl ?_
  refine pw_aload_n 16 rfl dX12_fits_15 rfl ?_
  refine pw_iload_n 17 rfl dX12_fits_16 rfl ?_
  refine pw_callSP (as := [_]) 20 rfl dX12_fits_17 mX12_244 sJ6_bitCount_0f7a4 (x_bitCount (d := d + 244) _) ⟨rfl, by decide, by decide, show (parseMethodDescriptor yJ6_bitCount_0f7a4.desc).map (fun d => d.parameters.length) = some 1 by decide +kernel⟩ (by omega) (by decide) (Nat.le_of_ble_eq_true rfl) rfl ?_
  rotate_left
  rw [bc_pop _ (by omega)]
  refine pw_i2l 21 rfl dX12_fits_20 ?_
  refine pw_callV (as := [_]) 24 rfl dX12_fits_21 mX12_236 vX12_tell (m_tell (d := d + 244) MN_0 (by decide)) (by first | rfl | assumption | exact rowS hh | exact mtS hm | exact ruS hr | exact mtA1 hm | exact mtA2 hm | exact mtA3 hm | exact mtA4 hm | exact mtA5 hm | exact mtA6 hm | exact mtA7 hm | exact ruA1 hr | exact ruA2 hr | exact ruA3 hr) rfl (by decide) ⟨rfl, by decide, by decide, show (parseMethodDescriptor yX12_tell.desc).map (fun d => d.parameters.length) = some 1 by decide +kernel⟩ (by omega) (by decide) (Nat.le_of_ble_eq_true rfl) rfl (fun r21 I21 J21 R21 c21 => ?_)
  obtain ⟨rfl, t1, t2, rfl⟩ := c21
  rotate_left
  refine pw_iload_n 25 rfl dX12_fits_24 rfl ?_
  refine pw_iret dX12_fits_25 rfl ?_
  rotate_left
  have hf1 : ∀ a j, ¬ (a = 0 ∧ j = 6) → I21 a j = I a j := fun a j q => by rw [t2 a j q, uI_ne (by omega)]
  exact moQ rfl rfl (MA_rw hA0 (fun a j q => hf1 a j (by omega)) t1) ((MDg_f hD0 (hf1 _ _ (by omega)) (fun j => hf1 _ _ (by omega))).mono (by omega)) ⟨rd, rfl⟩
def kq (a : Nat) : Nat := if a ≤ 10 then a else if a ≤ 20 then 10 else if a ≤ 23 then a - 10 else if a ≤ 30 then 13 else a - 17
theorem kq_y : ∀ a, a < 42 → (a < 10 ∨ 19 < a) → (a < 23 ∨ 29 < a) → kq (a + 1) = kq a + 1 ∧ aq (kq a) = a ∧ kq a < 25 := by decide
theorem kq_n : ∀ a, a < 42 → ¬ ((a < 10 ∨ 19 < a) ∧ (a < 23 ∨ 29 < a)) → kq (a + 1) = kq a := by decide
def asL (g : Nat → Nat) (A k : Nat) : Nat := if k = 0 then 1000000 else (evp A g k).1
def asB (g : Nat → Nat) (A k : Nat) : Int32 := if k = 0 then -1 else nI (aq (evp A g k).2)
theorem as_y {g : Nat → Nat} {A k : Nat} (h : ∀ j, g j < A) (hA : A ≤ 1000) (hc : g k < asL g A k) : asL g A (k + 1) = g k ∧ asB g A (k + 1) = nI (aq k) := by
  have e : evp A g (k + 1) = (g k, k) := by
    rw [evp, if_pos]
    by_cases hk : k = 0
    · subst hk; exact h 0
    · rw [asL, if_neg hk] at hc; exact hc
  rw [asL, asB, if_neg (Nat.succ_ne_zero k), if_neg (Nat.succ_ne_zero k), e]
  exact ⟨rfl, rfl⟩
theorem as_n {g : Nat → Nat} {A k : Nat} (h : ∀ j, g j < A) (hA : A ≤ 1000) (hc : ¬ g k < asL g A k) : asL g A (k + 1) = asL g A k ∧ asB g A (k + 1) = asB g A k := by
  have hk : k ≠ 0 := fun hk => by subst hk; have := h 0; exact hc (by show g 0 < 1000000; omega)
  rw [asL, if_neg hk] at hc
  have e : evp A g (k + 1) = evp A g k := by rw [evp, if_neg hc]
  rw [asL, asB, asL, asB, if_neg (Nat.succ_ne_zero k), if_neg (Nat.succ_ne_zero k), if_neg hk, if_neg hk, e]
  exact ⟨rfl, rfl⟩
theorem asL_le {g : Nat → Nat} {A : Nat} (hA : A ≤ 1000) (k : Nat) : asL g A k ≤ 1000000 := by
  unfold asL
  have := evp_le A g k
  split <;> omega
theorem cnt_cut {P : Nat → Bool} {n : Nat} (hno : ∀ q, n ≤ q → P q = false) : ∀ k, n ≤ k → cntP P k = cntP P n
  | 0, h => by rw [show n = 0 by omega]
  | k + 1, h => by
    by_cases e : n = k + 1
    · rw [e]
    · rw [cntP_n (hno k (by omega))]; exact cnt_cut hno k (by omega)
set_option maxRecDepth 100000 in
set_option maxHeartbeats 2000000 in
theorem mo_asks {d g : Nat} {s : aSt} {rd : Option Nat} {I : pI} {J : pJ} (hA : MA I J s) (hD : MDg g I) (hg : g ≤ 500000000) (hW : WA s)  : PC SM (d + 245) yX12_asks cX12_asks 7 (some .int) [.ref 0] (I) (J) (RM rd (some 6)) (moP (g + 10000) (qOp qAsks s)) := by
  refine PC.of [some (.ref 0), none, none, none, none, none, none] rfl rfl (Nat.le_of_ble_eq_true rfl) ?_
  obtain ⟨n, pc, b, us, kp, rw, tx, rt, hd, sw⟩ := s
  refine pw_aload_n 1 rfl dX12_asks_0 rfl ?_
  refine pw_iconst (v := nI 0) 2 rfl dX12_asks_1 rfl ?_
  refine pw_putI 5 rfl dX12_asks_2 fX12_88 w12_7 (by first | rfl | assumption | exact rowS hh | exact mtS hm | exact ruS hr | exact mtA1 hm | exact mtA2 hm | exact mtA3 hm | exact mtA4 hm | exact mtA5 hm | exact mtA6 hm | exact mtA7 hm | exact ruA1 hr | exact ruA2 hr | exact ruA3 hr) rfl rfl rfl ?_
  rotate_left
  have hA0 := MA_thr (v := nI 0) hA
  have hD0 : MDg g (uI I 0 7 (nI 0)) := MDg_f hD (uI_ne (by omega)) (fun j => uI_ne (by omega))
  clear hA hD
  generalize uI I 0 7 (nI 0) = I at hA0 hD0 ⊢
  obtain ⟨mC, mB, mT, mN, mR, mU, mK, mH, mG⟩ := id hA0
  obtain ⟨aW, aU, aK⟩ := id hW
  have hE := MSt_A hA0
  have hn7 := mC.1
  have hn := mC.2.1
  have hlt : bts (fitP n pc b hd) n < 128 := Nat.lt_of_lt_of_le (bts_lt _ n) (Nat.le_trans (Nat.pow_le_pow_right (by decide) hn7) (by decide))
  have eq : qAsks n pc b (ruE rt) rw hd sw = (if bts (fitP n pc b hd) n = 0 then -2 else bqI (fun k => lefN n pc b (bts (fitP n pc b hd) n) (aq k)) (popc (bts (fitP n pc b hd) n) + 1) 25, if bts (fitP n pc b hd) n = 0 then rw else [lI (evp (popc (bts (fitP n pc b hd) n) + 1) (fun k => lefN n pc b (bts (fitP n pc b hd) n) (aq k)) 25).1]) := rfl
  refine pw_aload_n 6 rfl dX12_asks_5 rfl ?_
  refine pw_callVP (as := []) 9 rfl dX12_asks_6 mX12_320 vX12_fitting (m_fitting (d := d + 243) mC mB aW.1 mH) (by first | rfl | assumption | exact rowS hh | exact mtS hm | exact ruS hr | exact mtA1 hm | exact mtA2 hm | exact mtA3 hm | exact mtA4 hm | exact mtA5 hm | exact mtA6 hm | exact mtA7 hm | exact ruA1 hr | exact ruA2 hr | exact ruA3 hr) rfl (by decide) ⟨rfl, by decide, by decide, show (parseMethodDescriptor yX12_fitting.desc).map (fun d => d.parameters.length) = some 0 by decide +kernel⟩ (by omega) (by decide) (Nat.le_of_ble_eq_true rfl) rfl ?_
  rotate_left
  generalize bts (fitP n pc b hd) n = t at hlt eq
  by_cases h0 : t = 0
  · rw [if_pos h0, if_pos h0] at eq
    refine pw_istore_n 10 rfl dX12_asks_9 (by decide) ?_
    refine pw_iload_n 11 rfl dX12_asks_10 rfl ?_
    refine pw_if_ne (tgt := 17) 14 rfl dX12_asks_11 rfl (fun h11 => absurd (by rw [h0]; rfl) h11) (fun h11 => ?_)
    refine pw_bipush (v := -2) 16 rfl dX12_asks_14 rfl ?_
    refine pw_iret dX12_asks_16 rfl ?_
    rotate_left
    exact moQ eq rfl hA0 (hD0.mono (by omega)) ⟨rd, rfl⟩
  · rw [if_neg h0, if_neg h0] at eq
    have hpl := (pop_7 t hlt).1
    generalize hg0 : (fun k => lefN n pc b t (aq k)) = f at eq
    have hgk : ∀ k, f k = lefN n pc b t (aq k) := fun k => by rw [← hg0]
    have hgl : ∀ k, f k < popc t + 1 := fun k => by rw [hgk]; have := lefN_le (n := n) (pc := pc) (b := b) hlt (aq k); omega
    have hpc : popc t ≤ 10 := popc_le t
    generalize hAA : popc t + 1 = A at eq hgl
    refine pw_istore_n 10 rfl dX12_asks_9 (by decide) ?_
    refine pw_iload_n 11 rfl dX12_asks_10 rfl ?_
    refine pw_if_ne (tgt := 17) 14 rfl dX12_asks_11 rfl (fun h11 => ?_) (fun h11 => absurd h11 (nI_ne0 (by omega) (by omega)))
    refine pw_iconst (v := -1) 18 rfl dX12_asks_17 rfl ?_
    refine pw_istore_n 19 rfl dX12_asks_18 (by decide) ?_
    refine pw_ldcw 22 rfl dX12_asks_19 kX12_304 ?_
    refine pw_istore_n 23 rfl dX12_asks_22 (by decide) ?_
    refine pw_iconst (v := nI 0) 24 rfl dX12_asks_23 rfl ?_
    refine pw_istore 26 rfl dX12_asks_24 (by decide) ?_
    rotate_left
    have L := nat_loop 42 (fun a => ∀ (x5 x6 : Option Value), PW SM yX12_asks.cls cX12_asks 7 (d + 245) 26 [some (.ref 0), some (.int (nI t)), some (.int (asB f A (kq a))), some (.int (nI (asL f A (kq a)))), some (.int (nI a)), x5, x6] [] (I) (J) (RM rd (some 6)) (rX cX12_asks (some .int) (moP (g + 10000) (qOp qAsks (n, pc, b, us, kp, rw, tx, rt, hd, sw))))) ?_ ?_
    · exact L none none
    · intro x5 x6
      rw [show kq 42 = 25 from rfl, show asL f A 25 = (evp A f 25).1 from if_neg (by decide), show asB f A 25 = nI (aq (evp A f 25).2) from if_neg (by decide)]
      refine pw_iload 28 rfl dX12_asks_26 rfl ?_
      refine pw_bipush (v := nI 42) 30 rfl dX12_asks_28 rfl ?_
      refine pw_icmp_ge (tgt := 154) 33 rfl dX12_asks_30 rfl (fun h30 => ?_) (fun h30 => absurd (by (simp (disch := omega) only [nI_leI, nI_ltI, nI_eq, show (0 : Int32) = nI 0 from rfl, not_true_eq_false, not_false_eq_true] <;> omega)) h30)
      refine pw_aload_n 155 rfl dX12_asks_154 rfl ?_
      refine pw_iconst (v := nI 0) 156 rfl dX12_asks_155 rfl ?_
      refine pw_putI 159 rfl dX12_asks_156 fX12_92 w12_6 (by first | rfl | assumption | exact rowS hh | exact mtS hm | exact ruS hr | exact mtA1 hm | exact mtA2 hm | exact mtA3 hm | exact mtA4 hm | exact mtA5 hm | exact mtA6 hm | exact mtA7 hm | exact ruA1 hr | exact ruA2 hr | exact ruA3 hr) rfl rfl rfl ?_
      refine pw_aload_n 160 rfl dX12_asks_159 rfl ?_
      refine pw_iload_n 161 rfl dX12_asks_160 rfl ?_
      refine pw_i2l 162 rfl dX12_asks_161 ?_
      refine pw_callV (as := [_]) 165 rfl dX12_asks_162 mX12_236 vX12_tell (m_tell (d := d + 244) MN_0 (by decide)) (by first | rfl | assumption | exact rowS hh | exact mtS hm | exact ruS hr | exact mtA1 hm | exact mtA2 hm | exact mtA3 hm | exact mtA4 hm | exact mtA5 hm | exact mtA6 hm | exact mtA7 hm | exact ruA1 hr | exact ruA2 hr | exact ruA3 hr) rfl (by decide) ⟨rfl, by decide, by decide, show (parseMethodDescriptor yX12_tell.desc).map (fun d => d.parameters.length) = some 1 by decide +kernel⟩ (by omega) (by decide) (Nat.le_of_ble_eq_true rfl) rfl (fun r162 I162 J162 R162 c162 => ?_)
      obtain ⟨rfl, t1, t2, rfl⟩ := c162
      rotate_left
      refine pw_iload_n 166 rfl dX12_asks_165 rfl ?_
      refine pw_iret dX12_asks_166 rfl ?_
      rotate_left
      have hf1 : ∀ a j, ¬ (a = 0 ∧ j = 6) → I162 a j = I a j := fun a j q => by rw [t2 a j q, uI_ne (by omega)]
      exact moQ eq rfl (MA_rw hA0 (fun a j q => hf1 a j (by omega)) t1) ((MDg_f hD0 (hf1 _ _ (by omega)) (fun j => hf1 _ _ (by omega))).mono (by omega)) ⟨rd, rfl⟩
    · intro a ha ih x5 x6
      by_cases c1 : a < 10 ∨ 19 < a
      · by_cases c2 : a < 23 ∨ 29 < a
        · obtain ⟨k1, k2, k3⟩ := kq_y a ha c1 c2
          rw [k1] at ih
          have o1 : inV (nI a) (nI 10) (nI 19) = nI 0 := inV_n (by rw [nI_ltI (by omega) (by omega), nI_ltI (by omega) (by omega)]; exact c1)
          have o2 : inV (nI a) (nI 23) (nI 29) = nI 0 := inV_n (by rw [nI_ltI (by omega) (by omega), nI_ltI (by omega) (by omega)]; exact c2)
          refine pw_iload 28 rfl dX12_asks_26 rfl ?_
          refine pw_bipush (v := nI 42) 30 rfl dX12_asks_28 rfl ?_
          refine pw_icmp_ge (tgt := 154) 33 rfl dX12_asks_30 rfl (fun h30 => absurd h30 (by (simp (disch := omega) only [nI_leI, nI_ltI, nI_eq, show (0 : Int32) = nI 0 from rfl, not_true_eq_false, not_false_eq_true] <;> omega))) (fun h30 => ?_)
          refine pw_iload 35 rfl dX12_asks_33 rfl ?_
          refine pw_bipush (v := nI 10) 37 rfl dX12_asks_35 rfl ?_
          refine pw_bipush (v := nI 19) 39 rfl dX12_asks_37 rfl ?_
          refine pw_callSP (as := [_, _, _]) 42 rfl dX12_asks_39 mX12_98 sX12_in (m_in (d := d) _ _ _) ⟨rfl, by decide, by decide, show (parseMethodDescriptor yX12_in.desc).map (fun d => d.parameters.length) = some 3 by decide +kernel⟩ (by omega) (by decide) (Nat.le_of_ble_eq_true rfl) rfl ?_
          refine pw_if_ne (tgt := 148) 45 rfl dX12_asks_42 rfl (fun h42 => absurd (by rw [o1]; decide) h42) (fun h42 => ?_)
          refine pw_iload 47 rfl dX12_asks_45 rfl ?_
          refine pw_bipush (v := nI 23) 49 rfl dX12_asks_47 rfl ?_
          refine pw_bipush (v := nI 29) 51 rfl dX12_asks_49 rfl ?_
          refine pw_callSP (as := [_, _, _]) 54 rfl dX12_asks_51 mX12_98 sX12_in (m_in (d := d) _ _ _) ⟨rfl, by decide, by decide, show (parseMethodDescriptor yX12_in.desc).map (fun d => d.parameters.length) = some 3 by decide +kernel⟩ (by omega) (by decide) (Nat.le_of_ble_eq_true rfl) rfl ?_
          refine pw_if_eq (tgt := 60) 57 rfl dX12_asks_54 rfl (fun h54 => ?_) (fun h54 => absurd (by rw [o2]; rfl) h54)
          refine pw_iconst (v := nI 0) 61 rfl dX12_asks_60 rfl ?_
          refine pw_istore 63 rfl dX12_asks_61 (by decide) ?_
          refine pw_iconst (v := nI 0) 64 rfl dX12_asks_63 rfl ?_
          refine pw_istore 66 rfl dX12_asks_64 (by decide) ?_
          rotate_left
          generalize hP : (fun i => t.testBit i && soN n pc b i (a / 10) (a % 10)) = P
          have hPk : ∀ i, P i = (t.testBit i && soN n pc b i (a / 10) (a % 10)) := fun i => by rw [← hP]
          have hcut : cntP P 7 = cntP P n := cnt_cut (fun q hq => by rw [hPk, show soN n pc b q (a / 10) (a % 10) = false from by unfold soN; rw [decide_eq_false (by omega), Bool.false_and], Bool.and_false]) 7 hn7
          have hcb : cntP P n ≤ popc t := by
            rw [← hcut, ← hP]
            have := cnt_and (P := fun i => t.testBit i) (Q := fun i => soN n pc b i (a / 10) (a % 10)) 7
            rw [cnt_bits t hlt] at this
            exact this
          have efk : f (kq a) = max (cntP P n) (popc t - cntP P n) := by rw [hgk, k2, lefN, hP, hcut]
          have hal := asL_le (g := f) (A := A) (by omega) (kq a)
          have hfk := hgl (kq a)
          refine nat_loop n (fun i => PW SM yX12_asks.cls cX12_asks 7 (d + 245) 66 [some (.ref 0), some (.int (nI t)), some (.int (asB f A (kq a))), some (.int (nI (asL f A (kq a)))), some (.int (nI a)), some (.int (nI (cntP P i))), some (.int (nI i))] [] (I) (J) (RM rd (some 6)) (rX cX12_asks (some .int) (moP (g + 10000) (qOp qAsks (n, pc, b, us, kp, rw, tx, rt, hd, sw))))) ?_ ?_
          · refine pw_iload 68 rfl dX12_asks_66 rfl ?_
            refine pw_aload_n 69 rfl dX12_asks_68 rfl ?_
            refine pw_getI 72 rfl dX12_asks_69 fX12_95 (by first | rfl | assumption | exact rowS hh | exact mtS hm | exact ruS hr | exact mtA1 hm | exact mtA2 hm | exact mtA3 hm | exact mtA4 hm | exact mtA5 hm | exact mtA6 hm | exact mtA7 hm | exact ruA1 hr | exact ruA2 hr | exact ruA3 hr) rfl ?_
            refine pw_icmp_ge (tgt := 119) 75 rfl dX12_asks_72 rfl (fun h72 => ?_) (fun h72 => absurd (by rw [hn]; (simp (disch := omega) only [nI_leI, nI_ltI, nI_eq, show (0 : Int32) = nI 0 from rfl, not_true_eq_false, not_false_eq_true] <;> omega)) h72)
            refine pw_iload 121 rfl dX12_asks_119 rfl ?_
            refine pw_iload_n 122 rfl dX12_asks_121 rfl ?_
            refine pw_callSP (as := [_]) 125 rfl dX12_asks_122 mX12_244 sJ6_bitCount_0f7a4 (x_bitCount (d := d + 244) _) ⟨rfl, by decide, by decide, show (parseMethodDescriptor yJ6_bitCount_0f7a4.desc).map (fun d => d.parameters.length) = some 1 by decide +kernel⟩ (by omega) (by decide) (Nat.le_of_ble_eq_true rfl) rfl ?_
            rotate_left
            rw [bc_pop t (by omega), show pop 10 t = popc t from rfl]
            refine pw_iload 127 rfl dX12_asks_125 rfl ?_
            refine pw_isubN 128 rfl dX12_asks_127 (hcb) ?_
            refine pw_mmax 131 rfl dX12_asks_128 mX12_195 (Nat.le_of_ble_eq_true rfl) ?_
            rotate_left
            rw [nI_max (by omega) (by omega), ← efk]
            by_cases hc : f (kq a) < asL f A (kq a)
            · obtain ⟨y1, y2⟩ := as_y hgl (by omega) hc
              rw [y1, y2, k2] at ih
              refine pw_istore 133 rfl dX12_asks_131 (by decide) ?_
              refine pw_iload 135 rfl dX12_asks_133 rfl ?_
              refine pw_iload_n 136 rfl dX12_asks_135 rfl ?_
              refine pw_icmp_lt (tgt := 142) 139 rfl dX12_asks_136 rfl (fun h136 => ?_) (fun h136 => absurd (by (simp (disch := omega) only [nI_leI, nI_ltI, nI_eq, show (0 : Int32) = nI 0 from rfl, not_true_eq_false, not_false_eq_true] <;> omega)) h136)
              refine pw_iload 144 rfl dX12_asks_142 rfl ?_
              refine pw_istore_n 145 rfl dX12_asks_144 (by decide) ?_
              refine pw_iload 147 rfl dX12_asks_145 rfl ?_
              refine pw_istore_n 148 rfl dX12_asks_147 (by decide) ?_
              refine pw_iincN 151 rfl dX12_asks_148 (by decide) rfl ?_
              refine pw_goto (tgt := 26) dX12_asks_151 rfl ?_
              rotate_left
              exact ih _ _
            · obtain ⟨y1, y2⟩ := as_n hgl (by omega) hc
              rw [y1, y2] at ih
              refine pw_istore 133 rfl dX12_asks_131 (by decide) ?_
              refine pw_iload 135 rfl dX12_asks_133 rfl ?_
              refine pw_iload_n 136 rfl dX12_asks_135 rfl ?_
              refine pw_icmp_lt (tgt := 142) 139 rfl dX12_asks_136 rfl (fun h136 => absurd h136 (by (simp (disch := omega) only [nI_leI, nI_ltI, nI_eq, show (0 : Int32) = nI 0 from rfl, not_true_eq_false, not_false_eq_true] <;> omega))) (fun h136 => ?_)
              refine pw_goto (tgt := 148) dX12_asks_139 rfl ?_
              refine pw_iincN 151 rfl dX12_asks_148 (by decide) rfl ?_
              refine pw_goto (tgt := 26) dX12_asks_151 rfl ?_
              rotate_left
              exact ih _ _
          · intro i hi ih2
            by_cases hb : t.testBit i = true
            · by_cases hs : soN n pc b i (a / 10) (a % 10) = true
              · rw [cntP, if_pos (by rw [hPk, hb, hs]; rfl)] at ih2
                refine pw_iload 68 rfl dX12_asks_66 rfl ?_
                refine pw_aload_n 69 rfl dX12_asks_68 rfl ?_
                refine pw_getI 72 rfl dX12_asks_69 fX12_95 (by first | rfl | assumption | exact rowS hh | exact mtS hm | exact ruS hr | exact mtA1 hm | exact mtA2 hm | exact mtA3 hm | exact mtA4 hm | exact mtA5 hm | exact mtA6 hm | exact mtA7 hm | exact ruA1 hr | exact ruA2 hr | exact ruA3 hr) rfl ?_
                refine pw_icmp_ge (tgt := 119) 75 rfl dX12_asks_72 rfl (fun h72 => absurd h72 (by rw [hn]; (simp (disch := omega) only [nI_leI, nI_ltI, nI_eq, show (0 : Int32) = nI 0 from rfl, not_true_eq_false, not_false_eq_true] <;> omega))) (fun h72 => ?_)
                refine pw_iload 77 rfl dX12_asks_75 rfl ?_
                refine pw_iload_n 78 rfl dX12_asks_77 rfl ?_
                refine pw_iload 80 rfl dX12_asks_78 rfl ?_
                refine pw_callSP (as := [_, _]) 83 rfl dX12_asks_80 mX12_292 sX12_has (m_has (d := d + 244) (show t < 2147483648 by omega) (show i < 31 by omega)) ⟨rfl, by decide, by decide, show (parseMethodDescriptor yX12_has.desc).map (fun d => d.parameters.length) = some 2 by decide +kernel⟩ (by omega) (by decide) (Nat.le_of_ble_eq_true rfl) rfl ?_
                refine pw_if_eq (tgt := 109) 86 rfl dX12_asks_83 rfl (fun h83 => absurd h83 (by rw [if_pos hb]; decide)) (fun h83 => ?_)
                refine pw_aload_n 87 rfl dX12_asks_86 rfl ?_
                refine pw_iload 89 rfl dX12_asks_87 rfl ?_
                refine pw_iload 91 rfl dX12_asks_89 rfl ?_
                refine pw_bipush (v := nI 10) 93 rfl dX12_asks_91 rfl ?_
                refine pw_idivN 94 rfl dX12_asks_93 (by omega) (by omega) (by omega) ?_
                refine pw_iload 96 rfl dX12_asks_94 rfl ?_
                refine pw_bipush (v := nI 10) 98 rfl dX12_asks_96 rfl ?_
                refine pw_iremN 99 rfl dX12_asks_98 (by omega) (by omega) (by omega) ?_
                refine pw_callVP (as := [_, _, _]) 102 rfl dX12_asks_99 mX12_317 vX12_isSo (m_isSo (d := d + 244) mC mB aW.1 hi (show a / 10 < 5 by omega) (show a % 10 ≤ 99 by omega)) (by first | rfl | assumption | exact rowS hh | exact mtS hm | exact ruS hr | exact mtA1 hm | exact mtA2 hm | exact mtA3 hm | exact mtA4 hm | exact mtA5 hm | exact mtA6 hm | exact mtA7 hm | exact ruA1 hr | exact ruA2 hr | exact ruA3 hr) rfl (by decide) ⟨rfl, by decide, by decide, show (parseMethodDescriptor yX12_isSo.desc).map (fun d => d.parameters.length) = some 3 by decide +kernel⟩ (by omega) (by decide) (Nat.le_of_ble_eq_true rfl) rfl ?_
                refine pw_if_eq (tgt := 109) 105 rfl dX12_asks_102 rfl (fun h102 => absurd h102 (by rw [if_pos hs]; decide)) (fun h102 => ?_)
                refine pw_iconst (v := nI 1) 106 rfl dX12_asks_105 rfl ?_
                refine pw_goto (tgt := 110) dX12_asks_106 rfl ?_
                first | refine pw_iaddN 111 rfl dX12_asks_110 ?_ | refine pw_iadd 111 rfl dX12_asks_110 ?_
                refine pw_istore 113 rfl dX12_asks_111 (by decide) ?_
                refine pw_iincN 116 rfl dX12_asks_113 (by decide) rfl ?_
                refine pw_goto (tgt := 66) dX12_asks_116 rfl ?_
                rotate_left
                exact ih2
              · rw [cntP, if_neg (by rw [hPk, hb, Bool.true_and]; exact hs)] at ih2
                refine pw_iload 68 rfl dX12_asks_66 rfl ?_
                refine pw_aload_n 69 rfl dX12_asks_68 rfl ?_
                refine pw_getI 72 rfl dX12_asks_69 fX12_95 (by first | rfl | assumption | exact rowS hh | exact mtS hm | exact ruS hr | exact mtA1 hm | exact mtA2 hm | exact mtA3 hm | exact mtA4 hm | exact mtA5 hm | exact mtA6 hm | exact mtA7 hm | exact ruA1 hr | exact ruA2 hr | exact ruA3 hr) rfl ?_
                refine pw_icmp_ge (tgt := 119) 75 rfl dX12_asks_72 rfl (fun h72 => absurd h72 (by rw [hn]; (simp (disch := omega) only [nI_leI, nI_ltI, nI_eq, show (0 : Int32) = nI 0 from rfl, not_true_eq_false, not_false_eq_true] <;> omega))) (fun h72 => ?_)
                refine pw_iload 77 rfl dX12_asks_75 rfl ?_
                refine pw_iload_n 78 rfl dX12_asks_77 rfl ?_
                refine pw_iload 80 rfl dX12_asks_78 rfl ?_
                refine pw_callSP (as := [_, _]) 83 rfl dX12_asks_80 mX12_292 sX12_has (m_has (d := d + 244) (show t < 2147483648 by omega) (show i < 31 by omega)) ⟨rfl, by decide, by decide, show (parseMethodDescriptor yX12_has.desc).map (fun d => d.parameters.length) = some 2 by decide +kernel⟩ (by omega) (by decide) (Nat.le_of_ble_eq_true rfl) rfl ?_
                refine pw_if_eq (tgt := 109) 86 rfl dX12_asks_83 rfl (fun h83 => absurd h83 (by rw [if_pos hb]; decide)) (fun h83 => ?_)
                refine pw_aload_n 87 rfl dX12_asks_86 rfl ?_
                refine pw_iload 89 rfl dX12_asks_87 rfl ?_
                refine pw_iload 91 rfl dX12_asks_89 rfl ?_
                refine pw_bipush (v := nI 10) 93 rfl dX12_asks_91 rfl ?_
                refine pw_idivN 94 rfl dX12_asks_93 (by omega) (by omega) (by omega) ?_
                refine pw_iload 96 rfl dX12_asks_94 rfl ?_
                refine pw_bipush (v := nI 10) 98 rfl dX12_asks_96 rfl ?_
                refine pw_iremN 99 rfl dX12_asks_98 (by omega) (by omega) (by omega) ?_
                refine pw_callVP (as := [_, _, _]) 102 rfl dX12_asks_99 mX12_317 vX12_isSo (m_isSo (d := d + 244) mC mB aW.1 hi (show a / 10 < 5 by omega) (show a % 10 ≤ 99 by omega)) (by first | rfl | assumption | exact rowS hh | exact mtS hm | exact ruS hr | exact mtA1 hm | exact mtA2 hm | exact mtA3 hm | exact mtA4 hm | exact mtA5 hm | exact mtA6 hm | exact mtA7 hm | exact ruA1 hr | exact ruA2 hr | exact ruA3 hr) rfl (by decide) ⟨rfl, by decide, by decide, show (parseMethodDescriptor yX12_isSo.desc).map (fun d => d.parameters.length) = some 3 by decide +kernel⟩ (by omega) (by decide) (Nat.le_of_ble_eq_true rfl) rfl ?_
                refine pw_if_eq (tgt := 109) 105 rfl dX12_asks_102 rfl (fun h102 => ?_) (fun h102 => absurd (by rw [if_neg hs]; rfl) h102)
                refine pw_iconst (v := nI 0) 110 rfl dX12_asks_109 rfl ?_
                first | refine pw_iaddN 111 rfl dX12_asks_110 ?_ | refine pw_iadd 111 rfl dX12_asks_110 ?_
                refine pw_istore 113 rfl dX12_asks_111 (by decide) ?_
                refine pw_iincN 116 rfl dX12_asks_113 (by decide) rfl ?_
                refine pw_goto (tgt := 66) dX12_asks_116 rfl ?_
                rotate_left
                exact ih2
            · rw [cntP, if_neg (by rw [hPk, Bool.and_eq_true]; exact fun z => hb z.1)] at ih2
              refine pw_iload 68 rfl dX12_asks_66 rfl ?_
              refine pw_aload_n 69 rfl dX12_asks_68 rfl ?_
              refine pw_getI 72 rfl dX12_asks_69 fX12_95 (by first | rfl | assumption | exact rowS hh | exact mtS hm | exact ruS hr | exact mtA1 hm | exact mtA2 hm | exact mtA3 hm | exact mtA4 hm | exact mtA5 hm | exact mtA6 hm | exact mtA7 hm | exact ruA1 hr | exact ruA2 hr | exact ruA3 hr) rfl ?_
              refine pw_icmp_ge (tgt := 119) 75 rfl dX12_asks_72 rfl (fun h72 => absurd h72 (by rw [hn]; (simp (disch := omega) only [nI_leI, nI_ltI, nI_eq, show (0 : Int32) = nI 0 from rfl, not_true_eq_false, not_false_eq_true] <;> omega))) (fun h72 => ?_)
              refine pw_iload 77 rfl dX12_asks_75 rfl ?_
              refine pw_iload_n 78 rfl dX12_asks_77 rfl ?_
              refine pw_iload 80 rfl dX12_asks_78 rfl ?_
              refine pw_callSP (as := [_, _]) 83 rfl dX12_asks_80 mX12_292 sX12_has (m_has (d := d + 244) (show t < 2147483648 by omega) (show i < 31 by omega)) ⟨rfl, by decide, by decide, show (parseMethodDescriptor yX12_has.desc).map (fun d => d.parameters.length) = some 2 by decide +kernel⟩ (by omega) (by decide) (Nat.le_of_ble_eq_true rfl) rfl ?_
              refine pw_if_eq (tgt := 109) 86 rfl dX12_asks_83 rfl (fun h83 => ?_) (fun h83 => absurd (by rw [if_neg hb]; rfl) h83)
              refine pw_iconst (v := nI 0) 110 rfl dX12_asks_109 rfl ?_
              first | refine pw_iaddN 111 rfl dX12_asks_110 ?_ | refine pw_iadd 111 rfl dX12_asks_110 ?_
              refine pw_istore 113 rfl dX12_asks_111 (by decide) ?_
              refine pw_iincN 116 rfl dX12_asks_113 (by decide) rfl ?_
              refine pw_goto (tgt := 66) dX12_asks_116 rfl ?_
              rotate_left
              exact ih2
        · rw [kq_n a ha (fun z => c2 z.2)] at ih
          have o1 : inV (nI a) (nI 10) (nI 19) = nI 0 := inV_n (by rw [nI_ltI (by omega) (by omega), nI_ltI (by omega) (by omega)]; exact c1)
          have o2 : inV (nI a) (nI 23) (nI 29) = nI 1 := inV_y (by omega) (by omega) (by decide)
          refine pw_iload 28 rfl dX12_asks_26 rfl ?_
          refine pw_bipush (v := nI 42) 30 rfl dX12_asks_28 rfl ?_
          refine pw_icmp_ge (tgt := 154) 33 rfl dX12_asks_30 rfl (fun h30 => absurd h30 (by (simp (disch := omega) only [nI_leI, nI_ltI, nI_eq, show (0 : Int32) = nI 0 from rfl, not_true_eq_false, not_false_eq_true] <;> omega))) (fun h30 => ?_)
          refine pw_iload 35 rfl dX12_asks_33 rfl ?_
          refine pw_bipush (v := nI 10) 37 rfl dX12_asks_35 rfl ?_
          refine pw_bipush (v := nI 19) 39 rfl dX12_asks_37 rfl ?_
          refine pw_callSP (as := [_, _, _]) 42 rfl dX12_asks_39 mX12_98 sX12_in (m_in (d := d) _ _ _) ⟨rfl, by decide, by decide, show (parseMethodDescriptor yX12_in.desc).map (fun d => d.parameters.length) = some 3 by decide +kernel⟩ (by omega) (by decide) (Nat.le_of_ble_eq_true rfl) rfl ?_
          refine pw_if_ne (tgt := 148) 45 rfl dX12_asks_42 rfl (fun h42 => absurd (by rw [o1]; decide) h42) (fun h42 => ?_)
          refine pw_iload 47 rfl dX12_asks_45 rfl ?_
          refine pw_bipush (v := nI 23) 49 rfl dX12_asks_47 rfl ?_
          refine pw_bipush (v := nI 29) 51 rfl dX12_asks_49 rfl ?_
          refine pw_callSP (as := [_, _, _]) 54 rfl dX12_asks_51 mX12_98 sX12_in (m_in (d := d) _ _ _) ⟨rfl, by decide, by decide, show (parseMethodDescriptor yX12_in.desc).map (fun d => d.parameters.length) = some 3 by decide +kernel⟩ (by omega) (by decide) (Nat.le_of_ble_eq_true rfl) rfl ?_
          refine pw_if_eq (tgt := 60) 57 rfl dX12_asks_54 rfl (fun h54 => absurd h54 (by rw [o2]; decide)) (fun h54 => ?_)
          refine pw_goto (tgt := 148) dX12_asks_57 rfl ?_
          refine pw_iincN 151 rfl dX12_asks_148 (by decide) rfl ?_
          refine pw_goto (tgt := 26) dX12_asks_151 rfl ?_
          rotate_left
          exact ih _ _
      · rw [kq_n a ha (fun z => c1 z.1)] at ih
        have o1 : inV (nI a) (nI 10) (nI 19) = nI 1 := inV_y (by omega) (by omega) (by decide)
        refine pw_iload 28 rfl dX12_asks_26 rfl ?_
        refine pw_bipush (v := nI 42) 30 rfl dX12_asks_28 rfl ?_
        refine pw_icmp_ge (tgt := 154) 33 rfl dX12_asks_30 rfl (fun h30 => absurd h30 (by (simp (disch := omega) only [nI_leI, nI_ltI, nI_eq, show (0 : Int32) = nI 0 from rfl, not_true_eq_false, not_false_eq_true] <;> omega))) (fun h30 => ?_)
        refine pw_iload 35 rfl dX12_asks_33 rfl ?_
        refine pw_bipush (v := nI 10) 37 rfl dX12_asks_35 rfl ?_
        refine pw_bipush (v := nI 19) 39 rfl dX12_asks_37 rfl ?_
        refine pw_callSP (as := [_, _, _]) 42 rfl dX12_asks_39 mX12_98 sX12_in (m_in (d := d) _ _ _) ⟨rfl, by decide, by decide, show (parseMethodDescriptor yX12_in.desc).map (fun d => d.parameters.length) = some 3 by decide +kernel⟩ (by omega) (by decide) (Nat.le_of_ble_eq_true rfl) rfl ?_
        refine pw_if_ne (tgt := 148) 45 rfl dX12_asks_42 rfl (fun h42 => ?_) (fun h42 => absurd h42 (by rw [o1]; decide))
        refine pw_iincN 151 rfl dX12_asks_148 (by decide) rfl ?_
        refine pw_goto (tgt := 26) dX12_asks_151 rfl ?_
        rotate_left
        exact ih _ _
