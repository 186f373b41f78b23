/-! counting, paces, rules -/
def cntO (k : Nat) : aSt → Int32
  | (n, pc, b, us, _, rw, tx, _, hd, sw) => match k with
    | 0 => nI n
    | 1 => nI (b 28)
    | 2 => nI (b 29)
    | 3 => nI (b 30)
    | 4 => nI (b 31)
    | 5 => nI (bts (fun q => decide (b (7 + q) ≠ 0)) n)
    | 6 => nI (sumN b n)
    | 7 => nI (sumN (fun q => b (21 + q)) n)
    | 8 => nI hd.length
    | 9 => nI sw.length
    | 10 => nI us.length
    | 11 => nI rw.length
    | 12 => nI tx.length
    | 13 => nI (sumN (fun q => b (14 + q)) n)
    | 14 => nI (sumN pc n)
    | _ => nI (bts (fun q => decide (b (14 + q) ≠ 0)) n)
def cntV (w : Int32) (s : aSt) : Int32 := match inOf 0 15 w with
  | none => -1
  | some k => cntO k s
theorem XM_s0 {I : pI} {n : Nat} {pc b : Nat → Nat} (h : XM I 1 n pc b) : (∀ q, q < n → I 2 q = nI (pc q)) ∧ (∀ q, q < n → I 3 q = nI (b q)) ∧ (∀ q, q < n → I 5 q = nI (b (14 + q))) ∧ (∀ q, q < n → I 6 q = nI (b (21 + q))) := by
  obtain ⟨h7, -, -, -, -, -, hA⟩ := h
  exact ⟨fun q hq => (hA q (by omega)).1, fun q hq => (hA q (by omega)).2.1, fun q hq => (hA q (by omega)).2.2.2.1, fun q hq => (hA q (by omega)).2.2.2.2⟩
set_option maxRecDepth 100000 in
set_option maxHeartbeats 2000000 in
theorem xo_count {d : Nat} {s : aSt} {I : pI} {J : pJ} (hA : XA I J s) (hW : WA s) (w : Int32) : PC SX (d + 8) yX11_count cX11_count 2 (some .int) [.ref 0, .int w] (I) (J) (RX) (oP (cntV w s, s)) := by
  refine PC.of [some (.ref 0), some (.int w)] rfl rfl (Nat.le_of_ble_eq_true rfl) ?_
  obtain ⟨n, pc, b, us, kp, rw, tx, rt, hd, sw⟩ := s
  obtain ⟨a1, a2, a3, a4, a5, a6, a7, a8⟩ := id hA
  obtain ⟨aW, -, -⟩ := id hW
  have hn7 := a1.1
  obtain ⟨s0, s1, s2, s3⟩ := XM_s0 a1
  obtain ⟨o, -, -, u5, -, -⟩ := id a5
  unfold cntV
  rcases inOf_cases (lo := 0) (hi := 15) (by decide) w (by decide) with ⟨N, k1, k2, rfl, hj⟩ | ⟨hj, hp⟩
  · rw [hj]
    rcases (show N = 0 ∨ N = 1 ∨ N = 2 ∨ N = 3 ∨ N = 4 ∨ N = 5 ∨ N = 6 ∨ N = 7 ∨ N = 8 ∨ N = 9 ∨ N = 10 ∨ N = 11 ∨ N = 12 ∨ N = 13 ∨ N = 14 ∨ N = 15 by omega) with rfl | rfl | rfl | rfl | rfl | rfl | rfl | rfl | rfl | rfl | rfl | rfl | rfl | rfl | rfl | rfl
    · refine pw_iload_n 1 rfl dX11_count_0 rfl ?_
      refine pw_tableIn (tgt := 80) (off := 79) dX11_count_1 (by decide) (by decide) (by decide) rfl ?_
      refine pw_aload_n 81 rfl dX11_count_80 rfl ?_
      refine pw_getR 84 rfl dX11_count_81 fX11_10 (by first | rfl | assumption | exact rowS hh | exact mtS hm | exact ruS hr | exact mtA1 hm | exact mtA2 hm | exact mtA3 hm | exact mtA4 hm | exact mtA5 hm | exact mtA6 hm | exact mtA7 hm | exact ruA1 hr | exact ruA2 hr | exact ruA3 hr) rfl (by first | rfl | assumption | exact mtR0 hm | exact mtR1 hm | exact mtR2 hm | exact mtR3 hm | exact mtR4 hm | exact mtR5 hm | exact mtR6 hm | exact ruR0 hr | exact ruR1 hr | exact ruR3 hr) ?_
      refine pw_getI 87 rfl dX11_count_84 fX11_103 (by first | rfl | assumption | exact rowS hh | exact mtS hm | exact ruS hr | exact mtA1 hm | exact mtA2 hm | exact mtA3 hm | exact mtA4 hm | exact mtA5 hm | exact mtA6 hm | exact mtA7 hm | exact ruA1 hr | exact ruA2 hr | exact ruA3 hr) rfl ?_
      rotate_left
      rw [show I 1 7 = nI n from a1.2.1]
      refine pw_iret dX11_count_87 rfl ?_
      rotate_left
      exact ⟨rfl, hA, rfl⟩
    · refine pw_iload_n 1 rfl dX11_count_0 rfl ?_
      refine pw_tableIn (tgt := 88) (off := 87) dX11_count_1 (by decide) (by decide) (by decide) rfl ?_
      refine pw_aload_n 89 rfl dX11_count_88 rfl ?_
      refine pw_getR 92 rfl dX11_count_89 fX11_10 (by first | rfl | assumption | exact rowS hh | exact mtS hm | exact ruS hr | exact mtA1 hm | exact mtA2 hm | exact mtA3 hm | exact mtA4 hm | exact mtA5 hm | exact mtA6 hm | exact mtA7 hm | exact ruA1 hr | exact ruA2 hr | exact ruA3 hr) rfl (by first | rfl | assumption | exact mtR0 hm | exact mtR1 hm | exact mtR2 hm | exact mtR3 hm | exact mtR4 hm | exact mtR5 hm | exact mtR6 hm | exact ruR0 hr | exact ruR1 hr | exact ruR3 hr) ?_
      refine pw_getI 95 rfl dX11_count_92 fX11_321 (by first | rfl | assumption | exact rowS hh | exact mtS hm | exact ruS hr | exact mtA1 hm | exact mtA2 hm | exact mtA3 hm | exact mtA4 hm | exact mtA5 hm | exact mtA6 hm | exact mtA7 hm | exact ruA1 hr | exact ruA2 hr | exact ruA3 hr) rfl ?_
      rotate_left
      rw [show I 1 8 = nI (b 28) from a1.2.2.1]
      refine pw_iret dX11_count_95 rfl ?_
      rotate_left
      exact ⟨rfl, hA, rfl⟩
    · refine pw_iload_n 1 rfl dX11_count_0 rfl ?_
      refine pw_tableIn (tgt := 96) (off := 95) dX11_count_1 (by decide) (by decide) (by decide) rfl ?_
      refine pw_aload_n 97 rfl dX11_count_96 rfl ?_
      refine pw_getR 100 rfl dX11_count_97 fX11_10 (by first | rfl | assumption | exact rowS hh | exact mtS hm | exact ruS hr | exact mtA1 hm | exact mtA2 hm | exact mtA3 hm | exact mtA4 hm | exact mtA5 hm | exact mtA6 hm | exact mtA7 hm | exact ruA1 hr | exact ruA2 hr | exact ruA3 hr) rfl (by first | rfl | assumption | exact mtR0 hm | exact mtR1 hm | exact mtR2 hm | exact mtR3 hm | exact mtR4 hm | exact mtR5 hm | exact mtR6 hm | exact ruR0 hr | exact ruR1 hr | exact ruR3 hr) ?_
      refine pw_getI 103 rfl dX11_count_100 fX11_201 (by first | rfl | assumption | exact rowS hh | exact mtS hm | exact ruS hr | exact mtA1 hm | exact mtA2 hm | exact mtA3 hm | exact mtA4 hm | exact mtA5 hm | exact mtA6 hm | exact mtA7 hm | exact ruA1 hr | exact ruA2 hr | exact ruA3 hr) rfl ?_
      rotate_left
      rw [show I 1 9 = nI (b 29) from a1.2.2.2.1]
      refine pw_iret dX11_count_103 rfl ?_
      rotate_left
      exact ⟨rfl, hA, rfl⟩
    · refine pw_iload_n 1 rfl dX11_count_0 rfl ?_
      refine pw_tableIn (tgt := 104) (off := 103) dX11_count_1 (by decide) (by decide) (by decide) rfl ?_
      refine pw_aload_n 105 rfl dX11_count_104 rfl ?_
      refine pw_getR 108 rfl dX11_count_105 fX11_10 (by first | rfl | assumption | exact rowS hh | exact mtS hm | exact ruS hr | exact mtA1 hm | exact mtA2 hm | exact mtA3 hm | exact mtA4 hm | exact mtA5 hm | exact mtA6 hm | exact mtA7 hm | exact ruA1 hr | exact ruA2 hr | exact ruA3 hr) rfl (by first | rfl | assumption | exact mtR0 hm | exact mtR1 hm | exact mtR2 hm | exact mtR3 hm | exact mtR4 hm | exact mtR5 hm | exact mtR6 hm | exact ruR0 hr | exact ruR1 hr | exact ruR3 hr) ?_
      refine pw_getI 111 rfl dX11_count_108 fX11_229 (by first | rfl | assumption | exact rowS hh | exact mtS hm | exact ruS hr | exact mtA1 hm | exact mtA2 hm | exact mtA3 hm | exact mtA4 hm | exact mtA5 hm | exact mtA6 hm | exact mtA7 hm | exact ruA1 hr | exact ruA2 hr | exact ruA3 hr) rfl ?_
      rotate_left
      rw [show I 1 10 = nI (b 30) from a1.2.2.2.2.1]
      refine pw_iret dX11_count_111 rfl ?_
      rotate_left
      exact ⟨rfl, hA, rfl⟩
    · refine pw_iload_n 1 rfl dX11_count_0 rfl ?_
      refine pw_tableIn (tgt := 112) (off := 111) dX11_count_1 (by decide) (by decide) (by decide) rfl ?_
      refine pw_aload_n 113 rfl dX11_count_112 rfl ?_
      refine pw_getR 116 rfl dX11_count_113 fX11_10 (by first | rfl | assumption | exact rowS hh | exact mtS hm | exact ruS hr | exact mtA1 hm | exact mtA2 hm | exact mtA3 hm | exact mtA4 hm | exact mtA5 hm | exact mtA6 hm | exact mtA7 hm | exact ruA1 hr | exact ruA2 hr | exact ruA3 hr) rfl (by first | rfl | assumption | exact mtR0 hm | exact mtR1 hm | exact mtR2 hm | exact mtR3 hm | exact mtR4 hm | exact mtR5 hm | exact mtR6 hm | exact ruR0 hr | exact ruR1 hr | exact ruR3 hr) ?_
      refine pw_getI 119 rfl dX11_count_116 fX11_348 (by first | rfl | assumption | exact rowS hh | exact mtS hm | exact ruS hr | exact mtA1 hm | exact mtA2 hm | exact mtA3 hm | exact mtA4 hm | exact mtA5 hm | exact mtA6 hm | exact mtA7 hm | exact ruA1 hr | exact ruA2 hr | exact ruA3 hr) rfl ?_
      rotate_left
      rw [show I 1 11 = nI (b 31) from a1.2.2.2.2.2.1]
      refine pw_iret dX11_count_119 rfl ?_
      rotate_left
      exact ⟨rfl, hA, rfl⟩
    · refine pw_iload_n 1 rfl dX11_count_0 rfl ?_
      refine pw_tableIn (tgt := 120) (off := 119) dX11_count_1 (by decide) (by decide) (by decide) rfl ?_
      refine pw_aload_n 121 rfl dX11_count_120 rfl ?_
      refine pw_getR 124 rfl dX11_count_121 fX11_10 (by first | rfl | assumption | exact rowS hh | exact mtS hm | exact ruS hr | exact mtA1 hm | exact mtA2 hm | exact mtA3 hm | exact mtA4 hm | exact mtA5 hm | exact mtA6 hm | exact mtA7 hm | exact ruA1 hr | exact ruA2 hr | exact ruA3 hr) rfl (by first | rfl | assumption | exact mtR0 hm | exact mtR1 hm | exact mtR2 hm | exact mtR3 hm | exact mtR4 hm | exact mtR5 hm | exact mtR6 hm | exact ruR0 hr | exact ruR1 hr | exact ruR3 hr) ?_
      refine pw_callVP (as := []) 127 rfl dX11_count_124 mX11_351 vX1_bitsOnWay (x_bitsOnWay (d := d + 7) (Or.inl rfl) a1 aW.1) (by first | rfl | assumption | exact rowS hh | exact mtS hm | exact ruS hr | exact mtA1 hm | exact mtA2 hm | exact mtA3 hm | exact mtA4 hm | exact mtA5 hm | exact mtA6 hm | exact mtA7 hm | exact ruA1 hr | exact ruA2 hr | exact ruA3 hr) rfl (by decide) ⟨rfl, by decide, by decide, show (parseMethodDescriptor yX1_bitsOnWay.desc).map (fun d => d.parameters.length) = some 0 by decide +kernel⟩ (by omega) (by decide) (Nat.le_of_ble_eq_true rfl) rfl ?_
      refine pw_iret dX11_count_127 rfl ?_
      rotate_left
      exact ⟨rfl, hA, rfl⟩
    · refine pw_iload_n 1 rfl dX11_count_0 rfl ?_
      refine pw_tableIn (tgt := 128) (off := 127) dX11_count_1 (by decide) (by decide) (by decide) rfl ?_
      refine pw_aload_n 129 rfl dX11_count_128 rfl ?_
      refine pw_getR 132 rfl dX11_count_129 fX11_10 (by first | rfl | assumption | exact rowS hh | exact mtS hm | exact ruS hr | exact mtA1 hm | exact mtA2 hm | exact mtA3 hm | exact mtA4 hm | exact mtA5 hm | exact mtA6 hm | exact mtA7 hm | exact ruA1 hr | exact ruA2 hr | exact ruA3 hr) rfl (by first | rfl | assumption | exact mtR0 hm | exact mtR1 hm | exact mtR2 hm | exact mtR3 hm | exact mtR4 hm | exact mtR5 hm | exact mtR6 hm | exact ruR0 hr | exact ruR1 hr | exact ruR3 hr) ?_
      refine pw_aload_n 133 rfl dX11_count_132 rfl ?_
      refine pw_getR 136 rfl dX11_count_133 fX11_10 (by first | rfl | assumption | exact rowS hh | exact mtS hm | exact ruS hr | exact mtA1 hm | exact mtA2 hm | exact mtA3 hm | exact mtA4 hm | exact mtA5 hm | exact mtA6 hm | exact mtA7 hm | exact ruA1 hr | exact ruA2 hr | exact ruA3 hr) rfl (by first | rfl | assumption | exact mtR0 hm | exact mtR1 hm | exact mtR2 hm | exact mtR3 hm | exact mtR4 hm | exact mtR5 hm | exact mtR6 hm | exact ruR0 hr | exact ruR1 hr | exact ruR3 hr) ?_
      refine pw_getR 139 rfl dX11_count_136 fX11_156 (by first | rfl | assumption | exact rowS hh | exact mtS hm | exact ruS hr | exact mtA1 hm | exact mtA2 hm | exact mtA3 hm | exact mtA4 hm | exact mtA5 hm | exact mtA6 hm | exact mtA7 hm | exact ruA1 hr | exact ruA2 hr | exact ruA3 hr) rfl (by first | rfl | assumption | exact mtR0 hm | exact mtR1 hm | exact mtR2 hm | exact mtR3 hm | exact mtR4 hm | exact mtR5 hm | exact mtR6 hm | exact ruR0 hr | exact ruR1 hr | exact ruR3 hr) ?_
      refine pw_callVP (as := [_]) 142 rfl dX11_count_139 mX11_182 vX1_sumOf (x_sumOf (d := d + 7) (f := b) (Or.inl rfl) a1.2.1 hn7 rfl s1) (by first | rfl | assumption | exact rowS hh | exact mtS hm | exact ruS hr | exact mtA1 hm | exact mtA2 hm | exact mtA3 hm | exact mtA4 hm | exact mtA5 hm | exact mtA6 hm | exact mtA7 hm | exact ruA1 hr | exact ruA2 hr | exact ruA3 hr) rfl (by decide) ⟨rfl, by decide, by decide, show (parseMethodDescriptor yX1_sumOf.desc).map (fun d => d.parameters.length) = some 1 by decide +kernel⟩ (by omega) (by decide) (Nat.le_of_ble_eq_true rfl) rfl ?_
      refine pw_iret dX11_count_142 rfl ?_
      rotate_left
      exact ⟨rfl, hA, rfl⟩
    · refine pw_iload_n 1 rfl dX11_count_0 rfl ?_
      refine pw_tableIn (tgt := 143) (off := 142) dX11_count_1 (by decide) (by decide) (by decide) rfl ?_
      refine pw_aload_n 144 rfl dX11_count_143 rfl ?_
      refine pw_getR 147 rfl dX11_count_144 fX11_10 (by first | rfl | assumption | exact rowS hh | exact mtS hm | exact ruS hr | exact mtA1 hm | exact mtA2 hm | exact mtA3 hm | exact mtA4 hm | exact mtA5 hm | exact mtA6 hm | exact mtA7 hm | exact ruA1 hr | exact ruA2 hr | exact ruA3 hr) rfl (by first | rfl | assumption | exact mtR0 hm | exact mtR1 hm | exact mtR2 hm | exact mtR3 hm | exact mtR4 hm | exact mtR5 hm | exact mtR6 hm | exact ruR0 hr | exact ruR1 hr | exact ruR3 hr) ?_
      refine pw_aload_n 148 rfl dX11_count_147 rfl ?_
      refine pw_getR 151 rfl dX11_count_148 fX11_10 (by first | rfl | assumption | exact rowS hh | exact mtS hm | exact ruS hr | exact mtA1 hm | exact mtA2 hm | exact mtA3 hm | exact mtA4 hm | exact mtA5 hm | exact mtA6 hm | exact mtA7 hm | exact ruA1 hr | exact ruA2 hr | exact ruA3 hr) rfl (by first | rfl | assumption | exact mtR0 hm | exact mtR1 hm | exact mtR2 hm | exact mtR3 hm | exact mtR4 hm | exact mtR5 hm | exact mtR6 hm | exact ruR0 hr | exact ruR1 hr | exact ruR3 hr) ?_
      refine pw_getR 154 rfl dX11_count_151 fX11_165 (by first | rfl | assumption | exact rowS hh | exact mtS hm | exact ruS hr | exact mtA1 hm | exact mtA2 hm | exact mtA3 hm | exact mtA4 hm | exact mtA5 hm | exact mtA6 hm | exact mtA7 hm | exact ruA1 hr | exact ruA2 hr | exact ruA3 hr) rfl (by first | rfl | assumption | exact mtR0 hm | exact mtR1 hm | exact mtR2 hm | exact mtR3 hm | exact mtR4 hm | exact mtR5 hm | exact mtR6 hm | exact ruR0 hr | exact ruR1 hr | exact ruR3 hr) ?_
      refine pw_callVP (as := [_]) 157 rfl dX11_count_154 mX11_182 vX1_sumOf (x_sumOf (d := d + 7) (f := (fun q => b (21 + q))) (Or.inl rfl) a1.2.1 hn7 rfl s3) (by first | rfl | assumption | exact rowS hh | exact mtS hm | exact ruS hr | exact mtA1 hm | exact mtA2 hm | exact mtA3 hm | exact mtA4 hm | exact mtA5 hm | exact mtA6 hm | exact mtA7 hm | exact ruA1 hr | exact ruA2 hr | exact ruA3 hr) rfl (by decide) ⟨rfl, by decide, by decide, show (parseMethodDescriptor yX1_sumOf.desc).map (fun d => d.parameters.length) = some 1 by decide +kernel⟩ (by omega) (by decide) (Nat.le_of_ble_eq_true rfl) rfl ?_
      refine pw_iret dX11_count_157 rfl ?_
      rotate_left
      exact ⟨rfl, hA, rfl⟩
    · refine pw_iload_n 1 rfl dX11_count_0 rfl ?_
      refine pw_tableIn (tgt := 158) (off := 157) dX11_count_1 (by decide) (by decide) (by decide) rfl ?_
      refine pw_aload_n 159 rfl dX11_count_158 rfl ?_
      refine pw_getR 162 rfl dX11_count_159 fX11_75 (by first | rfl | assumption | exact rowS hh | exact mtS hm | exact ruS hr | exact mtA1 hm | exact mtA2 hm | exact mtA3 hm | exact mtA4 hm | exact mtA5 hm | exact mtA6 hm | exact mtA7 hm | exact ruA1 hr | exact ruA2 hr | exact ruA3 hr) rfl (by first | rfl | assumption | exact mtR0 hm | exact mtR1 hm | exact mtR2 hm | exact mtR3 hm | exact mtR4 hm | exact mtR5 hm | exact mtR6 hm | exact ruR0 hr | exact ruR1 hr | exact ruR3 hr) ?_
      refine pw_getI 165 rfl dX11_count_162 fX11_354 (by first | rfl | assumption | exact rowS hh | exact mtS hm | exact ruS hr | exact mtA1 hm | exact mtA2 hm | exact mtA3 hm | exact mtA4 hm | exact mtA5 hm | exact mtA6 hm | exact mtA7 hm | exact ruA1 hr | exact ruA2 hr | exact ruA3 hr) rfl ?_
      rotate_left
      rw [show I 62 3 = nI hd.length from a7.1]
      refine pw_iret dX11_count_165 rfl ?_
      rotate_left
      exact ⟨rfl, hA, rfl⟩
    · refine pw_iload_n 1 rfl dX11_count_0 rfl ?_
      refine pw_tableIn (tgt := 166) (off := 165) dX11_count_1 (by decide) (by decide) (by decide) rfl ?_
      refine pw_aload_n 167 rfl dX11_count_166 rfl ?_
      refine pw_getR 170 rfl dX11_count_167 fX11_84 (by first | rfl | assumption | exact rowS hh | exact mtS hm | exact ruS hr | exact mtA1 hm | exact mtA2 hm | exact mtA3 hm | exact mtA4 hm | exact mtA5 hm | exact mtA6 hm | exact mtA7 hm | exact ruA1 hr | exact ruA2 hr | exact ruA3 hr) rfl (by first | rfl | assumption | exact mtR0 hm | exact mtR1 hm | exact mtR2 hm | exact mtR3 hm | exact mtR4 hm | exact mtR5 hm | exact mtR6 hm | exact ruR0 hr | exact ruR1 hr | exact ruR3 hr) ?_
      refine pw_getI 173 rfl dX11_count_170 fX11_355 (by first | rfl | assumption | exact rowS hh | exact mtS hm | exact ruS hr | exact mtA1 hm | exact mtA2 hm | exact mtA3 hm | exact mtA4 hm | exact mtA5 hm | exact mtA6 hm | exact mtA7 hm | exact ruA1 hr | exact ruA2 hr | exact ruA3 hr) rfl ?_
      rotate_left
      rw [show I 64 2 = nI sw.length from a8.1]
      refine pw_iret dX11_count_173 rfl ?_
      rotate_left
      exact ⟨rfl, hA, rfl⟩
    · refine pw_iload_n 1 rfl dX11_count_0 rfl ?_
      refine pw_tableIn (tgt := 174) (off := 173) dX11_count_1 (by decide) (by decide) (by decide) rfl ?_
      refine pw_aload_n 175 rfl dX11_count_174 rfl ?_
      refine pw_getR 178 rfl dX11_count_175 fX11_43 (by first | rfl | assumption | exact rowS hh | exact mtS hm | exact ruS hr | exact mtA1 hm | exact mtA2 hm | exact mtA3 hm | exact mtA4 hm | exact mtA5 hm | exact mtA6 hm | exact mtA7 hm | exact ruA1 hr | exact ruA2 hr | exact ruA3 hr) rfl (by first | rfl | assumption | exact mtR0 hm | exact mtR1 hm | exact mtR2 hm | exact mtR3 hm | exact mtR4 hm | exact mtR5 hm | exact mtR6 hm | exact ruR0 hr | exact ruR1 hr | exact ruR3 hr) ?_
      refine pw_getI 181 rfl dX11_count_178 fX11_356 (by first | rfl | assumption | exact rowS hh | exact mtS hm | exact ruS hr | exact mtA1 hm | exact mtA2 hm | exact mtA3 hm | exact mtA4 hm | exact mtA5 hm | exact mtA6 hm | exact mtA7 hm | exact ruA1 hr | exact ruA2 hr | exact ruA3 hr) rfl ?_
      rotate_left
      rw [show I 21 5 = nI us.length from u5]
      refine pw_iret dX11_count_181 rfl ?_
      rotate_left
      exact ⟨rfl, hA, rfl⟩
    · refine pw_iload_n 1 rfl dX11_count_0 rfl ?_
      refine pw_tableIn (tgt := 182) (off := 181) dX11_count_1 (by decide) (by decide) (by decide) rfl ?_
      refine pw_aload_n 183 rfl dX11_count_182 rfl ?_
      refine pw_getR 186 rfl dX11_count_183 fX11_36 (by first | rfl | assumption | exact rowS hh | exact mtS hm | exact ruS hr | exact mtA1 hm | exact mtA2 hm | exact mtA3 hm | exact mtA4 hm | exact mtA5 hm | exact mtA6 hm | exact mtA7 hm | exact ruA1 hr | exact ruA2 hr | exact ruA3 hr) rfl (by first | rfl | assumption | exact mtR0 hm | exact mtR1 hm | exact mtR2 hm | exact mtR3 hm | exact mtR4 hm | exact mtR5 hm | exact mtR6 hm | exact ruR0 hr | exact ruR1 hr | exact ruR3 hr) ?_
      refine pw_getI 189 rfl dX11_count_186 fX11_357 (by first | rfl | assumption | exact rowS hh | exact mtS hm | exact ruS hr | exact mtA1 hm | exact mtA2 hm | exact mtA3 hm | exact mtA4 hm | exact mtA5 hm | exact mtA6 hm | exact mtA7 hm | exact ruA1 hr | exact ruA2 hr | exact ruA3 hr) rfl ?_
      rotate_left
      rw [show I 19 1 = nI rw.length from a3.1]
      refine pw_iret dX11_count_189 rfl ?_
      rotate_left
      exact ⟨rfl, hA, rfl⟩
    · refine pw_iload_n 1 rfl dX11_count_0 rfl ?_
      refine pw_tableIn (tgt := 190) (off := 189) dX11_count_1 (by decide) (by decide) (by decide) rfl ?_
      refine pw_aload_n 191 rfl dX11_count_190 rfl ?_
      refine pw_getR 194 rfl dX11_count_191 fX11_29 (by first | rfl | assumption | exact rowS hh | exact mtS hm | exact ruS hr | exact mtA1 hm | exact mtA2 hm | exact mtA3 hm | exact mtA4 hm | exact mtA5 hm | exact mtA6 hm | exact mtA7 hm | exact ruA1 hr | exact ruA2 hr | exact ruA3 hr) rfl (by first | rfl | assumption | exact mtR0 hm | exact mtR1 hm | exact mtR2 hm | exact mtR3 hm | exact mtR4 hm | exact mtR5 hm | exact mtR6 hm | exact ruR0 hr | exact ruR1 hr | exact ruR3 hr) ?_
      refine pw_getI 197 rfl dX11_count_194 fX11_110 (by first | rfl | assumption | exact rowS hh | exact mtS hm | exact ruS hr | exact mtA1 hm | exact mtA2 hm | exact mtA3 hm | exact mtA4 hm | exact mtA5 hm | exact mtA6 hm | exact mtA7 hm | exact ruA1 hr | exact ruA2 hr | exact ruA3 hr) rfl ?_
      rotate_left
      rw [show I 17 1 = nI tx.length from a4.1]
      refine pw_iret dX11_count_197 rfl ?_
      rotate_left
      exact ⟨rfl, hA, rfl⟩
    · refine pw_iload_n 1 rfl dX11_count_0 rfl ?_
      refine pw_tableIn (tgt := 198) (off := 197) dX11_count_1 (by decide) (by decide) (by decide) rfl ?_
      refine pw_aload_n 199 rfl dX11_count_198 rfl ?_
      refine pw_getR 202 rfl dX11_count_199 fX11_10 (by first | rfl | assumption | exact rowS hh | exact mtS hm | exact ruS hr | exact mtA1 hm | exact mtA2 hm | exact mtA3 hm | exact mtA4 hm | exact mtA5 hm | exact mtA6 hm | exact mtA7 hm | exact ruA1 hr | exact ruA2 hr | exact ruA3 hr) rfl (by first | rfl | assumption | exact mtR0 hm | exact mtR1 hm | exact mtR2 hm | exact mtR3 hm | exact mtR4 hm | exact mtR5 hm | exact mtR6 hm | exact ruR0 hr | exact ruR1 hr | exact ruR3 hr) ?_
      refine pw_aload_n 203 rfl dX11_count_202 rfl ?_
      refine pw_getR 206 rfl dX11_count_203 fX11_10 (by first | rfl | assumption | exact rowS hh | exact mtS hm | exact ruS hr | exact mtA1 hm | exact mtA2 hm | exact mtA3 hm | exact mtA4 hm | exact mtA5 hm | exact mtA6 hm | exact mtA7 hm | exact ruA1 hr | exact ruA2 hr | exact ruA3 hr) rfl (by first | rfl | assumption | exact mtR0 hm | exact mtR1 hm | exact mtR2 hm | exact mtR3 hm | exact mtR4 hm | exact mtR5 hm | exact mtR6 hm | exact ruR0 hr | exact ruR1 hr | exact ruR3 hr) ?_
      refine pw_getR 209 rfl dX11_count_206 fX11_162 (by first | rfl | assumption | exact rowS hh | exact mtS hm | exact ruS hr | exact mtA1 hm | exact mtA2 hm | exact mtA3 hm | exact mtA4 hm | exact mtA5 hm | exact mtA6 hm | exact mtA7 hm | exact ruA1 hr | exact ruA2 hr | exact ruA3 hr) rfl (by first | rfl | assumption | exact mtR0 hm | exact mtR1 hm | exact mtR2 hm | exact mtR3 hm | exact mtR4 hm | exact mtR5 hm | exact mtR6 hm | exact ruR0 hr | exact ruR1 hr | exact ruR3 hr) ?_
      refine pw_callVP (as := [_]) 212 rfl dX11_count_209 mX11_182 vX1_sumOf (x_sumOf (d := d + 7) (f := (fun q => b (14 + q))) (Or.inl rfl) a1.2.1 hn7 rfl s2) (by first | rfl | assumption | exact rowS hh | exact mtS hm | exact ruS hr | exact mtA1 hm | exact mtA2 hm | exact mtA3 hm | exact mtA4 hm | exact mtA5 hm | exact mtA6 hm | exact mtA7 hm | exact ruA1 hr | exact ruA2 hr | exact ruA3 hr) rfl (by decide) ⟨rfl, by decide, by decide, show (parseMethodDescriptor yX1_sumOf.desc).map (fun d => d.parameters.length) = some 1 by decide +kernel⟩ (by omega) (by decide) (Nat.le_of_ble_eq_true rfl) rfl ?_
      refine pw_iret dX11_count_212 rfl ?_
      rotate_left
      exact ⟨rfl, hA, rfl⟩
    · refine pw_iload_n 1 rfl dX11_count_0 rfl ?_
      refine pw_tableIn (tgt := 213) (off := 212) dX11_count_1 (by decide) (by decide) (by decide) rfl ?_
      refine pw_aload_n 214 rfl dX11_count_213 rfl ?_
      refine pw_getR 217 rfl dX11_count_214 fX11_10 (by first | rfl | assumption | exact rowS hh | exact mtS hm | exact ruS hr | exact mtA1 hm | exact mtA2 hm | exact mtA3 hm | exact mtA4 hm | exact mtA5 hm | exact mtA6 hm | exact mtA7 hm | exact ruA1 hr | exact ruA2 hr | exact ruA3 hr) rfl (by first | rfl | assumption | exact mtR0 hm | exact mtR1 hm | exact mtR2 hm | exact mtR3 hm | exact mtR4 hm | exact mtR5 hm | exact mtR6 hm | exact ruR0 hr | exact ruR1 hr | exact ruR3 hr) ?_
      refine pw_aload_n 218 rfl dX11_count_217 rfl ?_
      refine pw_getR 221 rfl dX11_count_218 fX11_10 (by first | rfl | assumption | exact rowS hh | exact mtS hm | exact ruS hr | exact mtA1 hm | exact mtA2 hm | exact mtA3 hm | exact mtA4 hm | exact mtA5 hm | exact mtA6 hm | exact mtA7 hm | exact ruA1 hr | exact ruA2 hr | exact ruA3 hr) rfl (by first | rfl | assumption | exact mtR0 hm | exact mtR1 hm | exact mtR2 hm | exact mtR3 hm | exact mtR4 hm | exact mtR5 hm | exact mtR6 hm | exact ruR0 hr | exact ruR1 hr | exact ruR3 hr) ?_
      refine pw_getR 224 rfl dX11_count_221 fX11_152 (by first | rfl | assumption | exact rowS hh | exact mtS hm | exact ruS hr | exact mtA1 hm | exact mtA2 hm | exact mtA3 hm | exact mtA4 hm | exact mtA5 hm | exact mtA6 hm | exact mtA7 hm | exact ruA1 hr | exact ruA2 hr | exact ruA3 hr) rfl (by first | rfl | assumption | exact mtR0 hm | exact mtR1 hm | exact mtR2 hm | exact mtR3 hm | exact mtR4 hm | exact mtR5 hm | exact mtR6 hm | exact ruR0 hr | exact ruR1 hr | exact ruR3 hr) ?_
      refine pw_callVP (as := [_]) 227 rfl dX11_count_224 mX11_182 vX1_sumOf (x_sumOf (d := d + 7) (f := pc) (Or.inl rfl) a1.2.1 hn7 rfl s0) (by first | rfl | assumption | exact rowS hh | exact mtS hm | exact ruS hr | exact mtA1 hm | exact mtA2 hm | exact mtA3 hm | exact mtA4 hm | exact mtA5 hm | exact mtA6 hm | exact mtA7 hm | exact ruA1 hr | exact ruA2 hr | exact ruA3 hr) rfl (by decide) ⟨rfl, by decide, by decide, show (parseMethodDescriptor yX1_sumOf.desc).map (fun d => d.parameters.length) = some 1 by decide +kernel⟩ (by omega) (by decide) (Nat.le_of_ble_eq_true rfl) rfl ?_
      refine pw_iret dX11_count_227 rfl ?_
      rotate_left
      exact ⟨rfl, hA, rfl⟩
    · refine pw_iload_n 1 rfl dX11_count_0 rfl ?_
      refine pw_tableIn (tgt := 228) (off := 227) dX11_count_1 (by decide) (by decide) (by decide) rfl ?_
      refine pw_aload_n 229 rfl dX11_count_228 rfl ?_
      refine pw_getR 232 rfl dX11_count_229 fX11_10 (by first | rfl | assumption | exact rowS hh | exact mtS hm | exact ruS hr | exact mtA1 hm | exact mtA2 hm | exact mtA3 hm | exact mtA4 hm | exact mtA5 hm | exact mtA6 hm | exact mtA7 hm | exact ruA1 hr | exact ruA2 hr | exact ruA3 hr) rfl (by first | rfl | assumption | exact mtR0 hm | exact mtR1 hm | exact mtR2 hm | exact mtR3 hm | exact mtR4 hm | exact mtR5 hm | exact mtR6 hm | exact ruR0 hr | exact ruR1 hr | exact ruR3 hr) ?_
      refine pw_callVP (as := []) 235 rfl dX11_count_232 mX11_358 vX1_bitsWaiting (x_bitsWaiting (d := d + 7) (Or.inl rfl) a1 aW.1) (by first | rfl | assumption | exact rowS hh | exact mtS hm | exact ruS hr | exact mtA1 hm | exact mtA2 hm | exact mtA3 hm | exact mtA4 hm | exact mtA5 hm | exact mtA6 hm | exact mtA7 hm | exact ruA1 hr | exact ruA2 hr | exact ruA3 hr) rfl (by decide) ⟨rfl, by decide, by decide, show (parseMethodDescriptor yX1_bitsWaiting.desc).map (fun d => d.parameters.length) = some 0 by decide +kernel⟩ (by omega) (by decide) (Nat.le_of_ble_eq_true rfl) rfl ?_
      refine pw_iret dX11_count_235 rfl ?_
      rotate_left
      exact ⟨rfl, hA, rfl⟩
  · rw [hj]
    have ho : w.toInt < 0 ∨ 15 < w.toInt := by
      rcases hp with hp | hp
      · rw [Int32.lt_iff_toInt_lt, show (nI 0).toInt = 0 from by decide] at hp; exact Or.inl hp
      · rw [Int32.lt_iff_toInt_lt, show (nI 15).toInt = 15 from by decide] at hp; exact Or.inr hp
    refine pw_iload_n 1 rfl dX11_count_0 rfl ?_
    refine pw_tableOut (tgt := 236) dX11_count_1 (ho) rfl ?_
    refine pw_iconst (v := -1) 237 rfl dX11_count_236 rfl ?_
    refine pw_iret dX11_count_237 rfl ?_
    rotate_left
    exact ⟨rfl, hA, rfl⟩
