/-! a RULE, worked out: letters, joining, the class's stack -/
def outV (v a b : Int32) : Int32 := if v < a ∨ b < v then nI 1 else nI 0
def withV (v a b : Int32) : Int32 := if v < a then a else if b < v then b else v
set_option maxRecDepth 100000 in
set_option maxHeartbeats 2000000 in
theorem x_outside {d : Nat} (v a b : Int32) {I : pI} {J : pJ} {R : pR} : PC SX (d) yX11_outside cX11_outside 3 (some .boolean) [.int v, .int a, .int b] I J R (pPu (.int (outV v a b)) I J R) := by
  refine PC.of [some (.int v), some (.int a), some (.int b)] rfl rfl (Nat.le_of_ble_eq_true rfl) ?_
  refine pw_iload_n 1 rfl dX11_outside_0 rfl ?_
  refine pw_iload_n 2 rfl dX11_outside_1 rfl ?_
  refine pw_icmp_lt (tgt := 10) 5 rfl dX11_outside_2 rfl (fun h2 => ?_) (fun h2 => ?_)
  refine pw_iconst (v := nI 1) 11 rfl dX11_outside_10 rfl ?_
  refine pw_goto (tgt := 15) dX11_outside_11 rfl ?_
  refine pw_iret dX11_outside_15 rfl ?_
  rotate_left
  refine pw_iload_n 6 rfl dX11_outside_5 rfl ?_
  refine pw_iload_n 7 rfl dX11_outside_6 rfl ?_
  refine pw_icmp_le (tgt := 14) 10 rfl dX11_outside_7 rfl (fun h7 => ?_) (fun h7 => ?_)
  refine pw_iconst (v := nI 0) 15 rfl dX11_outside_14 rfl ?_
  refine pw_iret dX11_outside_15 rfl ?_
  rotate_left
  refine pw_iconst (v := nI 1) 11 rfl dX11_outside_10 rfl ?_
  refine pw_goto (tgt := 15) dX11_outside_11 rfl ?_
  refine pw_iret dX11_outside_15 rfl ?_
  rotate_left
  · rw [outV, if_pos (Or.inl h2)]; exact ⟨rfl, rfl, rfl, rfl⟩
  · rw [outV, if_neg (fun h => by rw [Int32.lt_iff_toInt_lt] at h h2; rw [Int32.le_iff_toInt_le] at h7; rw [Int32.lt_iff_toInt_lt] at h; omega)]; exact ⟨rfl, rfl, rfl, rfl⟩
  · rw [outV, if_pos (Or.inr (by rw [Int32.le_iff_toInt_le] at h7; rw [Int32.lt_iff_toInt_lt]; omega))]; exact ⟨rfl, rfl, rfl, rfl⟩
set_option maxRecDepth 100000 in
set_option maxHeartbeats 2000000 in
theorem x_within {d : Nat} (v a b : Int32) {I : pI} {J : pJ} {R : pR} : PC SX (d) yX11_within cX11_within 3 (some .int) [.int v, .int a, .int b] I J R (pPu (.int (withV v a b)) I J R) := by
  refine PC.of [some (.int v), some (.int a), some (.int b)] rfl rfl (Nat.le_of_ble_eq_true rfl) ?_
  refine pw_iload_n 1 rfl dX11_within_0 rfl ?_
  refine pw_iload_n 2 rfl dX11_within_1 rfl ?_
  refine pw_icmp_ge (tgt := 9) 5 rfl dX11_within_2 rfl (fun h2 => ?_) (fun h2 => ?_)
  refine pw_iload_n 10 rfl dX11_within_9 rfl ?_
  refine pw_iload_n 11 rfl dX11_within_10 rfl ?_
  refine pw_icmp_le (tgt := 18) 14 rfl dX11_within_11 rfl (fun h11 => ?_) (fun h11 => ?_)
  refine pw_iload_n 19 rfl dX11_within_18 rfl ?_
  refine pw_iret dX11_within_19 rfl ?_
  rotate_left
  refine pw_iload_n 15 rfl dX11_within_14 rfl ?_
  refine pw_goto (tgt := 19) dX11_within_15 rfl ?_
  refine pw_iret dX11_within_19 rfl ?_
  rotate_left
  refine pw_iload_n 6 rfl dX11_within_5 rfl ?_
  refine pw_goto (tgt := 19) dX11_within_6 rfl ?_
  refine pw_iret dX11_within_19 rfl ?_
  rotate_left
  · rw [withV, if_neg (by rw [Int32.le_iff_toInt_le] at h2; rw [Int32.lt_iff_toInt_lt]; omega), if_neg (by rw [Int32.le_iff_toInt_le] at h11; rw [Int32.lt_iff_toInt_lt]; omega)]; exact ⟨rfl, rfl, rfl, rfl⟩
  · rw [withV, if_neg (by rw [Int32.le_iff_toInt_le] at h2; rw [Int32.lt_iff_toInt_lt]; omega), if_pos (by rw [Int32.le_iff_toInt_le] at h11; rw [Int32.lt_iff_toInt_lt]; omega)]; exact ⟨rfl, rfl, rfl, rfl⟩
  · rw [withV, if_pos (by rw [Int32.le_iff_toInt_le] at h2; rw [Int32.lt_iff_toInt_lt]; omega)]; exact ⟨rfl, rfl, rfl, rfl⟩
/-- what a letter is for q -/
def lett (n : Nat) (pc b : Nat → Nat) (q s : Nat) : Int32 :=
  if s = 112 then nI (pc q) else if s = 104 then nI (b q) else if s = 117 then (if b (7 + q) = 1 then nI 1 else nI 0) else if s = 111 then (if b 29 = q then nI 1 else nI 0)
  else if s = 107 then nI (cntB b (b q) q n) else if s = 98 then nI (cntD b (b q) q n) else nI (b 30) - nI (b 30) / nI 7 * nI 7
def isLet (s : Nat) : Prop := s = 112 ∨ s = 104 ∨ s = 117 ∨ s = 111 ∨ s = 107 ∨ s = 98 ∨ s = 110
set_option maxRecDepth 100000 in
set_option maxHeartbeats 2000000 in
theorem x_letter {m d n q s : Nat} {pc b : Nat → Nat} (hm : isMt m) {I : pI} {J : pJ} (hM : XM I m n pc b) (hW : WF n pc b) (hq : q < n) (hs : isLet s) : PC SX (d + 1) yX1_letter cX1_letter 3 (some .int) [.ref m, .int (nI s), .int (nI q)] I J RX (pPu (.int (lett n pc b q s)) I J RX) := by
  refine PC.of [some (.ref m), some (.int (nI s)), some (.int (nI q))] rfl rfl (Nat.le_of_ble_eq_true rfl) ?_
  obtain ⟨h7, hn, -, i9, i10, -, hA⟩ := id hM
  obtain ⟨-, ⟨-, t2⟩, hO, -, hB⟩ := id hW
  have hb := hB q (by omega)
  obtain ⟨j0, j1, j2, -, -⟩ := hA q (by omega)
  rcases hs with rfl | rfl | rfl | rfl | rfl | rfl | rfl
  · refine pw_aload_n 1 rfl dX1_letter_0 rfl ?_
    refine pw_iload_n 2 rfl dX1_letter_1 rfl ?_
    refine pw_callVP (as := [_]) 5 rfl dX1_letter_2 mX1_68 vX1_has (x_has (d := d) hm hn h7 _) (by first | rfl | assumption | exact rowS hh | exact mtS hm | exact ruS hr | exact mtA1 hm | exact mtA2 hm | exact mtA3 hm | exact mtA4 hm | exact mtA5 hm | exact mtA6 hm | exact mtA7 hm | exact ruA1 hr | exact ruA2 hr | exact ruA3 hr) rfl (by decide) ⟨rfl, by decide, by decide, show (parseMethodDescriptor yX1_has.desc).map (fun d => d.parameters.length) = some 1 by decide +kernel⟩ (by omega) (by decide) (Nat.le_of_ble_eq_true rfl) rfl ?_
    refine pw_if_ne (tgt := 10) 8 rfl dX1_letter_5 rfl (fun h5 => ?_) (fun h5 => absurd h5 (by rw [hasV_y hq h7]; decide))
    refine pw_iload_n 11 rfl dX1_letter_10 rfl ?_
    refine pw_tableIn (tgt := 104) (off := 93) dX1_letter_11 (by decide) (by decide) (by decide) rfl ?_
    refine pw_aload_n 105 rfl dX1_letter_104 rfl ?_
    refine pw_getR 108 rfl dX1_letter_105 fX1_9 (by first | rfl | assumption | exact rowS hh | exact mtS hm | exact ruS hr | exact mtA1 hm | exact mtA2 hm | exact mtA3 hm | exact mtA4 hm | exact mtA5 hm | exact mtA6 hm | exact mtA7 hm | exact ruA1 hr | exact ruA2 hr | exact ruA3 hr) rfl (by first | rfl | assumption | exact mtR0 hm | exact mtR1 hm | exact mtR2 hm | exact mtR3 hm | exact mtR4 hm | exact mtR5 hm | exact mtR6 hm | exact ruR0 hr | exact ruR1 hr | exact ruR3 hr) ?_
    refine pw_iload_n 109 rfl dX1_letter_108 rfl ?_
    refine pw_ialdN 110 rfl dX1_letter_109 (by first | rfl | assumption | exact rowS hh | exact mtS hm | exact ruS hr | exact mtA1 hm | exact mtA2 hm | exact mtA3 hm | exact mtA4 hm | exact mtA5 hm | exact mtA6 hm | exact mtA7 hm | exact ruA1 hr | exact ruA2 hr | exact ruA3 hr) (by omega) (by decide) ?_
    refine pw_iret dX1_letter_110 rfl ?_
    rotate_left
    rw [j0]; exact ⟨rfl, rfl, rfl, rfl⟩
  · refine pw_aload_n 1 rfl dX1_letter_0 rfl ?_
    refine pw_iload_n 2 rfl dX1_letter_1 rfl ?_
    refine pw_callVP (as := [_]) 5 rfl dX1_letter_2 mX1_68 vX1_has (x_has (d := d) hm hn h7 _) (by first | rfl | assumption | exact rowS hh | exact mtS hm | exact ruS hr | exact mtA1 hm | exact mtA2 hm | exact mtA3 hm | exact mtA4 hm | exact mtA5 hm | exact mtA6 hm | exact mtA7 hm | exact ruA1 hr | exact ruA2 hr | exact ruA3 hr) rfl (by decide) ⟨rfl, by decide, by decide, show (parseMethodDescriptor yX1_has.desc).map (fun d => d.parameters.length) = some 1 by decide +kernel⟩ (by omega) (by decide) (Nat.le_of_ble_eq_true rfl) rfl ?_
    refine pw_if_ne (tgt := 10) 8 rfl dX1_letter_5 rfl (fun h5 => ?_) (fun h5 => absurd h5 (by rw [hasV_y hq h7]; decide))
    refine pw_iload_n 11 rfl dX1_letter_10 rfl ?_
    refine pw_tableIn (tgt := 111) (off := 100) dX1_letter_11 (by decide) (by decide) (by decide) rfl ?_
    refine pw_aload_n 112 rfl dX1_letter_111 rfl ?_
    refine pw_getR 115 rfl dX1_letter_112 fX1_15 (by first | rfl | assumption | exact rowS hh | exact mtS hm | exact ruS hr | exact mtA1 hm | exact mtA2 hm | exact mtA3 hm | exact mtA4 hm | exact mtA5 hm | exact mtA6 hm | exact mtA7 hm | exact ruA1 hr | exact ruA2 hr | exact ruA3 hr) rfl (by first | rfl | assumption | exact mtR0 hm | exact mtR1 hm | exact mtR2 hm | exact mtR3 hm | exact mtR4 hm | exact mtR5 hm | exact mtR6 hm | exact ruR0 hr | exact ruR1 hr | exact ruR3 hr) ?_
    refine pw_iload_n 116 rfl dX1_letter_115 rfl ?_
    refine pw_ialdN 117 rfl dX1_letter_116 (by first | rfl | assumption | exact rowS hh | exact mtS hm | exact ruS hr | exact mtA1 hm | exact mtA2 hm | exact mtA3 hm | exact mtA4 hm | exact mtA5 hm | exact mtA6 hm | exact mtA7 hm | exact ruA1 hr | exact ruA2 hr | exact ruA3 hr) (by omega) (by decide) ?_
    refine pw_iret dX1_letter_117 rfl ?_
    rotate_left
    rw [j1]; exact ⟨rfl, rfl, rfl, rfl⟩
  · refine pw_aload_n 1 rfl dX1_letter_0 rfl ?_
    refine pw_iload_n 2 rfl dX1_letter_1 rfl ?_
    refine pw_callVP (as := [_]) 5 rfl dX1_letter_2 mX1_68 vX1_has (x_has (d := d) hm hn h7 _) (by first | rfl | assumption | exact rowS hh | exact mtS hm | exact ruS hr | exact mtA1 hm | exact mtA2 hm | exact mtA3 hm | exact mtA4 hm | exact mtA5 hm | exact mtA6 hm | exact mtA7 hm | exact ruA1 hr | exact ruA2 hr | exact ruA3 hr) rfl (by decide) ⟨rfl, by decide, by decide, show (parseMethodDescriptor yX1_has.desc).map (fun d => d.parameters.length) = some 1 by decide +kernel⟩ (by omega) (by decide) (Nat.le_of_ble_eq_true rfl) rfl ?_
    refine pw_if_ne (tgt := 10) 8 rfl dX1_letter_5 rfl (fun h5 => ?_) (fun h5 => absurd h5 (by rw [hasV_y hq h7]; decide))
    refine pw_iload_n 11 rfl dX1_letter_10 rfl ?_
    refine pw_tableIn (tgt := 118) (off := 107) dX1_letter_11 (by decide) (by decide) (by decide) rfl ?_
    refine pw_aload_n 119 rfl dX1_letter_118 rfl ?_
    refine pw_getR 122 rfl dX1_letter_119 fX1_18 (by first | rfl | assumption | exact rowS hh | exact mtS hm | exact ruS hr | exact mtA1 hm | exact mtA2 hm | exact mtA3 hm | exact mtA4 hm | exact mtA5 hm | exact mtA6 hm | exact mtA7 hm | exact ruA1 hr | exact ruA2 hr | exact ruA3 hr) rfl (by first | rfl | assumption | exact mtR0 hm | exact mtR1 hm | exact mtR2 hm | exact mtR3 hm | exact mtR4 hm | exact mtR5 hm | exact mtR6 hm | exact ruR0 hr | exact ruR1 hr | exact ruR3 hr) ?_
    refine pw_iload_n 123 rfl dX1_letter_122 rfl ?_
    refine pw_ialdN 124 rfl dX1_letter_123 (by first | rfl | assumption | exact rowS hh | exact mtS hm | exact ruS hr | exact mtA1 hm | exact mtA2 hm | exact mtA3 hm | exact mtA4 hm | exact mtA5 hm | exact mtA6 hm | exact mtA7 hm | exact ruA1 hr | exact ruA2 hr | exact ruA3 hr) (by omega) (by decide) ?_
    refine pw_iconst (v := nI 1) 125 rfl dX1_letter_124 rfl ?_
    refine pw_icmp_ne (tgt := 132) 128 rfl dX1_letter_125 rfl (fun h125 => ?_) (fun h125 => ?_)
    refine pw_iconst (v := nI 0) 133 rfl dX1_letter_132 rfl ?_
    refine pw_iret dX1_letter_133 rfl ?_
    rotate_left
    refine pw_iconst (v := nI 1) 129 rfl dX1_letter_128 rfl ?_
    refine pw_goto (tgt := 133) dX1_letter_129 rfl ?_
    refine pw_iret dX1_letter_133 rfl ?_
    rotate_left
    · rw [j2, nI_eq (by omega) (by omega)] at h125
      rw [show lett n pc b q 117 = if b (7 + q) = 1 then nI 1 else nI 0 from rfl, if_neg h125]; exact ⟨rfl, rfl, rfl, rfl⟩
    · rw [j2, nI_eq (by omega) (by omega)] at h125
      rw [show lett n pc b q 117 = if b (7 + q) = 1 then nI 1 else nI 0 from rfl, if_pos h125]; exact ⟨rfl, rfl, rfl, rfl⟩
  · refine pw_aload_n 1 rfl dX1_letter_0 rfl ?_
    refine pw_iload_n 2 rfl dX1_letter_1 rfl ?_
    refine pw_callVP (as := [_]) 5 rfl dX1_letter_2 mX1_68 vX1_has (x_has (d := d) hm hn h7 _) (by first | rfl | assumption | exact rowS hh | exact mtS hm | exact ruS hr | exact mtA1 hm | exact mtA2 hm | exact mtA3 hm | exact mtA4 hm | exact mtA5 hm | exact mtA6 hm | exact mtA7 hm | exact ruA1 hr | exact ruA2 hr | exact ruA3 hr) rfl (by decide) ⟨rfl, by decide, by decide, show (parseMethodDescriptor yX1_has.desc).map (fun d => d.parameters.length) = some 1 by decide +kernel⟩ (by omega) (by decide) (Nat.le_of_ble_eq_true rfl) rfl ?_
    refine pw_if_ne (tgt := 10) 8 rfl dX1_letter_5 rfl (fun h5 => ?_) (fun h5 => absurd h5 (by rw [hasV_y hq h7]; decide))
    refine pw_iload_n 11 rfl dX1_letter_10 rfl ?_
    refine pw_tableIn (tgt := 134) (off := 123) dX1_letter_11 (by decide) (by decide) (by decide) rfl ?_
    refine pw_aload_n 135 rfl dX1_letter_134 rfl ?_
    refine pw_getI 138 rfl dX1_letter_135 fX1_40 (by first | rfl | assumption | exact rowS hh | exact mtS hm | exact ruS hr | exact mtA1 hm | exact mtA2 hm | exact mtA3 hm | exact mtA4 hm | exact mtA5 hm | exact mtA6 hm | exact mtA7 hm | exact ruA1 hr | exact ruA2 hr | exact ruA3 hr) rfl ?_
    refine pw_iload_n 139 rfl dX1_letter_138 rfl ?_
    refine pw_icmp_ne (tgt := 146) 142 rfl dX1_letter_139 rfl (fun h139 => ?_) (fun h139 => ?_)
    refine pw_iconst (v := nI 0) 147 rfl dX1_letter_146 rfl ?_
    refine pw_iret dX1_letter_147 rfl ?_
    rotate_left
    refine pw_iconst (v := nI 1) 143 rfl dX1_letter_142 rfl ?_
    refine pw_goto (tgt := 147) dX1_letter_143 rfl ?_
    refine pw_iret dX1_letter_147 rfl ?_
    rotate_left
    · rw [i9, nI_eq (by omega) (by omega)] at h139
      rw [show lett n pc b q 111 = if b 29 = q then nI 1 else nI 0 from rfl, if_neg h139]; exact ⟨rfl, rfl, rfl, rfl⟩
    · rw [i9, nI_eq (by omega) (by omega)] at h139
      rw [show lett n pc b q 111 = if b 29 = q then nI 1 else nI 0 from rfl, if_pos h139]; exact ⟨rfl, rfl, rfl, rfl⟩
  · refine pw_aload_n 1 rfl dX1_letter_0 rfl ?_
    refine pw_iload_n 2 rfl dX1_letter_1 rfl ?_
    refine pw_callVP (as := [_]) 5 rfl dX1_letter_2 mX1_68 vX1_has (x_has (d := d) hm hn h7 _) (by first | rfl | assumption | exact rowS hh | exact mtS hm | exact ruS hr | exact mtA1 hm | exact mtA2 hm | exact mtA3 hm | exact mtA4 hm | exact mtA5 hm | exact mtA6 hm | exact mtA7 hm | exact ruA1 hr | exact ruA2 hr | exact ruA3 hr) rfl (by decide) ⟨rfl, by decide, by decide, show (parseMethodDescriptor yX1_has.desc).map (fun d => d.parameters.length) = some 1 by decide +kernel⟩ (by omega) (by decide) (Nat.le_of_ble_eq_true rfl) rfl ?_
    refine pw_if_ne (tgt := 10) 8 rfl dX1_letter_5 rfl (fun h5 => ?_) (fun h5 => absurd h5 (by rw [hasV_y hq h7]; decide))
    refine pw_iload_n 11 rfl dX1_letter_10 rfl ?_
    refine pw_tableIn (tgt := 148) (off := 137) dX1_letter_11 (by decide) (by decide) (by decide) rfl ?_
    refine pw_aload_n 149 rfl dX1_letter_148 rfl ?_
    refine pw_aload_n 150 rfl dX1_letter_149 rfl ?_
    refine pw_getR 153 rfl dX1_letter_150 fX1_15 (by first | rfl | assumption | exact rowS hh | exact mtS hm | exact ruS hr | exact mtA1 hm | exact mtA2 hm | exact mtA3 hm | exact mtA4 hm | exact mtA5 hm | exact mtA6 hm | exact mtA7 hm | exact ruA1 hr | exact ruA2 hr | exact ruA3 hr) rfl (by first | rfl | assumption | exact mtR0 hm | exact mtR1 hm | exact mtR2 hm | exact mtR3 hm | exact mtR4 hm | exact mtR5 hm | exact mtR6 hm | exact ruR0 hr | exact ruR1 hr | exact ruR3 hr) ?_
    refine pw_iload_n 154 rfl dX1_letter_153 rfl ?_
    refine pw_ialdN 155 rfl dX1_letter_154 (by first | rfl | assumption | exact rowS hh | exact mtS hm | exact ruS hr | exact mtA1 hm | exact mtA2 hm | exact mtA3 hm | exact mtA4 hm | exact mtA5 hm | exact mtA6 hm | exact mtA7 hm | exact ruA1 hr | exact ruA2 hr | exact ruA3 hr) (by omega) (by decide) ?_
    refine pw_iload_n 156 rfl dX1_letter_155 rfl ?_
    rotate_left
    rw [j1]
    refine pw_callVP (as := [_, _]) 159 rfl dX1_letter_156 mX1_109 vX1_othersAt (x_othersAt (d := d) (h := b q) (q := q) hm hM hW (by omega) (by omega)) (by first | rfl | assumption | exact rowS hh | exact mtS hm | exact ruS hr | exact mtA1 hm | exact mtA2 hm | exact mtA3 hm | exact mtA4 hm | exact mtA5 hm | exact mtA6 hm | exact mtA7 hm | exact ruA1 hr | exact ruA2 hr | exact ruA3 hr) rfl (by decide) ⟨rfl, by decide, by decide, show (parseMethodDescriptor yX1_othersAt.desc).map (fun d => d.parameters.length) = some 2 by decide +kernel⟩ (by omega) (by decide) (Nat.le_of_ble_eq_true rfl) rfl ?_
    refine pw_iret dX1_letter_159 rfl ?_
    rotate_left
    exact ⟨rfl, rfl, rfl, rfl⟩
  · refine pw_aload_n 1 rfl dX1_letter_0 rfl ?_
    refine pw_iload_n 2 rfl dX1_letter_1 rfl ?_
    refine pw_callVP (as := [_]) 5 rfl dX1_letter_2 mX1_68 vX1_has (x_has (d := d) hm hn h7 _) (by first | rfl | assumption | exact rowS hh | exact mtS hm | exact ruS hr | exact mtA1 hm | exact mtA2 hm | exact mtA3 hm | exact mtA4 hm | exact mtA5 hm | exact mtA6 hm | exact mtA7 hm | exact ruA1 hr | exact ruA2 hr | exact ruA3 hr) rfl (by decide) ⟨rfl, by decide, by decide, show (parseMethodDescriptor yX1_has.desc).map (fun d => d.parameters.length) = some 1 by decide +kernel⟩ (by omega) (by decide) (Nat.le_of_ble_eq_true rfl) rfl ?_
    refine pw_if_ne (tgt := 10) 8 rfl dX1_letter_5 rfl (fun h5 => ?_) (fun h5 => absurd h5 (by rw [hasV_y hq h7]; decide))
    refine pw_iload_n 11 rfl dX1_letter_10 rfl ?_
    refine pw_tableIn (tgt := 160) (off := 149) dX1_letter_11 (by decide) (by decide) (by decide) rfl ?_
    refine pw_aload_n 161 rfl dX1_letter_160 rfl ?_
    refine pw_aload_n 162 rfl dX1_letter_161 rfl ?_
    refine pw_getR 165 rfl dX1_letter_162 fX1_15 (by first | rfl | assumption | exact rowS hh | exact mtS hm | exact ruS hr | exact mtA1 hm | exact mtA2 hm | exact mtA3 hm | exact mtA4 hm | exact mtA5 hm | exact mtA6 hm | exact mtA7 hm | exact ruA1 hr | exact ruA2 hr | exact ruA3 hr) rfl (by first | rfl | assumption | exact mtR0 hm | exact mtR1 hm | exact mtR2 hm | exact mtR3 hm | exact mtR4 hm | exact mtR5 hm | exact mtR6 hm | exact ruR0 hr | exact ruR1 hr | exact ruR3 hr) ?_
    refine pw_iload_n 166 rfl dX1_letter_165 rfl ?_
    refine pw_ialdN 167 rfl dX1_letter_166 (by first | rfl | assumption | exact rowS hh | exact mtS hm | exact ruS hr | exact mtA1 hm | exact mtA2 hm | exact mtA3 hm | exact mtA4 hm | exact mtA5 hm | exact mtA6 hm | exact mtA7 hm | exact ruA1 hr | exact ruA2 hr | exact ruA3 hr) (by omega) (by decide) ?_
    refine pw_iload_n 168 rfl dX1_letter_167 rfl ?_
    rotate_left
    rw [j1]
    refine pw_callVP (as := [_, _]) 171 rfl dX1_letter_168 mX1_112 vX1_othersDownBelow (x_othersDownBelow (d := d) (h := b q) (q := q) hm hM hW (by omega) (by omega)) (by first | rfl | assumption | exact rowS hh | exact mtS hm | exact ruS hr | exact mtA1 hm | exact mtA2 hm | exact mtA3 hm | exact mtA4 hm | exact mtA5 hm | exact mtA6 hm | exact mtA7 hm | exact ruA1 hr | exact ruA2 hr | exact ruA3 hr) rfl (by decide) ⟨rfl, by decide, by decide, show (parseMethodDescriptor yX1_othersDownBelow.desc).map (fun d => d.parameters.length) = some 2 by decide +kernel⟩ (by omega) (by decide) (Nat.le_of_ble_eq_true rfl) rfl ?_
    refine pw_iret dX1_letter_171 rfl ?_
    rotate_left
    exact ⟨rfl, rfl, rfl, rfl⟩
  · refine pw_aload_n 1 rfl dX1_letter_0 rfl ?_
    refine pw_iload_n 2 rfl dX1_letter_1 rfl ?_
    refine pw_callVP (as := [_]) 5 rfl dX1_letter_2 mX1_68 vX1_has (x_has (d := d) hm hn h7 _) (by first | rfl | assumption | exact rowS hh | exact mtS hm | exact ruS hr | exact mtA1 hm | exact mtA2 hm | exact mtA3 hm | exact mtA4 hm | exact mtA5 hm | exact mtA6 hm | exact mtA7 hm | exact ruA1 hr | exact ruA2 hr | exact ruA3 hr) rfl (by decide) ⟨rfl, by decide, by decide, show (parseMethodDescriptor yX1_has.desc).map (fun d => d.parameters.length) = some 1 by decide +kernel⟩ (by omega) (by decide) (Nat.le_of_ble_eq_true rfl) rfl ?_
    refine pw_if_ne (tgt := 10) 8 rfl dX1_letter_5 rfl (fun h5 => ?_) (fun h5 => absurd h5 (by rw [hasV_y hq h7]; decide))
    refine pw_iload_n 11 rfl dX1_letter_10 rfl ?_
    refine pw_tableIn (tgt := 172) (off := 161) dX1_letter_11 (by decide) (by decide) (by decide) rfl ?_
    refine pw_aload_n 173 rfl dX1_letter_172 rfl ?_
    refine pw_getI 176 rfl dX1_letter_173 fX1_43 (by first | rfl | assumption | exact rowS hh | exact mtS hm | exact ruS hr | exact mtA1 hm | exact mtA2 hm | exact mtA3 hm | exact mtA4 hm | exact mtA5 hm | exact mtA6 hm | exact mtA7 hm | exact ruA1 hr | exact ruA2 hr | exact ruA3 hr) rfl ?_
    refine pw_bipush (v := nI 7) 178 rfl dX1_letter_176 rfl ?_
    refine pw_irem 179 rfl dX1_letter_178 (by decide) ?_
    refine pw_iret dX1_letter_179 rfl ?_
    rotate_left
    rw [i10]; exact ⟨rfl, rfl, rfl, rfl⟩
