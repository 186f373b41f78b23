/-! one climber; one number of the ROW -/
def clO (q k : Nat) : aSt → Int32
  | (n, pc, b, _, _, _, _, rt, _, _) => match k with
    | 0 => nI (pc q)
    | 1 => nI (b q)
    | 2 => nI (b (7 + q))
    | 3 => nI (b (14 + q))
    | 4 => nI (b (21 + q))
    | _ => nI (ruE rt (lett n pc b q))
set_option maxRecDepth 100000 in
set_option maxHeartbeats 2000000 in
theorem xo_climber {d q k : Nat} {s : aSt} {I : pI} {J : pJ} (hA : XA I J s) (hW : WA s) (hq : q < s.1) (hk : k ≤ 5) : PC SX (d + 8) yX11_climber cX11_climber 3 (some .int) [.ref 0, .int (nI q), .int (nI k)] (I) (J) (RX) (oP (clO q k s, s)) := by
  refine PC.of [some (.ref 0), some (.int (nI q)), some (.int (nI k))] rfl rfl (Nat.le_of_ble_eq_true rfl) ?_
  obtain ⟨n, pc, b, us, kp, rw, tx, rt, hd, sw⟩ := s
  obtain ⟨a1, a2, a3, a4, a5, a6, a7, a8⟩ := id hA
  obtain ⟨aW, -, -⟩ := id hW
  have hq' : q < n := hq
  obtain ⟨hn7, i7, -, -, -, -, hA7⟩ := id a1
  obtain ⟨j0, j1, j2, j3, j4⟩ := hA7 q (by omega)
  have hh := hasV_y hq' hn7
  rcases (show k = 0 ∨ k = 1 ∨ k = 2 ∨ k = 3 ∨ k = 4 ∨ k = 5 by omega) with rfl | rfl | rfl | rfl | rfl | rfl
  · refine pw_aload_n 1 rfl dX11_climber_0 rfl ?_
    refine pw_getR 4 rfl dX11_climber_1 fX11_10 (by first | rfl | assumption | exact rowS hh | exact mtS hm | exact ruS hr | exact mtA1 hm | exact mtA2 hm | exact mtA3 hm | exact mtA4 hm | exact mtA5 hm | exact mtA6 hm | exact mtA7 hm | exact ruA1 hr | exact ruA2 hr | exact ruA3 hr) rfl (by first | rfl | assumption | exact mtR0 hm | exact mtR1 hm | exact mtR2 hm | exact mtR3 hm | exact mtR4 hm | exact mtR5 hm | exact mtR6 hm | exact ruR0 hr | exact ruR1 hr | exact ruR3 hr) ?_
    refine pw_iload_n 5 rfl dX11_climber_4 rfl ?_
    refine pw_callVP (as := [_]) 8 rfl dX11_climber_5 mX11_142 vX1_has (x_has (d := d + 7) (Or.inl rfl) i7 hn7 _) (by first | rfl | assumption | exact rowS hh | exact mtS hm | exact ruS hr | exact mtA1 hm | exact mtA2 hm | exact mtA3 hm | exact mtA4 hm | exact mtA5 hm | exact mtA6 hm | exact mtA7 hm | exact ruA1 hr | exact ruA2 hr | exact ruA3 hr) rfl (by decide) ⟨rfl, by decide, by decide, show (parseMethodDescriptor yX1_has.desc).map (fun d => d.parameters.length) = some 1 by decide +kernel⟩ (by omega) (by decide) (Nat.le_of_ble_eq_true rfl) rfl ?_
    refine pw_if_ne (tgt := 21) 11 rfl dX11_climber_8 rfl (fun h8 => ?_) (fun h8 => absurd h8 (by rw [hh]; decide))
    refine pw_iload_n 22 rfl dX11_climber_21 rfl ?_
    refine pw_tableIn (tgt := 60) (off := 38) dX11_climber_22 (by decide) (by decide) (by decide) rfl ?_
    refine pw_aload_n 61 rfl dX11_climber_60 rfl ?_
    refine pw_getR 64 rfl dX11_climber_61 fX11_10 (by first | rfl | assumption | exact rowS hh | exact mtS hm | exact ruS hr | exact mtA1 hm | exact mtA2 hm | exact mtA3 hm | exact mtA4 hm | exact mtA5 hm | exact mtA6 hm | exact mtA7 hm | exact ruA1 hr | exact ruA2 hr | exact ruA3 hr) rfl (by first | rfl | assumption | exact mtR0 hm | exact mtR1 hm | exact mtR2 hm | exact mtR3 hm | exact mtR4 hm | exact mtR5 hm | exact mtR6 hm | exact ruR0 hr | exact ruR1 hr | exact ruR3 hr) ?_
    refine pw_getR 67 rfl dX11_climber_64 fX11_152 (by first | rfl | assumption | exact rowS hh | exact mtS hm | exact ruS hr | exact mtA1 hm | exact mtA2 hm | exact mtA3 hm | exact mtA4 hm | exact mtA5 hm | exact mtA6 hm | exact mtA7 hm | exact ruA1 hr | exact ruA2 hr | exact ruA3 hr) rfl (by first | rfl | assumption | exact mtR0 hm | exact mtR1 hm | exact mtR2 hm | exact mtR3 hm | exact mtR4 hm | exact mtR5 hm | exact mtR6 hm | exact ruR0 hr | exact ruR1 hr | exact ruR3 hr) ?_
    refine pw_iload_n 68 rfl dX11_climber_67 rfl ?_
    refine pw_ialdN 69 rfl dX11_climber_68 (by first | rfl | assumption | exact rowS hh | exact mtS hm | exact ruS hr | exact mtA1 hm | exact mtA2 hm | exact mtA3 hm | exact mtA4 hm | exact mtA5 hm | exact mtA6 hm | exact mtA7 hm | exact ruA1 hr | exact ruA2 hr | exact ruA3 hr) (by omega) (by decide) ?_
    rotate_left
    rw [show I 2 q = nI (pc q) from j0]
    refine pw_iret dX11_climber_69 rfl ?_
    rotate_left
    exact ⟨rfl, hA, rfl⟩
  · refine pw_aload_n 1 rfl dX11_climber_0 rfl ?_
    refine pw_getR 4 rfl dX11_climber_1 fX11_10 (by first | rfl | assumption | exact rowS hh | exact mtS hm | exact ruS hr | exact mtA1 hm | exact mtA2 hm | exact mtA3 hm | exact mtA4 hm | exact mtA5 hm | exact mtA6 hm | exact mtA7 hm | exact ruA1 hr | exact ruA2 hr | exact ruA3 hr) rfl (by first | rfl | assumption | exact mtR0 hm | exact mtR1 hm | exact mtR2 hm | exact mtR3 hm | exact mtR4 hm | exact mtR5 hm | exact mtR6 hm | exact ruR0 hr | exact ruR1 hr | exact ruR3 hr) ?_
    refine pw_iload_n 5 rfl dX11_climber_4 rfl ?_
    refine pw_callVP (as := [_]) 8 rfl dX11_climber_5 mX11_142 vX1_has (x_has (d := d + 7) (Or.inl rfl) i7 hn7 _) (by first | rfl | assumption | exact rowS hh | exact mtS hm | exact ruS hr | exact mtA1 hm | exact mtA2 hm | exact mtA3 hm | exact mtA4 hm | exact mtA5 hm | exact mtA6 hm | exact mtA7 hm | exact ruA1 hr | exact ruA2 hr | exact ruA3 hr) rfl (by decide) ⟨rfl, by decide, by decide, show (parseMethodDescriptor yX1_has.desc).map (fun d => d.parameters.length) = some 1 by decide +kernel⟩ (by omega) (by decide) (Nat.le_of_ble_eq_true rfl) rfl ?_
    refine pw_if_ne (tgt := 21) 11 rfl dX11_climber_8 rfl (fun h8 => ?_) (fun h8 => absurd h8 (by rw [hh]; decide))
    refine pw_iload_n 22 rfl dX11_climber_21 rfl ?_
    refine pw_tableIn (tgt := 70) (off := 48) dX11_climber_22 (by decide) (by decide) (by decide) rfl ?_
    refine pw_aload_n 71 rfl dX11_climber_70 rfl ?_
    refine pw_getR 74 rfl dX11_climber_71 fX11_10 (by first | rfl | assumption | exact rowS hh | exact mtS hm | exact ruS hr | exact mtA1 hm | exact mtA2 hm | exact mtA3 hm | exact mtA4 hm | exact mtA5 hm | exact mtA6 hm | exact mtA7 hm | exact ruA1 hr | exact ruA2 hr | exact ruA3 hr) rfl (by first | rfl | assumption | exact mtR0 hm | exact mtR1 hm | exact mtR2 hm | exact mtR3 hm | exact mtR4 hm | exact mtR5 hm | exact mtR6 hm | exact ruR0 hr | exact ruR1 hr | exact ruR3 hr) ?_
    refine pw_getR 77 rfl dX11_climber_74 fX11_156 (by first | rfl | assumption | exact rowS hh | exact mtS hm | exact ruS hr | exact mtA1 hm | exact mtA2 hm | exact mtA3 hm | exact mtA4 hm | exact mtA5 hm | exact mtA6 hm | exact mtA7 hm | exact ruA1 hr | exact ruA2 hr | exact ruA3 hr) rfl (by first | rfl | assumption | exact mtR0 hm | exact mtR1 hm | exact mtR2 hm | exact mtR3 hm | exact mtR4 hm | exact mtR5 hm | exact mtR6 hm | exact ruR0 hr | exact ruR1 hr | exact ruR3 hr) ?_
    refine pw_iload_n 78 rfl dX11_climber_77 rfl ?_
    refine pw_ialdN 79 rfl dX11_climber_78 (by first | rfl | assumption | exact rowS hh | exact mtS hm | exact ruS hr | exact mtA1 hm | exact mtA2 hm | exact mtA3 hm | exact mtA4 hm | exact mtA5 hm | exact mtA6 hm | exact mtA7 hm | exact ruA1 hr | exact ruA2 hr | exact ruA3 hr) (by omega) (by decide) ?_
    rotate_left
    rw [show I 3 q = nI (b q) from j1]
    refine pw_iret dX11_climber_79 rfl ?_
    rotate_left
    exact ⟨rfl, hA, rfl⟩
  · refine pw_aload_n 1 rfl dX11_climber_0 rfl ?_
    refine pw_getR 4 rfl dX11_climber_1 fX11_10 (by first | rfl | assumption | exact rowS hh | exact mtS hm | exact ruS hr | exact mtA1 hm | exact mtA2 hm | exact mtA3 hm | exact mtA4 hm | exact mtA5 hm | exact mtA6 hm | exact mtA7 hm | exact ruA1 hr | exact ruA2 hr | exact ruA3 hr) rfl (by first | rfl | assumption | exact mtR0 hm | exact mtR1 hm | exact mtR2 hm | exact mtR3 hm | exact mtR4 hm | exact mtR5 hm | exact mtR6 hm | exact ruR0 hr | exact ruR1 hr | exact ruR3 hr) ?_
    refine pw_iload_n 5 rfl dX11_climber_4 rfl ?_
    refine pw_callVP (as := [_]) 8 rfl dX11_climber_5 mX11_142 vX1_has (x_has (d := d + 7) (Or.inl rfl) i7 hn7 _) (by first | rfl | assumption | exact rowS hh | exact mtS hm | exact ruS hr | exact mtA1 hm | exact mtA2 hm | exact mtA3 hm | exact mtA4 hm | exact mtA5 hm | exact mtA6 hm | exact mtA7 hm | exact ruA1 hr | exact ruA2 hr | exact ruA3 hr) rfl (by decide) ⟨rfl, by decide, by decide, show (parseMethodDescriptor yX1_has.desc).map (fun d => d.parameters.length) = some 1 by decide +kernel⟩ (by omega) (by decide) (Nat.le_of_ble_eq_true rfl) rfl ?_
    refine pw_if_ne (tgt := 21) 11 rfl dX11_climber_8 rfl (fun h8 => ?_) (fun h8 => absurd h8 (by rw [hh]; decide))
    refine pw_iload_n 22 rfl dX11_climber_21 rfl ?_
    refine pw_tableIn (tgt := 80) (off := 58) dX11_climber_22 (by decide) (by decide) (by decide) rfl ?_
    refine pw_aload_n 81 rfl dX11_climber_80 rfl ?_
    refine pw_getR 84 rfl dX11_climber_81 fX11_10 (by first | rfl | assumption | exact rowS hh | exact mtS hm | exact ruS hr | exact mtA1 hm | exact mtA2 hm | exact mtA3 hm | exact mtA4 hm | exact mtA5 hm | exact mtA6 hm | exact mtA7 hm | exact ruA1 hr | exact ruA2 hr | exact ruA3 hr) rfl (by first | rfl | assumption | exact mtR0 hm | exact mtR1 hm | exact mtR2 hm | exact mtR3 hm | exact mtR4 hm | exact mtR5 hm | exact mtR6 hm | exact ruR0 hr | exact ruR1 hr | exact ruR3 hr) ?_
    refine pw_getR 87 rfl dX11_climber_84 fX11_159 (by first | rfl | assumption | exact rowS hh | exact mtS hm | exact ruS hr | exact mtA1 hm | exact mtA2 hm | exact mtA3 hm | exact mtA4 hm | exact mtA5 hm | exact mtA6 hm | exact mtA7 hm | exact ruA1 hr | exact ruA2 hr | exact ruA3 hr) rfl (by first | rfl | assumption | exact mtR0 hm | exact mtR1 hm | exact mtR2 hm | exact mtR3 hm | exact mtR4 hm | exact mtR5 hm | exact mtR6 hm | exact ruR0 hr | exact ruR1 hr | exact ruR3 hr) ?_
    refine pw_iload_n 88 rfl dX11_climber_87 rfl ?_
    refine pw_ialdN 89 rfl dX11_climber_88 (by first | rfl | assumption | exact rowS hh | exact mtS hm | exact ruS hr | exact mtA1 hm | exact mtA2 hm | exact mtA3 hm | exact mtA4 hm | exact mtA5 hm | exact mtA6 hm | exact mtA7 hm | exact ruA1 hr | exact ruA2 hr | exact ruA3 hr) (by omega) (by decide) ?_
    rotate_left
    rw [show I 4 q = nI (b (7 + q)) from j2]
    refine pw_iret dX11_climber_89 rfl ?_
    rotate_left
    exact ⟨rfl, hA, rfl⟩
  · refine pw_aload_n 1 rfl dX11_climber_0 rfl ?_
    refine pw_getR 4 rfl dX11_climber_1 fX11_10 (by first | rfl | assumption | exact rowS hh | exact mtS hm | exact ruS hr | exact mtA1 hm | exact mtA2 hm | exact mtA3 hm | exact mtA4 hm | exact mtA5 hm | exact mtA6 hm | exact mtA7 hm | exact ruA1 hr | exact ruA2 hr | exact ruA3 hr) rfl (by first | rfl | assumption | exact mtR0 hm | exact mtR1 hm | exact mtR2 hm | exact mtR3 hm | exact mtR4 hm | exact mtR5 hm | exact mtR6 hm | exact ruR0 hr | exact ruR1 hr | exact ruR3 hr) ?_
    refine pw_iload_n 5 rfl dX11_climber_4 rfl ?_
    refine pw_callVP (as := [_]) 8 rfl dX11_climber_5 mX11_142 vX1_has (x_has (d := d + 7) (Or.inl rfl) i7 hn7 _) (by first | rfl | assumption | exact rowS hh | exact mtS hm | exact ruS hr | exact mtA1 hm | exact mtA2 hm | exact mtA3 hm | exact mtA4 hm | exact mtA5 hm | exact mtA6 hm | exact mtA7 hm | exact ruA1 hr | exact ruA2 hr | exact ruA3 hr) rfl (by decide) ⟨rfl, by decide, by decide, show (parseMethodDescriptor yX1_has.desc).map (fun d => d.parameters.length) = some 1 by decide +kernel⟩ (by omega) (by decide) (Nat.le_of_ble_eq_true rfl) rfl ?_
    refine pw_if_ne (tgt := 21) 11 rfl dX11_climber_8 rfl (fun h8 => ?_) (fun h8 => absurd h8 (by rw [hh]; decide))
    refine pw_iload_n 22 rfl dX11_climber_21 rfl ?_
    refine pw_tableIn (tgt := 90) (off := 68) dX11_climber_22 (by decide) (by decide) (by decide) rfl ?_
    refine pw_aload_n 91 rfl dX11_climber_90 rfl ?_
    refine pw_getR 94 rfl dX11_climber_91 fX11_10 (by first | rfl | assumption | exact rowS hh | exact mtS hm | exact ruS hr | exact mtA1 hm | exact mtA2 hm | exact mtA3 hm | exact mtA4 hm | exact mtA5 hm | exact mtA6 hm | exact mtA7 hm | exact ruA1 hr | exact ruA2 hr | exact ruA3 hr) rfl (by first | rfl | assumption | exact mtR0 hm | exact mtR1 hm | exact mtR2 hm | exact mtR3 hm | exact mtR4 hm | exact mtR5 hm | exact mtR6 hm | exact ruR0 hr | exact ruR1 hr | exact ruR3 hr) ?_
    refine pw_getR 97 rfl dX11_climber_94 fX11_162 (by first | rfl | assumption | exact rowS hh | exact mtS hm | exact ruS hr | exact mtA1 hm | exact mtA2 hm | exact mtA3 hm | exact mtA4 hm | exact mtA5 hm | exact mtA6 hm | exact mtA7 hm | exact ruA1 hr | exact ruA2 hr | exact ruA3 hr) rfl (by first | rfl | assumption | exact mtR0 hm | exact mtR1 hm | exact mtR2 hm | exact mtR3 hm | exact mtR4 hm | exact mtR5 hm | exact mtR6 hm | exact ruR0 hr | exact ruR1 hr | exact ruR3 hr) ?_
    refine pw_iload_n 98 rfl dX11_climber_97 rfl ?_
    refine pw_ialdN 99 rfl dX11_climber_98 (by first | rfl | assumption | exact rowS hh | exact mtS hm | exact ruS hr | exact mtA1 hm | exact mtA2 hm | exact mtA3 hm | exact mtA4 hm | exact mtA5 hm | exact mtA6 hm | exact mtA7 hm | exact ruA1 hr | exact ruA2 hr | exact ruA3 hr) (by omega) (by decide) ?_
    rotate_left
    rw [show I 5 q = nI (b (14 + q)) from j3]
    refine pw_iret dX11_climber_99 rfl ?_
    rotate_left
    exact ⟨rfl, hA, rfl⟩
  · refine pw_aload_n 1 rfl dX11_climber_0 rfl ?_
    refine pw_getR 4 rfl dX11_climber_1 fX11_10 (by first | rfl | assumption | exact rowS hh | exact mtS hm | exact ruS hr | exact mtA1 hm | exact mtA2 hm | exact mtA3 hm | exact mtA4 hm | exact mtA5 hm | exact mtA6 hm | exact mtA7 hm | exact ruA1 hr | exact ruA2 hr | exact ruA3 hr) rfl (by first | rfl | assumption | exact mtR0 hm | exact mtR1 hm | exact mtR2 hm | exact mtR3 hm | exact mtR4 hm | exact mtR5 hm | exact mtR6 hm | exact ruR0 hr | exact ruR1 hr | exact ruR3 hr) ?_
    refine pw_iload_n 5 rfl dX11_climber_4 rfl ?_
    refine pw_callVP (as := [_]) 8 rfl dX11_climber_5 mX11_142 vX1_has (x_has (d := d + 7) (Or.inl rfl) i7 hn7 _) (by first | rfl | assumption | exact rowS hh | exact mtS hm | exact ruS hr | exact mtA1 hm | exact mtA2 hm | exact mtA3 hm | exact mtA4 hm | exact mtA5 hm | exact mtA6 hm | exact mtA7 hm | exact ruA1 hr | exact ruA2 hr | exact ruA3 hr) rfl (by decide) ⟨rfl, by decide, by decide, show (parseMethodDescriptor yX1_has.desc).map (fun d => d.parameters.length) = some 1 by decide +kernel⟩ (by omega) (by decide) (Nat.le_of_ble_eq_true rfl) rfl ?_
    refine pw_if_ne (tgt := 21) 11 rfl dX11_climber_8 rfl (fun h8 => ?_) (fun h8 => absurd h8 (by rw [hh]; decide))
    refine pw_iload_n 22 rfl dX11_climber_21 rfl ?_
    refine pw_tableIn (tgt := 100) (off := 78) dX11_climber_22 (by decide) (by decide) (by decide) rfl ?_
    refine pw_aload_n 101 rfl dX11_climber_100 rfl ?_
    refine pw_getR 104 rfl dX11_climber_101 fX11_10 (by first | rfl | assumption | exact rowS hh | exact mtS hm | exact ruS hr | exact mtA1 hm | exact mtA2 hm | exact mtA3 hm | exact mtA4 hm | exact mtA5 hm | exact mtA6 hm | exact mtA7 hm | exact ruA1 hr | exact ruA2 hr | exact ruA3 hr) rfl (by first | rfl | assumption | exact mtR0 hm | exact mtR1 hm | exact mtR2 hm | exact mtR3 hm | exact mtR4 hm | exact mtR5 hm | exact mtR6 hm | exact ruR0 hr | exact ruR1 hr | exact ruR3 hr) ?_
    refine pw_getR 107 rfl dX11_climber_104 fX11_165 (by first | rfl | assumption | exact rowS hh | exact mtS hm | exact ruS hr | exact mtA1 hm | exact mtA2 hm | exact mtA3 hm | exact mtA4 hm | exact mtA5 hm | exact mtA6 hm | exact mtA7 hm | exact ruA1 hr | exact ruA2 hr | exact ruA3 hr) rfl (by first | rfl | assumption | exact mtR0 hm | exact mtR1 hm | exact mtR2 hm | exact mtR3 hm | exact mtR4 hm | exact mtR5 hm | exact mtR6 hm | exact ruR0 hr | exact ruR1 hr | exact ruR3 hr) ?_
    refine pw_iload_n 108 rfl dX11_climber_107 rfl ?_
    refine pw_ialdN 109 rfl dX11_climber_108 (by first | rfl | assumption | exact rowS hh | exact mtS hm | exact ruS hr | exact mtA1 hm | exact mtA2 hm | exact mtA3 hm | exact mtA4 hm | exact mtA5 hm | exact mtA6 hm | exact mtA7 hm | exact ruA1 hr | exact ruA2 hr | exact ruA3 hr) (by omega) (by decide) ?_
    rotate_left
    rw [show I 6 q = nI (b (21 + q)) from j4]
    refine pw_iret dX11_climber_109 rfl ?_
    rotate_left
    exact ⟨rfl, hA, rfl⟩
  · obtain ⟨cs, hR, hE⟩ := id a2
    refine pw_aload_n 1 rfl dX11_climber_0 rfl ?_
    refine pw_getR 4 rfl dX11_climber_1 fX11_10 (by first | rfl | assumption | exact rowS hh | exact mtS hm | exact ruS hr | exact mtA1 hm | exact mtA2 hm | exact mtA3 hm | exact mtA4 hm | exact mtA5 hm | exact mtA6 hm | exact mtA7 hm | exact ruA1 hr | exact ruA2 hr | exact ruA3 hr) rfl (by first | rfl | assumption | exact mtR0 hm | exact mtR1 hm | exact mtR2 hm | exact mtR3 hm | exact mtR4 hm | exact mtR5 hm | exact mtR6 hm | exact ruR0 hr | exact ruR1 hr | exact ruR3 hr) ?_
    refine pw_iload_n 5 rfl dX11_climber_4 rfl ?_
    refine pw_callVP (as := [_]) 8 rfl dX11_climber_5 mX11_142 vX1_has (x_has (d := d + 7) (Or.inl rfl) i7 hn7 _) (by first | rfl | assumption | exact rowS hh | exact mtS hm | exact ruS hr | exact mtA1 hm | exact mtA2 hm | exact mtA3 hm | exact mtA4 hm | exact mtA5 hm | exact mtA6 hm | exact mtA7 hm | exact ruA1 hr | exact ruA2 hr | exact ruA3 hr) rfl (by decide) ⟨rfl, by decide, by decide, show (parseMethodDescriptor yX1_has.desc).map (fun d => d.parameters.length) = some 1 by decide +kernel⟩ (by omega) (by decide) (Nat.le_of_ble_eq_true rfl) rfl ?_
    refine pw_if_ne (tgt := 21) 11 rfl dX11_climber_8 rfl (fun h8 => ?_) (fun h8 => absurd h8 (by rw [hh]; decide))
    refine pw_iload_n 22 rfl dX11_climber_21 rfl ?_
    refine pw_tableIn (tgt := 110) (off := 88) dX11_climber_22 (by decide) (by decide) (by decide) rfl ?_
    refine pw_aload_n 111 rfl dX11_climber_110 rfl ?_
    refine pw_getR 114 rfl dX11_climber_111 fX11_19 (by first | rfl | assumption | exact rowS hh | exact mtS hm | exact ruS hr | exact mtA1 hm | exact mtA2 hm | exact mtA3 hm | exact mtA4 hm | exact mtA5 hm | exact mtA6 hm | exact mtA7 hm | exact ruA1 hr | exact ruA2 hr | exact ruA3 hr) rfl (by first | rfl | assumption | exact mtR0 hm | exact mtR1 hm | exact mtR2 hm | exact mtR3 hm | exact mtR4 hm | exact mtR5 hm | exact mtR6 hm | exact ruR0 hr | exact ruR1 hr | exact ruR3 hr) ?_
    refine pw_aload_n 115 rfl dX11_climber_114 rfl ?_
    refine pw_getR 118 rfl dX11_climber_115 fX11_10 (by first | rfl | assumption | exact rowS hh | exact mtS hm | exact ruS hr | exact mtA1 hm | exact mtA2 hm | exact mtA3 hm | exact mtA4 hm | exact mtA5 hm | exact mtA6 hm | exact mtA7 hm | exact ruA1 hr | exact ruA2 hr | exact ruA3 hr) rfl (by first | rfl | assumption | exact mtR0 hm | exact mtR1 hm | exact mtR2 hm | exact mtR3 hm | exact mtR4 hm | exact mtR5 hm | exact mtR6 hm | exact ruR0 hr | exact ruR1 hr | exact ruR3 hr) ?_
    refine pw_iload_n 119 rfl dX11_climber_118 rfl ?_
    refine pw_callV (as := [_, _]) 122 rfl dX11_climber_119 mX11_168 vX6_stepsOf (x_stepsOf (d := d + 4) (Or.inl rfl) (Or.inl rfl) a1 aW.1 hq' hR) (by first | rfl | assumption | exact rowS hh | exact mtS hm | exact ruS hr | exact mtA1 hm | exact mtA2 hm | exact mtA3 hm | exact mtA4 hm | exact mtA5 hm | exact mtA6 hm | exact mtA7 hm | exact ruA1 hr | exact ruA2 hr | exact ruA3 hr) rfl (by decide) ⟨rfl, by decide, by decide, show (parseMethodDescriptor yX6_stepsOf.desc).map (fun d => d.parameters.length) = some 2 by decide +kernel⟩ (by omega) (by decide) (Nat.le_of_ble_eq_true rfl) rfl (fun r119 I119 J119 R119 c119 => ?_)
    obtain ⟨rfl, m1, rfl, rfl⟩ := c119
    rotate_left
    rw [(hE (lett n pc b q)).1]
    refine pw_iret dX11_climber_122 rfl ?_
    rotate_left
    exact ⟨rfl, XA_rw hA (fun a ha => m1 a (by omega)) (XN_fr a3 (m1 19 (by omega))), rfl⟩
set_option maxRecDepth 100000 in
set_option maxHeartbeats 2000000 in
theorem xo_row {d j : Nat} {x : Int64} {s : aSt} {I : pI} {J : pJ} (hA : XA I J s) (hx : s.2.2.2.2.2.1[j]? = some x) : PC SX (d + 8) yX11_row cX11_row 2 (some .long) [.ref 0, .int (nI j)] (I) (J) (RX) (fun r' I' J' R' => r' = some (.long x) ∧ XA I' J' s ∧ R' = RX) := by
  refine PC.of [some (.ref 0), some (.int (nI j))] rfl rfl (Nat.le_of_ble_eq_true rfl) ?_
  obtain ⟨n, pc, b, us, kp, rw, tx, rt, hd, sw⟩ := s
  obtain ⟨a1, a2, a3, a4, a5, a6, a7, a8⟩ := id hA
  obtain ⟨n1, n2, n3⟩ := id a3
  have hx' : rw[j]? = some x := hx
  have hjl := (List.getElem?_eq_some_iff.mp hx').1
  have hN : PC SX (d + 7) yX2_has cX2_has 2 (some .boolean) [.ref 19, .int (nI j)] I J RX (pPu (.int (nI 1)) I J RX) := by
    refine PC.of [some (.ref 19), some (.int (nI j))] rfl rfl (Nat.le_of_ble_eq_true rfl) ?_
    refine pw_iload_n 1 rfl dX2_has_0 rfl ?_
    refine pw_if_lt (tgt := 22) 4 rfl dX2_has_1 rfl (fun h1 => absurd h1 (nI_pos (by omega))) (fun h1 => ?_)
    refine pw_iload_n 5 rfl dX2_has_4 rfl ?_
    refine pw_aload_n 6 rfl dX2_has_5 rfl ?_
    refine pw_getI 9 rfl dX2_has_6 fX2_13 (by first | rfl | assumption | exact rowS hh | exact mtS hm | exact ruS hr | exact mtA1 hm | exact mtA2 hm | exact mtA3 hm | exact mtA4 hm | exact mtA5 hm | exact mtA6 hm | exact mtA7 hm | exact ruA1 hr | exact ruA2 hr | exact ruA3 hr) rfl ?_
    refine pw_icmp_ge (tgt := 22) 12 rfl dX2_has_9 rfl (fun h9 => absurd h9 (by rw [n1]; (simp (disch := omega) only [nI_leI, nI_ltI, nI_eq, show (0 : Int32) = nI 0 from rfl, not_true_eq_false, not_false_eq_true] <;> omega))) (fun h9 => ?_)
    refine pw_iload_n 13 rfl dX2_has_12 rfl ?_
    refine pw_bipush (v := nI 12) 15 rfl dX2_has_13 rfl ?_
    refine pw_icmp_ge (tgt := 22) 18 rfl dX2_has_15 rfl (fun h15 => absurd h15 (by (simp (disch := omega) only [nI_leI, nI_ltI, nI_eq, show (0 : Int32) = nI 0 from rfl, not_true_eq_false, not_false_eq_true] <;> omega))) (fun h15 => ?_)
    refine pw_iconst (v := nI 1) 19 rfl dX2_has_18 rfl ?_
    refine pw_goto (tgt := 23) dX2_has_19 rfl ?_
    refine pw_iret dX2_has_23 rfl ?_
    rotate_left
    exact ⟨rfl, rfl, rfl, rfl⟩
  refine pw_aload_n 1 rfl dX11_row_0 rfl ?_
  refine pw_getR 4 rfl dX11_row_1 fX11_36 (by first | rfl | assumption | exact rowS hh | exact mtS hm | exact ruS hr | exact mtA1 hm | exact mtA2 hm | exact mtA3 hm | exact mtA4 hm | exact mtA5 hm | exact mtA6 hm | exact mtA7 hm | exact ruA1 hr | exact ruA2 hr | exact ruA3 hr) rfl (by first | rfl | assumption | exact mtR0 hm | exact mtR1 hm | exact mtR2 hm | exact mtR3 hm | exact mtR4 hm | exact mtR5 hm | exact mtR6 hm | exact ruR0 hr | exact ruR1 hr | exact ruR3 hr) ?_
  refine pw_iload_n 5 rfl dX11_row_4 rfl ?_
  refine pw_callVP (as := [_]) 8 rfl dX11_row_5 mX11_361 vX2_has hN (by first | rfl | assumption | exact rowS hh | exact mtS hm | exact ruS hr | exact mtA1 hm | exact mtA2 hm | exact mtA3 hm | exact mtA4 hm | exact mtA5 hm | exact mtA6 hm | exact mtA7 hm | exact ruA1 hr | exact ruA2 hr | exact ruA3 hr) rfl (by decide) ⟨rfl, by decide, by decide, show (parseMethodDescriptor yX2_has.desc).map (fun d => d.parameters.length) = some 1 by decide +kernel⟩ (by omega) (by decide) (Nat.le_of_ble_eq_true rfl) rfl ?_
  refine pw_if_ne (tgt := 22) 11 rfl dX11_row_8 rfl (fun h8 => ?_) (fun h8 => absurd h8 (by decide))
  refine pw_aload_n 23 rfl dX11_row_22 rfl ?_
  refine pw_getR 26 rfl dX11_row_23 fX11_36 (by first | rfl | assumption | exact rowS hh | exact mtS hm | exact ruS hr | exact mtA1 hm | exact mtA2 hm | exact mtA3 hm | exact mtA4 hm | exact mtA5 hm | exact mtA6 hm | exact mtA7 hm | exact ruA1 hr | exact ruA2 hr | exact ruA3 hr) rfl (by first | rfl | assumption | exact mtR0 hm | exact mtR1 hm | exact mtR2 hm | exact mtR3 hm | exact mtR4 hm | exact mtR5 hm | exact mtR6 hm | exact ruR0 hr | exact ruR1 hr | exact ruR3 hr) ?_
  refine pw_getR 29 rfl dX11_row_26 fX11_364 (by first | rfl | assumption | exact rowS hh | exact mtS hm | exact ruS hr | exact mtA1 hm | exact mtA2 hm | exact mtA3 hm | exact mtA4 hm | exact mtA5 hm | exact mtA6 hm | exact mtA7 hm | exact ruA1 hr | exact ruA2 hr | exact ruA3 hr) rfl (by first | rfl | assumption | exact mtR0 hm | exact mtR1 hm | exact mtR2 hm | exact mtR3 hm | exact mtR4 hm | exact mtR5 hm | exact mtR6 hm | exact ruR0 hr | exact ruR1 hr | exact ruR3 hr) ?_
  refine pw_iload_n 30 rfl dX11_row_29 rfl ?_
  refine pw_laldN 31 rfl dX11_row_30 (by first | rfl | assumption | exact rowS hh | exact mtS hm | exact ruS hr | exact mtA1 hm | exact mtA2 hm | exact mtA3 hm | exact mtA4 hm | exact mtA5 hm | exact mtA6 hm | exact mtA7 hm | exact ruA1 hr | exact ruA2 hr | exact ruA3 hr) (by omega) (by decide) ?_
  rotate_left
  rw [n3 j x hx']
  refine pw_lret dX11_row_31 ?_
  rotate_left
  exact ⟨rfl, hA, rfl⟩
theorem bu4 {n : Nat} {b : Nat → Nat} (hZ : WZ n b) (hn : n < 7) : bu (bu (bu (bu b n 0) (7 + n) 0) (14 + n) 0) (21 + n) 0 = b := by
  obtain ⟨z1, z2, z3, z4⟩ := hZ n (Nat.le_refl n) hn
  funext k
  unfold bu
  by_cases e1 : k = 21 + n
  · rw [if_pos e1, e1, z4]
  · rw [if_neg e1]
    by_cases e2 : k = 14 + n
    · rw [if_pos e2, e2, z3]
    · rw [if_neg e2]
      by_cases e3 : k = 7 + n
      · rw [if_pos e3, e3, z2]
      · rw [if_neg e3]
        by_cases e4 : k = n
        · rw [if_pos e4, e4, z1]
        · rw [if_neg e4]
/-- the paces with the first k of the told climbers -/
def pcA (tx : List Nat) (n : Nat) (pc : Nat → Nat) : Nat → Nat → Nat
  | 0 => pc
  | k + 1 => bu (pcA tx n pc k) (n + k) (tx.getD (2 * k) 0 - 48)
def oClimbers : aSt → Int32 × aSt
  | (n, pc, b, us, kp, rw, tx, rt, hd, sw) => match wrC tx (7 - n) with
    | some p => (-1 - nI p, (n, pc, b, us, kp, rw, [], rt, hd, sw))
    | none => (nI ((tx.length + 1) / 2), (n + (tx.length + 1) / 2, pcA tx n pc ((tx.length + 1) / 2), b, if 0 < (tx.length + 1) / 2 then [] else us, if 0 < (tx.length + 1) / 2 then (fun _ => none) else kp, rw, [], rt, hd, sw))
theorem fstL_all {ok : Nat → Bool} : ∀ {k}, fstL ok k = none → ∀ j, j < k → ok j = false
  | 0, _, j, hj => by omega
  | k + 1, h, j, hj => by
    rcases e : ok k with _ | _
    · rw [fstL_n e] at h
      by_cases ej : j = k
      · rw [ej]; exact e
      · exact fstL_all h j (by omega)
    · rcases e2 : fstL ok k with _ | f
      · have := fstL_y ((fstL_cnt ok k).mp e2) e
        rw [this] at h; cases h
      · rw [fstL_s e2] at h; cases h
theorem fstL_lt {ok : Nat → Bool} {f : Nat} : ∀ {k}, fstL ok k = some f → f < k
  | 0, h => by cases h
  | k + 1, h => by
    rcases e2 : fstL ok k with _ | g
    · rcases e : ok k with _ | _
      · rw [fstL_n e, e2] at h; cases h
      · rw [fstL_y ((fstL_cnt ok k).mp e2) e] at h; cases h; omega
    · rw [fstL_s e2] at h
      cases h
      have := fstL_lt e2
      omega
theorem wrC_ok {tx : List Nat} {room : Nat} (h : wrC tx room = none) : tx.length = 0 ∨ (tx.length ≤ 13 ∧ tx.length % 2 = 1 ∧ ∀ k, 2 * k < tx.length → isDg (tx.getD (2 * k) 0) = true ∧ k < room) := by
  by_cases h0 : tx.length = 0
  · exact Or.inl h0
  · right
    rcases e : fstL (badC tx room) (min tx.length 13) with _ | p
    · rw [wrC_n h0 e] at h
      by_cases h1 : 13 < tx.length
      · rw [if_pos h1] at h; cases h
      · rw [if_neg h1] at h
        by_cases h2 : tx.length % 2 = 0
        · rw [if_pos h2] at h; cases h
        · refine ⟨by omega, by omega, fun k hk => ?_⟩
          have hb := fstL_all e (2 * k) (by rw [Nat.min_eq_left (by omega)]; exact hk)
          unfold badC at hb
          rw [if_pos (by omega), show 2 * k / 2 = k by omega] at hb
          simp only [Bool.not_eq_false', Bool.and_eq_true, decide_eq_true_eq] at hb
          exact hb
    · rw [wrC_s h0 e] at h; cases h
theorem wrC_le {tx : List Nat} {room p : Nat} (ht : tx.length ≤ 80) (h : wrC tx room = some p) : p ≤ 80 := by
  by_cases h0 : tx.length = 0
  · rw [wrC_0 h0] at h; cases h
  · rcases e : fstL (badC tx room) (min tx.length 13) with _ | q
    · rw [wrC_n h0 e] at h
      split at h
      · cases h; omega
      · split at h
        · cases h; omega
        · cases h
    · rw [wrC_s h0 e] at h
      cases h
      have := fstL_lt e
      have := Nat.min_le_right tx.length 13
      omega
set_option maxRecDepth 100000 in
set_option maxHeartbeats 2000000 in
theorem xo_climbers {d : Nat} {s : aSt} {I : pI} {J : pJ} (hA : XA I J s) (hW : WA s) : PC SX (d + 8) yX11_climbers cX11_climbers 4 (some .int) [.ref 0] (I) (J) (RX) (oP (oClimbers s)) := by
  refine PC.of [some (.ref 0), none, none, none] rfl rfl (Nat.le_of_ble_eq_true rfl) ?_
  obtain ⟨n, pc, b, us, kp, rw, tx, rt, hd, sw⟩ := s
  obtain ⟨a1, a2, a3, a4, a5, a6, a7, a8⟩ := id hA
  obtain ⟨aW, -, -⟩ := id hW
  have hn7 := a1.1
  obtain ⟨x1, x2, x3⟩ := id a4
  rw [oClimbers]
  refine pw_aload_n 1 rfl dX11_climbers_0 rfl ?_
  refine pw_getR 4 rfl dX11_climbers_1 fX11_29 (by first | rfl | assumption | exact rowS hh | exact mtS hm | exact ruS hr | exact mtA1 hm | exact mtA2 hm | exact mtA3 hm | exact mtA4 hm | exact mtA5 hm | exact mtA6 hm | exact mtA7 hm | exact ruA1 hr | exact ruA2 hr | exact ruA3 hr) rfl (by first | rfl | assumption | exact mtR0 hm | exact mtR1 hm | exact mtR2 hm | exact mtR3 hm | exact mtR4 hm | exact mtR5 hm | exact mtR6 hm | exact ruR0 hr | exact ruR1 hr | exact ruR3 hr) ?_
  refine pw_bipush (v := nI 7) 6 rfl dX11_climbers_4 rfl ?_
  refine pw_aload_n 7 rfl dX11_climbers_6 rfl ?_
  refine pw_getR 10 rfl dX11_climbers_7 fX11_10 (by first | rfl | assumption | exact rowS hh | exact mtS hm | exact ruS hr | exact mtA1 hm | exact mtA2 hm | exact mtA3 hm | exact mtA4 hm | exact mtA5 hm | exact mtA6 hm | exact mtA7 hm | exact ruA1 hr | exact ruA2 hr | exact ruA3 hr) rfl (by first | rfl | assumption | exact mtR0 hm | exact mtR1 hm | exact mtR2 hm | exact mtR3 hm | exact mtR4 hm | exact mtR5 hm | exact mtR6 hm | exact ruR0 hr | exact ruR1 hr | exact ruR3 hr) ?_
  refine pw_getI 13 rfl dX11_climbers_10 fX11_103 (by first | rfl | assumption | exact rowS hh | exact mtS hm | exact ruS hr | exact mtA1 hm | exact mtA2 hm | exact mtA3 hm | exact mtA4 hm | exact mtA5 hm | exact mtA6 hm | exact mtA7 hm | exact ruA1 hr | exact ruA2 hr | exact ruA3 hr) rfl ?_
  rotate_left
  rw [show I 1 7 = nI n from a1.2.1]
  refine pw_isubN 14 rfl dX11_climbers_13 (by omega) ?_
  refine pw_callVP (as := [_]) 17 rfl dX11_climbers_14 mX11_107 vX10_wrongAsClimbers (x_wrongC (d := d + 6) (room := 7 - n) a4 (by omega)) (by first | rfl | assumption | exact rowS hh | exact mtS hm | exact ruS hr | exact mtA1 hm | exact mtA2 hm | exact mtA3 hm | exact mtA4 hm | exact mtA5 hm | exact mtA6 hm | exact mtA7 hm | exact ruA1 hr | exact ruA2 hr | exact ruA3 hr) rfl (by decide) ⟨rfl, by decide, by decide, show (parseMethodDescriptor yX10_wrongAsClimbers.desc).map (fun d => d.parameters.length) = some 1 by decide +kernel⟩ (by omega) (by decide) (Nat.le_of_ble_eq_true rfl) rfl ?_
  refine pw_istore_n 18 rfl dX11_climbers_17 (by decide) ?_
  refine pw_iconst (v := nI 0) 19 rfl dX11_climbers_18 rfl ?_
  refine pw_istore_n 20 rfl dX11_climbers_19 (by decide) ?_
  rotate_left
  rcases e : wrC tx (7 - n) with _ | p
  · rw [show wrV none = -1 from rfl]
    have hL : ∀ k, 2 * k < tx.length → isDg (tx.getD (2 * k) 0) = true ∧ k < 7 - n := by
      rcases wrC_ok e with h0 | ⟨-, -, h⟩
      · intro k hk; omega
      · exact h
    have hpar : tx.length = 0 ∨ tx.length % 2 = 1 := by
      rcases wrC_ok e with h0 | ⟨-, h, -⟩
      · exact Or.inl h0
      · exact Or.inr h
    refine pw_iload_n 21 rfl dX11_climbers_20 rfl ?_
    refine pw_iconst (v := -1) 22 rfl dX11_climbers_21 rfl ?_
    refine pw_icmp_ne (tgt := 73) 25 rfl dX11_climbers_22 rfl (fun h22 => absurd rfl h22) (fun h22 => ?_)
    refine pw_iconst (v := nI 0) 26 rfl dX11_climbers_25 rfl ?_
    refine pw_istore_n 27 rfl dX11_climbers_26 (by decide) ?_
    rotate_left
    have L := nat_loop ((tx.length + 1) / 2) (fun k => ∀ (I' : pI), XM I' 1 (n + k) (pcA tx n pc k) b → WZ (n + k) b → (∀ a, ¬ (1 ≤ a ∧ a ≤ 8) → I' a = I a) → PW SX yX11_climbers.cls cX11_climbers 4 (d + 8) 27 [some (.ref 0), some (.int (-1)), some (.int (nI k)), some (.int (nI (2 * k)))] [] I' J RX (rX cX11_climbers (some .int) (oP (nI ((tx.length + 1) / 2), (n + (tx.length + 1) / 2, pcA tx n pc ((tx.length + 1) / 2), b, if 0 < (tx.length + 1) / 2 then [] else us, if 0 < (tx.length + 1) / 2 then (fun _ => none) else kp, rw, [], rt, hd, sw))))) ?_ ?_
    · exact L I a1 aW.2.1 (fun _ _ => rfl)
    · intro I' m1 mZ m2
      have x1' : I' 17 1 = nI tx.length := by rw [m2 17 (by omega)]; exact x1
      generalize hN : (tx.length + 1) / 2 = N at m1 ⊢
      by_cases h0 : 0 < N
      · rw [if_pos h0, if_pos h0]
        have hU1 : XU I' us := XU_fr a5 (fun a h1 h2 h3 h4 => m2 a (by omega))
        refine pw_iload_n 28 rfl dX11_climbers_27 rfl ?_
        refine pw_aload_n 29 rfl dX11_climbers_28 rfl ?_
        refine pw_getR 32 rfl dX11_climbers_29 fX11_29 (by first | rfl | assumption | exact rowS hh | exact mtS hm | exact ruS hr | exact mtA1 hm | exact mtA2 hm | exact mtA3 hm | exact mtA4 hm | exact mtA5 hm | exact mtA6 hm | exact mtA7 hm | exact ruA1 hr | exact ruA2 hr | exact ruA3 hr) rfl (by first | rfl | assumption | exact mtR0 hm | exact mtR1 hm | exact mtR2 hm | exact mtR3 hm | exact mtR4 hm | exact mtR5 hm | exact mtR6 hm | exact ruR0 hr | exact ruR1 hr | exact ruR3 hr) ?_
        refine pw_getI 35 rfl dX11_climbers_32 fX11_110 (by first | rfl | assumption | exact rowS hh | exact mtS hm | exact ruS hr | exact mtA1 hm | exact mtA2 hm | exact mtA3 hm | exact mtA4 hm | exact mtA5 hm | exact mtA6 hm | exact mtA7 hm | exact ruA1 hr | exact ruA2 hr | exact ruA3 hr) rfl ?_
        refine pw_icmp_ge (tgt := 62) 38 rfl dX11_climbers_35 rfl (fun h35 => ?_) (fun h35 => absurd (by rw [x1']; (simp (disch := omega) only [nI_leI, nI_ltI, nI_eq, show (0 : Int32) = nI 0 from rfl, not_true_eq_false, not_false_eq_true] <;> omega)) h35)
        refine pw_iload_n 63 rfl dX11_climbers_62 rfl ?_
        refine pw_if_le (tgt := 73) 66 rfl dX11_climbers_63 rfl (fun h63 => absurd h63 (nI_nle h0 (by omega))) (fun h63 => ?_)
        refine pw_aload_n 67 rfl dX11_climbers_66 rfl ?_
        refine pw_getR 70 rfl dX11_climbers_67 fX11_43 (by first | rfl | assumption | exact rowS hh | exact mtS hm | exact ruS hr | exact mtA1 hm | exact mtA2 hm | exact mtA3 hm | exact mtA4 hm | exact mtA5 hm | exact mtA6 hm | exact mtA7 hm | exact ruA1 hr | exact ruA2 hr | exact ruA3 hr) rfl (by first | rfl | assumption | exact mtR0 hm | exact mtR1 hm | exact mtR2 hm | exact mtR3 hm | exact mtR4 hm | exact mtR5 hm | exact mtR6 hm | exact ruR0 hr | exact ruR1 hr | exact ruR3 hr) ?_
        refine pw_callV (as := []) 73 rfl dX11_climbers_70 mX11_118 vX4_forgetAll (x_forgetAll (d := d + 7) hU1) (by first | rfl | assumption | exact rowS hh | exact mtS hm | exact ruS hr | exact mtA1 hm | exact mtA2 hm | exact mtA3 hm | exact mtA4 hm | exact mtA5 hm | exact mtA6 hm | exact mtA7 hm | exact ruA1 hr | exact ruA2 hr | exact ruA3 hr) rfl (by decide) ⟨rfl, by decide, by decide, show (parseMethodDescriptor yX4_forgetAll.desc).map (fun d => d.parameters.length) = some 0 by decide +kernel⟩ (by omega) (by decide) (Nat.le_of_ble_eq_true rfl) rfl (fun r70 I70 J70 R70 c70 => ?_)
        obtain ⟨rfl, u1, u2, u3, rfl, rfl⟩ := c70
        rotate_left
        refine pw_aload_n 74 rfl dX11_climbers_73 rfl ?_
        refine pw_getR 77 rfl dX11_climbers_74 fX11_29 (by first | rfl | assumption | exact rowS hh | exact mtS hm | exact ruS hr | exact mtA1 hm | exact mtA2 hm | exact mtA3 hm | exact mtA4 hm | exact mtA5 hm | exact mtA6 hm | exact mtA7 hm | exact ruA1 hr | exact ruA2 hr | exact ruA3 hr) rfl (by first | rfl | assumption | exact mtR0 hm | exact mtR1 hm | exact mtR2 hm | exact mtR3 hm | exact mtR4 hm | exact mtR5 hm | exact mtR6 hm | exact ruR0 hr | exact ruR1 hr | exact ruR3 hr) ?_
        refine pw_callV (as := []) 80 rfl dX11_climbers_77 mX11_121 vX10_clear (x_clearT (d := d + 7)) (by first | rfl | assumption | exact rowS hh | exact mtS hm | exact ruS hr | exact mtA1 hm | exact mtA2 hm | exact mtA3 hm | exact mtA4 hm | exact mtA5 hm | exact mtA6 hm | exact mtA7 hm | exact ruA1 hr | exact ruA2 hr | exact ruA3 hr) rfl (by decide) ⟨rfl, by decide, by decide, show (parseMethodDescriptor yX10_clear.desc).map (fun d => d.parameters.length) = some 0 by decide +kernel⟩ (by omega) (by decide) (Nat.le_of_ble_eq_true rfl) rfl (fun r77 I77 J77 R77 c77 => ?_)
        obtain ⟨rfl, t1, t2, rfl, rfl⟩ := c77
        refine pw_iload_n 81 rfl dX11_climbers_80 rfl ?_
        refine pw_iconst (v := -1) 82 rfl dX11_climbers_81 rfl ?_
        refine pw_icmp_ne (tgt := 89) 85 rfl dX11_climbers_82 rfl (fun h82 => absurd rfl h82) (fun h82 => ?_)
        refine pw_iload_n 86 rfl dX11_climbers_85 rfl ?_
        refine pw_goto (tgt := 92) dX11_climbers_86 rfl ?_
        refine pw_iret dX11_climbers_92 rfl ?_
        rotate_left
        have hf : ∀ a, ¬ (1 ≤ a ∧ a ≤ 8) → a ≠ 17 → a ≠ 21 → a ≠ 24 → I77 a = I a := fun a h1 h2 h3 h4 => by rw [t2 a h2, u3 a h3 h4, m2 a h1]
        exact ⟨rfl, ⟨XM_fr m1 (fun a h1 h2 => by rw [t2 a (by omega), u3 a (by omega) (by omega)]), XE_fr a2 (hf 9 (by omega) (by omega) (by omega) (by omega)) (hf 10 (by omega) (by omega) (by omega) (by omega)), XN_fr a3 (hf 19 (by omega) (by omega) (by omega) (by omega)), t1, XU_fr u1 (fun a h1 h2 h3 h4 => t2 a (by omega)), XK_fr u2 (t2 24 (by omega)) (t2 38 (by omega)) (t2 39 (by omega)), XH_fr a7 (hf 62 (by omega) (by omega) (by omega) (by omega)) (hf 63 (by omega) (by omega) (by omega) (by omega)), XG_fr a8 (by rw [hf 64 (by omega) (by omega) (by omega) (by omega)]) (hf 65 (by omega) (by omega) (by omega) (by omega))⟩, rfl⟩
      · rw [if_neg h0, if_neg h0]
        have e0 : N = 0 := by omega
        refine pw_iload_n 28 rfl dX11_climbers_27 rfl ?_
        refine pw_aload_n 29 rfl dX11_climbers_28 rfl ?_
        refine pw_getR 32 rfl dX11_climbers_29 fX11_29 (by first | rfl | assumption | exact rowS hh | exact mtS hm | exact ruS hr | exact mtA1 hm | exact mtA2 hm | exact mtA3 hm | exact mtA4 hm | exact mtA5 hm | exact mtA6 hm | exact mtA7 hm | exact ruA1 hr | exact ruA2 hr | exact ruA3 hr) rfl (by first | rfl | assumption | exact mtR0 hm | exact mtR1 hm | exact mtR2 hm | exact mtR3 hm | exact mtR4 hm | exact mtR5 hm | exact mtR6 hm | exact ruR0 hr | exact ruR1 hr | exact ruR3 hr) ?_
        refine pw_getI 35 rfl dX11_climbers_32 fX11_110 (by first | rfl | assumption | exact rowS hh | exact mtS hm | exact ruS hr | exact mtA1 hm | exact mtA2 hm | exact mtA3 hm | exact mtA4 hm | exact mtA5 hm | exact mtA6 hm | exact mtA7 hm | exact ruA1 hr | exact ruA2 hr | exact ruA3 hr) rfl ?_
        refine pw_icmp_ge (tgt := 62) 38 rfl dX11_climbers_35 rfl (fun h35 => ?_) (fun h35 => absurd (by rw [x1']; (simp (disch := omega) only [nI_leI, nI_ltI, nI_eq, show (0 : Int32) = nI 0 from rfl, not_true_eq_false, not_false_eq_true] <;> omega)) h35)
        refine pw_iload_n 63 rfl dX11_climbers_62 rfl ?_
        refine pw_if_le (tgt := 73) 66 rfl dX11_climbers_63 rfl (fun h63 => ?_) (fun h63 => absurd (by rw [e0]; decide) h63)
        refine pw_aload_n 74 rfl dX11_climbers_73 rfl ?_
        refine pw_getR 77 rfl dX11_climbers_74 fX11_29 (by first | rfl | assumption | exact rowS hh | exact mtS hm | exact ruS hr | exact mtA1 hm | exact mtA2 hm | exact mtA3 hm | exact mtA4 hm | exact mtA5 hm | exact mtA6 hm | exact mtA7 hm | exact ruA1 hr | exact ruA2 hr | exact ruA3 hr) rfl (by first | rfl | assumption | exact mtR0 hm | exact mtR1 hm | exact mtR2 hm | exact mtR3 hm | exact mtR4 hm | exact mtR5 hm | exact mtR6 hm | exact ruR0 hr | exact ruR1 hr | exact ruR3 hr) ?_
        refine pw_callV (as := []) 80 rfl dX11_climbers_77 mX11_121 vX10_clear (x_clearT (d := d + 7)) (by first | rfl | assumption | exact rowS hh | exact mtS hm | exact ruS hr | exact mtA1 hm | exact mtA2 hm | exact mtA3 hm | exact mtA4 hm | exact mtA5 hm | exact mtA6 hm | exact mtA7 hm | exact ruA1 hr | exact ruA2 hr | exact ruA3 hr) rfl (by decide) ⟨rfl, by decide, by decide, show (parseMethodDescriptor yX10_clear.desc).map (fun d => d.parameters.length) = some 0 by decide +kernel⟩ (by omega) (by decide) (Nat.le_of_ble_eq_true rfl) rfl (fun r77 I77 J77 R77 c77 => ?_)
        obtain ⟨rfl, t1, t2, rfl, rfl⟩ := c77
        refine pw_iload_n 81 rfl dX11_climbers_80 rfl ?_
        refine pw_iconst (v := -1) 82 rfl dX11_climbers_81 rfl ?_
        refine pw_icmp_ne (tgt := 89) 85 rfl dX11_climbers_82 rfl (fun h82 => absurd rfl h82) (fun h82 => ?_)
        refine pw_iload_n 86 rfl dX11_climbers_85 rfl ?_
        refine pw_goto (tgt := 92) dX11_climbers_86 rfl ?_
        refine pw_iret dX11_climbers_92 rfl ?_
        rotate_left
        have hf : ∀ a, ¬ (1 ≤ a ∧ a ≤ 8) → a ≠ 17 → I77 a = I a := fun a h1 h2 => by rw [t2 a h2, m2 a h1]
        exact ⟨rfl, ⟨XM_fr m1 (fun a h1 h2 => t2 a (by omega)), XE_fr a2 (hf 9 (by omega) (by omega)) (hf 10 (by omega) (by omega)), XN_fr a3 (hf 19 (by omega) (by omega)), t1, XU_fr a5 (fun a h1 h2 h3 h4 => hf a (by omega) (by omega)), XK_fr a6 (hf 24 (by omega) (by omega)) (hf 38 (by omega) (by omega)) (hf 39 (by omega) (by omega)), XH_fr a7 (hf 62 (by omega) (by omega)) (hf 63 (by omega) (by omega)), XG_fr a8 (by rw [hf 64 (by omega) (by omega)]) (hf 65 (by omega) (by omega))⟩, rfl⟩
    · intro k hk ih I' m1 mZ m2
      have hk2 : 2 * k < tx.length := by omega
      obtain ⟨g1, g2⟩ := hL k hk2
      have hb := isDg_b g1
      obtain ⟨c, hc⟩ : ∃ c, tx[2 * k]? = some c := ⟨_, List.getElem?_eq_getElem hk2⟩
      have ec := getD_s hc
      rw [ec] at hb
      have x1' : I' 17 1 = nI tx.length := by rw [m2 17 (by omega)]; exact x1
      have hT' : XT I' tx := XT_fr a4 (m2 17 (by omega)) (m2 18 (by omega))
      refine pw_iload_n 28 rfl dX11_climbers_27 rfl ?_
      refine pw_aload_n 29 rfl dX11_climbers_28 rfl ?_
      refine pw_getR 32 rfl dX11_climbers_29 fX11_29 (by first | rfl | assumption | exact rowS hh | exact mtS hm | exact ruS hr | exact mtA1 hm | exact mtA2 hm | exact mtA3 hm | exact mtA4 hm | exact mtA5 hm | exact mtA6 hm | exact mtA7 hm | exact ruA1 hr | exact ruA2 hr | exact ruA3 hr) rfl (by first | rfl | assumption | exact mtR0 hm | exact mtR1 hm | exact mtR2 hm | exact mtR3 hm | exact mtR4 hm | exact mtR5 hm | exact mtR6 hm | exact ruR0 hr | exact ruR1 hr | exact ruR3 hr) ?_
      refine pw_getI 35 rfl dX11_climbers_32 fX11_110 (by first | rfl | assumption | exact rowS hh | exact mtS hm | exact ruS hr | exact mtA1 hm | exact mtA2 hm | exact mtA3 hm | exact mtA4 hm | exact mtA5 hm | exact mtA6 hm | exact mtA7 hm | exact ruA1 hr | exact ruA2 hr | exact ruA3 hr) rfl ?_
      refine pw_icmp_ge (tgt := 62) 38 rfl dX11_climbers_35 rfl (fun h35 => absurd h35 (by rw [x1']; (simp (disch := omega) only [nI_leI, nI_ltI, nI_eq, show (0 : Int32) = nI 0 from rfl, not_true_eq_false, not_false_eq_true] <;> omega))) (fun h35 => ?_)
      refine pw_aload_n 39 rfl dX11_climbers_38 rfl ?_
      refine pw_getR 42 rfl dX11_climbers_39 fX11_10 (by first | rfl | assumption | exact rowS hh | exact mtS hm | exact ruS hr | exact mtA1 hm | exact mtA2 hm | exact mtA3 hm | exact mtA4 hm | exact mtA5 hm | exact mtA6 hm | exact mtA7 hm | exact ruA1 hr | exact ruA2 hr | exact ruA3 hr) rfl (by first | rfl | assumption | exact mtR0 hm | exact mtR1 hm | exact mtR2 hm | exact mtR3 hm | exact mtR4 hm | exact mtR5 hm | exact mtR6 hm | exact ruR0 hr | exact ruR1 hr | exact ruR3 hr) ?_
      refine pw_aload_n 43 rfl dX11_climbers_42 rfl ?_
      refine pw_getR 46 rfl dX11_climbers_43 fX11_29 (by first | rfl | assumption | exact rowS hh | exact mtS hm | exact ruS hr | exact mtA1 hm | exact mtA2 hm | exact mtA3 hm | exact mtA4 hm | exact mtA5 hm | exact mtA6 hm | exact mtA7 hm | exact ruA1 hr | exact ruA2 hr | exact ruA3 hr) rfl (by first | rfl | assumption | exact mtR0 hm | exact mtR1 hm | exact mtR2 hm | exact mtR3 hm | exact mtR4 hm | exact mtR5 hm | exact mtR6 hm | exact ruR0 hr | exact ruR1 hr | exact ruR3 hr) ?_
      refine pw_iload_n 47 rfl dX11_climbers_46 rfl ?_
      refine pw_callVP (as := [_]) 50 rfl dX11_climbers_47 mX11_111 vX10_digitAt (x_digitAt (d := d + 6) hT' (show 2 * k ≤ 100 by omega) hc hb.1) (by first | rfl | assumption | exact rowS hh | exact mtS hm | exact ruS hr | exact mtA1 hm | exact mtA2 hm | exact mtA3 hm | exact mtA4 hm | exact mtA5 hm | exact mtA6 hm | exact mtA7 hm | exact ruA1 hr | exact ruA2 hr | exact ruA3 hr) rfl (by decide) ⟨rfl, by decide, by decide, show (parseMethodDescriptor yX10_digitAt.desc).map (fun d => d.parameters.length) = some 1 by decide +kernel⟩ (by omega) (by decide) (Nat.le_of_ble_eq_true rfl) rfl ?_
      refine pw_callV (as := [_]) 53 rfl dX11_climbers_50 mX11_114 vX1_addClimber (x_addClimber (d := d + 7) (p := c - 48) m1 (by omega)) (by first | rfl | assumption | exact rowS hh | exact mtS hm | exact ruS hr | exact mtA1 hm | exact mtA2 hm | exact mtA3 hm | exact mtA4 hm | exact mtA5 hm | exact mtA6 hm | exact mtA7 hm | exact ruA1 hr | exact ruA2 hr | exact ruA3 hr) rfl (by decide) ⟨rfl, by decide, by decide, show (parseMethodDescriptor yX1_addClimber.desc).map (fun d => d.parameters.length) = some 1 by decide +kernel⟩ (by omega) (by decide) (Nat.le_of_ble_eq_true rfl) rfl (fun r50 I50 J50 R50 c50 => ?_)
      obtain ⟨rfl, q1, q2, rfl, rfl⟩ := c50
      rotate_left
      refine pw_iincN 56 rfl dX11_climbers_53 (by decide) rfl ?_
      rotate_left
      refine pw_iincK (c := 2) 59 rfl dX11_climbers_56 (by decide) rfl rfl ?_
      refine pw_goto (tgt := 27) dX11_climbers_59 rfl ?_
      rotate_left
      rw [bu4 mZ (by omega)] at q1
      refine ih I50 ?_ (fun j h1 h2 => mZ j (by omega) h2) (fun a ha => by rw [q2 a (by omega), m2 a ha])
      rw [pcA, ec]
      exact q1
  · have hp := wrC_le x2 e
    have hne : ¬ nI p = -1 := fun z => nI_pos (show p < 2 ^ 31 by omega) (by rw [z]; decide)
    rw [show wrV (some p) = nI p from rfl]
    refine pw_iload_n 21 rfl dX11_climbers_20 rfl ?_
    refine pw_iconst (v := -1) 22 rfl dX11_climbers_21 rfl ?_
    refine pw_icmp_ne (tgt := 73) 25 rfl dX11_climbers_22 rfl (fun h22 => ?_) (fun h22 => absurd h22 hne)
    refine pw_aload_n 74 rfl dX11_climbers_73 rfl ?_
    refine pw_getR 77 rfl dX11_climbers_74 fX11_29 (by first | rfl | assumption | exact rowS hh | exact mtS hm | exact ruS hr | exact mtA1 hm | exact mtA2 hm | exact mtA3 hm | exact mtA4 hm | exact mtA5 hm | exact mtA6 hm | exact mtA7 hm | exact ruA1 hr | exact ruA2 hr | exact ruA3 hr) rfl (by first | rfl | assumption | exact mtR0 hm | exact mtR1 hm | exact mtR2 hm | exact mtR3 hm | exact mtR4 hm | exact mtR5 hm | exact mtR6 hm | exact ruR0 hr | exact ruR1 hr | exact ruR3 hr) ?_
    refine pw_callV (as := []) 80 rfl dX11_climbers_77 mX11_121 vX10_clear (x_clearT (d := d + 7)) (by first | rfl | assumption | exact rowS hh | exact mtS hm | exact ruS hr | exact mtA1 hm | exact mtA2 hm | exact mtA3 hm | exact mtA4 hm | exact mtA5 hm | exact mtA6 hm | exact mtA7 hm | exact ruA1 hr | exact ruA2 hr | exact ruA3 hr) rfl (by decide) ⟨rfl, by decide, by decide, show (parseMethodDescriptor yX10_clear.desc).map (fun d => d.parameters.length) = some 0 by decide +kernel⟩ (by omega) (by decide) (Nat.le_of_ble_eq_true rfl) rfl (fun r77 I77 J77 R77 c77 => ?_)
    obtain ⟨rfl, t1, t2, rfl, rfl⟩ := c77
    refine pw_iload_n 81 rfl dX11_climbers_80 rfl ?_
    refine pw_iconst (v := -1) 82 rfl dX11_climbers_81 rfl ?_
    refine pw_icmp_ne (tgt := 89) 85 rfl dX11_climbers_82 rfl (fun h82 => ?_) (fun h82 => absurd h82 hne)
    refine pw_iconst (v := -1) 90 rfl dX11_climbers_89 rfl ?_
    refine pw_iload_n 91 rfl dX11_climbers_90 rfl ?_
    refine pw_isub 92 rfl dX11_climbers_91 ?_
    refine pw_iret dX11_climbers_92 rfl ?_
    rotate_left
    exact ⟨rfl, XA_tx hA (fun a h1 h2 => t2 a h1) t1, rfl⟩
