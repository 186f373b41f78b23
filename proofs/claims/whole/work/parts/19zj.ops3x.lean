/-! the class's methods that change the mountain -/
def fN (I I' : pI) : Prop := ∀ a, a = 9 ∨ a = 10 ∨ a = 17 ∨ a = 18 ∨ a = 24 ∨ a = 38 ∨ a = 39 ∨ (62 ≤ a ∧ a ≤ 65) → I' a = I a
theorem XA_mt {I I' : pI} {J J' : pJ} {n n' : Nat} {pc b pc' b' : Nat → Nat} {us us' : List (Nat → Nat)} {kp : Nat → Option (Nat → Nat)} {rw rw' : List Int64} {tx rt : List Nat} {hd sw : List (Nat × Nat)} (h : XA I J (n, pc, b, us, kp, rw, tx, rt, hd, sw)) (p2 : fN I I') (m1 : XM I' 1 n' pc' b') (m2 : XU I' us') (m3 : XN I' J' rw') : XA I' J' (n', pc', b', us', kp, rw', tx, rt, hd, sw) := by
  obtain ⟨a1, a2, a3, a4, a5, a6, a7, a8⟩ := h
  exact ⟨m1, XE_fr a2 (p2 9 (by omega)) (p2 10 (by omega)), m3, XT_fr a4 (p2 17 (by omega)) (p2 18 (by omega)), m2, XK_fr a6 (p2 24 (by omega)) (p2 38 (by omega)) (p2 39 (by omega)), XH_fr a7 (p2 62 (by omega)) (p2 63 (by omega)), XG_fr a8 (by rw [p2 64 (by omega)]) (p2 65 (by omega))⟩
def usA (us : List (Nat → Nat)) (b : Nat → Nat) (r : Int32) : List (Nat → Nat) := if r < 0 then us else aKeep us b
set_option maxRecDepth 100000 in
set_option maxHeartbeats 2000000 in
theorem x_noteIfDone {d : Nat} {b : Nat → Nat} {us : List (Nat → Nat)} {I : pI} {J : pJ} (hU : XU I us) (hP : Pg (I 25) b 7) (r : Int32) : PC SX (d + 2) yX11_noteIfDone cX11_noteIfDone 2 (some .int) [.ref 0, .int r] (I) (J) (RX) (fun r' I' J' R' => r' = some (.int r) ∧ XU I' (usA us b r) ∧ (∀ a, ¬ (21 ≤ a ∧ a ≤ 37 ∧ a ≠ 24 ∧ a ≠ 25) → I' a = I a) ∧ J = J' ∧ R' = RX) := by
  refine PC.of [some (.ref 0), some (.int r)] rfl rfl (Nat.le_of_ble_eq_true rfl) ?_
  unfold usA
  by_cases h : r < 0
  · rw [if_pos h]
    refine pw_iload_n 1 rfl dX11_noteIfDone_0 rfl ?_
    refine pw_if_lt (tgt := 11) 4 rfl dX11_noteIfDone_1 rfl (fun h1 => ?_) (fun h1 => absurd h h1)
    refine pw_iload_n 12 rfl dX11_noteIfDone_11 rfl ?_
    refine pw_iret dX11_noteIfDone_12 rfl ?_
    rotate_left
    exact ⟨rfl, hU, fun _ _ => rfl, rfl, rfl⟩
  · rw [if_neg h]
    refine pw_iload_n 1 rfl dX11_noteIfDone_0 rfl ?_
    refine pw_if_lt (tgt := 11) 4 rfl dX11_noteIfDone_1 rfl (fun h1 => absurd h1 h) (fun h1 => ?_)
    refine pw_aload_n 5 rfl dX11_noteIfDone_4 rfl ?_
    refine pw_getR 8 rfl dX11_noteIfDone_5 fX11_43 (by first | rfl | assumption | exact rowS hh | exact mtS hm | exact ruS hr | exact mtA1 hm | exact mtA2 hm | exact mtA3 hm | exact mtA4 hm | exact mtA5 hm | exact mtA6 hm | exact mtA7 hm | exact ruA1 hr | exact ruA2 hr | exact ruA3 hr) rfl (by first | rfl | assumption | exact mtR0 hm | exact mtR1 hm | exact mtR2 hm | exact mtR3 hm | exact mtR4 hm | exact mtR5 hm | exact mtR6 hm | exact ruR0 hr | exact ruR1 hr | exact ruR3 hr) ?_
    refine pw_callV (as := []) 11 rfl dX11_noteIfDone_8 mX11_190 vX4_keepNoted (x_keepNoted (d := d) hU hP) (by first | rfl | assumption | exact rowS hh | exact mtS hm | exact ruS hr | exact mtA1 hm | exact mtA2 hm | exact mtA3 hm | exact mtA4 hm | exact mtA5 hm | exact mtA6 hm | exact mtA7 hm | exact ruA1 hr | exact ruA2 hr | exact ruA3 hr) rfl (by decide) ⟨rfl, by decide, by decide, show (parseMethodDescriptor yX4_keepNoted.desc).map (fun d => d.parameters.length) = some 0 by decide +kernel⟩ (by omega) (by decide) (Nat.le_of_ble_eq_true rfl) rfl (fun r8 I8 J8 R8 c8 => ?_)
    obtain ⟨rfl, p1, p2, rfl, rfl⟩ := c8
    refine pw_iload_n 12 rfl dX11_noteIfDone_11 rfl ?_
    refine pw_iret dX11_noteIfDone_12 rfl ?_
    rotate_left
    exact ⟨rfl, p1, p2, rfl, rfl⟩
def oAct (f : Nat → (Nat → Nat) → Int32 × (Nat → Nat)) : aSt → Int32 × aSt
  | (n, pc, b, us, kp, rw, tx, rt, hd, sw) => ((f n b).1, (n, pc, (f n b).2, usA us b (f n b).1, kp, rw, tx, rt, hd, sw))
set_option maxRecDepth 100000 in
set_option maxHeartbeats 2000000 in
theorem xo_top {d : Nat} {s : aSt} {I : pI} {J : pJ} (hA : XA I J s) (hW : WA s) (w : Int32) : PC SX (d + 8) yX11_top cX11_top 2 (some .int) [.ref 0, .int w] (I) (J) (RX) (oP (oAct (fun n b => aTop n b w) s)) := by
  refine PC.of [some (.ref 0), some (.int w)] rfl rfl (Nat.le_of_ble_eq_true rfl) ?_
  obtain ⟨n, pc, b, us, kp, rw, tx, rt, hd, sw⟩ := s
  obtain ⟨a1, a2, a3, a4, a5, a6, a7, a8⟩ := id hA
  obtain ⟨aW, -, -⟩ := id hW
  refine pw_aload_n 1 rfl dX11_top_0 rfl ?_
  refine pw_getR 4 rfl dX11_top_1 fX11_43 (by first | rfl | assumption | exact rowS hh | exact mtS hm | exact ruS hr | exact mtA1 hm | exact mtA2 hm | exact mtA3 hm | exact mtA4 hm | exact mtA5 hm | exact mtA6 hm | exact mtA7 hm | exact ruA1 hr | exact ruA2 hr | exact ruA3 hr) rfl (by first | rfl | assumption | exact mtR0 hm | exact mtR1 hm | exact mtR2 hm | exact mtR3 hm | exact mtR4 hm | exact mtR5 hm | exact mtR6 hm | exact ruR0 hr | exact ruR1 hr | exact ruR3 hr) ?_
  refine pw_aload_n 5 rfl dX11_top_4 rfl ?_
  refine pw_getR 8 rfl dX11_top_5 fX11_10 (by first | rfl | assumption | exact rowS hh | exact mtS hm | exact ruS hr | exact mtA1 hm | exact mtA2 hm | exact mtA3 hm | exact mtA4 hm | exact mtA5 hm | exact mtA6 hm | exact mtA7 hm | exact ruA1 hr | exact ruA2 hr | exact ruA3 hr) rfl (by first | rfl | assumption | exact mtR0 hm | exact mtR1 hm | exact mtR2 hm | exact mtR3 hm | exact mtR4 hm | exact mtR5 hm | exact mtR6 hm | exact ruR0 hr | exact ruR1 hr | exact ruR3 hr) ?_
  refine pw_callV (as := [_]) 11 rfl dX11_top_8 mX11_132 vX4_note (x_note (d := d + 6) a1) (by first | rfl | assumption | exact rowS hh | exact mtS hm | exact ruS hr | exact mtA1 hm | exact mtA2 hm | exact mtA3 hm | exact mtA4 hm | exact mtA5 hm | exact mtA6 hm | exact mtA7 hm | exact ruA1 hr | exact ruA2 hr | exact ruA3 hr) rfl (by decide) ⟨rfl, by decide, by decide, show (parseMethodDescriptor yX4_note.desc).map (fun d => d.parameters.length) = some 1 by decide +kernel⟩ (by omega) (by decide) (Nat.le_of_ble_eq_true rfl) rfl (fun r8 I8 J8 R8 c8 => ?_)
  obtain ⟨rfl, g1, g2, rfl, rfl⟩ := c8
  rotate_left
  have hM1 : XM I8 1 n pc b := XM_fr a1 (fun a h1 h2 => g2 a (by omega))
  refine pw_aload_n 12 rfl dX11_top_11 rfl ?_
  refine pw_aload_n 13 rfl dX11_top_12 rfl ?_
  refine pw_getR 16 rfl dX11_top_13 fX11_10 (by first | rfl | assumption | exact rowS hh | exact mtS hm | exact ruS hr | exact mtA1 hm | exact mtA2 hm | exact mtA3 hm | exact mtA4 hm | exact mtA5 hm | exact mtA6 hm | exact mtA7 hm | exact ruA1 hr | exact ruA2 hr | exact ruA3 hr) rfl (by first | rfl | assumption | exact mtR0 hm | exact mtR1 hm | exact mtR2 hm | exact mtR3 hm | exact mtR4 hm | exact mtR5 hm | exact mtR6 hm | exact ruR0 hr | exact ruR1 hr | exact ruR3 hr) ?_
  refine pw_iload_n 17 rfl dX11_top_16 rfl ?_
  refine pw_callV (as := [_]) 20 rfl dX11_top_17 mX11_136 vX1_changeTop (x_changeTop (d := d + 5) (Or.inl rfl) hM1 aW.1 aW.2.1 w) (by first | rfl | assumption | exact rowS hh | exact mtS hm | exact ruS hr | exact mtA1 hm | exact mtA2 hm | exact mtA3 hm | exact mtA4 hm | exact mtA5 hm | exact mtA6 hm | exact mtA7 hm | exact ruA1 hr | exact ruA2 hr | exact ruA3 hr) rfl (by decide) ⟨rfl, by decide, by decide, show (parseMethodDescriptor yX1_changeTop.desc).map (fun d => d.parameters.length) = some 1 by decide +kernel⟩ (by omega) (by decide) (Nat.le_of_ble_eq_true rfl) rfl (fun r17 I17 J17 R17 c17 => ?_)
  obtain ⟨rfl, k1, -, k2, rfl, rfl⟩ := c17
  rotate_left
  have hU1 : XU I17 us := XU_fr a5 (fun a h1 h2 h3 h4 => by rw [k2 a (by omega), g2 a (by omega)])
  have hP1 : Pg (I17 25) b 7 := by rw [k2 25 (by omega)]; exact g1
  refine pw_callV (as := [_]) 23 rfl dX11_top_20 mX11_139 vX11_noteIfDone (x_noteIfDone (d := d + 5) hU1 hP1 (aTop n b w).1) (by first | rfl | assumption | exact rowS hh | exact mtS hm | exact ruS hr | exact mtA1 hm | exact mtA2 hm | exact mtA3 hm | exact mtA4 hm | exact mtA5 hm | exact mtA6 hm | exact mtA7 hm | exact ruA1 hr | exact ruA2 hr | exact ruA3 hr) rfl (by decide) ⟨rfl, by decide, by decide, show (parseMethodDescriptor yX11_noteIfDone.desc).map (fun d => d.parameters.length) = some 1 by decide +kernel⟩ (by omega) (by decide) (Nat.le_of_ble_eq_true rfl) rfl (fun r20 I20 J20 R20 c20 => ?_)
  obtain ⟨rfl, q1, q2, rfl, rfl⟩ := c20
  rotate_left
  refine pw_iret dX11_top_23 rfl ?_
  rotate_left
  exact ⟨rfl, XA_mt hA (fun a ha => by rw [q2 a (by omega), k2 a (by omega), g2 a (by omega)]) (XM_fr k1 (fun a h1 h2 => q2 a (by omega))) q1 (XN_fr a3 (by rw [q2 19 (by omega), k2 19 (by omega), g2 19 (by omega)])), rfl⟩
set_option maxRecDepth 100000 in
set_option maxHeartbeats 2000000 in
theorem xo_starts {d : Nat} {s : aSt} {I : pI} {J : pJ} (hA : XA I J s) (hW : WA s) (w : Int32) : PC SX (d + 8) yX11_starts cX11_starts 2 (some .int) [.ref 0, .int w] (I) (J) (RX) (oP (oAct (fun n b => aSet n b w) s)) := by
  refine PC.of [some (.ref 0), some (.int w)] rfl rfl (Nat.le_of_ble_eq_true rfl) ?_
  obtain ⟨n, pc, b, us, kp, rw, tx, rt, hd, sw⟩ := s
  obtain ⟨a1, a2, a3, a4, a5, a6, a7, a8⟩ := id hA
  obtain ⟨aW, -, -⟩ := id hW
  refine pw_aload_n 1 rfl dX11_starts_0 rfl ?_
  refine pw_getR 4 rfl dX11_starts_1 fX11_43 (by first | rfl | assumption | exact rowS hh | exact mtS hm | exact ruS hr | exact mtA1 hm | exact mtA2 hm | exact mtA3 hm | exact mtA4 hm | exact mtA5 hm | exact mtA6 hm | exact mtA7 hm | exact ruA1 hr | exact ruA2 hr | exact ruA3 hr) rfl (by first | rfl | assumption | exact mtR0 hm | exact mtR1 hm | exact mtR2 hm | exact mtR3 hm | exact mtR4 hm | exact mtR5 hm | exact mtR6 hm | exact ruR0 hr | exact ruR1 hr | exact ruR3 hr) ?_
  refine pw_aload_n 5 rfl dX11_starts_4 rfl ?_
  refine pw_getR 8 rfl dX11_starts_5 fX11_10 (by first | rfl | assumption | exact rowS hh | exact mtS hm | exact ruS hr | exact mtA1 hm | exact mtA2 hm | exact mtA3 hm | exact mtA4 hm | exact mtA5 hm | exact mtA6 hm | exact mtA7 hm | exact ruA1 hr | exact ruA2 hr | exact ruA3 hr) rfl (by first | rfl | assumption | exact mtR0 hm | exact mtR1 hm | exact mtR2 hm | exact mtR3 hm | exact mtR4 hm | exact mtR5 hm | exact mtR6 hm | exact ruR0 hr | exact ruR1 hr | exact ruR3 hr) ?_
  refine pw_callV (as := [_]) 11 rfl dX11_starts_8 mX11_132 vX4_note (x_note (d := d + 6) a1) (by first | rfl | assumption | exact rowS hh | exact mtS hm | exact ruS hr | exact mtA1 hm | exact mtA2 hm | exact mtA3 hm | exact mtA4 hm | exact mtA5 hm | exact mtA6 hm | exact mtA7 hm | exact ruA1 hr | exact ruA2 hr | exact ruA3 hr) rfl (by decide) ⟨rfl, by decide, by decide, show (parseMethodDescriptor yX4_note.desc).map (fun d => d.parameters.length) = some 1 by decide +kernel⟩ (by omega) (by decide) (Nat.le_of_ble_eq_true rfl) rfl (fun r8 I8 J8 R8 c8 => ?_)
  obtain ⟨rfl, g1, g2, rfl, rfl⟩ := c8
  rotate_left
  have hM1 : XM I8 1 n pc b := XM_fr a1 (fun a h1 h2 => g2 a (by omega))
  refine pw_aload_n 12 rfl dX11_starts_11 rfl ?_
  refine pw_aload_n 13 rfl dX11_starts_12 rfl ?_
  refine pw_getR 16 rfl dX11_starts_13 fX11_10 (by first | rfl | assumption | exact rowS hh | exact mtS hm | exact ruS hr | exact mtA1 hm | exact mtA2 hm | exact mtA3 hm | exact mtA4 hm | exact mtA5 hm | exact mtA6 hm | exact mtA7 hm | exact ruA1 hr | exact ruA2 hr | exact ruA3 hr) rfl (by first | rfl | assumption | exact mtR0 hm | exact mtR1 hm | exact mtR2 hm | exact mtR3 hm | exact mtR4 hm | exact mtR5 hm | exact mtR6 hm | exact ruR0 hr | exact ruR1 hr | exact ruR3 hr) ?_
  refine pw_iload_n 17 rfl dX11_starts_16 rfl ?_
  refine pw_callV (as := [_]) 20 rfl dX11_starts_17 mX11_204 vX1_setOut (x_setOut (d := d + 5) (Or.inl rfl) hM1 aW.1 w) (by first | rfl | assumption | exact rowS hh | exact mtS hm | exact ruS hr | exact mtA1 hm | exact mtA2 hm | exact mtA3 hm | exact mtA4 hm | exact mtA5 hm | exact mtA6 hm | exact mtA7 hm | exact ruA1 hr | exact ruA2 hr | exact ruA3 hr) rfl (by decide) ⟨rfl, by decide, by decide, show (parseMethodDescriptor yX1_setOut.desc).map (fun d => d.parameters.length) = some 1 by decide +kernel⟩ (by omega) (by decide) (Nat.le_of_ble_eq_true rfl) rfl (fun r17 I17 J17 R17 c17 => ?_)
  obtain ⟨rfl, k1, -, k2, rfl, rfl⟩ := c17
  rotate_left
  have hU1 : XU I17 us := XU_fr a5 (fun a h1 h2 h3 h4 => by rw [k2 a (by omega), g2 a (by omega)])
  have hP1 : Pg (I17 25) b 7 := by rw [k2 25 (by omega)]; exact g1
  refine pw_callV (as := [_]) 23 rfl dX11_starts_20 mX11_139 vX11_noteIfDone (x_noteIfDone (d := d + 5) hU1 hP1 (aSet n b w).1) (by first | rfl | assumption | exact rowS hh | exact mtS hm | exact ruS hr | exact mtA1 hm | exact mtA2 hm | exact mtA3 hm | exact mtA4 hm | exact mtA5 hm | exact mtA6 hm | exact mtA7 hm | exact ruA1 hr | exact ruA2 hr | exact ruA3 hr) rfl (by decide) ⟨rfl, by decide, by decide, show (parseMethodDescriptor yX11_noteIfDone.desc).map (fun d => d.parameters.length) = some 1 by decide +kernel⟩ (by omega) (by decide) (Nat.le_of_ble_eq_true rfl) rfl (fun r20 I20 J20 R20 c20 => ?_)
  obtain ⟨rfl, q1, q2, rfl, rfl⟩ := c20
  rotate_left
  refine pw_iret dX11_starts_23 rfl ?_
  rotate_left
  exact ⟨rfl, XA_mt hA (fun a ha => by rw [q2 a (by omega), k2 a (by omega), g2 a (by omega)]) (XM_fr k1 (fun a h1 h2 => q2 a (by omega))) q1 (XN_fr a3 (by rw [q2 19 (by omega), k2 19 (by omega), g2 19 (by omega)])), rfl⟩
set_option maxRecDepth 100000 in
set_option maxHeartbeats 2000000 in
theorem xo_backs {d : Nat} {s : aSt} {I : pI} {J : pJ} (hA : XA I J s) (hW : WA s) (w : Int32) : PC SX (d + 8) yX11_backs cX11_backs 2 (some .int) [.ref 0, .int w] (I) (J) (RX) (oP (oAct (fun n b => aTurn n b w) s)) := by
  refine PC.of [some (.ref 0), some (.int w)] rfl rfl (Nat.le_of_ble_eq_true rfl) ?_
  obtain ⟨n, pc, b, us, kp, rw, tx, rt, hd, sw⟩ := s
  obtain ⟨a1, a2, a3, a4, a5, a6, a7, a8⟩ := id hA
  obtain ⟨aW, -, -⟩ := id hW
  refine pw_aload_n 1 rfl dX11_backs_0 rfl ?_
  refine pw_getR 4 rfl dX11_backs_1 fX11_43 (by first | rfl | assumption | exact rowS hh | exact mtS hm | exact ruS hr | exact mtA1 hm | exact mtA2 hm | exact mtA3 hm | exact mtA4 hm | exact mtA5 hm | exact mtA6 hm | exact mtA7 hm | exact ruA1 hr | exact ruA2 hr | exact ruA3 hr) rfl (by first | rfl | assumption | exact mtR0 hm | exact mtR1 hm | exact mtR2 hm | exact mtR3 hm | exact mtR4 hm | exact mtR5 hm | exact mtR6 hm | exact ruR0 hr | exact ruR1 hr | exact ruR3 hr) ?_
  refine pw_aload_n 5 rfl dX11_backs_4 rfl ?_
  refine pw_getR 8 rfl dX11_backs_5 fX11_10 (by first | rfl | assumption | exact rowS hh | exact mtS hm | exact ruS hr | exact mtA1 hm | exact mtA2 hm | exact mtA3 hm | exact mtA4 hm | exact mtA5 hm | exact mtA6 hm | exact mtA7 hm | exact ruA1 hr | exact ruA2 hr | exact ruA3 hr) rfl (by first | rfl | assumption | exact mtR0 hm | exact mtR1 hm | exact mtR2 hm | exact mtR3 hm | exact mtR4 hm | exact mtR5 hm | exact mtR6 hm | exact ruR0 hr | exact ruR1 hr | exact ruR3 hr) ?_
  refine pw_callV (as := [_]) 11 rfl dX11_backs_8 mX11_132 vX4_note (x_note (d := d + 6) a1) (by first | rfl | assumption | exact rowS hh | exact mtS hm | exact ruS hr | exact mtA1 hm | exact mtA2 hm | exact mtA3 hm | exact mtA4 hm | exact mtA5 hm | exact mtA6 hm | exact mtA7 hm | exact ruA1 hr | exact ruA2 hr | exact ruA3 hr) rfl (by decide) ⟨rfl, by decide, by decide, show (parseMethodDescriptor yX4_note.desc).map (fun d => d.parameters.length) = some 1 by decide +kernel⟩ (by omega) (by decide) (Nat.le_of_ble_eq_true rfl) rfl (fun r8 I8 J8 R8 c8 => ?_)
  obtain ⟨rfl, g1, g2, rfl, rfl⟩ := c8
  rotate_left
  have hM1 : XM I8 1 n pc b := XM_fr a1 (fun a h1 h2 => g2 a (by omega))
  refine pw_aload_n 12 rfl dX11_backs_11 rfl ?_
  refine pw_aload_n 13 rfl dX11_backs_12 rfl ?_
  refine pw_getR 16 rfl dX11_backs_13 fX11_10 (by first | rfl | assumption | exact rowS hh | exact mtS hm | exact ruS hr | exact mtA1 hm | exact mtA2 hm | exact mtA3 hm | exact mtA4 hm | exact mtA5 hm | exact mtA6 hm | exact mtA7 hm | exact ruA1 hr | exact ruA2 hr | exact ruA3 hr) rfl (by first | rfl | assumption | exact mtR0 hm | exact mtR1 hm | exact mtR2 hm | exact mtR3 hm | exact mtR4 hm | exact mtR5 hm | exact mtR6 hm | exact ruR0 hr | exact ruR1 hr | exact ruR3 hr) ?_
  refine pw_iload_n 17 rfl dX11_backs_16 rfl ?_
  refine pw_callV (as := [_]) 20 rfl dX11_backs_17 mX11_207 vX1_turnRound (x_turnRound (d := d + 6) (Or.inl rfl) hM1 aW.1 w) (by first | rfl | assumption | exact rowS hh | exact mtS hm | exact ruS hr | exact mtA1 hm | exact mtA2 hm | exact mtA3 hm | exact mtA4 hm | exact mtA5 hm | exact mtA6 hm | exact mtA7 hm | exact ruA1 hr | exact ruA2 hr | exact ruA3 hr) rfl (by decide) ⟨rfl, by decide, by decide, show (parseMethodDescriptor yX1_turnRound.desc).map (fun d => d.parameters.length) = some 1 by decide +kernel⟩ (by omega) (by decide) (Nat.le_of_ble_eq_true rfl) rfl (fun r17 I17 J17 R17 c17 => ?_)
  obtain ⟨rfl, k1, -, k2, rfl, rfl⟩ := c17
  rotate_left
  have hU1 : XU I17 us := XU_fr a5 (fun a h1 h2 h3 h4 => by rw [k2 a (by omega), g2 a (by omega)])
  have hP1 : Pg (I17 25) b 7 := by rw [k2 25 (by omega)]; exact g1
  refine pw_callV (as := [_]) 23 rfl dX11_backs_20 mX11_139 vX11_noteIfDone (x_noteIfDone (d := d + 5) hU1 hP1 (aTurn n b w).1) (by first | rfl | assumption | exact rowS hh | exact mtS hm | exact ruS hr | exact mtA1 hm | exact mtA2 hm | exact mtA3 hm | exact mtA4 hm | exact mtA5 hm | exact mtA6 hm | exact mtA7 hm | exact ruA1 hr | exact ruA2 hr | exact ruA3 hr) rfl (by decide) ⟨rfl, by decide, by decide, show (parseMethodDescriptor yX11_noteIfDone.desc).map (fun d => d.parameters.length) = some 1 by decide +kernel⟩ (by omega) (by decide) (Nat.le_of_ble_eq_true rfl) rfl (fun r20 I20 J20 R20 c20 => ?_)
  obtain ⟨rfl, q1, q2, rfl, rfl⟩ := c20
  rotate_left
  refine pw_iret dX11_backs_23 rfl ?_
  rotate_left
  exact ⟨rfl, XA_mt hA (fun a ha => by rw [q2 a (by omega), k2 a (by omega), g2 a (by omega)]) (XM_fr k1 (fun a h1 h2 => q2 a (by omega))) q1 (XN_fr a3 (by rw [q2 19 (by omega), k2 19 (by omega), g2 19 (by omega)])), rfl⟩
set_option maxRecDepth 100000 in
set_option maxHeartbeats 2000000 in
theorem xo_waits {d : Nat} {s : aSt} {I : pI} {J : pJ} (hA : XA I J s) (hW : WA s) (w v : Int32) : PC SX (d + 8) yX11_waits cX11_waits 3 (some .int) [.ref 0, .int w, .int v] (I) (J) (RX) (oP (oAct (fun n b => aWait n b w v) s)) := by
  refine PC.of [some (.ref 0), some (.int w), some (.int v)] rfl rfl (Nat.le_of_ble_eq_true rfl) ?_
  obtain ⟨n, pc, b, us, kp, rw, tx, rt, hd, sw⟩ := s
  obtain ⟨a1, a2, a3, a4, a5, a6, a7, a8⟩ := id hA
  obtain ⟨aW, -, -⟩ := id hW
  refine pw_aload_n 1 rfl dX11_waits_0 rfl ?_
  refine pw_getR 4 rfl dX11_waits_1 fX11_43 (by first | rfl | assumption | exact rowS hh | exact mtS hm | exact ruS hr | exact mtA1 hm | exact mtA2 hm | exact mtA3 hm | exact mtA4 hm | exact mtA5 hm | exact mtA6 hm | exact mtA7 hm | exact ruA1 hr | exact ruA2 hr | exact ruA3 hr) rfl (by first | rfl | assumption | exact mtR0 hm | exact mtR1 hm | exact mtR2 hm | exact mtR3 hm | exact mtR4 hm | exact mtR5 hm | exact mtR6 hm | exact ruR0 hr | exact ruR1 hr | exact ruR3 hr) ?_
  refine pw_aload_n 5 rfl dX11_waits_4 rfl ?_
  refine pw_getR 8 rfl dX11_waits_5 fX11_10 (by first | rfl | assumption | exact rowS hh | exact mtS hm | exact ruS hr | exact mtA1 hm | exact mtA2 hm | exact mtA3 hm | exact mtA4 hm | exact mtA5 hm | exact mtA6 hm | exact mtA7 hm | exact ruA1 hr | exact ruA2 hr | exact ruA3 hr) rfl (by first | rfl | assumption | exact mtR0 hm | exact mtR1 hm | exact mtR2 hm | exact mtR3 hm | exact mtR4 hm | exact mtR5 hm | exact mtR6 hm | exact ruR0 hr | exact ruR1 hr | exact ruR3 hr) ?_
  refine pw_callV (as := [_]) 11 rfl dX11_waits_8 mX11_132 vX4_note (x_note (d := d + 6) a1) (by first | rfl | assumption | exact rowS hh | exact mtS hm | exact ruS hr | exact mtA1 hm | exact mtA2 hm | exact mtA3 hm | exact mtA4 hm | exact mtA5 hm | exact mtA6 hm | exact mtA7 hm | exact ruA1 hr | exact ruA2 hr | exact ruA3 hr) rfl (by decide) ⟨rfl, by decide, by decide, show (parseMethodDescriptor yX4_note.desc).map (fun d => d.parameters.length) = some 1 by decide +kernel⟩ (by omega) (by decide) (Nat.le_of_ble_eq_true rfl) rfl (fun r8 I8 J8 R8 c8 => ?_)
  obtain ⟨rfl, g1, g2, rfl, rfl⟩ := c8
  rotate_left
  have hM1 : XM I8 1 n pc b := XM_fr a1 (fun a h1 h2 => g2 a (by omega))
  refine pw_aload_n 12 rfl dX11_waits_11 rfl ?_
  refine pw_aload_n 13 rfl dX11_waits_12 rfl ?_
  refine pw_getR 16 rfl dX11_waits_13 fX11_10 (by first | rfl | assumption | exact rowS hh | exact mtS hm | exact ruS hr | exact mtA1 hm | exact mtA2 hm | exact mtA3 hm | exact mtA4 hm | exact mtA5 hm | exact mtA6 hm | exact mtA7 hm | exact ruA1 hr | exact ruA2 hr | exact ruA3 hr) rfl (by first | rfl | assumption | exact mtR0 hm | exact mtR1 hm | exact mtR2 hm | exact mtR3 hm | exact mtR4 hm | exact mtR5 hm | exact mtR6 hm | exact ruR0 hr | exact ruR1 hr | exact ruR3 hr) ?_
  refine pw_iload_n 17 rfl dX11_waits_16 rfl ?_
  refine pw_iload_n 18 rfl dX11_waits_17 rfl ?_
  refine pw_callV (as := [_, _]) 21 rfl dX11_waits_18 mX11_210 vX1_waitMore (x_waitMore (d := d + 6) (Or.inl rfl) hM1 aW.1 w v) (by first | rfl | assumption | exact rowS hh | exact mtS hm | exact ruS hr | exact mtA1 hm | exact mtA2 hm | exact mtA3 hm | exact mtA4 hm | exact mtA5 hm | exact mtA6 hm | exact mtA7 hm | exact ruA1 hr | exact ruA2 hr | exact ruA3 hr) rfl (by decide) ⟨rfl, by decide, by decide, show (parseMethodDescriptor yX1_waitMore.desc).map (fun d => d.parameters.length) = some 2 by decide +kernel⟩ (by omega) (by decide) (Nat.le_of_ble_eq_true rfl) rfl (fun r18 I18 J18 R18 c18 => ?_)
  obtain ⟨rfl, k1, -, k2, rfl, rfl⟩ := c18
  rotate_left
  have hU1 : XU I18 us := XU_fr a5 (fun a h1 h2 h3 h4 => by rw [k2 a (by omega), g2 a (by omega)])
  have hP1 : Pg (I18 25) b 7 := by rw [k2 25 (by omega)]; exact g1
  refine pw_callV (as := [_]) 24 rfl dX11_waits_21 mX11_139 vX11_noteIfDone (x_noteIfDone (d := d + 5) hU1 hP1 (aWait n b w v).1) (by first | rfl | assumption | exact rowS hh | exact mtS hm | exact ruS hr | exact mtA1 hm | exact mtA2 hm | exact mtA3 hm | exact mtA4 hm | exact mtA5 hm | exact mtA6 hm | exact mtA7 hm | exact ruA1 hr | exact ruA2 hr | exact ruA3 hr) rfl (by decide) ⟨rfl, by decide, by decide, show (parseMethodDescriptor yX11_noteIfDone.desc).map (fun d => d.parameters.length) = some 1 by decide +kernel⟩ (by omega) (by decide) (Nat.le_of_ble_eq_true rfl) rfl (fun r21 I21 J21 R21 c21 => ?_)
  obtain ⟨rfl, q1, q2, rfl, rfl⟩ := c21
  rotate_left
  refine pw_iret dX11_waits_24 rfl ?_
  rotate_left
  exact ⟨rfl, XA_mt hA (fun a ha => by rw [q2 a (by omega), k2 a (by omega), g2 a (by omega)]) (XM_fr k1 (fun a h1 h2 => q2 a (by omega))) q1 (XN_fr a3 (by rw [q2 19 (by omega), k2 19 (by omega), g2 19 (by omega)])), rfl⟩
set_option maxRecDepth 100000 in
set_option maxHeartbeats 2000000 in
theorem xo_slips {d : Nat} {s : aSt} {I : pI} {J : pJ} (hA : XA I J s) (hW : WA s) (w v : Int32) : PC SX (d + 8) yX11_slips cX11_slips 3 (some .int) [.ref 0, .int w, .int v] (I) (J) (RX) (oP (oAct (fun n b => aSlip n b w v) s)) := by
  refine PC.of [some (.ref 0), some (.int w), some (.int v)] rfl rfl (Nat.le_of_ble_eq_true rfl) ?_
  obtain ⟨n, pc, b, us, kp, rw, tx, rt, hd, sw⟩ := s
  obtain ⟨a1, a2, a3, a4, a5, a6, a7, a8⟩ := id hA
  obtain ⟨aW, -, -⟩ := id hW
  refine pw_aload_n 1 rfl dX11_slips_0 rfl ?_
  refine pw_getR 4 rfl dX11_slips_1 fX11_43 (by first | rfl | assumption | exact rowS hh | exact mtS hm | exact ruS hr | exact mtA1 hm | exact mtA2 hm | exact mtA3 hm | exact mtA4 hm | exact mtA5 hm | exact mtA6 hm | exact mtA7 hm | exact ruA1 hr | exact ruA2 hr | exact ruA3 hr) rfl (by first | rfl | assumption | exact mtR0 hm | exact mtR1 hm | exact mtR2 hm | exact mtR3 hm | exact mtR4 hm | exact mtR5 hm | exact mtR6 hm | exact ruR0 hr | exact ruR1 hr | exact ruR3 hr) ?_
  refine pw_aload_n 5 rfl dX11_slips_4 rfl ?_
  refine pw_getR 8 rfl dX11_slips_5 fX11_10 (by first | rfl | assumption | exact rowS hh | exact mtS hm | exact ruS hr | exact mtA1 hm | exact mtA2 hm | exact mtA3 hm | exact mtA4 hm | exact mtA5 hm | exact mtA6 hm | exact mtA7 hm | exact ruA1 hr | exact ruA2 hr | exact ruA3 hr) rfl (by first | rfl | assumption | exact mtR0 hm | exact mtR1 hm | exact mtR2 hm | exact mtR3 hm | exact mtR4 hm | exact mtR5 hm | exact mtR6 hm | exact ruR0 hr | exact ruR1 hr | exact ruR3 hr) ?_
  refine pw_callV (as := [_]) 11 rfl dX11_slips_8 mX11_132 vX4_note (x_note (d := d + 6) a1) (by first | rfl | assumption | exact rowS hh | exact mtS hm | exact ruS hr | exact mtA1 hm | exact mtA2 hm | exact mtA3 hm | exact mtA4 hm | exact mtA5 hm | exact mtA6 hm | exact mtA7 hm | exact ruA1 hr | exact ruA2 hr | exact ruA3 hr) rfl (by decide) ⟨rfl, by decide, by decide, show (parseMethodDescriptor yX4_note.desc).map (fun d => d.parameters.length) = some 1 by decide +kernel⟩ (by omega) (by decide) (Nat.le_of_ble_eq_true rfl) rfl (fun r8 I8 J8 R8 c8 => ?_)
  obtain ⟨rfl, g1, g2, rfl, rfl⟩ := c8
  rotate_left
  have hM1 : XM I8 1 n pc b := XM_fr a1 (fun a h1 h2 => g2 a (by omega))
  refine pw_aload_n 12 rfl dX11_slips_11 rfl ?_
  refine pw_aload_n 13 rfl dX11_slips_12 rfl ?_
  refine pw_getR 16 rfl dX11_slips_13 fX11_10 (by first | rfl | assumption | exact rowS hh | exact mtS hm | exact ruS hr | exact mtA1 hm | exact mtA2 hm | exact mtA3 hm | exact mtA4 hm | exact mtA5 hm | exact mtA6 hm | exact mtA7 hm | exact ruA1 hr | exact ruA2 hr | exact ruA3 hr) rfl (by first | rfl | assumption | exact mtR0 hm | exact mtR1 hm | exact mtR2 hm | exact mtR3 hm | exact mtR4 hm | exact mtR5 hm | exact mtR6 hm | exact ruR0 hr | exact ruR1 hr | exact ruR3 hr) ?_
  refine pw_iload_n 17 rfl dX11_slips_16 rfl ?_
  refine pw_iload_n 18 rfl dX11_slips_17 rfl ?_
  refine pw_callV (as := [_, _]) 21 rfl dX11_slips_18 mX11_214 vX1_slipDown (x_slipDown (d := d + 6) (Or.inl rfl) hM1 aW.1 w v) (by first | rfl | assumption | exact rowS hh | exact mtS hm | exact ruS hr | exact mtA1 hm | exact mtA2 hm | exact mtA3 hm | exact mtA4 hm | exact mtA5 hm | exact mtA6 hm | exact mtA7 hm | exact ruA1 hr | exact ruA2 hr | exact ruA3 hr) rfl (by decide) ⟨rfl, by decide, by decide, show (parseMethodDescriptor yX1_slipDown.desc).map (fun d => d.parameters.length) = some 2 by decide +kernel⟩ (by omega) (by decide) (Nat.le_of_ble_eq_true rfl) rfl (fun r18 I18 J18 R18 c18 => ?_)
  obtain ⟨rfl, k1, -, k2, rfl, rfl⟩ := c18
  rotate_left
  have hU1 : XU I18 us := XU_fr a5 (fun a h1 h2 h3 h4 => by rw [k2 a (by omega), g2 a (by omega)])
  have hP1 : Pg (I18 25) b 7 := by rw [k2 25 (by omega)]; exact g1
  refine pw_callV (as := [_]) 24 rfl dX11_slips_21 mX11_139 vX11_noteIfDone (x_noteIfDone (d := d + 5) hU1 hP1 (aSlip n b w v).1) (by first | rfl | assumption | exact rowS hh | exact mtS hm | exact ruS hr | exact mtA1 hm | exact mtA2 hm | exact mtA3 hm | exact mtA4 hm | exact mtA5 hm | exact mtA6 hm | exact mtA7 hm | exact ruA1 hr | exact ruA2 hr | exact ruA3 hr) rfl (by decide) ⟨rfl, by decide, by decide, show (parseMethodDescriptor yX11_noteIfDone.desc).map (fun d => d.parameters.length) = some 1 by decide +kernel⟩ (by omega) (by decide) (Nat.le_of_ble_eq_true rfl) rfl (fun r21 I21 J21 R21 c21 => ?_)
  obtain ⟨rfl, q1, q2, rfl, rfl⟩ := c21
  rotate_left
  refine pw_iret dX11_slips_24 rfl ?_
  rotate_left
  exact ⟨rfl, XA_mt hA (fun a ha => by rw [q2 a (by omega), k2 a (by omega), g2 a (by omega)]) (XM_fr k1 (fun a h1 h2 => q2 a (by omega))) q1 (XN_fr a3 (by rw [q2 19 (by omega), k2 19 (by omega), g2 19 (by omega)])), rfl⟩
def oHours (v : Int32) : aSt → Int32 × aSt
  | (n, pc, b, us, kp, rw, tx, rt, hd, sw) => match inOf 0 60 v with
    | none => (-1, (n, pc, b, us, kp, rw, tx, rt, hd, sw))
    | some N => (nI (hrs n pc (ruE rt) N b 29), (n, pc, hrs n pc (ruE rt) N b, if 0 < N then aKeep us b else us, kp, [lI (cdn n pc (ruE rt) b N), lI (onW n (hrs n pc (ruE rt) N b))], tx, rt, hd, sw))
set_option maxRecDepth 100000 in
set_option maxHeartbeats 2000000 in
theorem xo_hours {d : Nat} {s : aSt} {I : pI} {J : pJ} (hA : XA I J s) (hW : WA s) (v : Int32) : PC SX (d + 8) yX11_hours cX11_hours 3 (some .int) [.ref 0, .int v] (I) (J) (RX) (oP (oHours v s)) := by
  refine PC.of [some (.ref 0), some (.int v), none] rfl rfl (Nat.le_of_ble_eq_true rfl) ?_
  obtain ⟨n, pc, b, us, kp, rw, tx, rt, hd, sw⟩ := s
  obtain ⟨a1, a2, a3, a4, a5, a6, a7, a8⟩ := id hA
  obtain ⟨aW, -, -⟩ := id hW
  rcases inOf_cases (lo := 0) (hi := 60) (by decide) v (by decide) with ⟨N, k1, k2, rfl, hj⟩ | ⟨hj, hp⟩
  · rw [oHours, hj]
    refine pw_iload_n 1 rfl dX11_hours_0 rfl ?_
    refine pw_iconst (v := nI 0) 2 rfl dX11_hours_1 rfl ?_
    refine pw_bipush (v := nI 60) 4 rfl dX11_hours_2 rfl ?_
    refine pw_callSP (as := [_, _, _]) 7 rfl dX11_hours_4 mX11_174 sX11_outside (x_outside (d := d) _ _ _) ⟨rfl, by decide, by decide, show (parseMethodDescriptor yX11_outside.desc).map (fun d => d.parameters.length) = some 3 by decide +kernel⟩ (by omega) (by decide) (Nat.le_of_ble_eq_true rfl) rfl ?_
    refine pw_if_eq (tgt := 12) 10 rfl dX11_hours_7 rfl (fun h7 => ?_) (fun h7 => absurd (by rw [out_in k1 k2 (by decide)]; rfl) h7)
    refine pw_aload_n 13 rfl dX11_hours_12 rfl ?_
    refine pw_getR 16 rfl dX11_hours_13 fX11_43 (by first | rfl | assumption | exact rowS hh | exact mtS hm | exact ruS hr | exact mtA1 hm | exact mtA2 hm | exact mtA3 hm | exact mtA4 hm | exact mtA5 hm | exact mtA6 hm | exact mtA7 hm | exact ruA1 hr | exact ruA2 hr | exact ruA3 hr) rfl (by first | rfl | assumption | exact mtR0 hm | exact mtR1 hm | exact mtR2 hm | exact mtR3 hm | exact mtR4 hm | exact mtR5 hm | exact mtR6 hm | exact ruR0 hr | exact ruR1 hr | exact ruR3 hr) ?_
    refine pw_aload_n 17 rfl dX11_hours_16 rfl ?_
    refine pw_getR 20 rfl dX11_hours_17 fX11_10 (by first | rfl | assumption | exact rowS hh | exact mtS hm | exact ruS hr | exact mtA1 hm | exact mtA2 hm | exact mtA3 hm | exact mtA4 hm | exact mtA5 hm | exact mtA6 hm | exact mtA7 hm | exact ruA1 hr | exact ruA2 hr | exact ruA3 hr) rfl (by first | rfl | assumption | exact mtR0 hm | exact mtR1 hm | exact mtR2 hm | exact mtR3 hm | exact mtR4 hm | exact mtR5 hm | exact mtR6 hm | exact ruR0 hr | exact ruR1 hr | exact ruR3 hr) ?_
    refine pw_callV (as := [_]) 23 rfl dX11_hours_20 mX11_132 vX4_note (x_note (d := d + 6) a1) (by first | rfl | assumption | exact rowS hh | exact mtS hm | exact ruS hr | exact mtA1 hm | exact mtA2 hm | exact mtA3 hm | exact mtA4 hm | exact mtA5 hm | exact mtA6 hm | exact mtA7 hm | exact ruA1 hr | exact ruA2 hr | exact ruA3 hr) rfl (by decide) ⟨rfl, by decide, by decide, show (parseMethodDescriptor yX4_note.desc).map (fun d => d.parameters.length) = some 1 by decide +kernel⟩ (by omega) (by decide) (Nat.le_of_ble_eq_true rfl) rfl (fun r20 I20 J20 R20 c20 => ?_)
    obtain ⟨rfl, g1, g2, rfl, rfl⟩ := c20
    rotate_left
    have hM1 : XM I20 1 n pc b := XM_fr a1 (fun a h1 h2 => g2 a (by omega))
    have hE1 : XE I20 9 (ruE rt) := XE_fr a2 (g2 9 (by omega)) (g2 10 (by omega))
    refine pw_aload_n 24 rfl dX11_hours_23 rfl ?_
    refine pw_getR 27 rfl dX11_hours_24 fX11_10 (by first | rfl | assumption | exact rowS hh | exact mtS hm | exact ruS hr | exact mtA1 hm | exact mtA2 hm | exact mtA3 hm | exact mtA4 hm | exact mtA5 hm | exact mtA6 hm | exact mtA7 hm | exact ruA1 hr | exact ruA2 hr | exact ruA3 hr) rfl (by first | rfl | assumption | exact mtR0 hm | exact mtR1 hm | exact mtR2 hm | exact mtR3 hm | exact mtR4 hm | exact mtR5 hm | exact mtR6 hm | exact ruR0 hr | exact ruR1 hr | exact ruR3 hr) ?_
    refine pw_aload_n 28 rfl dX11_hours_27 rfl ?_
    refine pw_getR 31 rfl dX11_hours_28 fX11_19 (by first | rfl | assumption | exact rowS hh | exact mtS hm | exact ruS hr | exact mtA1 hm | exact mtA2 hm | exact mtA3 hm | exact mtA4 hm | exact mtA5 hm | exact mtA6 hm | exact mtA7 hm | exact ruA1 hr | exact ruA2 hr | exact ruA3 hr) rfl (by first | rfl | assumption | exact mtR0 hm | exact mtR1 hm | exact mtR2 hm | exact mtR3 hm | exact mtR4 hm | exact mtR5 hm | exact mtR6 hm | exact ruR0 hr | exact ruR1 hr | exact ruR3 hr) ?_
    refine pw_iload_n 32 rfl dX11_hours_31 rfl ?_
    refine pw_callV (as := [_, _]) 35 rfl dX11_hours_32 mX11_186 vX1_passHours (x_passHours (d := d + 1) (Or.inl rfl) (Or.inl rfl) hM1 aW.1 hE1 (show N ≤ 100 by omega)) (by first | rfl | assumption | exact rowS hh | exact mtS hm | exact ruS hr | exact mtA1 hm | exact mtA2 hm | exact mtA3 hm | exact mtA4 hm | exact mtA5 hm | exact mtA6 hm | exact mtA7 hm | exact ruA1 hr | exact ruA2 hr | exact ruA3 hr) rfl (by decide) ⟨rfl, by decide, by decide, show (parseMethodDescriptor yX1_passHours.desc).map (fun d => d.parameters.length) = some 2 by decide +kernel⟩ (by omega) (by decide) (Nat.le_of_ble_eq_true rfl) rfl (fun r32 I32 J32 R32 c32 => ?_)
    obtain ⟨rfl, m1, m2, m3, rfl, rfl⟩ := c32
    refine pw_istore_n 36 rfl dX11_hours_35 (by decide) ?_
    rotate_left
    have hf1 : ∀ a, ¬ (1 ≤ a ∧ a ≤ 8) → a ≠ 11 → a ≠ 25 → I32 a = I a := fun a h1 h2 h3 => by rw [m3 a h2 (by omega), g2 a h3]
    have hU1 : XU I32 us := XU_fr a5 (fun a h1 h2 h3 h4 => hf1 a (by omega) (by omega) (by omega))
    have hP1 : Pg (I32 25) b 7 := by rw [m3 25 (by omega) (by omega)]; exact g1
    have hWh := WF_hrs (ruE rt) aW.1 N
    have fin : ∀ (I1 : pI), XM I1 1 n pc (hrs n pc (ruE rt) N b) → XU I1 (if 0 < N then aKeep us b else us) → (∀ a, ¬ (1 ≤ a ∧ a ≤ 8) → ¬ (21 ≤ a ∧ a ≤ 37 ∧ a ≠ 24) → a ≠ 11 → I1 a = I a) → PW SX yX11_hours.cls cX11_hours 3 (d + 8) 47 [some (.ref 0), some (.int (nI N)), some (.int (nI (cdn n pc (ruE rt) b N)))] [] I1 J RX (rX cX11_hours (some .int) (oP (nI (hrs n pc (ruE rt) N b 29), (n, pc, hrs n pc (ruE rt) N b, if 0 < N then aKeep us b else us, kp, [lI (cdn n pc (ruE rt) b N), lI (onW n (hrs n pc (ruE rt) N b))], tx, rt, hd, sw)))) := by
      intro I1 n1 n2 n3
      refine pw_aload_n 48 rfl dX11_hours_47 rfl ?_
      refine pw_getR 51 rfl dX11_hours_48 fX11_36 (by first | rfl | assumption | exact rowS hh | exact mtS hm | exact ruS hr | exact mtA1 hm | exact mtA2 hm | exact mtA3 hm | exact mtA4 hm | exact mtA5 hm | exact mtA6 hm | exact mtA7 hm | exact ruA1 hr | exact ruA2 hr | exact ruA3 hr) rfl (by first | rfl | assumption | exact mtR0 hm | exact mtR1 hm | exact mtR2 hm | exact mtR3 hm | exact mtR4 hm | exact mtR5 hm | exact mtR6 hm | exact ruR0 hr | exact ruR1 hr | exact ruR3 hr) ?_
      refine pw_iload_n 52 rfl dX11_hours_51 rfl ?_
      refine pw_i2l 53 rfl dX11_hours_52 ?_
      refine pw_aload_n 54 rfl dX11_hours_53 rfl ?_
      refine pw_getR 57 rfl dX11_hours_54 fX11_10 (by first | rfl | assumption | exact rowS hh | exact mtS hm | exact ruS hr | exact mtA1 hm | exact mtA2 hm | exact mtA3 hm | exact mtA4 hm | exact mtA5 hm | exact mtA6 hm | exact mtA7 hm | exact ruA1 hr | exact ruA2 hr | exact ruA3 hr) rfl (by first | rfl | assumption | exact mtR0 hm | exact mtR1 hm | exact mtR2 hm | exact mtR3 hm | exact mtR4 hm | exact mtR5 hm | exact mtR6 hm | exact ruR0 hr | exact ruR1 hr | exact ruR3 hr) ?_
      refine pw_callVP (as := []) 60 rfl dX11_hours_57 mX11_193 vX1_howManyOnWay (x_howManyOnWay (d := d + 6) (Or.inl rfl) n1 hWh) (by first | rfl | assumption | exact rowS hh | exact mtS hm | exact ruS hr | exact mtA1 hm | exact mtA2 hm | exact mtA3 hm | exact mtA4 hm | exact mtA5 hm | exact mtA6 hm | exact mtA7 hm | exact ruA1 hr | exact ruA2 hr | exact ruA3 hr) rfl (by decide) ⟨rfl, by decide, by decide, show (parseMethodDescriptor yX1_howManyOnWay.desc).map (fun d => d.parameters.length) = some 0 by decide +kernel⟩ (by omega) (by decide) (Nat.le_of_ble_eq_true rfl) rfl ?_
      refine pw_i2l 61 rfl dX11_hours_60 ?_
      refine pw_callV (as := [_, _]) 64 rfl dX11_hours_61 mX11_197 vX2_tellTwo (x_tellTwo (d := d + 5) _ _) (by first | rfl | assumption | exact rowS hh | exact mtS hm | exact ruS hr | exact mtA1 hm | exact mtA2 hm | exact mtA3 hm | exact mtA4 hm | exact mtA5 hm | exact mtA6 hm | exact mtA7 hm | exact ruA1 hr | exact ruA2 hr | exact ruA3 hr) rfl (by decide) ⟨rfl, by decide, by decide, show (parseMethodDescriptor yX2_tellTwo.desc).map (fun d => d.parameters.length) = some 2 by decide +kernel⟩ (by omega) (by decide) (Nat.le_of_ble_eq_true rfl) rfl (fun r61 I61 J61 R61 c61 => ?_)
      obtain ⟨rfl, t1, t2, rfl⟩ := c61
      rotate_left
      refine pw_aload_n 65 rfl dX11_hours_64 rfl ?_
      refine pw_getR 68 rfl dX11_hours_65 fX11_10 (by first | rfl | assumption | exact rowS hh | exact mtS hm | exact ruS hr | exact mtA1 hm | exact mtA2 hm | exact mtA3 hm | exact mtA4 hm | exact mtA5 hm | exact mtA6 hm | exact mtA7 hm | exact ruA1 hr | exact ruA2 hr | exact ruA3 hr) rfl (by first | rfl | assumption | exact mtR0 hm | exact mtR1 hm | exact mtR2 hm | exact mtR3 hm | exact mtR4 hm | exact mtR5 hm | exact mtR6 hm | exact ruR0 hr | exact ruR1 hr | exact ruR3 hr) ?_
      refine pw_getI 71 rfl dX11_hours_68 fX11_201 (by first | rfl | assumption | exact rowS hh | exact mtS hm | exact ruS hr | exact mtA1 hm | exact mtA2 hm | exact mtA3 hm | exact mtA4 hm | exact mtA5 hm | exact mtA6 hm | exact mtA7 hm | exact ruA1 hr | exact ruA2 hr | exact ruA3 hr) rfl ?_
      rotate_left
      rw [t2 1 (by omega), show I1 1 9 = nI (hrs n pc (ruE rt) N b 29) from n1.2.2.2.1]
      refine pw_iret dX11_hours_71 rfl ?_
      rotate_left
      exact ⟨rfl, XA_mt hA (fun a ha => by rw [t2 a (by omega), n3 a (by omega) (by omega) (by omega)]) (XM_fr n1 (fun a h1 h2 => t2 a (by omega))) (XU_fr n2 (fun a h1 h2 h3 h4 => t2 a (by omega))) t1, rfl⟩
    by_cases h0 : 0 < N
    · refine pw_iload_n 37 rfl dX11_hours_36 rfl ?_
      refine pw_if_le (tgt := 47) 40 rfl dX11_hours_37 rfl (fun h37 => absurd h37 (nI_nle h0 (by omega))) (fun h37 => ?_)
      refine pw_aload_n 41 rfl dX11_hours_40 rfl ?_
      refine pw_getR 44 rfl dX11_hours_41 fX11_43 (by first | rfl | assumption | exact rowS hh | exact mtS hm | exact ruS hr | exact mtA1 hm | exact mtA2 hm | exact mtA3 hm | exact mtA4 hm | exact mtA5 hm | exact mtA6 hm | exact mtA7 hm | exact ruA1 hr | exact ruA2 hr | exact ruA3 hr) rfl (by first | rfl | assumption | exact mtR0 hm | exact mtR1 hm | exact mtR2 hm | exact mtR3 hm | exact mtR4 hm | exact mtR5 hm | exact mtR6 hm | exact ruR0 hr | exact ruR1 hr | exact ruR3 hr) ?_
      refine pw_callV (as := []) 47 rfl dX11_hours_44 mX11_190 vX4_keepNoted (x_keepNoted (d := d + 6) hU1 hP1) (by first | rfl | assumption | exact rowS hh | exact mtS hm | exact ruS hr | exact mtA1 hm | exact mtA2 hm | exact mtA3 hm | exact mtA4 hm | exact mtA5 hm | exact mtA6 hm | exact mtA7 hm | exact ruA1 hr | exact ruA2 hr | exact ruA3 hr) rfl (by decide) ⟨rfl, by decide, by decide, show (parseMethodDescriptor yX4_keepNoted.desc).map (fun d => d.parameters.length) = some 0 by decide +kernel⟩ (by omega) (by decide) (Nat.le_of_ble_eq_true rfl) rfl (fun r44 I44 J44 R44 c44 => ?_)
      obtain ⟨rfl, q1, q2, rfl, rfl⟩ := c44
      rotate_left
      exact fin I44 (XM_fr m1 (fun a h1 h2 => q2 a (by omega))) (by rw [if_pos h0]; exact q1) (fun a h1 h2 h3 => by rw [q2 a (by omega), hf1 a h1 h3 (by omega)])
    · have e0 : N = 0 := by omega
      refine pw_iload_n 37 rfl dX11_hours_36 rfl ?_
      refine pw_if_le (tgt := 47) 40 rfl dX11_hours_37 rfl (fun h37 => ?_) (fun h37 => absurd (by rw [e0]; decide) h37)
      rotate_left
      exact fin I32 m1 (by rw [if_neg h0]; exact hU1) (fun a h1 h2 h3 => hf1 a h1 h3 (by omega))
  · rw [oHours, hj]
    refine pw_iload_n 1 rfl dX11_hours_0 rfl ?_
    refine pw_iconst (v := nI 0) 2 rfl dX11_hours_1 rfl ?_
    refine pw_bipush (v := nI 60) 4 rfl dX11_hours_2 rfl ?_
    refine pw_callSP (as := [_, _, _]) 7 rfl dX11_hours_4 mX11_174 sX11_outside (x_outside (d := d) _ _ _) ⟨rfl, by decide, by decide, show (parseMethodDescriptor yX11_outside.desc).map (fun d => d.parameters.length) = some 3 by decide +kernel⟩ (by omega) (by decide) (Nat.le_of_ble_eq_true rfl) rfl ?_
    refine pw_if_eq (tgt := 12) 10 rfl dX11_hours_7 rfl (fun h7 => absurd h7 (by rw [outV_y hp]; decide)) (fun h7 => ?_)
    refine pw_iconst (v := -1) 11 rfl dX11_hours_10 rfl ?_
    refine pw_iret dX11_hours_11 rfl ?_
    rotate_left
    exact ⟨rfl, hA, rfl⟩
def oUndo : aSt → Int32 × aSt
  | (n, pc, b, us, kp, rw, tx, rt, hd, sw) => (if us = [] then -1 else nI (us.length - 1), (n, pc, us.getLast?.getD b, us.dropLast, kp, rw, tx, rt, hd, sw))
set_option maxRecDepth 100000 in
set_option maxHeartbeats 2000000 in
theorem xo_undo {d : Nat} {s : aSt} {I : pI} {J : pJ} (hA : XA I J s) : PC SX (d + 8) yX11_undo cX11_undo 1 (some .int) [.ref 0] (I) (J) (RX) (oP (oUndo s)) := by
  refine PC.of [some (.ref 0)] rfl rfl (Nat.le_of_ble_eq_true rfl) ?_
  obtain ⟨n, pc, b, us, kp, rw, tx, rt, hd, sw⟩ := s
  obtain ⟨a1, a2, a3, a4, a5, a6, a7, a8⟩ := id hA
  refine pw_aload_n 1 rfl dX11_undo_0 rfl ?_
  refine pw_getR 4 rfl dX11_undo_1 fX11_43 (by first | rfl | assumption | exact rowS hh | exact mtS hm | exact ruS hr | exact mtA1 hm | exact mtA2 hm | exact mtA3 hm | exact mtA4 hm | exact mtA5 hm | exact mtA6 hm | exact mtA7 hm | exact ruA1 hr | exact ruA2 hr | exact ruA3 hr) rfl (by first | rfl | assumption | exact mtR0 hm | exact mtR1 hm | exact mtR2 hm | exact mtR3 hm | exact mtR4 hm | exact mtR5 hm | exact mtR6 hm | exact ruR0 hr | exact ruR1 hr | exact ruR3 hr) ?_
  refine pw_aload_n 5 rfl dX11_undo_4 rfl ?_
  refine pw_getR 8 rfl dX11_undo_5 fX11_10 (by first | rfl | assumption | exact rowS hh | exact mtS hm | exact ruS hr | exact mtA1 hm | exact mtA2 hm | exact mtA3 hm | exact mtA4 hm | exact mtA5 hm | exact mtA6 hm | exact mtA7 hm | exact ruA1 hr | exact ruA2 hr | exact ruA3 hr) rfl (by first | rfl | assumption | exact mtR0 hm | exact mtR1 hm | exact mtR2 hm | exact mtR3 hm | exact mtR4 hm | exact mtR5 hm | exact mtR6 hm | exact ruR0 hr | exact ruR1 hr | exact ruR3 hr) ?_
  refine pw_callV (as := [_]) 11 rfl dX11_undo_8 mX11_232 vX4_takeBack (x_takeBack (d := d + 6) a1 a5) (by first | rfl | assumption | exact rowS hh | exact mtS hm | exact ruS hr | exact mtA1 hm | exact mtA2 hm | exact mtA3 hm | exact mtA4 hm | exact mtA5 hm | exact mtA6 hm | exact mtA7 hm | exact ruA1 hr | exact ruA2 hr | exact ruA3 hr) rfl (by decide) ⟨rfl, by decide, by decide, show (parseMethodDescriptor yX4_takeBack.desc).map (fun d => d.parameters.length) = some 1 by decide +kernel⟩ (by omega) (by decide) (Nat.le_of_ble_eq_true rfl) rfl (fun r8 I8 J8 R8 c8 => ?_)
  obtain ⟨rfl, m1, m2, m3, rfl, rfl⟩ := c8
  rotate_left
  refine pw_iret dX11_undo_11 rfl ?_
  rotate_left
  exact ⟨rfl, XA_mt hA (fun a ha => m3 a (by omega)) m1 m2 (XN_fr a3 (m3 19 (by omega))), rfl⟩
def oKeep (w : Int32) : aSt → Int32 × aSt
  | (n, pc, b, us, kp, rw, tx, rt, hd, sw) => (if 0 ≤ w ∧ w < nI 2 then nI 1 else nI 0, (n, pc, b, us, aKp kp w b, rw, tx, rt, hd, sw))
set_option maxRecDepth 100000 in
set_option maxHeartbeats 2000000 in
theorem xo_keep {d : Nat} {s : aSt} {I : pI} {J : pJ} (hA : XA I J s) (w : Int32) : PC SX (d + 8) yX11_keep cX11_keep 2 (some .boolean) [.ref 0, .int w] (I) (J) (RX) (oP (oKeep w s)) := by
  refine PC.of [some (.ref 0), some (.int w)] rfl rfl (Nat.le_of_ble_eq_true rfl) ?_
  obtain ⟨n, pc, b, us, kp, rw, tx, rt, hd, sw⟩ := s
  obtain ⟨a1, a2, a3, a4, a5, a6, a7, a8⟩ := id hA
  have hn : narrow .boolean (.int (if 0 ≤ w ∧ w < nI 2 then nI 1 else nI 0)) = .int (if 0 ≤ w ∧ w < nI 2 then nI 1 else nI 0) := by split <;> rfl
  refine pw_aload_n 1 rfl dX11_keep_0 rfl ?_
  refine pw_getR 4 rfl dX11_keep_1 fX11_43 (by first | rfl | assumption | exact rowS hh | exact mtS hm | exact ruS hr | exact mtA1 hm | exact mtA2 hm | exact mtA3 hm | exact mtA4 hm | exact mtA5 hm | exact mtA6 hm | exact mtA7 hm | exact ruA1 hr | exact ruA2 hr | exact ruA3 hr) rfl (by first | rfl | assumption | exact mtR0 hm | exact mtR1 hm | exact mtR2 hm | exact mtR3 hm | exact mtR4 hm | exact mtR5 hm | exact mtR6 hm | exact ruR0 hr | exact ruR1 hr | exact ruR3 hr) ?_
  refine pw_iload_n 5 rfl dX11_keep_4 rfl ?_
  refine pw_aload_n 6 rfl dX11_keep_5 rfl ?_
  refine pw_getR 9 rfl dX11_keep_6 fX11_10 (by first | rfl | assumption | exact rowS hh | exact mtS hm | exact ruS hr | exact mtA1 hm | exact mtA2 hm | exact mtA3 hm | exact mtA4 hm | exact mtA5 hm | exact mtA6 hm | exact mtA7 hm | exact ruA1 hr | exact ruA2 hr | exact ruA3 hr) rfl (by first | rfl | assumption | exact mtR0 hm | exact mtR1 hm | exact mtR2 hm | exact mtR3 hm | exact mtR4 hm | exact mtR5 hm | exact mtR6 hm | exact ruR0 hr | exact ruR1 hr | exact ruR3 hr) ?_
  refine pw_callV (as := [_, _]) 12 rfl dX11_keep_9 mX11_341 vX4_keepAs (x_keepAs (d := d + 6) a1 a6 w) (by first | rfl | assumption | exact rowS hh | exact mtS hm | exact ruS hr | exact mtA1 hm | exact mtA2 hm | exact mtA3 hm | exact mtA4 hm | exact mtA5 hm | exact mtA6 hm | exact mtA7 hm | exact ruA1 hr | exact ruA2 hr | exact ruA3 hr) rfl (by decide) ⟨rfl, by decide, by decide, show (parseMethodDescriptor yX4_keepAs.desc).map (fun d => d.parameters.length) = some 2 by decide +kernel⟩ (by omega) (by decide) (Nat.le_of_ble_eq_true rfl) rfl (fun r9 I9 J9 R9 c9 => ?_)
  obtain ⟨rfl, m1, m2, rfl, rfl⟩ := c9
  rotate_left
  refine pw_iret dX11_keep_12 hn ?_
  rotate_left
  exact ⟨rfl, ⟨XM_fr a1 (fun a h1 h2 => m2 a (by omega) (by omega) (by omega)), XE_fr a2 (m2 9 (by omega) (by omega) (by omega)) (m2 10 (by omega) (by omega) (by omega)), XN_fr a3 (m2 19 (by omega) (by omega) (by omega)), XT_fr a4 (m2 17 (by omega) (by omega) (by omega)) (m2 18 (by omega) (by omega) (by omega)), XU_fr a5 (fun a h1 h2 h3 h4 => m2 a (by omega) (by omega) (by omega)), m1, XH_fr a7 (m2 62 (by omega) (by omega) (by omega)) (m2 63 (by omega) (by omega) (by omega)), XG_fr a8 (by rw [m2 64 (by omega) (by omega) (by omega)]) (m2 65 (by omega) (by omega) (by omega))⟩, rfl⟩
def oAgain (w : Int32) : aSt → Int32 × aSt
  | (n, pc, b, us, kp, rw, tx, rt, hd, sw) => (if aBr kp w = none then nI 0 else nI 1, (n, pc, (aBr kp w).getD b, if aBr kp w = none then us else [], kp, rw, tx, rt, hd, sw))
set_option maxRecDepth 100000 in
set_option maxHeartbeats 2000000 in
theorem xo_again {d : Nat} {s : aSt} {I : pI} {J : pJ} (hA : XA I J s) (w : Int32) : PC SX (d + 8) yX11_again cX11_again 2 (some .boolean) [.ref 0, .int w] (I) (J) (RX) (oP (oAgain w s)) := by
  refine PC.of [some (.ref 0), some (.int w)] rfl rfl (Nat.le_of_ble_eq_true rfl) ?_
  obtain ⟨n, pc, b, us, kp, rw, tx, rt, hd, sw⟩ := s
  obtain ⟨a1, a2, a3, a4, a5, a6, a7, a8⟩ := id hA
  have hn : narrow .boolean (.int (if aBr kp w = none then nI 0 else nI 1)) = .int (if aBr kp w = none then nI 0 else nI 1) := by split <;> rfl
  refine pw_aload_n 1 rfl dX11_again_0 rfl ?_
  refine pw_getR 4 rfl dX11_again_1 fX11_43 (by first | rfl | assumption | exact rowS hh | exact mtS hm | exact ruS hr | exact mtA1 hm | exact mtA2 hm | exact mtA3 hm | exact mtA4 hm | exact mtA5 hm | exact mtA6 hm | exact mtA7 hm | exact ruA1 hr | exact ruA2 hr | exact ruA3 hr) rfl (by first | rfl | assumption | exact mtR0 hm | exact mtR1 hm | exact mtR2 hm | exact mtR3 hm | exact mtR4 hm | exact mtR5 hm | exact mtR6 hm | exact ruR0 hr | exact ruR1 hr | exact ruR3 hr) ?_
  refine pw_iload_n 5 rfl dX11_again_4 rfl ?_
  refine pw_aload_n 6 rfl dX11_again_5 rfl ?_
  refine pw_getR 9 rfl dX11_again_6 fX11_10 (by first | rfl | assumption | exact rowS hh | exact mtS hm | exact ruS hr | exact mtA1 hm | exact mtA2 hm | exact mtA3 hm | exact mtA4 hm | exact mtA5 hm | exact mtA6 hm | exact mtA7 hm | exact ruA1 hr | exact ruA2 hr | exact ruA3 hr) rfl (by first | rfl | assumption | exact mtR0 hm | exact mtR1 hm | exact mtR2 hm | exact mtR3 hm | exact mtR4 hm | exact mtR5 hm | exact mtR6 hm | exact ruR0 hr | exact ruR1 hr | exact ruR3 hr) ?_
  refine pw_callV (as := [_, _]) 12 rfl dX11_again_9 mX11_345 vX4_bringBack (x_bringBack (d := d + 6) a1 a5 a6 w) (by first | rfl | assumption | exact rowS hh | exact mtS hm | exact ruS hr | exact mtA1 hm | exact mtA2 hm | exact mtA3 hm | exact mtA4 hm | exact mtA5 hm | exact mtA6 hm | exact mtA7 hm | exact ruA1 hr | exact ruA2 hr | exact ruA3 hr) rfl (by decide) ⟨rfl, by decide, by decide, show (parseMethodDescriptor yX4_bringBack.desc).map (fun d => d.parameters.length) = some 2 by decide +kernel⟩ (by omega) (by decide) (Nat.le_of_ble_eq_true rfl) rfl (fun r9 I9 J9 R9 c9 => ?_)
  obtain ⟨rfl, m1, m2, m3, rfl, rfl⟩ := c9
  rotate_left
  refine pw_iret dX11_again_12 hn ?_
  rotate_left
  exact ⟨rfl, XA_mt hA (fun a ha => m3 a (by omega)) m1 m2 (XN_fr a3 (m3 19 (by omega))), rfl⟩
