def oDay : aSt → Int32 × aSt
  | (n, pc, b, us, kp, rw, tx, rt, hd, sw) => match wrD tx with
    | some p => (-1 - nI p, (n, pc, b, us, kp, rw, [], rt, hd, sw))
    | none => (nI (dayL n pc (ruE rt) tx 80 0 b 0).1, (n, pc, (dayL n pc (ruE rt) tx 80 0 b 0).2.2, if 0 < (dayL n pc (ruE rt) tx 80 0 b 0).1 then aKeep us b else us, kp, [if (dayL n pc (ruE rt) tx 80 0 b 0).2.1 = true then 1 else 0, lI ((dayL n pc (ruE rt) tx 80 0 b 0).2.2 30)], [], rt, hd, sw))
theorem dayL_le (n : Nat) (pc : Nat → Nat) (E : (Nat → Int32) → Nat) (tx : List Nat) : ∀ f p b k, (dayL n pc E tx f p b k).1 ≤ k + f
  | 0, p, b, k => Nat.le_refl _
  | f + 1, p, b, k => by
    rw [dayL]
    split
    · split
      · show k ≤ _; omega
      · have := dayL_le n pc E tx f (p + sgA (tx.getD p 0)) (actA n pc E (tx.getD p 0) (tx.getD (p + 1) 0 - 48) (tx.getD (p + 2) 0 - 48) b).2 (k + 1)
        omega
    · show k ≤ _; omega
set_option maxRecDepth 100000 in
set_option maxHeartbeats 2000000 in
theorem xo_day {d : Nat} {s : aSt} {I : pI} {J : pJ} (hA : XA I J s) (hW : WA s) : PC SX (d + 8) yX11_day cX11_day 5 (some .int) [.ref 0] (I) (J) (RX) (oP (oDay s)) := by
  refine PC.of [some (.ref 0), none, none, none, none] rfl rfl (Nat.le_of_ble_eq_true rfl) ?_
  obtain ⟨n, pc, b, us, kp, rw, tx, rt, hd, sw⟩ := s
  obtain ⟨a1, a2, a3, a4, a5, a6, a7, a8⟩ := id hA
  obtain ⟨aW, -, -⟩ := id hW
  obtain ⟨x1, x2, x3⟩ := id a4
  rw [oDay]
  refine pw_aload_n 1 rfl dX11_day_0 rfl ?_
  refine pw_getR 4 rfl dX11_day_1 fX11_29 (by first | rfl | assumption | exact rowS hh | exact mtS hm | exact ruS hr | exact mtA1 hm | exact mtA2 hm | exact mtA3 hm | exact mtA4 hm | exact mtA5 hm | exact mtA6 hm | exact mtA7 hm | exact ruA1 hr | exact ruA2 hr | exact ruA3 hr) rfl (by first | rfl | assumption | exact mtR0 hm | exact mtR1 hm | exact mtR2 hm | exact mtR3 hm | exact mtR4 hm | exact mtR5 hm | exact mtR6 hm | exact ruR0 hr | exact ruR1 hr | exact ruR3 hr) ?_
  refine pw_callVP (as := []) 7 rfl dX11_day_4 mX11_217 vX10_wrongAsDay (x_wrongD (d := d + 5) a4) (by first | rfl | assumption | exact rowS hh | exact mtS hm | exact ruS hr | exact mtA1 hm | exact mtA2 hm | exact mtA3 hm | exact mtA4 hm | exact mtA5 hm | exact mtA6 hm | exact mtA7 hm | exact ruA1 hr | exact ruA2 hr | exact ruA3 hr) rfl (by decide) ⟨rfl, by decide, by decide, show (parseMethodDescriptor yX10_wrongAsDay.desc).map (fun d => d.parameters.length) = some 0 by decide +kernel⟩ (by omega) (by decide) (Nat.le_of_ble_eq_true rfl) rfl ?_
  refine pw_istore_n 8 rfl dX11_day_7 (by decide) ?_
  rotate_left
  rcases e : wrD tx with _ | p
  · rw [show wrV none = -1 from rfl]
    have hzl := dayL_le n pc (ruE rt) tx 80 0 b 0
    generalize hz : dayL n pc (ruE rt) tx 80 0 b 0 = z at hzl
    obtain ⟨K, stp, B⟩ := z
    have hzl' : K ≤ 80 := by omega
    refine pw_iload_n 9 rfl dX11_day_8 rfl ?_
    refine pw_iconst (v := -1) 10 rfl dX11_day_9 rfl ?_
    refine pw_icmp_eq (tgt := 24) 13 rfl dX11_day_10 rfl (fun h10 => ?_) (fun h10 => absurd rfl h10)
    refine pw_aload_n 25 rfl dX11_day_24 rfl ?_
    refine pw_getR 28 rfl dX11_day_25 fX11_43 (by first | rfl | assumption | exact rowS hh | exact mtS hm | exact ruS hr | exact mtA1 hm | exact mtA2 hm | exact mtA3 hm | exact mtA4 hm | exact mtA5 hm | exact mtA6 hm | exact mtA7 hm | exact ruA1 hr | exact ruA2 hr | exact ruA3 hr) rfl (by first | rfl | assumption | exact mtR0 hm | exact mtR1 hm | exact mtR2 hm | exact mtR3 hm | exact mtR4 hm | exact mtR5 hm | exact mtR6 hm | exact ruR0 hr | exact ruR1 hr | exact ruR3 hr) ?_
    refine pw_aload_n 29 rfl dX11_day_28 rfl ?_
    refine pw_getR 32 rfl dX11_day_29 fX11_10 (by first | rfl | assumption | exact rowS hh | exact mtS hm | exact ruS hr | exact mtA1 hm | exact mtA2 hm | exact mtA3 hm | exact mtA4 hm | exact mtA5 hm | exact mtA6 hm | exact mtA7 hm | exact ruA1 hr | exact ruA2 hr | exact ruA3 hr) rfl (by first | rfl | assumption | exact mtR0 hm | exact mtR1 hm | exact mtR2 hm | exact mtR3 hm | exact mtR4 hm | exact mtR5 hm | exact mtR6 hm | exact ruR0 hr | exact ruR1 hr | exact ruR3 hr) ?_
    refine pw_callV (as := [_]) 35 rfl dX11_day_32 mX11_132 vX4_note (x_note (d := d + 6) a1) (by first | rfl | assumption | exact rowS hh | exact mtS hm | exact ruS hr | exact mtA1 hm | exact mtA2 hm | exact mtA3 hm | exact mtA4 hm | exact mtA5 hm | exact mtA6 hm | exact mtA7 hm | exact ruA1 hr | exact ruA2 hr | exact ruA3 hr) rfl (by decide) ⟨rfl, by decide, by decide, show (parseMethodDescriptor yX4_note.desc).map (fun d => d.parameters.length) = some 1 by decide +kernel⟩ (by omega) (by decide) (Nat.le_of_ble_eq_true rfl) rfl (fun r32 I32 J32 R32 c32 => ?_)
    obtain ⟨rfl, g1, g2, rfl, rfl⟩ := c32
    rotate_left
    have hM1 : XM I32 1 n pc b := XM_fr a1 (fun a h1 h2 => g2 a (by omega))
    have hE1 : XE I32 9 (ruE rt) := XE_fr a2 (g2 9 (by omega)) (g2 10 (by omega))
    have fin : ∀ (I' : pI) (x : Int32), XM I' 1 n pc B → WN n pc B → XE I' 9 (ruE rt) → (∀ a, a ≠ 11 → ¬ (1 ≤ a ∧ a ≤ 8) → I' a = I32 a) → PW SX yX11_day.cls cX11_day 5 (d + 8) 105 [some (.ref 0), some (.int (-1)), some (.int (nI K)), some (.int (nI (if stp = true then 1 else 0))), some (.int x)] [] I' J RX (rX cX11_day (some .int) (oP (nI K, (n, pc, B, if 0 < K then aKeep us b else us, kp, [if stp = true then 1 else 0, lI (B 30)], [], rt, hd, sw)))) := by
      intro I' x m1 mW mE m2
      have hU1 : XU I' us := XU_fr a5 (fun a h1 h2 h3 h4 => by rw [m2 a (by omega) (by omega), g2 a (by omega)])
      have hP1 : Pg (I' 25) b 7 := by rw [m2 25 (by omega) (by omega)]; exact g1
      refine pw_aload_n 106 rfl dX11_day_105 rfl ?_
      refine pw_getR 109 rfl dX11_day_106 fX11_29 (by first | rfl | assumption | exact rowS hh | exact mtS hm | exact ruS hr | exact mtA1 hm | exact mtA2 hm | exact mtA3 hm | exact mtA4 hm | exact mtA5 hm | exact mtA6 hm | exact mtA7 hm | exact ruA1 hr | exact ruA2 hr | exact ruA3 hr) rfl (by first | rfl | assumption | exact mtR0 hm | exact mtR1 hm | exact mtR2 hm | exact mtR3 hm | exact mtR4 hm | exact mtR5 hm | exact mtR6 hm | exact ruR0 hr | exact ruR1 hr | exact ruR3 hr) ?_
      refine pw_callV (as := []) 112 rfl dX11_day_109 mX11_121 vX10_clear (x_clearT (d := d + 7)) (by first | rfl | assumption | exact rowS hh | exact mtS hm | exact ruS hr | exact mtA1 hm | exact mtA2 hm | exact mtA3 hm | exact mtA4 hm | exact mtA5 hm | exact mtA6 hm | exact mtA7 hm | exact ruA1 hr | exact ruA2 hr | exact ruA3 hr) rfl (by decide) ⟨rfl, by decide, by decide, show (parseMethodDescriptor yX10_clear.desc).map (fun d => d.parameters.length) = some 0 by decide +kernel⟩ (by omega) (by decide) (Nat.le_of_ble_eq_true rfl) rfl (fun r109 I109 J109 R109 c109 => ?_)
      obtain ⟨rfl, t1, t2, rfl, rfl⟩ := c109
      rotate_left
      have fin2 : ∀ (I1 : pI), XU I1 (if 0 < K then aKeep us b else us) → (∀ a, ¬ (21 ≤ a ∧ a ≤ 37 ∧ a ≠ 24 ∧ a ≠ 25) → I1 a = I109 a) → PW SX yX11_day.cls cX11_day 5 (d + 8) 123 [some (.ref 0), some (.int (-1)), some (.int (nI K)), some (.int (nI (if stp = true then 1 else 0))), some (.int x)] [] I1 J RX (rX cX11_day (some .int) (oP (nI K, (n, pc, B, if 0 < K then aKeep us b else us, kp, [if stp = true then 1 else 0, lI (B 30)], [], rt, hd, sw)))) := by
        intro I1 u1 u2
        have ef : ∀ a, a ≠ 11 → a ≠ 17 → ¬ (1 ≤ a ∧ a ≤ 8) → ¬ (21 ≤ a ∧ a ≤ 37 ∧ a ≠ 24) → I1 a = I a := fun a h1 h2 h3 h4 => by rw [u2 a (by omega), t2 a h2, m2 a h1 h3, g2 a (by omega)]
        have eh : I1 1 10 = nI (B 30) := by rw [u2 1 (by omega), t2 1 (by omega)]; exact m1.2.2.2.2.1
        have hT1 : XT I1 [] := XT_fr t1 (u2 17 (by omega)) (u2 18 (by omega))
        have hM2 : XM I1 1 n pc B := XM_fr m1 (fun a h1 h2 => by rw [u2 a (by omega), t2 a (by omega)])
        have tail : ∀ (lv : Int64), PW SX yX11_day.cls cX11_day 5 (d + 8) 136 [some (.ref 0), some (.int (-1)), some (.int (nI K)), some (.int (nI (if stp = true then 1 else 0))), some (.int x)] [.long lv, .ref 19] I1 J RX (rX cX11_day (some .int) (oP (nI K, (n, pc, B, if 0 < K then aKeep us b else us, kp, [lv, lI (B 30)], [], rt, hd, sw)))) := by
          intro lv
          refine pw_aload_n 137 rfl dX11_day_136 rfl ?_
          refine pw_getR 140 rfl dX11_day_137 fX11_10 (by first | rfl | assumption | exact rowS hh | exact mtS hm | exact ruS hr | exact mtA1 hm | exact mtA2 hm | exact mtA3 hm | exact mtA4 hm | exact mtA5 hm | exact mtA6 hm | exact mtA7 hm | exact ruA1 hr | exact ruA2 hr | exact ruA3 hr) rfl (by first | rfl | assumption | exact mtR0 hm | exact mtR1 hm | exact mtR2 hm | exact mtR3 hm | exact mtR4 hm | exact mtR5 hm | exact mtR6 hm | exact ruR0 hr | exact ruR1 hr | exact ruR3 hr) ?_
          refine pw_getI 143 rfl dX11_day_140 fX11_229 (by first | rfl | assumption | exact rowS hh | exact mtS hm | exact ruS hr | exact mtA1 hm | exact mtA2 hm | exact mtA3 hm | exact mtA4 hm | exact mtA5 hm | exact mtA6 hm | exact mtA7 hm | exact ruA1 hr | exact ruA2 hr | exact ruA3 hr) rfl ?_
          rotate_left
          rw [eh]
          refine pw_i2l 144 rfl dX11_day_143 ?_
          refine pw_callV (as := [_, _]) 147 rfl dX11_day_144 mX11_197 vX2_tellTwo (x_tellTwo (d := d + 5) _ _) (by first | rfl | assumption | exact rowS hh | exact mtS hm | exact ruS hr | exact mtA1 hm | exact mtA2 hm | exact mtA3 hm | exact mtA4 hm | exact mtA5 hm | exact mtA6 hm | exact mtA7 hm | exact ruA1 hr | exact ruA2 hr | exact ruA3 hr) rfl (by decide) ⟨rfl, by decide, by decide, show (parseMethodDescriptor yX2_tellTwo.desc).map (fun d => d.parameters.length) = some 2 by decide +kernel⟩ (by omega) (by decide) (Nat.le_of_ble_eq_true rfl) rfl (fun r144 I144 J144 R144 c144 => ?_)
          obtain ⟨rfl, r1, r2, rfl⟩ := c144
          rotate_left
          refine pw_iload_n 148 rfl dX11_day_147 rfl ?_
          refine pw_iret dX11_day_148 rfl ?_
          rotate_left
          have ef2 : ∀ a, a ≠ 11 → a ≠ 17 → a ≠ 19 → ¬ (1 ≤ a ∧ a ≤ 8) → ¬ (21 ≤ a ∧ a ≤ 37 ∧ a ≠ 24) → I144 a = I a := fun a h1 h2 h3 h4 h5 => by rw [r2 a h3]; exact ef a h1 h2 h4 h5
          exact ⟨rfl, ⟨XM_fr hM2 (fun a h1 h2 => r2 a (by omega)), XE_fr a2 (ef2 9 (by omega) (by omega) (by omega) (by omega) (by omega)) (ef2 10 (by omega) (by omega) (by omega) (by omega) (by omega)), r1, XT_fr hT1 (r2 17 (by omega)) (r2 18 (by omega)), XU_fr u1 (fun a h1 h2 h3 h4 => r2 a (by omega)), XK_fr a6 (ef2 24 (by omega) (by omega) (by omega) (by omega) (by omega)) (ef2 38 (by omega) (by omega) (by omega) (by omega) (by omega)) (ef2 39 (by omega) (by omega) (by omega) (by omega) (by omega)), XH_fr a7 (ef2 62 (by omega) (by omega) (by omega) (by omega) (by omega)) (ef2 63 (by omega) (by omega) (by omega) (by omega) (by omega)), XG_fr a8 (by rw [ef2 64 (by omega) (by omega) (by omega) (by omega) (by omega)]) (ef2 65 (by omega) (by omega) (by omega) (by omega) (by omega))⟩, rfl⟩
        rcases stp with _ | _
        · refine pw_aload_n 124 rfl dX11_day_123 rfl ?_
          refine pw_getR 127 rfl dX11_day_124 fX11_36 (by first | rfl | assumption | exact rowS hh | exact mtS hm | exact ruS hr | exact mtA1 hm | exact mtA2 hm | exact mtA3 hm | exact mtA4 hm | exact mtA5 hm | exact mtA6 hm | exact mtA7 hm | exact ruA1 hr | exact ruA2 hr | exact ruA3 hr) rfl (by first | rfl | assumption | exact mtR0 hm | exact mtR1 hm | exact mtR2 hm | exact mtR3 hm | exact mtR4 hm | exact mtR5 hm | exact mtR6 hm | exact ruR0 hr | exact ruR1 hr | exact ruR3 hr) ?_
          refine pw_iload_n 128 rfl dX11_day_127 rfl ?_
          refine pw_if_eq (tgt := 135) 131 rfl dX11_day_128 rfl (fun h128 => ?_) (fun h128 => absurd rfl h128)
          refine pw_lconst 136 rfl dX11_day_135 rfl ?_
          rotate_left
          exact tail 0
        · refine pw_aload_n 124 rfl dX11_day_123 rfl ?_
          refine pw_getR 127 rfl dX11_day_124 fX11_36 (by first | rfl | assumption | exact rowS hh | exact mtS hm | exact ruS hr | exact mtA1 hm | exact mtA2 hm | exact mtA3 hm | exact mtA4 hm | exact mtA5 hm | exact mtA6 hm | exact mtA7 hm | exact ruA1 hr | exact ruA2 hr | exact ruA3 hr) rfl (by first | rfl | assumption | exact mtR0 hm | exact mtR1 hm | exact mtR2 hm | exact mtR3 hm | exact mtR4 hm | exact mtR5 hm | exact mtR6 hm | exact ruR0 hr | exact ruR1 hr | exact ruR3 hr) ?_
          refine pw_iload_n 128 rfl dX11_day_127 rfl ?_
          refine pw_if_eq (tgt := 135) 131 rfl dX11_day_128 rfl (fun h128 => absurd h128 (by decide)) (fun h128 => ?_)
          refine pw_lconst 132 rfl dX11_day_131 rfl ?_
          refine pw_goto (tgt := 136) dX11_day_132 rfl ?_
          rotate_left
          exact tail 1
      by_cases h0 : 0 < K
      · have hU2 : XU I109 us := XU_fr hU1 (fun a h1 h2 h3 h4 => t2 a (by omega))
        have hP2 : Pg (I109 25) b 7 := by rw [t2 25 (by omega)]; exact hP1
        refine pw_iload_n 113 rfl dX11_day_112 rfl ?_
        refine pw_if_le (tgt := 123) 116 rfl dX11_day_113 rfl (fun h113 => absurd h113 (nI_nle h0 (by omega))) (fun h113 => ?_)
        refine pw_aload_n 117 rfl dX11_day_116 rfl ?_
        refine pw_getR 120 rfl dX11_day_117 fX11_43 (by first | rfl | assumption | exact rowS hh | exact mtS hm | exact ruS hr | exact mtA1 hm | exact mtA2 hm | exact mtA3 hm | exact mtA4 hm | exact mtA5 hm | exact mtA6 hm | exact mtA7 hm | exact ruA1 hr | exact ruA2 hr | exact ruA3 hr) rfl (by first | rfl | assumption | exact mtR0 hm | exact mtR1 hm | exact mtR2 hm | exact mtR3 hm | exact mtR4 hm | exact mtR5 hm | exact mtR6 hm | exact ruR0 hr | exact ruR1 hr | exact ruR3 hr) ?_
        refine pw_callV (as := []) 123 rfl dX11_day_120 mX11_190 vX4_keepNoted (x_keepNoted (d := d + 6) hU2 hP2) (by first | rfl | assumption | exact rowS hh | exact mtS hm | exact ruS hr | exact mtA1 hm | exact mtA2 hm | exact mtA3 hm | exact mtA4 hm | exact mtA5 hm | exact mtA6 hm | exact mtA7 hm | exact ruA1 hr | exact ruA2 hr | exact ruA3 hr) rfl (by decide) ⟨rfl, by decide, by decide, show (parseMethodDescriptor yX4_keepNoted.desc).map (fun d => d.parameters.length) = some 0 by decide +kernel⟩ (by omega) (by decide) (Nat.le_of_ble_eq_true rfl) rfl (fun r120 I120 J120 R120 c120 => ?_)
        obtain ⟨rfl, q1, q2, rfl, rfl⟩ := c120
        rotate_left
        exact fin2 I120 (by rw [if_pos h0]; exact q1) q2
      · have e0 : K = 0 := by omega
        refine pw_iload_n 113 rfl dX11_day_112 rfl ?_
        refine pw_if_le (tgt := 123) 116 rfl dX11_day_113 rfl (fun h113 => ?_) (fun h113 => absurd (by rw [e0]; decide) h113)
        rotate_left
        exact fin2 I109 (by rw [if_neg h0]; exact XU_fr hU1 (fun a h1 h2 h3 h4 => t2 a (by omega))) (fun _ _ => rfl)
    have L : ∀ (f p k : Nat) (b' : Nat → Nat) (I' : pI), dyb tx (p + 1) = p → p ≤ tx.length → tx.length ≤ p + 2 * f → k + f ≤ 80 → XM I' 1 n pc b' → WN n pc b' → XE I' 9 (ruE rt) → (∀ a, a ≠ 11 → ¬ (1 ≤ a ∧ a ≤ 8) → I' a = I32 a) → dayL n pc (ruE rt) tx f p b' k = (K, stp, B) → PW SX yX11_day.cls cX11_day 5 (d + 8) 42 [some (.ref 0), some (.int (-1)), some (.int (nI k)), some (.int (nI 0)), some (.int (nI p))] [] I' J RX (rX cX11_day (some .int) (oP (nI K, (n, pc, B, if 0 < K then aKeep us b else us, kp, [if stp = true then 1 else 0, lI (B 30)], [], rt, hd, sw)))) := by
      intro f
      induction f with
      | zero =>
        intro p k b' I' q1 q2 q3 q4 m1 mW mE m2 hr
        cases hr
        have x1' : I' 17 1 = nI tx.length := by rw [m2 17 (by omega) (by omega), g2 17 (by omega)]; exact x1
        refine pw_iload 44 rfl dX11_day_42 rfl ?_
        refine pw_aload_n 45 rfl dX11_day_44 rfl ?_
        refine pw_getR 48 rfl dX11_day_45 fX11_29 (by first | rfl | assumption | exact rowS hh | exact mtS hm | exact ruS hr | exact mtA1 hm | exact mtA2 hm | exact mtA3 hm | exact mtA4 hm | exact mtA5 hm | exact mtA6 hm | exact mtA7 hm | exact ruA1 hr | exact ruA2 hr | exact ruA3 hr) rfl (by first | rfl | assumption | exact mtR0 hm | exact mtR1 hm | exact mtR2 hm | exact mtR3 hm | exact mtR4 hm | exact mtR5 hm | exact mtR6 hm | exact ruR0 hr | exact ruR1 hr | exact ruR3 hr) ?_
        refine pw_getI 51 rfl dX11_day_48 fX11_110 (by first | rfl | assumption | exact rowS hh | exact mtS hm | exact ruS hr | exact mtA1 hm | exact mtA2 hm | exact mtA3 hm | exact mtA4 hm | exact mtA5 hm | exact mtA6 hm | exact mtA7 hm | exact ruA1 hr | exact ruA2 hr | exact ruA3 hr) rfl ?_
        refine pw_icmp_ge (tgt := 105) 54 rfl dX11_day_51 rfl (fun h51 => ?_) (fun h51 => absurd (by rw [x1']; (simp (disch := omega) only [nI_leI, nI_ltI, nI_eq, show (0 : Int32) = nI 0 from rfl, not_true_eq_false, not_false_eq_true] <;> omega)) h51)
        rotate_left
        exact fin I' _ m1 mW mE m2
      | succ f ih =>
        intro p k b' I' q1 q2 q3 q4 m1 mW mE m2 hr
        have x1' : I' 17 1 = nI tx.length := by rw [m2 17 (by omega) (by omega), g2 17 (by omega)]; exact x1
        have hT' : XT I' tx := XT_fr a4 (by rw [m2 17 (by omega) (by omega), g2 17 (by omega)]) (by rw [m2 18 (by omega) (by omega), g2 18 (by omega)])
        rw [dayL] at hr
        by_cases hp : p < tx.length
        · rw [if_pos hp] at hr
          obtain ⟨w1, w2, w3, w4⟩ := day_act e q1 hp
          have hs := sgA_23 (tx.getD p 0)
          have hnx := dyb_next q1
          obtain ⟨c, hc⟩ : ∃ c, tx[p]? = some c := ⟨_, List.getElem?_eq_getElem hp⟩
          have hc6 := (x3 p c hc).2
          have ec := getD_s hc
          refine pw_iload 44 rfl dX11_day_42 rfl ?_
          refine pw_aload_n 45 rfl dX11_day_44 rfl ?_
          refine pw_getR 48 rfl dX11_day_45 fX11_29 (by first | rfl | assumption | exact rowS hh | exact mtS hm | exact ruS hr | exact mtA1 hm | exact mtA2 hm | exact mtA3 hm | exact mtA4 hm | exact mtA5 hm | exact mtA6 hm | exact mtA7 hm | exact ruA1 hr | exact ruA2 hr | exact ruA3 hr) rfl (by first | rfl | assumption | exact mtR0 hm | exact mtR1 hm | exact mtR2 hm | exact mtR3 hm | exact mtR4 hm | exact mtR5 hm | exact mtR6 hm | exact ruR0 hr | exact ruR1 hr | exact ruR3 hr) ?_
          refine pw_getI 51 rfl dX11_day_48 fX11_110 (by first | rfl | assumption | exact rowS hh | exact mtS hm | exact ruS hr | exact mtA1 hm | exact mtA2 hm | exact mtA3 hm | exact mtA4 hm | exact mtA5 hm | exact mtA6 hm | exact mtA7 hm | exact ruA1 hr | exact ruA2 hr | exact ruA3 hr) rfl ?_
          refine pw_icmp_ge (tgt := 105) 54 rfl dX11_day_51 rfl (fun h51 => absurd h51 (by rw [x1']; (simp (disch := omega) only [nI_leI, nI_ltI, nI_eq, show (0 : Int32) = nI 0 from rfl, not_true_eq_false, not_false_eq_true] <;> omega))) (fun h51 => ?_)
          refine pw_iload_n 55 rfl dX11_day_54 rfl ?_
          refine pw_if_ne (tgt := 105) 58 rfl dX11_day_55 rfl (fun h55 => absurd rfl h55) (fun h55 => ?_)
          refine pw_aload_n 59 rfl dX11_day_58 rfl ?_
          refine pw_iload 61 rfl dX11_day_59 rfl ?_
          refine pw_callV (as := [_]) 64 rfl dX11_day_61 mX11_220 vX11_actAt (x_actAt (d := d) (p := p) m1 mW mE hT' (by omega) w2 w1 w3 (fun h3 => (w4 h3).1)) (by first | rfl | assumption | exact rowS hh | exact mtS hm | exact ruS hr | exact mtA1 hm | exact mtA2 hm | exact mtA3 hm | exact mtA4 hm | exact mtA5 hm | exact mtA6 hm | exact mtA7 hm | exact ruA1 hr | exact ruA2 hr | exact ruA3 hr) rfl (by decide) ⟨rfl, by decide, by decide, show (parseMethodDescriptor yX11_actAt.desc).map (fun d => d.parameters.length) = some 1 by decide +kernel⟩ (by omega) (by decide) (Nat.le_of_ble_eq_true rfl) rfl (fun r61 I61 J61 R61 c61 => ?_)
          obtain ⟨rfl, n1, nE, n2, rfl, rfl⟩ := c61
          rotate_left
          have nW := WN_actA (c := tx.getD p 0) (x := tx.getD (p + 1) 0 - 48) (y := tx.getD (p + 2) 0 - 48) (ruE rt) mW
          generalize actA n pc (ruE rt) (tx.getD p 0) (tx.getD (p + 1) 0 - 48) (tx.getD (p + 2) 0 - 48) b' = r at hr n1 nW ⊢
          obtain ⟨v, b2⟩ := r
          have hf2 : ∀ a, a ≠ 11 → ¬ (1 ≤ a ∧ a ≤ 8) → I61 a = I32 a := fun a h1 h2 => by rw [n2 a h1 h2, m2 a h1 h2]
          have hT2 : XT I61 tx := XT_fr hT' (n2 17 (by omega) (by omega)) (n2 18 (by omega) (by omega))
          have x1'' : I61 17 1 = nI tx.length := by rw [n2 17 (by omega) (by omega)]; exact x1'
          by_cases hv : v < 0
          · rw [if_pos hv] at hr
            cases hr
            refine pw_if_ge (tgt := 71) 67 rfl dX11_day_64 rfl (fun h64 => absurd h64 (fun z => absurd hv (Int32.not_lt.mpr z))) (fun h64 => ?_)
            refine pw_iconst (v := nI 1) 68 rfl dX11_day_67 rfl ?_
            refine pw_goto (tgt := 72) dX11_day_68 rfl ?_
            refine pw_istore_n 73 rfl dX11_day_72 (by decide) ?_
            refine pw_iload_n 74 rfl dX11_day_73 rfl ?_
            refine pw_iload_n 75 rfl dX11_day_74 rfl ?_
            refine pw_if_eq (tgt := 82) 78 rfl dX11_day_75 rfl (fun h75 => absurd h75 (by decide)) (fun h75 => ?_)
            refine pw_iconst (v := nI 0) 79 rfl dX11_day_78 rfl ?_
            refine pw_goto (tgt := 83) dX11_day_79 rfl ?_
            first | refine pw_iaddN 84 rfl dX11_day_83 ?_ | refine pw_iadd 84 rfl dX11_day_83 ?_
            refine pw_istore_n 85 rfl dX11_day_84 (by decide) ?_
            refine pw_iload 87 rfl dX11_day_85 rfl ?_
            refine pw_aload_n 88 rfl dX11_day_87 rfl ?_
            refine pw_getR 91 rfl dX11_day_88 fX11_29 (by first | rfl | assumption | exact rowS hh | exact mtS hm | exact ruS hr | exact mtA1 hm | exact mtA2 hm | exact mtA3 hm | exact mtA4 hm | exact mtA5 hm | exact mtA6 hm | exact mtA7 hm | exact ruA1 hr | exact ruA2 hr | exact ruA3 hr) rfl (by first | rfl | assumption | exact mtR0 hm | exact mtR1 hm | exact mtR2 hm | exact mtR3 hm | exact mtR4 hm | exact mtR5 hm | exact mtR6 hm | exact ruR0 hr | exact ruR1 hr | exact ruR3 hr) ?_
            refine pw_iload 93 rfl dX11_day_91 rfl ?_
            refine pw_callVP (as := [_]) 96 rfl dX11_day_93 mX11_223 vX10_at (x_at (d := d + 7) hT2 (show p ≤ 100 by omega)) (by first | rfl | assumption | exact rowS hh | exact mtS hm | exact ruS hr | exact mtA1 hm | exact mtA2 hm | exact mtA3 hm | exact mtA4 hm | exact mtA5 hm | exact mtA6 hm | exact mtA7 hm | exact ruA1 hr | exact ruA2 hr | exact ruA3 hr) rfl (by decide) ⟨rfl, by decide, by decide, show (parseMethodDescriptor yX10_at.desc).map (fun d => d.parameters.length) = some 1 by decide +kernel⟩ (by omega) (by decide) (Nat.le_of_ble_eq_true rfl) rfl ?_
            rotate_left
            rw [tAt_s hc]
            refine pw_callSP (as := [_]) 99 rfl dX11_day_96 mX11_226 sX10_signsOfAct (x_signsOfAct (d := d + 7) (show c < 65536 by omega)) ⟨rfl, by decide, by decide, show (parseMethodDescriptor yX10_signsOfAct.desc).map (fun d => d.parameters.length) = some 1 by decide +kernel⟩ (by omega) (by decide) (Nat.le_of_ble_eq_true rfl) rfl ?_
            first | refine pw_iaddN 100 rfl dX11_day_99 ?_ | refine pw_iadd 100 rfl dX11_day_99 ?_
            refine pw_istore 102 rfl dX11_day_100 (by decide) ?_
            refine pw_goto (tgt := 42) dX11_day_102 rfl ?_
            rotate_left
            have hs' := sgA_23 c
            by_cases hx : tx.length ≤ p + sgA c
            · refine pw_iload 44 rfl dX11_day_42 rfl ?_
              refine pw_aload_n 45 rfl dX11_day_44 rfl ?_
              refine pw_getR 48 rfl dX11_day_45 fX11_29 (by first | rfl | assumption | exact rowS hh | exact mtS hm | exact ruS hr | exact mtA1 hm | exact mtA2 hm | exact mtA3 hm | exact mtA4 hm | exact mtA5 hm | exact mtA6 hm | exact mtA7 hm | exact ruA1 hr | exact ruA2 hr | exact ruA3 hr) rfl (by first | rfl | assumption | exact mtR0 hm | exact mtR1 hm | exact mtR2 hm | exact mtR3 hm | exact mtR4 hm | exact mtR5 hm | exact mtR6 hm | exact ruR0 hr | exact ruR1 hr | exact ruR3 hr) ?_
              refine pw_getI 51 rfl dX11_day_48 fX11_110 (by first | rfl | assumption | exact rowS hh | exact mtS hm | exact ruS hr | exact mtA1 hm | exact mtA2 hm | exact mtA3 hm | exact mtA4 hm | exact mtA5 hm | exact mtA6 hm | exact mtA7 hm | exact ruA1 hr | exact ruA2 hr | exact ruA3 hr) rfl ?_
              refine pw_icmp_ge (tgt := 105) 54 rfl dX11_day_51 rfl (fun h51 => ?_) (fun h51 => absurd (by rw [x1'']; (simp (disch := omega) only [nI_leI, nI_ltI, nI_eq, show (0 : Int32) = nI 0 from rfl, not_true_eq_false, not_false_eq_true] <;> omega)) h51)
              rotate_left
              exact fin I61 _ n1 nW nE hf2
            · refine pw_iload 44 rfl dX11_day_42 rfl ?_
              refine pw_aload_n 45 rfl dX11_day_44 rfl ?_
              refine pw_getR 48 rfl dX11_day_45 fX11_29 (by first | rfl | assumption | exact rowS hh | exact mtS hm | exact ruS hr | exact mtA1 hm | exact mtA2 hm | exact mtA3 hm | exact mtA4 hm | exact mtA5 hm | exact mtA6 hm | exact mtA7 hm | exact ruA1 hr | exact ruA2 hr | exact ruA3 hr) rfl (by first | rfl | assumption | exact mtR0 hm | exact mtR1 hm | exact mtR2 hm | exact mtR3 hm | exact mtR4 hm | exact mtR5 hm | exact mtR6 hm | exact ruR0 hr | exact ruR1 hr | exact ruR3 hr) ?_
              refine pw_getI 51 rfl dX11_day_48 fX11_110 (by first | rfl | assumption | exact rowS hh | exact mtS hm | exact ruS hr | exact mtA1 hm | exact mtA2 hm | exact mtA3 hm | exact mtA4 hm | exact mtA5 hm | exact mtA6 hm | exact mtA7 hm | exact ruA1 hr | exact ruA2 hr | exact ruA3 hr) rfl ?_
              refine pw_icmp_ge (tgt := 105) 54 rfl dX11_day_51 rfl (fun h51 => absurd h51 (by rw [x1'']; (simp (disch := omega) only [nI_leI, nI_ltI, nI_eq, show (0 : Int32) = nI 0 from rfl, not_true_eq_false, not_false_eq_true] <;> omega))) (fun h51 => ?_)
              refine pw_iload_n 55 rfl dX11_day_54 rfl ?_
              refine pw_if_ne (tgt := 105) 58 rfl dX11_day_55 rfl (fun h55 => ?_) (fun h55 => absurd h55 (by decide))
              rotate_left
              exact fin I61 _ n1 nW nE hf2
          · rw [if_neg hv] at hr
            refine pw_if_ge (tgt := 71) 67 rfl dX11_day_64 rfl (fun h64 => ?_) (fun h64 => absurd (Int32.not_lt.mp hv) h64)
            refine pw_iconst (v := nI 0) 72 rfl dX11_day_71 rfl ?_
            refine pw_istore_n 73 rfl dX11_day_72 (by decide) ?_
            refine pw_iload_n 74 rfl dX11_day_73 rfl ?_
            refine pw_iload_n 75 rfl dX11_day_74 rfl ?_
            refine pw_if_eq (tgt := 82) 78 rfl dX11_day_75 rfl (fun h75 => ?_) (fun h75 => absurd rfl h75)
            refine pw_iconst (v := nI 1) 83 rfl dX11_day_82 rfl ?_
            first | refine pw_iaddN 84 rfl dX11_day_83 ?_ | refine pw_iadd 84 rfl dX11_day_83 ?_
            refine pw_istore_n 85 rfl dX11_day_84 (by decide) ?_
            refine pw_iload 87 rfl dX11_day_85 rfl ?_
            refine pw_aload_n 88 rfl dX11_day_87 rfl ?_
            refine pw_getR 91 rfl dX11_day_88 fX11_29 (by first | rfl | assumption | exact rowS hh | exact mtS hm | exact ruS hr | exact mtA1 hm | exact mtA2 hm | exact mtA3 hm | exact mtA4 hm | exact mtA5 hm | exact mtA6 hm | exact mtA7 hm | exact ruA1 hr | exact ruA2 hr | exact ruA3 hr) rfl (by first | rfl | assumption | exact mtR0 hm | exact mtR1 hm | exact mtR2 hm | exact mtR3 hm | exact mtR4 hm | exact mtR5 hm | exact mtR6 hm | exact ruR0 hr | exact ruR1 hr | exact ruR3 hr) ?_
            refine pw_iload 93 rfl dX11_day_91 rfl ?_
            refine pw_callVP (as := [_]) 96 rfl dX11_day_93 mX11_223 vX10_at (x_at (d := d + 7) hT2 (show p ≤ 100 by omega)) (by first | rfl | assumption | exact rowS hh | exact mtS hm | exact ruS hr | exact mtA1 hm | exact mtA2 hm | exact mtA3 hm | exact mtA4 hm | exact mtA5 hm | exact mtA6 hm | exact mtA7 hm | exact ruA1 hr | exact ruA2 hr | exact ruA3 hr) rfl (by decide) ⟨rfl, by decide, by decide, show (parseMethodDescriptor yX10_at.desc).map (fun d => d.parameters.length) = some 1 by decide +kernel⟩ (by omega) (by decide) (Nat.le_of_ble_eq_true rfl) rfl ?_
            rotate_left
            rw [tAt_s hc]
            refine pw_callSP (as := [_]) 99 rfl dX11_day_96 mX11_226 sX10_signsOfAct (x_signsOfAct (d := d + 7) (show c < 65536 by omega)) ⟨rfl, by decide, by decide, show (parseMethodDescriptor yX10_signsOfAct.desc).map (fun d => d.parameters.length) = some 1 by decide +kernel⟩ (by omega) (by decide) (Nat.le_of_ble_eq_true rfl) rfl ?_
            first | refine pw_iaddN 100 rfl dX11_day_99 ?_ | refine pw_iadd 100 rfl dX11_day_99 ?_
            refine pw_istore 102 rfl dX11_day_100 (by decide) ?_
            refine pw_goto (tgt := 42) dX11_day_102 rfl ?_
            rotate_left
            rw [ec] at hnx hr w2 hs
            exact ih (p + sgA c) (k + 1) b2 I61 hnx w2 (by omega) (by omega) n1 nW nE hf2 hr
        · rw [if_neg hp] at hr
          cases hr
          refine pw_iload 44 rfl dX11_day_42 rfl ?_
          refine pw_aload_n 45 rfl dX11_day_44 rfl ?_
          refine pw_getR 48 rfl dX11_day_45 fX11_29 (by first | rfl | assumption | exact rowS hh | exact mtS hm | exact ruS hr | exact mtA1 hm | exact mtA2 hm | exact mtA3 hm | exact mtA4 hm | exact mtA5 hm | exact mtA6 hm | exact mtA7 hm | exact ruA1 hr | exact ruA2 hr | exact ruA3 hr) rfl (by first | rfl | assumption | exact mtR0 hm | exact mtR1 hm | exact mtR2 hm | exact mtR3 hm | exact mtR4 hm | exact mtR5 hm | exact mtR6 hm | exact ruR0 hr | exact ruR1 hr | exact ruR3 hr) ?_
          refine pw_getI 51 rfl dX11_day_48 fX11_110 (by first | rfl | assumption | exact rowS hh | exact mtS hm | exact ruS hr | exact mtA1 hm | exact mtA2 hm | exact mtA3 hm | exact mtA4 hm | exact mtA5 hm | exact mtA6 hm | exact mtA7 hm | exact ruA1 hr | exact ruA2 hr | exact ruA3 hr) rfl ?_
          refine pw_icmp_ge (tgt := 105) 54 rfl dX11_day_51 rfl (fun h51 => ?_) (fun h51 => absurd (by rw [x1']; (simp (disch := omega) only [nI_leI, nI_ltI, nI_eq, show (0 : Int32) = nI 0 from rfl, not_true_eq_false, not_false_eq_true] <;> omega)) h51)
          rotate_left
          exact fin I' _ m1 mW mE m2
    refine pw_iconst (v := nI 0) 36 rfl dX11_day_35 rfl ?_
    refine pw_istore_n 37 rfl dX11_day_36 (by decide) ?_
    refine pw_iconst (v := nI 0) 38 rfl dX11_day_37 rfl ?_
    refine pw_istore_n 39 rfl dX11_day_38 (by decide) ?_
    refine pw_iconst (v := nI 0) 40 rfl dX11_day_39 rfl ?_
    refine pw_istore 42 rfl dX11_day_40 (by decide) ?_
    rotate_left
    exact L 80 0 0 b I32 (by show dyb tx 1 = 0; rw [dyb]; split <;> rfl) (Nat.zero_le _) (by omega) (by omega) hM1 aW hE1 (fun _ _ _ => rfl) hz
  · have hp := wrD_le x2 e
    have hne : ¬ nI p = -1 := fun z => nI_pos (show p < 2 ^ 31 by omega) (by rw [z]; decide)
    rw [show wrV (some p) = nI p from rfl]
    refine pw_iload_n 9 rfl dX11_day_8 rfl ?_
    refine pw_iconst (v := -1) 10 rfl dX11_day_9 rfl ?_
    refine pw_icmp_eq (tgt := 24) 13 rfl dX11_day_10 rfl (fun h10 => absurd h10 hne) (fun h10 => ?_)
    refine pw_aload_n 14 rfl dX11_day_13 rfl ?_
    refine pw_getR 17 rfl dX11_day_14 fX11_29 (by first | rfl | assumption | exact rowS hh | exact mtS hm | exact ruS hr | exact mtA1 hm | exact mtA2 hm | exact mtA3 hm | exact mtA4 hm | exact mtA5 hm | exact mtA6 hm | exact mtA7 hm | exact ruA1 hr | exact ruA2 hr | exact ruA3 hr) rfl (by first | rfl | assumption | exact mtR0 hm | exact mtR1 hm | exact mtR2 hm | exact mtR3 hm | exact mtR4 hm | exact mtR5 hm | exact mtR6 hm | exact ruR0 hr | exact ruR1 hr | exact ruR3 hr) ?_
    refine pw_callV (as := []) 20 rfl dX11_day_17 mX11_121 vX10_clear (x_clearT (d := d + 7)) (by first | rfl | assumption | exact rowS hh | exact mtS hm | exact ruS hr | exact mtA1 hm | exact mtA2 hm | exact mtA3 hm | exact mtA4 hm | exact mtA5 hm | exact mtA6 hm | exact mtA7 hm | exact ruA1 hr | exact ruA2 hr | exact ruA3 hr) rfl (by decide) ⟨rfl, by decide, by decide, show (parseMethodDescriptor yX10_clear.desc).map (fun d => d.parameters.length) = some 0 by decide +kernel⟩ (by omega) (by decide) (Nat.le_of_ble_eq_true rfl) rfl (fun r17 I17 J17 R17 c17 => ?_)
    obtain ⟨rfl, t1, t2, rfl, rfl⟩ := c17
    refine pw_iconst (v := -1) 21 rfl dX11_day_20 rfl ?_
    refine pw_iload_n 22 rfl dX11_day_21 rfl ?_
    refine pw_isub 23 rfl dX11_day_22 ?_
    refine pw_iret dX11_day_23 rfl ?_
    rotate_left
    exact ⟨rfl, XA_tx hA (fun a h1 h2 => t2 a h1) t1, rfl⟩
