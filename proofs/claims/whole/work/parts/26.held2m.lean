set_option maxRecDepth 100000 in
set_option maxHeartbeats 2000000 in
theorem m_held0 {D deep : Nat} {X : List Nat → Except (List Nat) (((Nat → Int32) → Int32) × List Nat)} (hX : mCt yX12_sum cX12_sum 5 (D + 2) deep X) (hS : Sf X) {d hr nn L T : Nat} {rl : Option Nat} {cs r : List Nat} {lt : Nat → Int32} {I : pI} {J : pJ} (hP : MP I hr nn L T cs r) (hl : r.length ≤ 40) (hf : I 0 12 = -1) (hL : mLt I lt) : PC SM (d + D + 3) yX12_held cX12_held 3 (some .int) [.ref 0, .int (nI deep)] (I) (J) (RM (some hr) rl) (mRes I J (RM (some hr) rl) cs lt (pCmp X r)) := by
  refine PC.of [some (.ref 0), some (.int (nI deep)), none] rfl rfl (Nat.le_of_ble_eq_true rfl) ?_
  have cx := hX d hr nn L T rl cs r lt I J hP hl hf hL
  refine pw_aload_n 1 rfl dX12_held_0 rfl ?_
  refine pw_iload_n 2 rfl dX12_held_1 rfl ?_
  refine pw_callV (as := [_]) 5 rfl dX12_held_2 mX12_156 vX12_sum cx (by first | rfl | assumption | exact rowS hh | exact mtS hm | exact ruS hr | exact mtA1 hm | exact mtA2 hm | exact mtA3 hm | exact mtA4 hm | exact mtA5 hm | exact mtA6 hm | exact mtA7 hm | exact ruA1 hr | exact ruA2 hr | exact ruA3 hr) rfl (by decide) ⟨rfl, by decide, by decide, show (parseMethodDescriptor yX12_sum.desc).map (fun d => d.parameters.length) = some 1 by decide +kernel⟩ (by omega) (by decide) (Nat.le_of_ble_eq_true rfl) rfl (fun r2 I2 J2 R2 c2 => ?_)
  rotate_left
  have hsx := hS r
  rw [pCmp]
  revert c2 hsx
  rcases X r with e | ⟨f, r'⟩
  · rintro ⟨⟨⟨v, rfl⟩, p1, p2, p3⟩, p4, rfl, rfl⟩ -
    have hne := MP_ne hP e.length
    refine pw_istore_n 6 rfl dX12_held_5 (by decide) ?_
    refine pw_aload_n 7 rfl dX12_held_6 rfl ?_
    refine pw_bipush (v := nI 60) 9 rfl dX12_held_7 rfl ?_
    refine pw_callVP (as := [_]) 12 rfl dX12_held_9 mX12_132 vX12_passes (m_passesBad (d := d + D + 1) p2 hne) (by first | rfl | assumption | exact rowS hh | exact mtS hm | exact ruS hr | exact mtA1 hm | exact mtA2 hm | exact mtA3 hm | exact mtA4 hm | exact mtA5 hm | exact mtA6 hm | exact mtA7 hm | exact ruA1 hr | exact ruA2 hr | exact ruA3 hr) rfl (by decide) ⟨rfl, by decide, by decide, show (parseMethodDescriptor yX12_passes.desc).map (fun d => d.parameters.length) = some 1 by decide +kernel⟩ (by omega) (by decide) (Nat.le_of_ble_eq_true rfl) rfl ?_
    refine pw_if_eq (tgt := 30) 15 rfl dX12_held_12 rfl (fun h12 => ?_) (fun h12 => absurd rfl h12)
    refine pw_aload_n 31 rfl dX12_held_30 rfl ?_
    refine pw_bipush (v := nI 62) 33 rfl dX12_held_31 rfl ?_
    refine pw_callVP (as := [_]) 36 rfl dX12_held_33 mX12_132 vX12_passes (m_passesBad (d := d + D + 1) p2 hne) (by first | rfl | assumption | exact rowS hh | exact mtS hm | exact ruS hr | exact mtA1 hm | exact mtA2 hm | exact mtA3 hm | exact mtA4 hm | exact mtA5 hm | exact mtA6 hm | exact mtA7 hm | exact ruA1 hr | exact ruA2 hr | exact ruA3 hr) rfl (by decide) ⟨rfl, by decide, by decide, show (parseMethodDescriptor yX12_passes.desc).map (fun d => d.parameters.length) = some 1 by decide +kernel⟩ (by omega) (by decide) (Nat.le_of_ble_eq_true rfl) rfl ?_
    refine pw_if_eq (tgt := 54) 39 rfl dX12_held_36 rfl (fun h36 => ?_) (fun h36 => absurd rfl h36)
    refine pw_aload_n 55 rfl dX12_held_54 rfl ?_
    refine pw_bipush (v := nI 61) 57 rfl dX12_held_55 rfl ?_
    refine pw_callVP (as := [_]) 60 rfl dX12_held_57 mX12_132 vX12_passes (m_passesBad (d := d + D + 1) p2 hne) (by first | rfl | assumption | exact rowS hh | exact mtS hm | exact ruS hr | exact mtA1 hm | exact mtA2 hm | exact mtA3 hm | exact mtA4 hm | exact mtA5 hm | exact mtA6 hm | exact mtA7 hm | exact ruA1 hr | exact ruA2 hr | exact ruA3 hr) rfl (by decide) ⟨rfl, by decide, by decide, show (parseMethodDescriptor yX12_passes.desc).map (fun d => d.parameters.length) = some 1 by decide +kernel⟩ (by omega) (by decide) (Nat.le_of_ble_eq_true rfl) rfl ?_
    refine pw_if_eq (tgt := 78) 63 rfl dX12_held_60 rfl (fun h60 => ?_) (fun h60 => absurd rfl h60)
    refine pw_iload_n 79 rfl dX12_held_78 rfl ?_
    refine pw_iret dX12_held_79 rfl ?_
    rotate_left
    exact mErr p1 p2 p3 p4
  · rintro ⟨⟨rfl, p1, p2, p3⟩, p4, rfl, rfl⟩ hsx
    have hlt : r'.length < r.length := hsx (f, r') rfl
    have hP' : MP I2 hr nn L T cs r' := hP.fr p4 p1 p3
    have no : ∀ (c : Nat), c < 256 → r'.head? ≠ some c → PC SM (d + D + 2) yX12_passes cX12_passes 2 (some .boolean) [.ref 0, .int (nI c)] I2 J (RM (some hr) rl) (pPu (.int (nI 0)) I2 J (RM (some hr) rl)) := fun c hc hn => m_passesNo (d := d + D + 1) hP' hn hc
    rcases r' with _ | ⟨c, r'⟩
    · refine pw_istore_n 6 rfl dX12_held_5 (by decide) ?_
      refine pw_aload_n 7 rfl dX12_held_6 rfl ?_
      refine pw_bipush (v := nI 60) 9 rfl dX12_held_7 rfl ?_
      refine pw_callVP (as := [_]) 12 rfl dX12_held_9 mX12_132 vX12_passes (no 60 (by decide) (by simp)) (by first | rfl | assumption | exact rowS hh | exact mtS hm | exact ruS hr | exact mtA1 hm | exact mtA2 hm | exact mtA3 hm | exact mtA4 hm | exact mtA5 hm | exact mtA6 hm | exact mtA7 hm | exact ruA1 hr | exact ruA2 hr | exact ruA3 hr) rfl (by decide) ⟨rfl, by decide, by decide, show (parseMethodDescriptor yX12_passes.desc).map (fun d => d.parameters.length) = some 1 by decide +kernel⟩ (by omega) (by decide) (Nat.le_of_ble_eq_true rfl) rfl ?_
      refine pw_if_eq (tgt := 30) 15 rfl dX12_held_12 rfl (fun h12 => ?_) (fun h12 => absurd rfl h12)
      refine pw_aload_n 31 rfl dX12_held_30 rfl ?_
      refine pw_bipush (v := nI 62) 33 rfl dX12_held_31 rfl ?_
      refine pw_callVP (as := [_]) 36 rfl dX12_held_33 mX12_132 vX12_passes (no 62 (by decide) (by simp)) (by first | rfl | assumption | exact rowS hh | exact mtS hm | exact ruS hr | exact mtA1 hm | exact mtA2 hm | exact mtA3 hm | exact mtA4 hm | exact mtA5 hm | exact mtA6 hm | exact mtA7 hm | exact ruA1 hr | exact ruA2 hr | exact ruA3 hr) rfl (by decide) ⟨rfl, by decide, by decide, show (parseMethodDescriptor yX12_passes.desc).map (fun d => d.parameters.length) = some 1 by decide +kernel⟩ (by omega) (by decide) (Nat.le_of_ble_eq_true rfl) rfl ?_
      refine pw_if_eq (tgt := 54) 39 rfl dX12_held_36 rfl (fun h36 => ?_) (fun h36 => absurd rfl h36)
      refine pw_aload_n 55 rfl dX12_held_54 rfl ?_
      refine pw_bipush (v := nI 61) 57 rfl dX12_held_55 rfl ?_
      refine pw_callVP (as := [_]) 60 rfl dX12_held_57 mX12_132 vX12_passes (no 61 (by decide) (by simp)) (by first | rfl | assumption | exact rowS hh | exact mtS hm | exact ruS hr | exact mtA1 hm | exact mtA2 hm | exact mtA3 hm | exact mtA4 hm | exact mtA5 hm | exact mtA6 hm | exact mtA7 hm | exact ruA1 hr | exact ruA2 hr | exact ruA3 hr) rfl (by decide) ⟨rfl, by decide, by decide, show (parseMethodDescriptor yX12_passes.desc).map (fun d => d.parameters.length) = some 1 by decide +kernel⟩ (by omega) (by decide) (Nat.le_of_ble_eq_true rfl) rfl ?_
      refine pw_if_eq (tgt := 78) 63 rfl dX12_held_60 rfl (fun h60 => ?_) (fun h60 => absurd rfl h60)
      refine pw_iload_n 79 rfl dX12_held_78 rfl ?_
      refine pw_iret dX12_held_79 rfl ?_
      rotate_left
      exact ⟨⟨rfl, p1, p2, p3⟩, p4, rfl, rfl⟩
    · have hs := hP'.2.2.2.2.2.2.2.2.1
      have hP1 := mAt_MP hP' (sfx_tl hs)
      have hl1 : r'.length ≤ 40 := by rw [List.length_cons] at hlt; omega
      show PW SM yX12_held.cls cX12_held 3 (d + D + 3) 5 _ _ I2 J _ (rX cX12_held (some .int) (mRes I J (RM (some hr) rl) cs lt (if c = 60 ∨ c = 62 ∨ c = 61 then (match X r' with
        | .error e => .error e
        | .ok q => .ok (fun lt => jn c (f lt) (q.1 lt), q.2)) else .ok (f, c :: r'))))
      have cx := hX d hr nn L T rl cs r' lt (mAt I2 (cs.length - r'.length)) J hP1 hl1 (by rw [mAt_12]; exact p2) (hL.fr (fun a j h => by rw [mAt_fr a j h]; exact p4 a j h))
      by_cases h60 : c = 60
      · subst h60
        rw [if_pos (by decide)]
        refine pw_istore_n 6 rfl dX12_held_5 (by decide) ?_
        refine pw_aload_n 7 rfl dX12_held_6 rfl ?_
        refine pw_bipush (v := nI 60) 9 rfl dX12_held_7 rfl ?_
        refine pw_callV (as := [_]) 12 rfl dX12_held_9 mX12_132 vX12_passes (m_passes (d := d + D + 1) hP' p2) (by first | rfl | assumption | exact rowS hh | exact mtS hm | exact ruS hr | exact mtA1 hm | exact mtA2 hm | exact mtA3 hm | exact mtA4 hm | exact mtA5 hm | exact mtA6 hm | exact mtA7 hm | exact ruA1 hr | exact ruA2 hr | exact ruA3 hr) rfl (by decide) ⟨rfl, by decide, by decide, show (parseMethodDescriptor yX12_passes.desc).map (fun d => d.parameters.length) = some 1 by decide +kernel⟩ (by omega) (by decide) (Nat.le_of_ble_eq_true rfl) rfl (fun r9 I9 J9 R9 c9 => ?_)
        obtain ⟨rfl, rfl, rfl, rfl⟩ := c9
        refine pw_if_eq (tgt := 30) 15 rfl dX12_held_12 rfl (fun h12 => absurd h12 (by decide)) (fun h12 => ?_)
        refine pw_iload_n 16 rfl dX12_held_15 rfl ?_
        refine pw_aload_n 17 rfl dX12_held_16 rfl ?_
        refine pw_iload_n 18 rfl dX12_held_17 rfl ?_
        rotate_left
        refine pw_callV (as := [_]) 21 rfl dX12_held_18 mX12_156 vX12_sum cx (by first | rfl | assumption | exact rowS hh | exact mtS hm | exact ruS hr | exact mtA1 hm | exact mtA2 hm | exact mtA3 hm | exact mtA4 hm | exact mtA5 hm | exact mtA6 hm | exact mtA7 hm | exact ruA1 hr | exact ruA2 hr | exact ruA3 hr) rfl (by decide) ⟨rfl, by decide, by decide, show (parseMethodDescriptor yX12_sum.desc).map (fun d => d.parameters.length) = some 1 by decide +kernel⟩ (by omega) (by decide) (Nat.le_of_ble_eq_true rfl) rfl (fun r18 I18 J18 R18 c18 => ?_)
        rotate_left
        revert c18
        rcases X r' with e | ⟨g, r2⟩
        · rintro ⟨⟨⟨v, rfl⟩, q1, q2, q3⟩, q4, rfl, rfl⟩
          refine pw_icmp_ge (tgt := 28) 24 rfl dX12_held_21 rfl (fun h21 => ?_) (fun h21 => ?_)
          refine pw_iconst (v := nI 0) 29 rfl dX12_held_28 rfl ?_
          refine pw_iret dX12_held_29 rfl ?_
          rotate_left
          refine pw_iconst (v := nI 1) 25 rfl dX12_held_24 rfl ?_
          refine pw_goto (tgt := 29) dX12_held_25 rfl ?_
          refine pw_iret dX12_held_29 rfl ?_
          rotate_left
          all_goals exact mErr q1 q2 q3 (fun a j h => by rw [q4 a j h, mAt_fr a j h, p4 a j h])
        · rintro ⟨⟨rfl, q1, q2, q3⟩, q4, rfl, rfl⟩
          refine pw_icmp_ge (tgt := 28) 24 rfl dX12_held_21 rfl (fun h21 => ?_) (fun h21 => ?_)
          refine pw_iconst (v := nI 0) 29 rfl dX12_held_28 rfl ?_
          refine pw_iret dX12_held_29 rfl ?_
          rotate_left
          refine pw_iconst (v := nI 1) 25 rfl dX12_held_24 rfl ?_
          refine pw_goto (tgt := 29) dX12_held_25 rfl ?_
          refine pw_iret dX12_held_29 rfl ?_
          rotate_left
          · refine ⟨⟨?_, q1, q2, q3⟩, fun a j h => by rw [q4 a j h, mAt_fr a j h, p4 a j h], rfl, rfl⟩
            show _ = some (Value.int (if f lt < g lt then nI 1 else nI 0))
            rw [if_neg (Int32.not_lt.mpr ‹_›)]
          · refine ⟨⟨?_, q1, q2, q3⟩, fun a j h => by rw [q4 a j h, mAt_fr a j h, p4 a j h], rfl, rfl⟩
            show _ = some (Value.int (if f lt < g lt then nI 1 else nI 0))
            rw [if_pos (Int32.not_le.mp ‹_›)]
      · by_cases h62 : c = 62
        · subst h62
          rw [if_pos (by decide)]
          refine pw_istore_n 6 rfl dX12_held_5 (by decide) ?_
          refine pw_aload_n 7 rfl dX12_held_6 rfl ?_
          refine pw_bipush (v := nI 60) 9 rfl dX12_held_7 rfl ?_
          refine pw_callVP (as := [_]) 12 rfl dX12_held_9 mX12_132 vX12_passes (no 60 (by decide) (by intro q; cases q)) (by first | rfl | assumption | exact rowS hh | exact mtS hm | exact ruS hr | exact mtA1 hm | exact mtA2 hm | exact mtA3 hm | exact mtA4 hm | exact mtA5 hm | exact mtA6 hm | exact mtA7 hm | exact ruA1 hr | exact ruA2 hr | exact ruA3 hr) rfl (by decide) ⟨rfl, by decide, by decide, show (parseMethodDescriptor yX12_passes.desc).map (fun d => d.parameters.length) = some 1 by decide +kernel⟩ (by omega) (by decide) (Nat.le_of_ble_eq_true rfl) rfl ?_
          refine pw_if_eq (tgt := 30) 15 rfl dX12_held_12 rfl (fun h12 => ?_) (fun h12 => absurd rfl h12)
          refine pw_aload_n 31 rfl dX12_held_30 rfl ?_
          refine pw_bipush (v := nI 62) 33 rfl dX12_held_31 rfl ?_
          refine pw_callV (as := [_]) 36 rfl dX12_held_33 mX12_132 vX12_passes (m_passes (d := d + D + 1) hP' p2) (by first | rfl | assumption | exact rowS hh | exact mtS hm | exact ruS hr | exact mtA1 hm | exact mtA2 hm | exact mtA3 hm | exact mtA4 hm | exact mtA5 hm | exact mtA6 hm | exact mtA7 hm | exact ruA1 hr | exact ruA2 hr | exact ruA3 hr) rfl (by decide) ⟨rfl, by decide, by decide, show (parseMethodDescriptor yX12_passes.desc).map (fun d => d.parameters.length) = some 1 by decide +kernel⟩ (by omega) (by decide) (Nat.le_of_ble_eq_true rfl) rfl (fun r33 I33 J33 R33 c33 => ?_)
          obtain ⟨rfl, rfl, rfl, rfl⟩ := c33
          refine pw_if_eq (tgt := 54) 39 rfl dX12_held_36 rfl (fun h36 => absurd h36 (by decide)) (fun h36 => ?_)
          refine pw_iload_n 40 rfl dX12_held_39 rfl ?_
          refine pw_aload_n 41 rfl dX12_held_40 rfl ?_
          refine pw_iload_n 42 rfl dX12_held_41 rfl ?_
          rotate_left
          refine pw_callV (as := [_]) 45 rfl dX12_held_42 mX12_156 vX12_sum cx (by first | rfl | assumption | exact rowS hh | exact mtS hm | exact ruS hr | exact mtA1 hm | exact mtA2 hm | exact mtA3 hm | exact mtA4 hm | exact mtA5 hm | exact mtA6 hm | exact mtA7 hm | exact ruA1 hr | exact ruA2 hr | exact ruA3 hr) rfl (by decide) ⟨rfl, by decide, by decide, show (parseMethodDescriptor yX12_sum.desc).map (fun d => d.parameters.length) = some 1 by decide +kernel⟩ (by omega) (by decide) (Nat.le_of_ble_eq_true rfl) rfl (fun r42 I42 J42 R42 c42 => ?_)
          rotate_left
          revert c42
          rcases X r' with e | ⟨g, r2⟩
          · rintro ⟨⟨⟨v, rfl⟩, q1, q2, q3⟩, q4, rfl, rfl⟩
            refine pw_icmp_le (tgt := 52) 48 rfl dX12_held_45 rfl (fun h45 => ?_) (fun h45 => ?_)
            refine pw_iconst (v := nI 0) 53 rfl dX12_held_52 rfl ?_
            refine pw_iret dX12_held_53 rfl ?_
            rotate_left
            refine pw_iconst (v := nI 1) 49 rfl dX12_held_48 rfl ?_
            refine pw_goto (tgt := 53) dX12_held_49 rfl ?_
            refine pw_iret dX12_held_53 rfl ?_
            rotate_left
            all_goals exact mErr q1 q2 q3 (fun a j h => by rw [q4 a j h, mAt_fr a j h, p4 a j h])
          · rintro ⟨⟨rfl, q1, q2, q3⟩, q4, rfl, rfl⟩
            refine pw_icmp_le (tgt := 52) 48 rfl dX12_held_45 rfl (fun h45 => ?_) (fun h45 => ?_)
            refine pw_iconst (v := nI 0) 53 rfl dX12_held_52 rfl ?_
            refine pw_iret dX12_held_53 rfl ?_
            rotate_left
            refine pw_iconst (v := nI 1) 49 rfl dX12_held_48 rfl ?_
            refine pw_goto (tgt := 53) dX12_held_49 rfl ?_
            refine pw_iret dX12_held_53 rfl ?_
            rotate_left
            · refine ⟨⟨?_, q1, q2, q3⟩, fun a j h => by rw [q4 a j h, mAt_fr a j h, p4 a j h], rfl, rfl⟩
              show _ = some (Value.int (if g lt < f lt then nI 1 else nI 0))
              rw [if_neg (Int32.not_lt.mpr ‹_›)]
            · refine ⟨⟨?_, q1, q2, q3⟩, fun a j h => by rw [q4 a j h, mAt_fr a j h, p4 a j h], rfl, rfl⟩
              show _ = some (Value.int (if g lt < f lt then nI 1 else nI 0))
              rw [if_pos (Int32.not_le.mp ‹_›)]
        · by_cases h61 : c = 61
          · subst h61
            rw [if_pos (by decide)]
            refine pw_istore_n 6 rfl dX12_held_5 (by decide) ?_
            refine pw_aload_n 7 rfl dX12_held_6 rfl ?_
            refine pw_bipush (v := nI 60) 9 rfl dX12_held_7 rfl ?_
            refine pw_callVP (as := [_]) 12 rfl dX12_held_9 mX12_132 vX12_passes (no 60 (by decide) (by intro q; cases q)) (by first | rfl | assumption | exact rowS hh | exact mtS hm | exact ruS hr | exact mtA1 hm | exact mtA2 hm | exact mtA3 hm | exact mtA4 hm | exact mtA5 hm | exact mtA6 hm | exact mtA7 hm | exact ruA1 hr | exact ruA2 hr | exact ruA3 hr) rfl (by decide) ⟨rfl, by decide, by decide, show (parseMethodDescriptor yX12_passes.desc).map (fun d => d.parameters.length) = some 1 by decide +kernel⟩ (by omega) (by decide) (Nat.le_of_ble_eq_true rfl) rfl ?_
            refine pw_if_eq (tgt := 30) 15 rfl dX12_held_12 rfl (fun h12 => ?_) (fun h12 => absurd rfl h12)
            refine pw_aload_n 31 rfl dX12_held_30 rfl ?_
            refine pw_bipush (v := nI 62) 33 rfl dX12_held_31 rfl ?_
            refine pw_callVP (as := [_]) 36 rfl dX12_held_33 mX12_132 vX12_passes (no 62 (by decide) (by intro q; cases q)) (by first | rfl | assumption | exact rowS hh | exact mtS hm | exact ruS hr | exact mtA1 hm | exact mtA2 hm | exact mtA3 hm | exact mtA4 hm | exact mtA5 hm | exact mtA6 hm | exact mtA7 hm | exact ruA1 hr | exact ruA2 hr | exact ruA3 hr) rfl (by decide) ⟨rfl, by decide, by decide, show (parseMethodDescriptor yX12_passes.desc).map (fun d => d.parameters.length) = some 1 by decide +kernel⟩ (by omega) (by decide) (Nat.le_of_ble_eq_true rfl) rfl ?_
            refine pw_if_eq (tgt := 54) 39 rfl dX12_held_36 rfl (fun h36 => ?_) (fun h36 => absurd rfl h36)
            refine pw_aload_n 55 rfl dX12_held_54 rfl ?_
            refine pw_bipush (v := nI 61) 57 rfl dX12_held_55 rfl ?_
            refine pw_callV (as := [_]) 60 rfl dX12_held_57 mX12_132 vX12_passes (m_passes (d := d + D + 1) hP' p2) (by first | rfl | assumption | exact rowS hh | exact mtS hm | exact ruS hr | exact mtA1 hm | exact mtA2 hm | exact mtA3 hm | exact mtA4 hm | exact mtA5 hm | exact mtA6 hm | exact mtA7 hm | exact ruA1 hr | exact ruA2 hr | exact ruA3 hr) rfl (by decide) ⟨rfl, by decide, by decide, show (parseMethodDescriptor yX12_passes.desc).map (fun d => d.parameters.length) = some 1 by decide +kernel⟩ (by omega) (by decide) (Nat.le_of_ble_eq_true rfl) rfl (fun r57 I57 J57 R57 c57 => ?_)
            obtain ⟨rfl, rfl, rfl, rfl⟩ := c57
            refine pw_if_eq (tgt := 78) 63 rfl dX12_held_60 rfl (fun h60 => absurd h60 (by decide)) (fun h60 => ?_)
            refine pw_iload_n 64 rfl dX12_held_63 rfl ?_
            refine pw_aload_n 65 rfl dX12_held_64 rfl ?_
            refine pw_iload_n 66 rfl dX12_held_65 rfl ?_
            rotate_left
            refine pw_callV (as := [_]) 69 rfl dX12_held_66 mX12_156 vX12_sum cx (by first | rfl | assumption | exact rowS hh | exact mtS hm | exact ruS hr | exact mtA1 hm | exact mtA2 hm | exact mtA3 hm | exact mtA4 hm | exact mtA5 hm | exact mtA6 hm | exact mtA7 hm | exact ruA1 hr | exact ruA2 hr | exact ruA3 hr) rfl (by decide) ⟨rfl, by decide, by decide, show (parseMethodDescriptor yX12_sum.desc).map (fun d => d.parameters.length) = some 1 by decide +kernel⟩ (by omega) (by decide) (Nat.le_of_ble_eq_true rfl) rfl (fun r66 I66 J66 R66 c66 => ?_)
            rotate_left
            revert c66
            rcases X r' with e | ⟨g, r2⟩
            · rintro ⟨⟨⟨v, rfl⟩, q1, q2, q3⟩, q4, rfl, rfl⟩
              refine pw_icmp_ne (tgt := 76) 72 rfl dX12_held_69 rfl (fun h69 => ?_) (fun h69 => ?_)
              refine pw_iconst (v := nI 0) 77 rfl dX12_held_76 rfl ?_
              refine pw_iret dX12_held_77 rfl ?_
              rotate_left
              refine pw_iconst (v := nI 1) 73 rfl dX12_held_72 rfl ?_
              refine pw_goto (tgt := 77) dX12_held_73 rfl ?_
              refine pw_iret dX12_held_77 rfl ?_
              rotate_left
              all_goals exact mErr q1 q2 q3 (fun a j h => by rw [q4 a j h, mAt_fr a j h, p4 a j h])
            · rintro ⟨⟨rfl, q1, q2, q3⟩, q4, rfl, rfl⟩
              refine pw_icmp_ne (tgt := 76) 72 rfl dX12_held_69 rfl (fun h69 => ?_) (fun h69 => ?_)
              refine pw_iconst (v := nI 0) 77 rfl dX12_held_76 rfl ?_
              refine pw_iret dX12_held_77 rfl ?_
              rotate_left
              refine pw_iconst (v := nI 1) 73 rfl dX12_held_72 rfl ?_
              refine pw_goto (tgt := 77) dX12_held_73 rfl ?_
              refine pw_iret dX12_held_77 rfl ?_
              rotate_left
              · refine ⟨⟨?_, q1, q2, q3⟩, fun a j h => by rw [q4 a j h, mAt_fr a j h, p4 a j h], rfl, rfl⟩
                show _ = some (Value.int (if f lt = g lt then nI 1 else nI 0))
                rw [if_neg ‹_›]
              · refine ⟨⟨?_, q1, q2, q3⟩, fun a j h => by rw [q4 a j h, mAt_fr a j h, p4 a j h], rfl, rfl⟩
                show _ = some (Value.int (if f lt = g lt then nI 1 else nI 0))
                rw [if_pos ‹_›]
          · rw [if_neg (by omega)]
            refine pw_istore_n 6 rfl dX12_held_5 (by decide) ?_
            refine pw_aload_n 7 rfl dX12_held_6 rfl ?_
            refine pw_bipush (v := nI 60) 9 rfl dX12_held_7 rfl ?_
            refine pw_callVP (as := [_]) 12 rfl dX12_held_9 mX12_132 vX12_passes (no 60 (by decide) (by intro q; cases q; omega)) (by first | rfl | assumption | exact rowS hh | exact mtS hm | exact ruS hr | exact mtA1 hm | exact mtA2 hm | exact mtA3 hm | exact mtA4 hm | exact mtA5 hm | exact mtA6 hm | exact mtA7 hm | exact ruA1 hr | exact ruA2 hr | exact ruA3 hr) rfl (by decide) ⟨rfl, by decide, by decide, show (parseMethodDescriptor yX12_passes.desc).map (fun d => d.parameters.length) = some 1 by decide +kernel⟩ (by omega) (by decide) (Nat.le_of_ble_eq_true rfl) rfl ?_
            refine pw_if_eq (tgt := 30) 15 rfl dX12_held_12 rfl (fun h12 => ?_) (fun h12 => absurd rfl h12)
            refine pw_aload_n 31 rfl dX12_held_30 rfl ?_
            refine pw_bipush (v := nI 62) 33 rfl dX12_held_31 rfl ?_
            refine pw_callVP (as := [_]) 36 rfl dX12_held_33 mX12_132 vX12_passes (no 62 (by decide) (by intro q; cases q; omega)) (by first | rfl | assumption | exact rowS hh | exact mtS hm | exact ruS hr | exact mtA1 hm | exact mtA2 hm | exact mtA3 hm | exact mtA4 hm | exact mtA5 hm | exact mtA6 hm | exact mtA7 hm | exact ruA1 hr | exact ruA2 hr | exact ruA3 hr) rfl (by decide) ⟨rfl, by decide, by decide, show (parseMethodDescriptor yX12_passes.desc).map (fun d => d.parameters.length) = some 1 by decide +kernel⟩ (by omega) (by decide) (Nat.le_of_ble_eq_true rfl) rfl ?_
            refine pw_if_eq (tgt := 54) 39 rfl dX12_held_36 rfl (fun h36 => ?_) (fun h36 => absurd rfl h36)
            refine pw_aload_n 55 rfl dX12_held_54 rfl ?_
            refine pw_bipush (v := nI 61) 57 rfl dX12_held_55 rfl ?_
            refine pw_callVP (as := [_]) 60 rfl dX12_held_57 mX12_132 vX12_passes (no 61 (by decide) (by intro q; cases q; omega)) (by first | rfl | assumption | exact rowS hh | exact mtS hm | exact ruS hr | exact mtA1 hm | exact mtA2 hm | exact mtA3 hm | exact mtA4 hm | exact mtA5 hm | exact mtA6 hm | exact mtA7 hm | exact ruA1 hr | exact ruA2 hr | exact ruA3 hr) rfl (by decide) ⟨rfl, by decide, by decide, show (parseMethodDescriptor yX12_passes.desc).map (fun d => d.parameters.length) = some 1 by decide +kernel⟩ (by omega) (by decide) (Nat.le_of_ble_eq_true rfl) rfl ?_
            refine pw_if_eq (tgt := 78) 63 rfl dX12_held_60 rfl (fun h60 => ?_) (fun h60 => absurd rfl h60)
            refine pw_iload_n 79 rfl dX12_held_78 rfl ?_
            refine pw_iret dX12_held_79 rfl ?_
            rotate_left
            exact ⟨⟨rfl, p1, p2, p3⟩, p4, rfl, rfl⟩
theorem m_held {D deep : Nat} {X : List Nat → Except (List Nat) (((Nat → Int32) → Int32) × List Nat)} (hX : mCt yX12_sum cX12_sum 5 (D + 2) deep X) (hS : Sf X) : mCt yX12_held cX12_held 3 (D + 3) deep (pCmp X) := fun d hr nn L T rl cs r lt I J hP hl hf hL => m_held0 hX hS hP hl hf hL
theorem m_heldK : ∀ (k deep : Nat), deep + k = 4 → mCt yX12_held cX12_held 3 (47 * (k + 1)) deep (pHeld k)
  | 0, deep, h => by
    have hm : (false = true) ↔ deep < 4 := by simp; omega
    have t := m_thing (D := 0) (X := fun r => .error r) hm (by omega) (fun q => by cases q)
    have g1 := thing_gd (X := fun r => .error r) hm (fun q => by cases q)
    have g2 := lp_gd (s := 3) (Or.inr ⟨rfl, rfl, rfl⟩) g1
    have g3 := lp_gd (s := 2) (Or.inl ⟨rfl, rfl, rfl⟩) g2
    have p := m_product (D := 43) t g1.sf
    have s := m_sum (D := 44) p g2.sf
    have hh := m_held (D := 44) s g3.sf
    intro d hr nn L T rl cs r lt I J hP hl hf hL
    rw [pHeld]
    exact hh d hr nn L T rl cs r lt I J hP hl hf hL
  | k + 1, deep, h => by
    have hm : (true = true) ↔ deep < 4 := by simp; omega
    have t := m_thing (D := 47 * (k + 1)) (X := pHeld k) hm (by omega) (fun _ => m_heldK k (deep + 1) (by omega))
    have g1 := thing_gd (X := pHeld k) hm (fun _ => held_gd k (deep + 1) (by omega))
    have g2 := lp_gd (s := 3) (Or.inr ⟨rfl, rfl, rfl⟩) g1
    have g3 := lp_gd (s := 2) (Or.inl ⟨rfl, rfl, rfl⟩) g2
    have p := m_product (D := 47 * (k + 1) + 43) t g1.sf
    have s := m_sum (D := 47 * (k + 1) + 44) p g2.sf
    have hh := m_held (D := 47 * (k + 1) + 44) s g3.sf
    intro d hr nn L T rl cs r lt I J hP hl hf hL
    rw [pHeld]
    have := hh d hr nn L T rl cs r lt I J hP hl hf hL
    rw [show 47 * (k + 1) + 44 + 3 = 47 * (k + 1 + 1) by omega] at this
    exact this
