/-! A DAY -/
theorem wrD_ok {tx : List Nat} (h : wrD tx = none) : tx.length ≤ 60 ∧ (∀ q, q < tx.length → gdA (tx.getD q 0) (q - dyb tx (q + 1)) = true) ∧ (tx.length = 0 ∨ tx.length = dyb tx tx.length + sgA (tx.getD (dyb tx tx.length) 0)) := by
  rcases e : fstL (badD tx) (min tx.length 60) with _ | p
  · rw [wrD_n e] at h
    by_cases h1 : 60 < tx.length
    · rw [if_pos h1] at h; cases h
    · rw [if_neg h1] at h
      by_cases h2 : tx.length = 0 ∨ tx.length = dyb tx tx.length + sgA (tx.getD (dyb tx tx.length) 0)
      · refine ⟨by omega, fun q hq => ?_, h2⟩
        have hb := fstL_all e q (by rw [Nat.min_eq_left (by omega)]; exact hq)
        unfold badD at hb
        simpa using hb
      · rw [if_neg h2] at h; cases h
  · rw [wrD_s e] at h; cases h
theorem wrD_le {tx : List Nat} {p : Nat} (ht : tx.length ≤ 80) (h : wrD tx = some p) : p ≤ 80 := by
  rcases e : fstL (badD tx) (min tx.length 60) with _ | q
  · rw [wrD_n e] at h
    split at h
    · cases h; omega
    · split at h
      · cases h
      · cases h; omega
  · rw [wrD_s e] at h
    cases h
    have := fstL_lt e
    have := Nat.min_le_right tx.length 60
    omega
theorem sgA_23 (c : Nat) : sgA c = 2 ∨ sgA c = 3 := by unfold sgA; split <;> omega
theorem dyb_in {tx : List Nat} {p : Nat} (h : dyb tx (p + 1) = p) : ∀ j, j < sgA (tx.getD p 0) → dyb tx (p + 1 + j) = p
  | 0, _ => h
  | j + 1, hj => by
    have ih := dyb_in h j (by omega)
    rw [← Nat.add_assoc, dyb, ih, if_neg (by omega)]
theorem dyb_next {tx : List Nat} {p : Nat} (h : dyb tx (p + 1) = p) : dyb tx (p + sgA (tx.getD p 0) + 1) = p + sgA (tx.getD p 0) := by
  have hs := sgA_23 (tx.getD p 0)
  have e : dyb tx (p + sgA (tx.getD p 0)) = p := by
    have := dyb_in h (sgA (tx.getD p 0) - 1) (by omega)
    rw [show p + 1 + (sgA (tx.getD p 0) - 1) = p + sgA (tx.getD p 0) by omega] at this
    exact this
  rw [dyb, e, if_pos rfl]
/-- an act of a right day -/
theorem day_act {tx : List Nat} {p : Nat} (h : wrD tx = none) (hp : dyb tx (p + 1) = p) (hl : p < tx.length) : isAc (tx.getD p 0) = true ∧ p + sgA (tx.getD p 0) ≤ tx.length ∧ isDg (tx.getD (p + 1) 0) = true ∧ (sgA (tx.getD p 0) = 3 → isDg (tx.getD (p + 2) 0) = true ∧ tx.getD (p + 2) 0 ≠ 48) := by
  obtain ⟨h60, hg, he⟩ := wrD_ok h
  have hs := sgA_23 (tx.getD p 0)
  have hle : p + sgA (tx.getD p 0) ≤ tx.length := by
    rcases Nat.lt_or_ge tx.length (p + sgA (tx.getD p 0)) with q | q
    · have hd := dyb_in hp (tx.length - (p + 1)) (by omega)
      rw [show p + 1 + (tx.length - (p + 1)) = tx.length by omega] at hd
      rw [hd] at he
      omega
    · exact q
  have g0 := hg p hl
  rw [hp, Nat.sub_self] at g0
  have g1 := hg (p + 1) (by omega)
  rw [show dyb tx (p + 1 + 1) = p from dyb_in hp 1 (by omega), show p + 1 - p = 1 by omega] at g1
  refine ⟨by simpa [gdA] using g0, hle, ?_, fun h3 => ?_⟩
  · simp only [gdA, if_neg (show ¬ (1 = 0) by decide), Bool.and_eq_true] at g1
    exact g1.1
  · have g2 := hg (p + 2) (by omega)
    rw [show dyb tx (p + 2 + 1) = p from dyb_in hp 2 (by omega), show p + 2 - p = 2 by omega] at g2
    simp only [gdA, if_neg (show ¬ (2 = 0) by decide), Bool.and_eq_true, decide_eq_false (show ¬ (2 = 1) by decide), Bool.false_or, Bool.not_eq_true', decide_eq_false_iff_not] at g2
    exact g2
/-- one act -/
def actA (n : Nat) (pc : Nat → Nat) (E : (Nat → Int32) → Nat) (c x y : Nat) (b : Nat → Nat) : Int32 × (Nat → Nat) :=
  if c = 110 then (nI (cdn n pc E b x), hrs n pc E x b) else if c = 115 then aSet n b (nI x) else if c = 98 then aTurn n b (nI x) else if c = 119 then aWait n b (nI x) (nI y) else if c = 102 then aSlip n b (nI x) (nI y) else aTop n b (nI x)
/-- the acts from p on: how many were done, was one refused, the row -/
def dayL (n : Nat) (pc : Nat → Nat) (E : (Nat → Int32) → Nat) (tx : List Nat) : Nat → Nat → (Nat → Nat) → Nat → Nat × Bool × (Nat → Nat)
  | 0, _, b, k => (k, false, b)
  | f + 1, p, b, k => if p < tx.length then (if (actA n pc E (tx.getD p 0) (tx.getD (p + 1) 0 - 48) (tx.getD (p + 2) 0 - 48) b).1 < 0 then (k, true, (actA n pc E (tx.getD p 0) (tx.getD (p + 1) 0 - 48) (tx.getD (p + 2) 0 - 48) b).2) else dayL n pc E tx f (p + sgA (tx.getD p 0)) (actA n pc E (tx.getD p 0) (tx.getD (p + 1) 0 - 48) (tx.getD (p + 2) 0 - 48) b).2 (k + 1)) else (k, false, b)
theorem WN_actA {n c x y : Nat} {pc b : Nat → Nat} (E : (Nat → Int32) → Nat) (h : WN n pc b) : WN n pc (actA n pc E c x y b).2 := by
  unfold actA
  split
  · exact WN_hrs E h x
  · split
    · exact WN_aSet _ h
    · split
      · exact WN_aTurn _ h
      · split
        · exact WN_aWait _ _ h
        · split
          · exact WN_aSlip _ _ h
          · exact WN_aTop _ h
set_option maxRecDepth 100000 in
set_option maxHeartbeats 2000000 in
theorem x_actAt {d n p : Nat} {pc b : Nat → Nat} {E : (Nat → Int32) → Nat} {tx : List Nat} {I : pI} {J : pJ} (hM : XM I 1 n pc b) (hW : WN n pc b) (hE : XE I 9 E) (hT : XT I tx) (hp : p ≤ 80) (hl : p + sgA (tx.getD p 0) ≤ tx.length) (h0 : isAc (tx.getD p 0) = true) (h1 : isDg (tx.getD (p + 1) 0) = true) (h2 : sgA (tx.getD p 0) = 3 → isDg (tx.getD (p + 2) 0) = true) : PC SX (d + 7) yX11_actAt cX11_actAt 3 (some .int) [.ref 0, .int (nI p)] (I) (J) (RX) (fun r' I' J' R' => r' = some (.int (actA n pc E (tx.getD p 0) (tx.getD (p + 1) 0 - 48) (tx.getD (p + 2) 0 - 48) b).1) ∧ XM I' 1 n pc (actA n pc E (tx.getD p 0) (tx.getD (p + 1) 0 - 48) (tx.getD (p + 2) 0 - 48) b).2 ∧ XE I' 9 E ∧ (∀ a, a ≠ 11 → ¬ (1 ≤ a ∧ a ≤ 8) → I' a = I a) ∧ J = J' ∧ R' = RX) := by
  refine PC.of [some (.ref 0), some (.int (nI p)), none] rfl rfl (Nat.le_of_ble_eq_true rfl) ?_
  have hs := sgA_23 (tx.getD p 0)
  obtain ⟨c, hc⟩ : ∃ c, tx[p]? = some c := ⟨_, List.getElem?_eq_getElem (by omega)⟩
  obtain ⟨x, hx⟩ : ∃ c, tx[p + 1]? = some c := ⟨_, List.getElem?_eq_getElem (by omega)⟩
  have hy : sgA c = 3 → ∃ y, tx[p + 2]? = some y := fun h3 => ⟨_, List.getElem?_eq_getElem (by rw [getD_s hc] at hl; omega)⟩
  rw [getD_s hc] at h0 hs hl h2 ⊢
  rw [getD_s hx] at h1 ⊢
  have hb := isDg_b h1
  have fM1 : ∀ {I' : pI}, fM 1 I I' → (∀ a, a ≠ 11 → ¬ (1 ≤ a ∧ a ≤ 8) → I' a = I a) ∧ XE I' 9 E := fun hf => ⟨fun a h1 h2 => hf a (by omega), XE_fr hE (hf 9 (by omega)) (hf 10 (by omega))⟩
  rcases isAc_iff.mp h0 with rfl | rfl | rfl | rfl | rfl | rfl
  · refine pw_aload_n 1 rfl dX11_actAt_0 rfl ?_
    refine pw_getR 4 rfl dX11_actAt_1 fX11_29 (by first | rfl | assumption | exact rowS hh | exact mtS hm | exact ruS hr | exact mtA1 hm | exact mtA2 hm | exact mtA3 hm | exact mtA4 hm | exact mtA5 hm | exact mtA6 hm | exact mtA7 hm | exact ruA1 hr | exact ruA2 hr | exact ruA3 hr) rfl (by first | rfl | assumption | exact mtR0 hm | exact mtR1 hm | exact mtR2 hm | exact mtR3 hm | exact mtR4 hm | exact mtR5 hm | exact mtR6 hm | exact ruR0 hr | exact ruR1 hr | exact ruR3 hr) ?_
    refine pw_iload_n 5 rfl dX11_actAt_4 rfl ?_
    refine pw_iconst (v := nI 1) 6 rfl dX11_actAt_5 rfl ?_
    first | refine pw_iaddN 7 rfl dX11_actAt_6 ?_ | refine pw_iadd 7 rfl dX11_actAt_6 ?_
    refine pw_callVP (as := [_]) 10 rfl dX11_actAt_7 mX11_111 vX10_digitAt (x_digitAt (d := d + 5) hT (show p + 1 ≤ 100 by omega) hx hb.1) (by first | rfl | assumption | exact rowS hh | exact mtS hm | exact ruS hr | exact mtA1 hm | exact mtA2 hm | exact mtA3 hm | exact mtA4 hm | exact mtA5 hm | exact mtA6 hm | exact mtA7 hm | exact ruA1 hr | exact ruA2 hr | exact ruA3 hr) rfl (by decide) ⟨rfl, by decide, by decide, show (parseMethodDescriptor yX10_digitAt.desc).map (fun d => d.parameters.length) = some 1 by decide +kernel⟩ (by omega) (by decide) (Nat.le_of_ble_eq_true rfl) rfl ?_
    refine pw_istore_n 11 rfl dX11_actAt_10 (by decide) ?_
    refine pw_aload_n 12 rfl dX11_actAt_11 rfl ?_
    refine pw_getR 15 rfl dX11_actAt_12 fX11_29 (by first | rfl | assumption | exact rowS hh | exact mtS hm | exact ruS hr | exact mtA1 hm | exact mtA2 hm | exact mtA3 hm | exact mtA4 hm | exact mtA5 hm | exact mtA6 hm | exact mtA7 hm | exact ruA1 hr | exact ruA2 hr | exact ruA3 hr) rfl (by first | rfl | assumption | exact mtR0 hm | exact mtR1 hm | exact mtR2 hm | exact mtR3 hm | exact mtR4 hm | exact mtR5 hm | exact mtR6 hm | exact ruR0 hr | exact ruR1 hr | exact ruR3 hr) ?_
    refine pw_iload_n 16 rfl dX11_actAt_15 rfl ?_
    refine pw_callVP (as := [_]) 19 rfl dX11_actAt_16 mX11_223 vX10_at (x_at (d := d + 6) hT (show p ≤ 100 by omega)) (by first | rfl | assumption | exact rowS hh | exact mtS hm | exact ruS hr | exact mtA1 hm | exact mtA2 hm | exact mtA3 hm | exact mtA4 hm | exact mtA5 hm | exact mtA6 hm | exact mtA7 hm | exact ruA1 hr | exact ruA2 hr | exact ruA3 hr) rfl (by decide) ⟨rfl, by decide, by decide, show (parseMethodDescriptor yX10_at.desc).map (fun d => d.parameters.length) = some 1 by decide +kernel⟩ (by omega) (by decide) (Nat.le_of_ble_eq_true rfl) rfl ?_
    rotate_left
    rw [tAt_s hc]
    refine pw_lookup (tgt := 76) (off := 57) dX11_actAt_19 (by decide) (by decide) rfl ?_
    refine pw_aload_n 77 rfl dX11_actAt_76 rfl ?_
    refine pw_getR 80 rfl dX11_actAt_77 fX11_10 (by first | rfl | assumption | exact rowS hh | exact mtS hm | exact ruS hr | exact mtA1 hm | exact mtA2 hm | exact mtA3 hm | exact mtA4 hm | exact mtA5 hm | exact mtA6 hm | exact mtA7 hm | exact ruA1 hr | exact ruA2 hr | exact ruA3 hr) rfl (by first | rfl | assumption | exact mtR0 hm | exact mtR1 hm | exact mtR2 hm | exact mtR3 hm | exact mtR4 hm | exact mtR5 hm | exact mtR6 hm | exact ruR0 hr | exact ruR1 hr | exact ruR3 hr) ?_
    refine pw_aload_n 81 rfl dX11_actAt_80 rfl ?_
    refine pw_getR 84 rfl dX11_actAt_81 fX11_19 (by first | rfl | assumption | exact rowS hh | exact mtS hm | exact ruS hr | exact mtA1 hm | exact mtA2 hm | exact mtA3 hm | exact mtA4 hm | exact mtA5 hm | exact mtA6 hm | exact mtA7 hm | exact ruA1 hr | exact ruA2 hr | exact ruA3 hr) rfl (by first | rfl | assumption | exact mtR0 hm | exact mtR1 hm | exact mtR2 hm | exact mtR3 hm | exact mtR4 hm | exact mtR5 hm | exact mtR6 hm | exact ruR0 hr | exact ruR1 hr | exact ruR3 hr) ?_
    refine pw_iload_n 85 rfl dX11_actAt_84 rfl ?_
    refine pw_callV (as := [_, _]) 88 rfl dX11_actAt_85 mX11_186 vX1_passHours (x_passHours (d := d) (Or.inl rfl) (Or.inl rfl) hM hW.1 hE (show x - 48 ≤ 100 by omega)) (by first | rfl | assumption | exact rowS hh | exact mtS hm | exact ruS hr | exact mtA1 hm | exact mtA2 hm | exact mtA3 hm | exact mtA4 hm | exact mtA5 hm | exact mtA6 hm | exact mtA7 hm | exact ruA1 hr | exact ruA2 hr | exact ruA3 hr) rfl (by decide) ⟨rfl, by decide, by decide, show (parseMethodDescriptor yX1_passHours.desc).map (fun d => d.parameters.length) = some 2 by decide +kernel⟩ (by omega) (by decide) (Nat.le_of_ble_eq_true rfl) rfl (fun r85 I85 J85 R85 c85 => ?_)
    obtain ⟨rfl, m1, m2, m3, rfl, rfl⟩ := c85
    rotate_left
    refine pw_iret dX11_actAt_88 rfl ?_
    rotate_left
    exact ⟨rfl, m1, m2, m3, rfl, rfl⟩
  · refine pw_aload_n 1 rfl dX11_actAt_0 rfl ?_
    refine pw_getR 4 rfl dX11_actAt_1 fX11_29 (by first | rfl | assumption | exact rowS hh | exact mtS hm | exact ruS hr | exact mtA1 hm | exact mtA2 hm | exact mtA3 hm | exact mtA4 hm | exact mtA5 hm | exact mtA6 hm | exact mtA7 hm | exact ruA1 hr | exact ruA2 hr | exact ruA3 hr) rfl (by first | rfl | assumption | exact mtR0 hm | exact mtR1 hm | exact mtR2 hm | exact mtR3 hm | exact mtR4 hm | exact mtR5 hm | exact mtR6 hm | exact ruR0 hr | exact ruR1 hr | exact ruR3 hr) ?_
    refine pw_iload_n 5 rfl dX11_actAt_4 rfl ?_
    refine pw_iconst (v := nI 1) 6 rfl dX11_actAt_5 rfl ?_
    first | refine pw_iaddN 7 rfl dX11_actAt_6 ?_ | refine pw_iadd 7 rfl dX11_actAt_6 ?_
    refine pw_callVP (as := [_]) 10 rfl dX11_actAt_7 mX11_111 vX10_digitAt (x_digitAt (d := d + 5) hT (show p + 1 ≤ 100 by omega) hx hb.1) (by first | rfl | assumption | exact rowS hh | exact mtS hm | exact ruS hr | exact mtA1 hm | exact mtA2 hm | exact mtA3 hm | exact mtA4 hm | exact mtA5 hm | exact mtA6 hm | exact mtA7 hm | exact ruA1 hr | exact ruA2 hr | exact ruA3 hr) rfl (by decide) ⟨rfl, by decide, by decide, show (parseMethodDescriptor yX10_digitAt.desc).map (fun d => d.parameters.length) = some 1 by decide +kernel⟩ (by omega) (by decide) (Nat.le_of_ble_eq_true rfl) rfl ?_
    refine pw_istore_n 11 rfl dX11_actAt_10 (by decide) ?_
    refine pw_aload_n 12 rfl dX11_actAt_11 rfl ?_
    refine pw_getR 15 rfl dX11_actAt_12 fX11_29 (by first | rfl | assumption | exact rowS hh | exact mtS hm | exact ruS hr | exact mtA1 hm | exact mtA2 hm | exact mtA3 hm | exact mtA4 hm | exact mtA5 hm | exact mtA6 hm | exact mtA7 hm | exact ruA1 hr | exact ruA2 hr | exact ruA3 hr) rfl (by first | rfl | assumption | exact mtR0 hm | exact mtR1 hm | exact mtR2 hm | exact mtR3 hm | exact mtR4 hm | exact mtR5 hm | exact mtR6 hm | exact ruR0 hr | exact ruR1 hr | exact ruR3 hr) ?_
    refine pw_iload_n 16 rfl dX11_actAt_15 rfl ?_
    refine pw_callVP (as := [_]) 19 rfl dX11_actAt_16 mX11_223 vX10_at (x_at (d := d + 6) hT (show p ≤ 100 by omega)) (by first | rfl | assumption | exact rowS hh | exact mtS hm | exact ruS hr | exact mtA1 hm | exact mtA2 hm | exact mtA3 hm | exact mtA4 hm | exact mtA5 hm | exact mtA6 hm | exact mtA7 hm | exact ruA1 hr | exact ruA2 hr | exact ruA3 hr) rfl (by decide) ⟨rfl, by decide, by decide, show (parseMethodDescriptor yX10_at.desc).map (fun d => d.parameters.length) = some 1 by decide +kernel⟩ (by omega) (by decide) (Nat.le_of_ble_eq_true rfl) rfl ?_
    rotate_left
    rw [tAt_s hc]
    refine pw_lookup (tgt := 89) (off := 70) dX11_actAt_19 (by decide) (by decide) rfl ?_
    refine pw_aload_n 90 rfl dX11_actAt_89 rfl ?_
    refine pw_getR 93 rfl dX11_actAt_90 fX11_10 (by first | rfl | assumption | exact rowS hh | exact mtS hm | exact ruS hr | exact mtA1 hm | exact mtA2 hm | exact mtA3 hm | exact mtA4 hm | exact mtA5 hm | exact mtA6 hm | exact mtA7 hm | exact ruA1 hr | exact ruA2 hr | exact ruA3 hr) rfl (by first | rfl | assumption | exact mtR0 hm | exact mtR1 hm | exact mtR2 hm | exact mtR3 hm | exact mtR4 hm | exact mtR5 hm | exact mtR6 hm | exact ruR0 hr | exact ruR1 hr | exact ruR3 hr) ?_
    refine pw_iload_n 94 rfl dX11_actAt_93 rfl ?_
    refine pw_callV (as := [_]) 97 rfl dX11_actAt_94 mX11_204 vX1_setOut (x_setOut (d := d + 4) (Or.inl rfl) hM hW.1 _) (by first | rfl | assumption | exact rowS hh | exact mtS hm | exact ruS hr | exact mtA1 hm | exact mtA2 hm | exact mtA3 hm | exact mtA4 hm | exact mtA5 hm | exact mtA6 hm | exact mtA7 hm | exact ruA1 hr | exact ruA2 hr | exact ruA3 hr) rfl (by decide) ⟨rfl, by decide, by decide, show (parseMethodDescriptor yX1_setOut.desc).map (fun d => d.parameters.length) = some 1 by decide +kernel⟩ (by omega) (by decide) (Nat.le_of_ble_eq_true rfl) rfl (fun r94 I94 J94 R94 c94 => ?_)
    obtain ⟨rfl, m1, -, m3, rfl, rfl⟩ := c94
    rotate_left
    refine pw_iret dX11_actAt_97 rfl ?_
    rotate_left
    exact ⟨rfl, m1, (fM1 m3).2, (fM1 m3).1, rfl, rfl⟩
  · refine pw_aload_n 1 rfl dX11_actAt_0 rfl ?_
    refine pw_getR 4 rfl dX11_actAt_1 fX11_29 (by first | rfl | assumption | exact rowS hh | exact mtS hm | exact ruS hr | exact mtA1 hm | exact mtA2 hm | exact mtA3 hm | exact mtA4 hm | exact mtA5 hm | exact mtA6 hm | exact mtA7 hm | exact ruA1 hr | exact ruA2 hr | exact ruA3 hr) rfl (by first | rfl | assumption | exact mtR0 hm | exact mtR1 hm | exact mtR2 hm | exact mtR3 hm | exact mtR4 hm | exact mtR5 hm | exact mtR6 hm | exact ruR0 hr | exact ruR1 hr | exact ruR3 hr) ?_
    refine pw_iload_n 5 rfl dX11_actAt_4 rfl ?_
    refine pw_iconst (v := nI 1) 6 rfl dX11_actAt_5 rfl ?_
    first | refine pw_iaddN 7 rfl dX11_actAt_6 ?_ | refine pw_iadd 7 rfl dX11_actAt_6 ?_
    refine pw_callVP (as := [_]) 10 rfl dX11_actAt_7 mX11_111 vX10_digitAt (x_digitAt (d := d + 5) hT (show p + 1 ≤ 100 by omega) hx hb.1) (by first | rfl | assumption | exact rowS hh | exact mtS hm | exact ruS hr | exact mtA1 hm | exact mtA2 hm | exact mtA3 hm | exact mtA4 hm | exact mtA5 hm | exact mtA6 hm | exact mtA7 hm | exact ruA1 hr | exact ruA2 hr | exact ruA3 hr) rfl (by decide) ⟨rfl, by decide, by decide, show (parseMethodDescriptor yX10_digitAt.desc).map (fun d => d.parameters.length) = some 1 by decide +kernel⟩ (by omega) (by decide) (Nat.le_of_ble_eq_true rfl) rfl ?_
    refine pw_istore_n 11 rfl dX11_actAt_10 (by decide) ?_
    refine pw_aload_n 12 rfl dX11_actAt_11 rfl ?_
    refine pw_getR 15 rfl dX11_actAt_12 fX11_29 (by first | rfl | assumption | exact rowS hh | exact mtS hm | exact ruS hr | exact mtA1 hm | exact mtA2 hm | exact mtA3 hm | exact mtA4 hm | exact mtA5 hm | exact mtA6 hm | exact mtA7 hm | exact ruA1 hr | exact ruA2 hr | exact ruA3 hr) rfl (by first | rfl | assumption | exact mtR0 hm | exact mtR1 hm | exact mtR2 hm | exact mtR3 hm | exact mtR4 hm | exact mtR5 hm | exact mtR6 hm | exact ruR0 hr | exact ruR1 hr | exact ruR3 hr) ?_
    refine pw_iload_n 16 rfl dX11_actAt_15 rfl ?_
    refine pw_callVP (as := [_]) 19 rfl dX11_actAt_16 mX11_223 vX10_at (x_at (d := d + 6) hT (show p ≤ 100 by omega)) (by first | rfl | assumption | exact rowS hh | exact mtS hm | exact ruS hr | exact mtA1 hm | exact mtA2 hm | exact mtA3 hm | exact mtA4 hm | exact mtA5 hm | exact mtA6 hm | exact mtA7 hm | exact ruA1 hr | exact ruA2 hr | exact ruA3 hr) rfl (by decide) ⟨rfl, by decide, by decide, show (parseMethodDescriptor yX10_at.desc).map (fun d => d.parameters.length) = some 1 by decide +kernel⟩ (by omega) (by decide) (Nat.le_of_ble_eq_true rfl) rfl ?_
    rotate_left
    rw [tAt_s hc]
    refine pw_lookup (tgt := 98) (off := 79) dX11_actAt_19 (by decide) (by decide) rfl ?_
    refine pw_aload_n 99 rfl dX11_actAt_98 rfl ?_
    refine pw_getR 102 rfl dX11_actAt_99 fX11_10 (by first | rfl | assumption | exact rowS hh | exact mtS hm | exact ruS hr | exact mtA1 hm | exact mtA2 hm | exact mtA3 hm | exact mtA4 hm | exact mtA5 hm | exact mtA6 hm | exact mtA7 hm | exact ruA1 hr | exact ruA2 hr | exact ruA3 hr) rfl (by first | rfl | assumption | exact mtR0 hm | exact mtR1 hm | exact mtR2 hm | exact mtR3 hm | exact mtR4 hm | exact mtR5 hm | exact mtR6 hm | exact ruR0 hr | exact ruR1 hr | exact ruR3 hr) ?_
    refine pw_iload_n 103 rfl dX11_actAt_102 rfl ?_
    refine pw_callV (as := [_]) 106 rfl dX11_actAt_103 mX11_207 vX1_turnRound (x_turnRound (d := d + 5) (Or.inl rfl) hM hW.1 _) (by first | rfl | assumption | exact rowS hh | exact mtS hm | exact ruS hr | exact mtA1 hm | exact mtA2 hm | exact mtA3 hm | exact mtA4 hm | exact mtA5 hm | exact mtA6 hm | exact mtA7 hm | exact ruA1 hr | exact ruA2 hr | exact ruA3 hr) rfl (by decide) ⟨rfl, by decide, by decide, show (parseMethodDescriptor yX1_turnRound.desc).map (fun d => d.parameters.length) = some 1 by decide +kernel⟩ (by omega) (by decide) (Nat.le_of_ble_eq_true rfl) rfl (fun r103 I103 J103 R103 c103 => ?_)
    obtain ⟨rfl, m1, -, m3, rfl, rfl⟩ := c103
    rotate_left
    refine pw_iret dX11_actAt_106 rfl ?_
    rotate_left
    exact ⟨rfl, m1, (fM1 m3).2, (fM1 m3).1, rfl, rfl⟩
  · obtain ⟨y, hy⟩ := hy rfl
    have hb2 := isDg_b (h2 rfl)
    rw [getD_s hy] at hb2 ⊢
    refine pw_aload_n 1 rfl dX11_actAt_0 rfl ?_
    refine pw_getR 4 rfl dX11_actAt_1 fX11_29 (by first | rfl | assumption | exact rowS hh | exact mtS hm | exact ruS hr | exact mtA1 hm | exact mtA2 hm | exact mtA3 hm | exact mtA4 hm | exact mtA5 hm | exact mtA6 hm | exact mtA7 hm | exact ruA1 hr | exact ruA2 hr | exact ruA3 hr) rfl (by first | rfl | assumption | exact mtR0 hm | exact mtR1 hm | exact mtR2 hm | exact mtR3 hm | exact mtR4 hm | exact mtR5 hm | exact mtR6 hm | exact ruR0 hr | exact ruR1 hr | exact ruR3 hr) ?_
    refine pw_iload_n 5 rfl dX11_actAt_4 rfl ?_
    refine pw_iconst (v := nI 1) 6 rfl dX11_actAt_5 rfl ?_
    first | refine pw_iaddN 7 rfl dX11_actAt_6 ?_ | refine pw_iadd 7 rfl dX11_actAt_6 ?_
    refine pw_callVP (as := [_]) 10 rfl dX11_actAt_7 mX11_111 vX10_digitAt (x_digitAt (d := d + 5) hT (show p + 1 ≤ 100 by omega) hx hb.1) (by first | rfl | assumption | exact rowS hh | exact mtS hm | exact ruS hr | exact mtA1 hm | exact mtA2 hm | exact mtA3 hm | exact mtA4 hm | exact mtA5 hm | exact mtA6 hm | exact mtA7 hm | exact ruA1 hr | exact ruA2 hr | exact ruA3 hr) rfl (by decide) ⟨rfl, by decide, by decide, show (parseMethodDescriptor yX10_digitAt.desc).map (fun d => d.parameters.length) = some 1 by decide +kernel⟩ (by omega) (by decide) (Nat.le_of_ble_eq_true rfl) rfl ?_
    refine pw_istore_n 11 rfl dX11_actAt_10 (by decide) ?_
    refine pw_aload_n 12 rfl dX11_actAt_11 rfl ?_
    refine pw_getR 15 rfl dX11_actAt_12 fX11_29 (by first | rfl | assumption | exact rowS hh | exact mtS hm | exact ruS hr | exact mtA1 hm | exact mtA2 hm | exact mtA3 hm | exact mtA4 hm | exact mtA5 hm | exact mtA6 hm | exact mtA7 hm | exact ruA1 hr | exact ruA2 hr | exact ruA3 hr) rfl (by first | rfl | assumption | exact mtR0 hm | exact mtR1 hm | exact mtR2 hm | exact mtR3 hm | exact mtR4 hm | exact mtR5 hm | exact mtR6 hm | exact ruR0 hr | exact ruR1 hr | exact ruR3 hr) ?_
    refine pw_iload_n 16 rfl dX11_actAt_15 rfl ?_
    refine pw_callVP (as := [_]) 19 rfl dX11_actAt_16 mX11_223 vX10_at (x_at (d := d + 6) hT (show p ≤ 100 by omega)) (by first | rfl | assumption | exact rowS hh | exact mtS hm | exact ruS hr | exact mtA1 hm | exact mtA2 hm | exact mtA3 hm | exact mtA4 hm | exact mtA5 hm | exact mtA6 hm | exact mtA7 hm | exact ruA1 hr | exact ruA2 hr | exact ruA3 hr) rfl (by decide) ⟨rfl, by decide, by decide, show (parseMethodDescriptor yX10_at.desc).map (fun d => d.parameters.length) = some 1 by decide +kernel⟩ (by omega) (by decide) (Nat.le_of_ble_eq_true rfl) rfl ?_
    rotate_left
    rw [tAt_s hc]
    refine pw_lookup (tgt := 107) (off := 88) dX11_actAt_19 (by decide) (by decide) rfl ?_
    refine pw_aload_n 108 rfl dX11_actAt_107 rfl ?_
    refine pw_getR 111 rfl dX11_actAt_108 fX11_10 (by first | rfl | assumption | exact rowS hh | exact mtS hm | exact ruS hr | exact mtA1 hm | exact mtA2 hm | exact mtA3 hm | exact mtA4 hm | exact mtA5 hm | exact mtA6 hm | exact mtA7 hm | exact ruA1 hr | exact ruA2 hr | exact ruA3 hr) rfl (by first | rfl | assumption | exact mtR0 hm | exact mtR1 hm | exact mtR2 hm | exact mtR3 hm | exact mtR4 hm | exact mtR5 hm | exact mtR6 hm | exact ruR0 hr | exact ruR1 hr | exact ruR3 hr) ?_
    refine pw_iload_n 112 rfl dX11_actAt_111 rfl ?_
    refine pw_aload_n 113 rfl dX11_actAt_112 rfl ?_
    refine pw_getR 116 rfl dX11_actAt_113 fX11_29 (by first | rfl | assumption | exact rowS hh | exact mtS hm | exact ruS hr | exact mtA1 hm | exact mtA2 hm | exact mtA3 hm | exact mtA4 hm | exact mtA5 hm | exact mtA6 hm | exact mtA7 hm | exact ruA1 hr | exact ruA2 hr | exact ruA3 hr) rfl (by first | rfl | assumption | exact mtR0 hm | exact mtR1 hm | exact mtR2 hm | exact mtR3 hm | exact mtR4 hm | exact mtR5 hm | exact mtR6 hm | exact ruR0 hr | exact ruR1 hr | exact ruR3 hr) ?_
    refine pw_iload_n 117 rfl dX11_actAt_116 rfl ?_
    refine pw_iconst (v := nI 2) 118 rfl dX11_actAt_117 rfl ?_
    first | refine pw_iaddN 119 rfl dX11_actAt_118 ?_ | refine pw_iadd 119 rfl dX11_actAt_118 ?_
    refine pw_callVP (as := [_]) 122 rfl dX11_actAt_119 mX11_111 vX10_digitAt (x_digitAt (d := d + 5) hT (show p + 2 ≤ 100 by omega) hy hb2.1) (by first | rfl | assumption | exact rowS hh | exact mtS hm | exact ruS hr | exact mtA1 hm | exact mtA2 hm | exact mtA3 hm | exact mtA4 hm | exact mtA5 hm | exact mtA6 hm | exact mtA7 hm | exact ruA1 hr | exact ruA2 hr | exact ruA3 hr) rfl (by decide) ⟨rfl, by decide, by decide, show (parseMethodDescriptor yX10_digitAt.desc).map (fun d => d.parameters.length) = some 1 by decide +kernel⟩ (by omega) (by decide) (Nat.le_of_ble_eq_true rfl) rfl ?_
    refine pw_callV (as := [_, _]) 125 rfl dX11_actAt_122 mX11_210 vX1_waitMore (x_waitMore (d := d + 5) (Or.inl rfl) hM hW.1 _ _) (by first | rfl | assumption | exact rowS hh | exact mtS hm | exact ruS hr | exact mtA1 hm | exact mtA2 hm | exact mtA3 hm | exact mtA4 hm | exact mtA5 hm | exact mtA6 hm | exact mtA7 hm | exact ruA1 hr | exact ruA2 hr | exact ruA3 hr) rfl (by decide) ⟨rfl, by decide, by decide, show (parseMethodDescriptor yX1_waitMore.desc).map (fun d => d.parameters.length) = some 2 by decide +kernel⟩ (by omega) (by decide) (Nat.le_of_ble_eq_true rfl) rfl (fun r122 I122 J122 R122 c122 => ?_)
    obtain ⟨rfl, m1, -, m3, rfl, rfl⟩ := c122
    rotate_left
    refine pw_iret dX11_actAt_125 rfl ?_
    rotate_left
    exact ⟨rfl, m1, (fM1 m3).2, (fM1 m3).1, rfl, rfl⟩
  · obtain ⟨y, hy⟩ := hy rfl
    have hb2 := isDg_b (h2 rfl)
    rw [getD_s hy] at hb2 ⊢
    refine pw_aload_n 1 rfl dX11_actAt_0 rfl ?_
    refine pw_getR 4 rfl dX11_actAt_1 fX11_29 (by first | rfl | assumption | exact rowS hh | exact mtS hm | exact ruS hr | exact mtA1 hm | exact mtA2 hm | exact mtA3 hm | exact mtA4 hm | exact mtA5 hm | exact mtA6 hm | exact mtA7 hm | exact ruA1 hr | exact ruA2 hr | exact ruA3 hr) rfl (by first | rfl | assumption | exact mtR0 hm | exact mtR1 hm | exact mtR2 hm | exact mtR3 hm | exact mtR4 hm | exact mtR5 hm | exact mtR6 hm | exact ruR0 hr | exact ruR1 hr | exact ruR3 hr) ?_
    refine pw_iload_n 5 rfl dX11_actAt_4 rfl ?_
    refine pw_iconst (v := nI 1) 6 rfl dX11_actAt_5 rfl ?_
    first | refine pw_iaddN 7 rfl dX11_actAt_6 ?_ | refine pw_iadd 7 rfl dX11_actAt_6 ?_
    refine pw_callVP (as := [_]) 10 rfl dX11_actAt_7 mX11_111 vX10_digitAt (x_digitAt (d := d + 5) hT (show p + 1 ≤ 100 by omega) hx hb.1) (by first | rfl | assumption | exact rowS hh | exact mtS hm | exact ruS hr | exact mtA1 hm | exact mtA2 hm | exact mtA3 hm | exact mtA4 hm | exact mtA5 hm | exact mtA6 hm | exact mtA7 hm | exact ruA1 hr | exact ruA2 hr | exact ruA3 hr) rfl (by decide) ⟨rfl, by decide, by decide, show (parseMethodDescriptor yX10_digitAt.desc).map (fun d => d.parameters.length) = some 1 by decide +kernel⟩ (by omega) (by decide) (Nat.le_of_ble_eq_true rfl) rfl ?_
    refine pw_istore_n 11 rfl dX11_actAt_10 (by decide) ?_
    refine pw_aload_n 12 rfl dX11_actAt_11 rfl ?_
    refine pw_getR 15 rfl dX11_actAt_12 fX11_29 (by first | rfl | assumption | exact rowS hh | exact mtS hm | exact ruS hr | exact mtA1 hm | exact mtA2 hm | exact mtA3 hm | exact mtA4 hm | exact mtA5 hm | exact mtA6 hm | exact mtA7 hm | exact ruA1 hr | exact ruA2 hr | exact ruA3 hr) rfl (by first | rfl | assumption | exact mtR0 hm | exact mtR1 hm | exact mtR2 hm | exact mtR3 hm | exact mtR4 hm | exact mtR5 hm | exact mtR6 hm | exact ruR0 hr | exact ruR1 hr | exact ruR3 hr) ?_
    refine pw_iload_n 16 rfl dX11_actAt_15 rfl ?_
    refine pw_callVP (as := [_]) 19 rfl dX11_actAt_16 mX11_223 vX10_at (x_at (d := d + 6) hT (show p ≤ 100 by omega)) (by first | rfl | assumption | exact rowS hh | exact mtS hm | exact ruS hr | exact mtA1 hm | exact mtA2 hm | exact mtA3 hm | exact mtA4 hm | exact mtA5 hm | exact mtA6 hm | exact mtA7 hm | exact ruA1 hr | exact ruA2 hr | exact ruA3 hr) rfl (by decide) ⟨rfl, by decide, by decide, show (parseMethodDescriptor yX10_at.desc).map (fun d => d.parameters.length) = some 1 by decide +kernel⟩ (by omega) (by decide) (Nat.le_of_ble_eq_true rfl) rfl ?_
    rotate_left
    rw [tAt_s hc]
    refine pw_lookup (tgt := 126) (off := 107) dX11_actAt_19 (by decide) (by decide) rfl ?_
    refine pw_aload_n 127 rfl dX11_actAt_126 rfl ?_
    refine pw_getR 130 rfl dX11_actAt_127 fX11_10 (by first | rfl | assumption | exact rowS hh | exact mtS hm | exact ruS hr | exact mtA1 hm | exact mtA2 hm | exact mtA3 hm | exact mtA4 hm | exact mtA5 hm | exact mtA6 hm | exact mtA7 hm | exact ruA1 hr | exact ruA2 hr | exact ruA3 hr) rfl (by first | rfl | assumption | exact mtR0 hm | exact mtR1 hm | exact mtR2 hm | exact mtR3 hm | exact mtR4 hm | exact mtR5 hm | exact mtR6 hm | exact ruR0 hr | exact ruR1 hr | exact ruR3 hr) ?_
    refine pw_iload_n 131 rfl dX11_actAt_130 rfl ?_
    refine pw_aload_n 132 rfl dX11_actAt_131 rfl ?_
    refine pw_getR 135 rfl dX11_actAt_132 fX11_29 (by first | rfl | assumption | exact rowS hh | exact mtS hm | exact ruS hr | exact mtA1 hm | exact mtA2 hm | exact mtA3 hm | exact mtA4 hm | exact mtA5 hm | exact mtA6 hm | exact mtA7 hm | exact ruA1 hr | exact ruA2 hr | exact ruA3 hr) rfl (by first | rfl | assumption | exact mtR0 hm | exact mtR1 hm | exact mtR2 hm | exact mtR3 hm | exact mtR4 hm | exact mtR5 hm | exact mtR6 hm | exact ruR0 hr | exact ruR1 hr | exact ruR3 hr) ?_
    refine pw_iload_n 136 rfl dX11_actAt_135 rfl ?_
    refine pw_iconst (v := nI 2) 137 rfl dX11_actAt_136 rfl ?_
    first | refine pw_iaddN 138 rfl dX11_actAt_137 ?_ | refine pw_iadd 138 rfl dX11_actAt_137 ?_
    refine pw_callVP (as := [_]) 141 rfl dX11_actAt_138 mX11_111 vX10_digitAt (x_digitAt (d := d + 5) hT (show p + 2 ≤ 100 by omega) hy hb2.1) (by first | rfl | assumption | exact rowS hh | exact mtS hm | exact ruS hr | exact mtA1 hm | exact mtA2 hm | exact mtA3 hm | exact mtA4 hm | exact mtA5 hm | exact mtA6 hm | exact mtA7 hm | exact ruA1 hr | exact ruA2 hr | exact ruA3 hr) rfl (by decide) ⟨rfl, by decide, by decide, show (parseMethodDescriptor yX10_digitAt.desc).map (fun d => d.parameters.length) = some 1 by decide +kernel⟩ (by omega) (by decide) (Nat.le_of_ble_eq_true rfl) rfl ?_
    refine pw_callV (as := [_, _]) 144 rfl dX11_actAt_141 mX11_214 vX1_slipDown (x_slipDown (d := d + 5) (Or.inl rfl) hM hW.1 _ _) (by first | rfl | assumption | exact rowS hh | exact mtS hm | exact ruS hr | exact mtA1 hm | exact mtA2 hm | exact mtA3 hm | exact mtA4 hm | exact mtA5 hm | exact mtA6 hm | exact mtA7 hm | exact ruA1 hr | exact ruA2 hr | exact ruA3 hr) rfl (by decide) ⟨rfl, by decide, by decide, show (parseMethodDescriptor yX1_slipDown.desc).map (fun d => d.parameters.length) = some 2 by decide +kernel⟩ (by omega) (by decide) (Nat.le_of_ble_eq_true rfl) rfl (fun r141 I141 J141 R141 c141 => ?_)
    obtain ⟨rfl, m1, -, m3, rfl, rfl⟩ := c141
    rotate_left
    refine pw_iret dX11_actAt_144 rfl ?_
    rotate_left
    exact ⟨rfl, m1, (fM1 m3).2, (fM1 m3).1, rfl, rfl⟩
  · refine pw_aload_n 1 rfl dX11_actAt_0 rfl ?_
    refine pw_getR 4 rfl dX11_actAt_1 fX11_29 (by first | rfl | assumption | exact rowS hh | exact mtS hm | exact ruS hr | exact mtA1 hm | exact mtA2 hm | exact mtA3 hm | exact mtA4 hm | exact mtA5 hm | exact mtA6 hm | exact mtA7 hm | exact ruA1 hr | exact ruA2 hr | exact ruA3 hr) rfl (by first | rfl | assumption | exact mtR0 hm | exact mtR1 hm | exact mtR2 hm | exact mtR3 hm | exact mtR4 hm | exact mtR5 hm | exact mtR6 hm | exact ruR0 hr | exact ruR1 hr | exact ruR3 hr) ?_
    refine pw_iload_n 5 rfl dX11_actAt_4 rfl ?_
    refine pw_iconst (v := nI 1) 6 rfl dX11_actAt_5 rfl ?_
    first | refine pw_iaddN 7 rfl dX11_actAt_6 ?_ | refine pw_iadd 7 rfl dX11_actAt_6 ?_
    refine pw_callVP (as := [_]) 10 rfl dX11_actAt_7 mX11_111 vX10_digitAt (x_digitAt (d := d + 5) hT (show p + 1 ≤ 100 by omega) hx hb.1) (by first | rfl | assumption | exact rowS hh | exact mtS hm | exact ruS hr | exact mtA1 hm | exact mtA2 hm | exact mtA3 hm | exact mtA4 hm | exact mtA5 hm | exact mtA6 hm | exact mtA7 hm | exact ruA1 hr | exact ruA2 hr | exact ruA3 hr) rfl (by decide) ⟨rfl, by decide, by decide, show (parseMethodDescriptor yX10_digitAt.desc).map (fun d => d.parameters.length) = some 1 by decide +kernel⟩ (by omega) (by decide) (Nat.le_of_ble_eq_true rfl) rfl ?_
    refine pw_istore_n 11 rfl dX11_actAt_10 (by decide) ?_
    refine pw_aload_n 12 rfl dX11_actAt_11 rfl ?_
    refine pw_getR 15 rfl dX11_actAt_12 fX11_29 (by first | rfl | assumption | exact rowS hh | exact mtS hm | exact ruS hr | exact mtA1 hm | exact mtA2 hm | exact mtA3 hm | exact mtA4 hm | exact mtA5 hm | exact mtA6 hm | exact mtA7 hm | exact ruA1 hr | exact ruA2 hr | exact ruA3 hr) rfl (by first | rfl | assumption | exact mtR0 hm | exact mtR1 hm | exact mtR2 hm | exact mtR3 hm | exact mtR4 hm | exact mtR5 hm | exact mtR6 hm | exact ruR0 hr | exact ruR1 hr | exact ruR3 hr) ?_
    refine pw_iload_n 16 rfl dX11_actAt_15 rfl ?_
    refine pw_callVP (as := [_]) 19 rfl dX11_actAt_16 mX11_223 vX10_at (x_at (d := d + 6) hT (show p ≤ 100 by omega)) (by first | rfl | assumption | exact rowS hh | exact mtS hm | exact ruS hr | exact mtA1 hm | exact mtA2 hm | exact mtA3 hm | exact mtA4 hm | exact mtA5 hm | exact mtA6 hm | exact mtA7 hm | exact ruA1 hr | exact ruA2 hr | exact ruA3 hr) rfl (by decide) ⟨rfl, by decide, by decide, show (parseMethodDescriptor yX10_at.desc).map (fun d => d.parameters.length) = some 1 by decide +kernel⟩ (by omega) (by decide) (Nat.le_of_ble_eq_true rfl) rfl ?_
    rotate_left
    rw [tAt_s hc]
    refine pw_lookup (tgt := 145) (off := 126) dX11_actAt_19 (by decide) (by decide) rfl ?_
    refine pw_aload_n 146 rfl dX11_actAt_145 rfl ?_
    refine pw_getR 149 rfl dX11_actAt_146 fX11_10 (by first | rfl | assumption | exact rowS hh | exact mtS hm | exact ruS hr | exact mtA1 hm | exact mtA2 hm | exact mtA3 hm | exact mtA4 hm | exact mtA5 hm | exact mtA6 hm | exact mtA7 hm | exact ruA1 hr | exact ruA2 hr | exact ruA3 hr) rfl (by first | rfl | assumption | exact mtR0 hm | exact mtR1 hm | exact mtR2 hm | exact mtR3 hm | exact mtR4 hm | exact mtR5 hm | exact mtR6 hm | exact ruR0 hr | exact ruR1 hr | exact ruR3 hr) ?_
    refine pw_iload_n 150 rfl dX11_actAt_149 rfl ?_
    refine pw_callV (as := [_]) 153 rfl dX11_actAt_150 mX11_136 vX1_changeTop (x_changeTop (d := d + 4) (Or.inl rfl) hM hW.1 hW.2.1 _) (by first | rfl | assumption | exact rowS hh | exact mtS hm | exact ruS hr | exact mtA1 hm | exact mtA2 hm | exact mtA3 hm | exact mtA4 hm | exact mtA5 hm | exact mtA6 hm | exact mtA7 hm | exact ruA1 hr | exact ruA2 hr | exact ruA3 hr) rfl (by decide) ⟨rfl, by decide, by decide, show (parseMethodDescriptor yX1_changeTop.desc).map (fun d => d.parameters.length) = some 1 by decide +kernel⟩ (by omega) (by decide) (Nat.le_of_ble_eq_true rfl) rfl (fun r150 I150 J150 R150 c150 => ?_)
    obtain ⟨rfl, m1, -, m3, rfl, rfl⟩ := c150
    rotate_left
    refine pw_iret dX11_actAt_153 rfl ?_
    rotate_left
    exact ⟨rfl, m1, (fM1 m3).2, (fM1 m3).1, rfl, rfl⟩
