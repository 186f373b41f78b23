/-- the first greatest of o among those with f -/
def gM (o : Nat → Nat) (f : Nat → Bool) : Nat → Int32
  | 0 => -1
  | j + 1 => if f j = true ∧ gM o f j < nI (o j) then nI (o j) else gM o f j
def gB (o : Nat → Nat) (f : Nat → Bool) (z : Int32) : Nat → Int32
  | 0 => z
  | j + 1 => if f j = true ∧ gM o f j < nI (o j) then nI j else gB o f z j
theorem gM_spec {o : Nat → Nat} {f : Nat → Bool} (ho : ∀ j, o j ≤ 1000) : ∀ k, k ≤ 100 → (cntP f k = 0 ∧ gM o f k = -1 ∧ ∀ z, gB o f z k = z) ∨ (cntP f k ≠ 0 ∧ (∃ m, m ≤ 1000 ∧ gM o f k = nI m) ∧ ∃ i, i < k ∧ ∀ z, gB o f z k = nI i)
  | 0, _ => Or.inl ⟨rfl, rfl, fun _ => rfl⟩
  | k + 1, hk => by
    have ih := gM_spec (f := f) ho k (by omega)
    cases hf : f k with
    | false =>
      have e1 : gM o f (k + 1) = gM o f k := by rw [gM, if_neg (fun z => by rw [hf] at z; cases z.1)]
      have e2 : ∀ z, gB o f z (k + 1) = gB o f z k := fun z => by rw [gB, if_neg (fun z => by rw [hf] at z; cases z.1)]
      rw [cntP_n hf, e1]
      rcases ih with ⟨a, b, c⟩ | ⟨a, b, i, hi, c⟩
      · exact Or.inl ⟨a, b, fun z => by rw [e2, c]⟩
      · exact Or.inr ⟨a, b, i, by omega, fun z => by rw [e2, c]⟩
    | true =>
      rw [cntP_y hf]
      refine Or.inr ⟨by omega, ?_⟩
      rw [gM]
      by_cases h : gM o f k < nI (o k)
      · rw [if_pos ⟨hf, h⟩]
        exact ⟨⟨o k, ho k, rfl⟩, k, by omega, fun z => by rw [gB, if_pos ⟨hf, h⟩]⟩
      · rw [if_neg (fun z => h z.2)]
        rcases ih with ⟨a, b, c⟩ | ⟨a, b, i, hi, c⟩
        · exfalso
          apply h
          rw [b, Int32.lt_iff_toInt_lt, nI_toInt (by have := ho k; omega)]
          show (-1 : Int) < _
          omega
        · exact ⟨b, i, by omega, fun z => by rw [gB, if_neg (fun z => h z.2), c]⟩
set_option maxRecDepth 100000 in
set_option maxHeartbeats 2000000 in
theorem x_bestToSetOut {d n N : Nat} {pc b : Nat → Nat} {E : (Nat → Int32) → Nat} {I : pI} {J : pJ} {rw : List Int64} (hM : XM I 1 n pc b) (hW : WN n pc b) (hE : XE I 9 E) (hN : N ≤ 60) (hR : XN I J rw) : PC SX (d + 7) yX5_bestToSetOut cX5_bestToSetOut 6 (some .int) [.ref 51, .int (nI N)] (I) (J) (RX) (fun r' I' J' R' => r' = some (.int (gB (fun i => cntP (fun t => decide (hrs n pc E (t + 1) (bu b (7 + i) 1) 29 = i)) N) (fun i => decide (b (7 + i) = 0)) (-2) n)) ∧ XN I' J' (if cntP (fun i => decide (b (7 + i) = 0)) n = 0 then rw else [(gM (fun i => cntP (fun t => decide (hrs n pc E (t + 1) (bu b (7 + i) 1) 29 = i)) N) (fun i => decide (b (7 + i) = 0)) n).toInt64]) ∧ fP I I' ∧ R' = RX) := by
  refine PC.of [some (.ref 51), some (.int (nI N)), none, none, none, none] rfl rfl (Nat.le_of_ble_eq_true rfl) ?_
  obtain ⟨hWF, hZ, hU⟩ := hW
  have h7 := hWF.1
  have ho : ∀ i, cntP (fun t => decide (hrs n pc E (t + 1) (bu b (7 + i) 1) 29 = i)) N ≤ 1000 := fun i => Nat.le_trans (cntP_le _ N) (by omega)
  generalize hoo : (fun i => cntP (fun t => decide (hrs n pc E (t + 1) (bu b (7 + i) 1) 29 = i)) N) = o at *
  have ho' : ∀ i, o i ≤ 1000 := fun i => by rw [← hoo]; exact ho i
  generalize hff : (fun i => decide (b (7 + i) = 0)) = f
  have last : ∀ (I' : pI) (x4 x5 : Option Value), (∀ a, a ≠ 11 → ¬ (52 ≤ a ∧ a ≤ 59) → I' a = I a) → PW SX yX5_bestToSetOut.cls cX5_bestToSetOut 6 (d + 7) 91 [some (.ref 51), some (.int (nI N)), some (.int (gB o f (-2) n)), some (.int (gM o f n)), x4, x5] [] I' J RX (rX cX5_bestToSetOut (some .int) (fun r' I' J' R' => r' = some (.int (gB o f (-2) n)) ∧ XN I' J' (if cntP f n = 0 then rw else [(gM o f n).toInt64]) ∧ fP I I' ∧ R' = RX)) := by
    intro I' x4 x5 g2
    rcases gM_spec (f := f) ho' n (by omega) with ⟨a, b1, c⟩ | ⟨a, ⟨m, hm, b1⟩, i, hi, c⟩
    · rw [if_pos a, c, b1]
      refine pw_iload_n 92 rfl dX5_bestToSetOut_91 rfl ?_
      refine pw_if_lt (tgt := 104) 95 rfl dX5_bestToSetOut_92 rfl (fun h92 => ?_) (fun h92 => absurd (by decide) h92)
      refine pw_iload_n 105 rfl dX5_bestToSetOut_104 rfl ?_
      refine pw_iret dX5_bestToSetOut_105 rfl ?_
      rotate_left
      exact ⟨rfl, XN_fr hR (g2 19 (by omega) (by omega)), fun a h1 h2 h3 => g2 a h1 h3, rfl⟩
    · rw [if_neg a, c, b1]
      refine pw_iload_n 92 rfl dX5_bestToSetOut_91 rfl ?_
      refine pw_if_lt (tgt := 104) 95 rfl dX5_bestToSetOut_92 rfl (fun h92 => absurd h92 (nI_pos (by omega))) (fun h92 => ?_)
      refine pw_aload_n 96 rfl dX5_bestToSetOut_95 rfl ?_
      refine pw_getR 99 rfl dX5_bestToSetOut_96 fX5_29 (by first | rfl | assumption | exact rowS hh | exact mtS hm | exact ruS hr | exact mtA1 hm | exact mtA2 hm | exact mtA3 hm | exact mtA4 hm | exact mtA5 hm | exact mtA6 hm | exact mtA7 hm | exact ruA1 hr | exact ruA2 hr | exact ruA3 hr) rfl (by first | rfl | assumption | exact mtR0 hm | exact mtR1 hm | exact mtR2 hm | exact mtR3 hm | exact mtR4 hm | exact mtR5 hm | exact mtR6 hm | exact ruR0 hr | exact ruR1 hr | exact ruR3 hr) ?_
      refine pw_iload_n 100 rfl dX5_bestToSetOut_99 rfl ?_
      refine pw_i2l 101 rfl dX5_bestToSetOut_100 ?_
      refine pw_callV (as := [_]) 104 rfl dX5_bestToSetOut_101 mX5_81 vX2_tellOne (x_tellOne (d := d) _) (by first | rfl | assumption | exact rowS hh | exact mtS hm | exact ruS hr | exact mtA1 hm | exact mtA2 hm | exact mtA3 hm | exact mtA4 hm | exact mtA5 hm | exact mtA6 hm | exact mtA7 hm | exact ruA1 hr | exact ruA2 hr | exact ruA3 hr) rfl (by decide) ⟨rfl, by decide, by decide, show (parseMethodDescriptor yX2_tellOne.desc).map (fun d => d.parameters.length) = some 1 by decide +kernel⟩ (by omega) (by decide) (Nat.le_of_ble_eq_true rfl) rfl (fun r101 I101 J101 R101 c101 => ?_)
      obtain ⟨rfl, n1, n2, rfl⟩ := c101
      rotate_left
      refine pw_iload_n 105 rfl dX5_bestToSetOut_104 rfl ?_
      refine pw_iret dX5_bestToSetOut_105 rfl ?_
      rotate_left
      exact ⟨rfl, n1, fun a h1 h2 h3 => by rw [n2 a h2, g2 a h1 h3], rfl⟩
  refine pw_bipush (v := -2) 2 rfl dX5_bestToSetOut_0 rfl ?_
  refine pw_istore_n 3 rfl dX5_bestToSetOut_2 (by decide) ?_
  refine pw_iconst (v := -1) 4 rfl dX5_bestToSetOut_3 rfl ?_
  refine pw_istore_n 5 rfl dX5_bestToSetOut_4 (by decide) ?_
  refine pw_iconst (v := nI 0) 6 rfl dX5_bestToSetOut_5 rfl ?_
  refine pw_istore 8 rfl dX5_bestToSetOut_6 (by decide) ?_
  rotate_left
  have L := nat_loop n (fun i => ∀ (I' : pI) (x5 : Option Value), XE I' 9 E → (∀ a, a ≠ 11 → ¬ (52 ≤ a ∧ a ≤ 59) → I' a = I a) → PW SX yX5_bestToSetOut.cls cX5_bestToSetOut 6 (d + 7) 8 [some (.ref 51), some (.int (nI N)), some (.int (gB o f (-2) i)), some (.int (gM o f i)), some (.int (nI i)), x5] [] I' J RX (rX cX5_bestToSetOut (some .int) (fun r' I' J' R' => r' = some (.int (gB o f (-2) n)) ∧ XN I' J' (if cntP f n = 0 then rw else [(gM o f n).toInt64]) ∧ fP I I' ∧ R' = RX))) ?_ ?_
  · exact L I none hE (fun _ _ _ => rfl)
  · intro I' x5 g1 g2
    have hn' : I' 1 7 = nI n := by rw [g2 1 (by omega) (by omega)]; exact hM.2.1
    refine pw_iload 10 rfl dX5_bestToSetOut_8 rfl ?_
    refine pw_bipush (v := nI 7) 12 rfl dX5_bestToSetOut_10 rfl ?_
    refine pw_icmp_ge (tgt := 91) 15 rfl dX5_bestToSetOut_12 rfl (fun h12 => ?_) (fun h12 => ?_)
    rotate_left
    refine pw_iload 17 rfl dX5_bestToSetOut_15 rfl ?_
    refine pw_aload_n 18 rfl dX5_bestToSetOut_17 rfl ?_
    refine pw_getR 21 rfl dX5_bestToSetOut_18 fX5_22 (by first | rfl | assumption | exact rowS hh | exact mtS hm | exact ruS hr | exact mtA1 hm | exact mtA2 hm | exact mtA3 hm | exact mtA4 hm | exact mtA5 hm | exact mtA6 hm | exact mtA7 hm | exact ruA1 hr | exact ruA2 hr | exact ruA3 hr) rfl (by first | rfl | assumption | exact mtR0 hm | exact mtR1 hm | exact mtR2 hm | exact mtR3 hm | exact mtR4 hm | exact mtR5 hm | exact mtR6 hm | exact ruR0 hr | exact ruR1 hr | exact ruR3 hr) ?_
    refine pw_getI 24 rfl dX5_bestToSetOut_21 fX5_94 (by first | rfl | assumption | exact rowS hh | exact mtS hm | exact ruS hr | exact mtA1 hm | exact mtA2 hm | exact mtA3 hm | exact mtA4 hm | exact mtA5 hm | exact mtA6 hm | exact mtA7 hm | exact ruA1 hr | exact ruA2 hr | exact ruA3 hr) rfl ?_
    refine pw_icmp_ge (tgt := 91) 27 rfl dX5_bestToSetOut_24 rfl (fun h24 => ?_) (fun h24 => absurd (by rw [hn']; (simp (disch := omega) only [nI_leI, nI_ltI, nI_eq, show (0 : Int32) = nI 0 from rfl, not_true_eq_false, not_false_eq_true] <;> omega)) h24)
    rotate_left
    · exact last I' _ _ g2
    · exact last I' _ _ g2
  · intro i hi ih I' x5 g1 g2
    have hM' : XM I' 1 n pc b := XM_fr hM (fun a h1 h2 => g2 a (by omega) (by omega))
    have e3 := (hM'.2.2.2.2.2.2 i (by omega)).2.2.1
    have hb := hWF.2.2.2.2 i (by omega)
    have hfi : f i = decide (b (7 + i) = 0) := by rw [← hff]
    by_cases h0 : b (7 + i) = 0
    · have hf1 : f i = true := by rw [hfi]; exact decide_eq_true h0
      have hW1 : WF n pc (bu b (7 + i) 1) := WF_bu hWF (by omega)
      have eoi : o i = cntP (fun t => decide (hrs n pc E (t + 1) (bu b (7 + i) 1) 29 = i)) N := by rw [← hoo]
      have hoi := ho' i
      refine pw_iload 10 rfl dX5_bestToSetOut_8 rfl ?_
      refine pw_bipush (v := nI 7) 12 rfl dX5_bestToSetOut_10 rfl ?_
      refine pw_icmp_ge (tgt := 91) 15 rfl dX5_bestToSetOut_12 rfl (fun h12 => absurd h12 (by (simp (disch := omega) only [nI_leI, nI_ltI, nI_eq, show (0 : Int32) = nI 0 from rfl, not_true_eq_false, not_false_eq_true] <;> omega))) (fun h12 => ?_)
      refine pw_iload 17 rfl dX5_bestToSetOut_15 rfl ?_
      refine pw_aload_n 18 rfl dX5_bestToSetOut_17 rfl ?_
      refine pw_getR 21 rfl dX5_bestToSetOut_18 fX5_22 (by first | rfl | assumption | exact rowS hh | exact mtS hm | exact ruS hr | exact mtA1 hm | exact mtA2 hm | exact mtA3 hm | exact mtA4 hm | exact mtA5 hm | exact mtA6 hm | exact mtA7 hm | exact ruA1 hr | exact ruA2 hr | exact ruA3 hr) rfl (by first | rfl | assumption | exact mtR0 hm | exact mtR1 hm | exact mtR2 hm | exact mtR3 hm | exact mtR4 hm | exact mtR5 hm | exact mtR6 hm | exact ruR0 hr | exact ruR1 hr | exact ruR3 hr) ?_
      refine pw_getI 24 rfl dX5_bestToSetOut_21 fX5_94 (by first | rfl | assumption | exact rowS hh | exact mtS hm | exact ruS hr | exact mtA1 hm | exact mtA2 hm | exact mtA3 hm | exact mtA4 hm | exact mtA5 hm | exact mtA6 hm | exact mtA7 hm | exact ruA1 hr | exact ruA2 hr | exact ruA3 hr) rfl ?_
      refine pw_icmp_ge (tgt := 91) 27 rfl dX5_bestToSetOut_24 rfl (fun h24 => absurd h24 (by rw [hM'.2.1]; (simp (disch := omega) only [nI_leI, nI_ltI, nI_eq, show (0 : Int32) = nI 0 from rfl, not_true_eq_false, not_false_eq_true] <;> omega))) (fun h24 => ?_)
      refine pw_aload_n 28 rfl dX5_bestToSetOut_27 rfl ?_
      refine pw_getR 31 rfl dX5_bestToSetOut_28 fX5_22 (by first | rfl | assumption | exact rowS hh | exact mtS hm | exact ruS hr | exact mtA1 hm | exact mtA2 hm | exact mtA3 hm | exact mtA4 hm | exact mtA5 hm | exact mtA6 hm | exact mtA7 hm | exact ruA1 hr | exact ruA2 hr | exact ruA3 hr) rfl (by first | rfl | assumption | exact mtR0 hm | exact mtR1 hm | exact mtR2 hm | exact mtR3 hm | exact mtR4 hm | exact mtR5 hm | exact mtR6 hm | exact ruR0 hr | exact ruR1 hr | exact ruR3 hr) ?_
      refine pw_getR 34 rfl dX5_bestToSetOut_31 fX5_97 (by first | rfl | assumption | exact rowS hh | exact mtS hm | exact ruS hr | exact mtA1 hm | exact mtA2 hm | exact mtA3 hm | exact mtA4 hm | exact mtA5 hm | exact mtA6 hm | exact mtA7 hm | exact ruA1 hr | exact ruA2 hr | exact ruA3 hr) rfl (by first | rfl | assumption | exact mtR0 hm | exact mtR1 hm | exact mtR2 hm | exact mtR3 hm | exact mtR4 hm | exact mtR5 hm | exact mtR6 hm | exact ruR0 hr | exact ruR1 hr | exact ruR3 hr) ?_
      refine pw_iload 36 rfl dX5_bestToSetOut_34 rfl ?_
      refine pw_ialdN 37 rfl dX5_bestToSetOut_36 (by first | rfl | assumption | exact rowS hh | exact mtS hm | exact ruS hr | exact mtA1 hm | exact mtA2 hm | exact mtA3 hm | exact mtA4 hm | exact mtA5 hm | exact mtA6 hm | exact mtA7 hm | exact ruA1 hr | exact ruA2 hr | exact ruA3 hr) (by omega) (by decide) ?_
      refine pw_if_eq (tgt := 43) 40 rfl dX5_bestToSetOut_37 rfl (fun h37 => ?_) (fun h37 => absurd (by rw [e3, h0]; rfl) h37)
      refine pw_aload_n 44 rfl dX5_bestToSetOut_43 rfl ?_
      refine pw_getR 47 rfl dX5_bestToSetOut_44 fX5_12 (by first | rfl | assumption | exact rowS hh | exact mtS hm | exact ruS hr | exact mtA1 hm | exact mtA2 hm | exact mtA3 hm | exact mtA4 hm | exact mtA5 hm | exact mtA6 hm | exact mtA7 hm | exact ruA1 hr | exact ruA2 hr | exact ruA3 hr) rfl (by first | rfl | assumption | exact mtR0 hm | exact mtR1 hm | exact mtR2 hm | exact mtR3 hm | exact mtR4 hm | exact mtR5 hm | exact mtR6 hm | exact ruR0 hr | exact ruR1 hr | exact ruR3 hr) ?_
      refine pw_aload_n 48 rfl dX5_bestToSetOut_47 rfl ?_
      refine pw_getR 51 rfl dX5_bestToSetOut_48 fX5_22 (by first | rfl | assumption | exact rowS hh | exact mtS hm | exact ruS hr | exact mtA1 hm | exact mtA2 hm | exact mtA3 hm | exact mtA4 hm | exact mtA5 hm | exact mtA6 hm | exact mtA7 hm | exact ruA1 hr | exact ruA2 hr | exact ruA3 hr) rfl (by first | rfl | assumption | exact mtR0 hm | exact mtR1 hm | exact mtR2 hm | exact mtR3 hm | exact mtR4 hm | exact mtR5 hm | exact mtR6 hm | exact ruR0 hr | exact ruR1 hr | exact ruR3 hr) ?_
      refine pw_callV (as := [_]) 54 rfl dX5_bestToSetOut_51 mX5_53 vX1_copyFrom (x_copyFrom (d := d) (Or.inr rfl) hM') (by first | rfl | assumption | exact rowS hh | exact mtS hm | exact ruS hr | exact mtA1 hm | exact mtA2 hm | exact mtA3 hm | exact mtA4 hm | exact mtA5 hm | exact mtA6 hm | exact mtA7 hm | exact ruA1 hr | exact ruA2 hr | exact ruA3 hr) rfl (by decide) ⟨rfl, by decide, by decide, show (parseMethodDescriptor yX1_copyFrom.desc).map (fun d => d.parameters.length) = some 1 by decide +kernel⟩ (by omega) (by decide) (Nat.le_of_ble_eq_true rfl) rfl (fun r51 I51 J51 R51 c51 => ?_)
      obtain ⟨rfl, a1, a2, a3, rfl, rfl⟩ := c51; have e8 := XE_fr g1 (a3 9 (by omega)) (a3 10 (by omega))
      refine pw_aload_n 55 rfl dX5_bestToSetOut_54 rfl ?_
      refine pw_getR 58 rfl dX5_bestToSetOut_55 fX5_12 (by first | rfl | assumption | exact rowS hh | exact mtS hm | exact ruS hr | exact mtA1 hm | exact mtA2 hm | exact mtA3 hm | exact mtA4 hm | exact mtA5 hm | exact mtA6 hm | exact mtA7 hm | exact ruA1 hr | exact ruA2 hr | exact ruA3 hr) rfl (by first | rfl | assumption | exact mtR0 hm | exact mtR1 hm | exact mtR2 hm | exact mtR3 hm | exact mtR4 hm | exact mtR5 hm | exact mtR6 hm | exact ruR0 hr | exact ruR1 hr | exact ruR3 hr) ?_
      refine pw_iload 60 rfl dX5_bestToSetOut_58 rfl ?_
      refine pw_callV (as := [_]) 63 rfl dX5_bestToSetOut_60 mX5_100 vX1_setOut (x_setOut (d := d) (Or.inr (Or.inr rfl)) a1 hWF _) (by first | rfl | assumption | exact rowS hh | exact mtS hm | exact ruS hr | exact mtA1 hm | exact mtA2 hm | exact mtA3 hm | exact mtA4 hm | exact mtA5 hm | exact mtA6 hm | exact mtA7 hm | exact ruA1 hr | exact ruA2 hr | exact ruA3 hr) rfl (by decide) ⟨rfl, by decide, by decide, show (parseMethodDescriptor yX1_setOut.desc).map (fun d => d.parameters.length) = some 1 by decide +kernel⟩ (by omega) (by decide) (Nat.le_of_ble_eq_true rfl) rfl (fun r60 I60 J60 R60 c60 => ?_)
      obtain ⟨rfl, s1, s2, s3, rfl, rfl⟩ := c60; rw [aSet_q (qOf_y hi h7), if_pos h0] at s1
      refine pw_pop 64 rfl dX5_bestToSetOut_63 rfl ?_
      refine pw_aload_n 65 rfl dX5_bestToSetOut_64 rfl ?_
      refine pw_iload 67 rfl dX5_bestToSetOut_65 rfl ?_
      refine pw_iload_n 68 rfl dX5_bestToSetOut_67 rfl ?_
      refine pw_callV (as := [_, _]) 71 rfl dX5_bestToSetOut_68 mX5_60 vX5_hoursOwned (x_hoursOwned (d := d) s1 hW1 (XE_fr e8 (s3 9 (by omega)) (s3 10 (by omega))) (by omega) (show i < 7 by omega)) (by first | rfl | assumption | exact rowS hh | exact mtS hm | exact ruS hr | exact mtA1 hm | exact mtA2 hm | exact mtA3 hm | exact mtA4 hm | exact mtA5 hm | exact mtA6 hm | exact mtA7 hm | exact ruA1 hr | exact ruA2 hr | exact ruA3 hr) rfl (by decide) ⟨rfl, by decide, by decide, show (parseMethodDescriptor yX5_hoursOwned.desc).map (fun d => d.parameters.length) = some 2 by decide +kernel⟩ (by omega) (by decide) (Nat.le_of_ble_eq_true rfl) rfl (fun r68 I68 J68 R68 c68 => ?_)
      obtain ⟨rfl, b1, b2, rfl, rfl⟩ := c68
      rotate_left
      rw [← eoi]
      have ih' := fun x5 => ih I68 x5 b1 (fun a h1 h2 => by rw [b2 a h1 h2, s3 a (by omega), a3 a (by omega), g2 a h1 h2])
      rw [gM, gB] at ih'
      by_cases hc : gM o f i < nI (o i)
      · rw [if_pos ⟨hf1, hc⟩, if_pos ⟨hf1, hc⟩] at ih'
        refine pw_istore 73 rfl dX5_bestToSetOut_71 (by decide) ?_
        refine pw_iload 75 rfl dX5_bestToSetOut_73 rfl ?_
        refine pw_iload_n 76 rfl dX5_bestToSetOut_75 rfl ?_
        refine pw_icmp_le (tgt := 85) 79 rfl dX5_bestToSetOut_76 rfl (fun h76 => absurd h76 (by rw [Int32.le_iff_toInt_le]; rw [Int32.lt_iff_toInt_lt] at hc; omega)) (fun h76 => ?_)
        refine pw_iload 81 rfl dX5_bestToSetOut_79 rfl ?_
        refine pw_istore_n 82 rfl dX5_bestToSetOut_81 (by decide) ?_
        refine pw_iload 84 rfl dX5_bestToSetOut_82 rfl ?_
        refine pw_istore_n 85 rfl dX5_bestToSetOut_84 (by decide) ?_
        refine pw_iincN 88 rfl dX5_bestToSetOut_85 (by decide) rfl ?_
        refine pw_goto (tgt := 8) dX5_bestToSetOut_88 rfl ?_
        rotate_left
        exact ih' _
      · rw [if_neg (fun z => hc z.2), if_neg (fun z => hc z.2)] at ih'
        refine pw_istore 73 rfl dX5_bestToSetOut_71 (by decide) ?_
        refine pw_iload 75 rfl dX5_bestToSetOut_73 rfl ?_
        refine pw_iload_n 76 rfl dX5_bestToSetOut_75 rfl ?_
        refine pw_icmp_le (tgt := 85) 79 rfl dX5_bestToSetOut_76 rfl (fun h76 => ?_) (fun h76 => absurd (by rw [Int32.le_iff_toInt_le]; rw [Int32.lt_iff_toInt_lt] at hc; omega) h76)
        refine pw_iincN 88 rfl dX5_bestToSetOut_85 (by decide) rfl ?_
        refine pw_goto (tgt := 8) dX5_bestToSetOut_88 rfl ?_
        rotate_left
        exact ih' _
    · have hf1 : f i = false := by rw [hfi]; exact decide_eq_false h0
      have ih' := ih I' x5 g1 g2
      rw [gM, gB, if_neg (fun z => by rw [hf1] at z; cases z.1), if_neg (fun z => by rw [hf1] at z; cases z.1)] at ih'
      refine pw_iload 10 rfl dX5_bestToSetOut_8 rfl ?_
      refine pw_bipush (v := nI 7) 12 rfl dX5_bestToSetOut_10 rfl ?_
      refine pw_icmp_ge (tgt := 91) 15 rfl dX5_bestToSetOut_12 rfl (fun h12 => absurd h12 (by (simp (disch := omega) only [nI_leI, nI_ltI, nI_eq, show (0 : Int32) = nI 0 from rfl, not_true_eq_false, not_false_eq_true] <;> omega))) (fun h12 => ?_)
      refine pw_iload 17 rfl dX5_bestToSetOut_15 rfl ?_
      refine pw_aload_n 18 rfl dX5_bestToSetOut_17 rfl ?_
      refine pw_getR 21 rfl dX5_bestToSetOut_18 fX5_22 (by first | rfl | assumption | exact rowS hh | exact mtS hm | exact ruS hr | exact mtA1 hm | exact mtA2 hm | exact mtA3 hm | exact mtA4 hm | exact mtA5 hm | exact mtA6 hm | exact mtA7 hm | exact ruA1 hr | exact ruA2 hr | exact ruA3 hr) rfl (by first | rfl | assumption | exact mtR0 hm | exact mtR1 hm | exact mtR2 hm | exact mtR3 hm | exact mtR4 hm | exact mtR5 hm | exact mtR6 hm | exact ruR0 hr | exact ruR1 hr | exact ruR3 hr) ?_
      refine pw_getI 24 rfl dX5_bestToSetOut_21 fX5_94 (by first | rfl | assumption | exact rowS hh | exact mtS hm | exact ruS hr | exact mtA1 hm | exact mtA2 hm | exact mtA3 hm | exact mtA4 hm | exact mtA5 hm | exact mtA6 hm | exact mtA7 hm | exact ruA1 hr | exact ruA2 hr | exact ruA3 hr) rfl ?_
      refine pw_icmp_ge (tgt := 91) 27 rfl dX5_bestToSetOut_24 rfl (fun h24 => absurd h24 (by rw [hM'.2.1]; (simp (disch := omega) only [nI_leI, nI_ltI, nI_eq, show (0 : Int32) = nI 0 from rfl, not_true_eq_false, not_false_eq_true] <;> omega))) (fun h24 => ?_)
      refine pw_aload_n 28 rfl dX5_bestToSetOut_27 rfl ?_
      refine pw_getR 31 rfl dX5_bestToSetOut_28 fX5_22 (by first | rfl | assumption | exact rowS hh | exact mtS hm | exact ruS hr | exact mtA1 hm | exact mtA2 hm | exact mtA3 hm | exact mtA4 hm | exact mtA5 hm | exact mtA6 hm | exact mtA7 hm | exact ruA1 hr | exact ruA2 hr | exact ruA3 hr) rfl (by first | rfl | assumption | exact mtR0 hm | exact mtR1 hm | exact mtR2 hm | exact mtR3 hm | exact mtR4 hm | exact mtR5 hm | exact mtR6 hm | exact ruR0 hr | exact ruR1 hr | exact ruR3 hr) ?_
      refine pw_getR 34 rfl dX5_bestToSetOut_31 fX5_97 (by first | rfl | assumption | exact rowS hh | exact mtS hm | exact ruS hr | exact mtA1 hm | exact mtA2 hm | exact mtA3 hm | exact mtA4 hm | exact mtA5 hm | exact mtA6 hm | exact mtA7 hm | exact ruA1 hr | exact ruA2 hr | exact ruA3 hr) rfl (by first | rfl | assumption | exact mtR0 hm | exact mtR1 hm | exact mtR2 hm | exact mtR3 hm | exact mtR4 hm | exact mtR5 hm | exact mtR6 hm | exact ruR0 hr | exact ruR1 hr | exact ruR3 hr) ?_
      refine pw_iload 36 rfl dX5_bestToSetOut_34 rfl ?_
      refine pw_ialdN 37 rfl dX5_bestToSetOut_36 (by first | rfl | assumption | exact rowS hh | exact mtS hm | exact ruS hr | exact mtA1 hm | exact mtA2 hm | exact mtA3 hm | exact mtA4 hm | exact mtA5 hm | exact mtA6 hm | exact mtA7 hm | exact ruA1 hr | exact ruA2 hr | exact ruA3 hr) (by omega) (by decide) ?_
      refine pw_if_eq (tgt := 43) 40 rfl dX5_bestToSetOut_37 rfl (fun h37 => absurd h37 (by rw [e3]; exact nI_ne0 (by omega) (by omega))) (fun h37 => ?_)
      refine pw_goto (tgt := 85) dX5_bestToSetOut_40 rfl ?_
      refine pw_iincN 88 rfl dX5_bestToSetOut_85 (by decide) rfl ?_
      refine pw_goto (tgt := 8) dX5_bestToSetOut_88 rfl ?_
      rotate_left
      exact ih'
set_option maxRecDepth 100000 in
set_option maxHeartbeats 2000000 in
theorem x_compareRules {d n : Nat} {pc b : Nat → Nat} {E E2 : (Nat → Int32) → Nat} {I : pI} {J : pJ} (hM : XM I 1 n pc b) (hW : WF n pc b) (hE : XE I 9 E) (hE2 : XE I 13 E2) : PC SX (d + 7) yX5_compareRules cX5_compareRules 5 (some .int) [.ref 51, .ref 13] (I) (J) (RX) (fun r' I' J' R' => r' = some (.int (nI (cdn n pc E2 b 20) - nI (cdn n pc E b 20))) ∧ XN I' J' [lI (cdn n pc E2 b 20), lI (cdn n pc E b 20), lI (hrs n pc E2 20 b 29), lI (hrs n pc E 20 b 29)] ∧ (∀ a, a ≠ 11 → a ≠ 15 → a ≠ 19 → ¬ (52 ≤ a ∧ a ≤ 59) → I' a = I a) ∧ R' = RX) := by
  refine PC.of [some (.ref 51), some (.ref 13), none, none, none] rfl rfl (Nat.le_of_ble_eq_true rfl) ?_
  refine pw_aload_n 1 rfl dX5_compareRules_0 rfl ?_
  refine pw_getR 4 rfl dX5_compareRules_1 fX5_12 (by first | rfl | assumption | exact rowS hh | exact mtS hm | exact ruS hr | exact mtA1 hm | exact mtA2 hm | exact mtA3 hm | exact mtA4 hm | exact mtA5 hm | exact mtA6 hm | exact mtA7 hm | exact ruA1 hr | exact ruA2 hr | exact ruA3 hr) rfl (by first | rfl | assumption | exact mtR0 hm | exact mtR1 hm | exact mtR2 hm | exact mtR3 hm | exact mtR4 hm | exact mtR5 hm | exact mtR6 hm | exact ruR0 hr | exact ruR1 hr | exact ruR3 hr) ?_
  refine pw_aload_n 5 rfl dX5_compareRules_4 rfl ?_
  refine pw_getR 8 rfl dX5_compareRules_5 fX5_22 (by first | rfl | assumption | exact rowS hh | exact mtS hm | exact ruS hr | exact mtA1 hm | exact mtA2 hm | exact mtA3 hm | exact mtA4 hm | exact mtA5 hm | exact mtA6 hm | exact mtA7 hm | exact ruA1 hr | exact ruA2 hr | exact ruA3 hr) rfl (by first | rfl | assumption | exact mtR0 hm | exact mtR1 hm | exact mtR2 hm | exact mtR3 hm | exact mtR4 hm | exact mtR5 hm | exact mtR6 hm | exact ruR0 hr | exact ruR1 hr | exact ruR3 hr) ?_
  refine pw_callV (as := [_]) 11 rfl dX5_compareRules_8 mX5_53 vX1_copyFrom (x_copyFrom (d := d) (Or.inr rfl) hM) (by first | rfl | assumption | exact rowS hh | exact mtS hm | exact ruS hr | exact mtA1 hm | exact mtA2 hm | exact mtA3 hm | exact mtA4 hm | exact mtA5 hm | exact mtA6 hm | exact mtA7 hm | exact ruA1 hr | exact ruA2 hr | exact ruA3 hr) rfl (by decide) ⟨rfl, by decide, by decide, show (parseMethodDescriptor yX1_copyFrom.desc).map (fun d => d.parameters.length) = some 1 by decide +kernel⟩ (by omega) (by decide) (Nat.le_of_ble_eq_true rfl) rfl (fun r8 I8 J8 R8 c8 => ?_)
  obtain ⟨rfl, a1, a2, a3, rfl, rfl⟩ := c8; have e8 := XE_fr hE (a3 9 (by omega)) (a3 10 (by omega))
  refine pw_aload_n 12 rfl dX5_compareRules_11 rfl ?_
  refine pw_getR 15 rfl dX5_compareRules_12 fX5_12 (by first | rfl | assumption | exact rowS hh | exact mtS hm | exact ruS hr | exact mtA1 hm | exact mtA2 hm | exact mtA3 hm | exact mtA4 hm | exact mtA5 hm | exact mtA6 hm | exact mtA7 hm | exact ruA1 hr | exact ruA2 hr | exact ruA3 hr) rfl (by first | rfl | assumption | exact mtR0 hm | exact mtR1 hm | exact mtR2 hm | exact mtR3 hm | exact mtR4 hm | exact mtR5 hm | exact mtR6 hm | exact ruR0 hr | exact ruR1 hr | exact ruR3 hr) ?_
  refine pw_aload_n 16 rfl dX5_compareRules_15 rfl ?_
  refine pw_getR 19 rfl dX5_compareRules_16 fX5_25 (by first | rfl | assumption | exact rowS hh | exact mtS hm | exact ruS hr | exact mtA1 hm | exact mtA2 hm | exact mtA3 hm | exact mtA4 hm | exact mtA5 hm | exact mtA6 hm | exact mtA7 hm | exact ruA1 hr | exact ruA2 hr | exact ruA3 hr) rfl (by first | rfl | assumption | exact mtR0 hm | exact mtR1 hm | exact mtR2 hm | exact mtR3 hm | exact mtR4 hm | exact mtR5 hm | exact mtR6 hm | exact ruR0 hr | exact ruR1 hr | exact ruR3 hr) ?_
  refine pw_bipush (v := nI 20) 21 rfl dX5_compareRules_19 rfl ?_
  refine pw_callV (as := [_, _]) 24 rfl dX5_compareRules_21 mX5_109 vX1_passHours (x_passHours (d := d) (Or.inr (Or.inr rfl)) (Or.inl rfl) a1 hW e8 (by omega)) (by first | rfl | assumption | exact rowS hh | exact mtS hm | exact ruS hr | exact mtA1 hm | exact mtA2 hm | exact mtA3 hm | exact mtA4 hm | exact mtA5 hm | exact mtA6 hm | exact mtA7 hm | exact ruA1 hr | exact ruA2 hr | exact ruA3 hr) rfl (by decide) ⟨rfl, by decide, by decide, show (parseMethodDescriptor yX1_passHours.desc).map (fun d => d.parameters.length) = some 2 by decide +kernel⟩ (by omega) (by decide) (Nat.le_of_ble_eq_true rfl) rfl (fun r21 I21 J21 R21 c21 => ?_)
  obtain ⟨rfl, b1, b2, b3, rfl, rfl⟩ := c21
  refine pw_istore_n 25 rfl dX5_compareRules_24 (by decide) ?_
  refine pw_aload_n 26 rfl dX5_compareRules_25 rfl ?_
  refine pw_getR 29 rfl dX5_compareRules_26 fX5_12 (by first | rfl | assumption | exact rowS hh | exact mtS hm | exact ruS hr | exact mtA1 hm | exact mtA2 hm | exact mtA3 hm | exact mtA4 hm | exact mtA5 hm | exact mtA6 hm | exact mtA7 hm | exact ruA1 hr | exact ruA2 hr | exact ruA3 hr) rfl (by first | rfl | assumption | exact mtR0 hm | exact mtR1 hm | exact mtR2 hm | exact mtR3 hm | exact mtR4 hm | exact mtR5 hm | exact mtR6 hm | exact ruR0 hr | exact ruR1 hr | exact ruR3 hr) ?_
  refine pw_getI 32 rfl dX5_compareRules_29 fX5_37 (by first | rfl | assumption | exact rowS hh | exact mtS hm | exact ruS hr | exact mtA1 hm | exact mtA2 hm | exact mtA3 hm | exact mtA4 hm | exact mtA5 hm | exact mtA6 hm | exact mtA7 hm | exact ruA1 hr | exact ruA2 hr | exact ruA3 hr) rfl ?_
  rotate_left
  rw [b1.2.2.2.1]
  have f2 : ∀ a, a ≠ 11 → ¬ (52 ≤ a ∧ a ≤ 59) → I21 a = I a := fun a h1 h2 => by rw [b3 a h1 (by omega), a3 a (by omega)]
  have hM2 : XM I21 1 n pc b := XM_fr hM (fun a h1 h2 => f2 a (by omega) (by omega))
  refine pw_istore_n 33 rfl dX5_compareRules_32 (by decide) ?_
  refine pw_aload_n 34 rfl dX5_compareRules_33 rfl ?_
  refine pw_getR 37 rfl dX5_compareRules_34 fX5_12 (by first | rfl | assumption | exact rowS hh | exact mtS hm | exact ruS hr | exact mtA1 hm | exact mtA2 hm | exact mtA3 hm | exact mtA4 hm | exact mtA5 hm | exact mtA6 hm | exact mtA7 hm | exact ruA1 hr | exact ruA2 hr | exact ruA3 hr) rfl (by first | rfl | assumption | exact mtR0 hm | exact mtR1 hm | exact mtR2 hm | exact mtR3 hm | exact mtR4 hm | exact mtR5 hm | exact mtR6 hm | exact ruR0 hr | exact ruR1 hr | exact ruR3 hr) ?_
  refine pw_aload_n 38 rfl dX5_compareRules_37 rfl ?_
  refine pw_getR 41 rfl dX5_compareRules_38 fX5_22 (by first | rfl | assumption | exact rowS hh | exact mtS hm | exact ruS hr | exact mtA1 hm | exact mtA2 hm | exact mtA3 hm | exact mtA4 hm | exact mtA5 hm | exact mtA6 hm | exact mtA7 hm | exact ruA1 hr | exact ruA2 hr | exact ruA3 hr) rfl (by first | rfl | assumption | exact mtR0 hm | exact mtR1 hm | exact mtR2 hm | exact mtR3 hm | exact mtR4 hm | exact mtR5 hm | exact mtR6 hm | exact ruR0 hr | exact ruR1 hr | exact ruR3 hr) ?_
  refine pw_callV (as := [_]) 44 rfl dX5_compareRules_41 mX5_53 vX1_copyFrom (x_copyFrom (d := d) (Or.inr rfl) hM2) (by first | rfl | assumption | exact rowS hh | exact mtS hm | exact ruS hr | exact mtA1 hm | exact mtA2 hm | exact mtA3 hm | exact mtA4 hm | exact mtA5 hm | exact mtA6 hm | exact mtA7 hm | exact ruA1 hr | exact ruA2 hr | exact ruA3 hr) rfl (by decide) ⟨rfl, by decide, by decide, show (parseMethodDescriptor yX1_copyFrom.desc).map (fun d => d.parameters.length) = some 1 by decide +kernel⟩ (by omega) (by decide) (Nat.le_of_ble_eq_true rfl) rfl (fun r41 I41 J41 R41 c41 => ?_)
  obtain ⟨rfl, p1, p2, p3, rfl, rfl⟩ := c41; have e9 := XE_fr hE2 (I' := I41) (by rw [p3 13 (by omega), f2 13 (by omega) (by omega)]) (by rw [p3 14 (by omega), f2 14 (by omega) (by omega)])
  refine pw_aload_n 45 rfl dX5_compareRules_44 rfl ?_
  refine pw_getR 48 rfl dX5_compareRules_45 fX5_12 (by first | rfl | assumption | exact rowS hh | exact mtS hm | exact ruS hr | exact mtA1 hm | exact mtA2 hm | exact mtA3 hm | exact mtA4 hm | exact mtA5 hm | exact mtA6 hm | exact mtA7 hm | exact ruA1 hr | exact ruA2 hr | exact ruA3 hr) rfl (by first | rfl | assumption | exact mtR0 hm | exact mtR1 hm | exact mtR2 hm | exact mtR3 hm | exact mtR4 hm | exact mtR5 hm | exact mtR6 hm | exact ruR0 hr | exact ruR1 hr | exact ruR3 hr) ?_
  refine pw_aload_n 49 rfl dX5_compareRules_48 rfl ?_
  refine pw_bipush (v := nI 20) 51 rfl dX5_compareRules_49 rfl ?_
  refine pw_callV (as := [_, _]) 54 rfl dX5_compareRules_51 mX5_109 vX1_passHours (x_passHours (d := d) (Or.inr (Or.inr rfl)) (Or.inr rfl) p1 hW e9 (by omega)) (by first | rfl | assumption | exact rowS hh | exact mtS hm | exact ruS hr | exact mtA1 hm | exact mtA2 hm | exact mtA3 hm | exact mtA4 hm | exact mtA5 hm | exact mtA6 hm | exact mtA7 hm | exact ruA1 hr | exact ruA2 hr | exact ruA3 hr) rfl (by decide) ⟨rfl, by decide, by decide, show (parseMethodDescriptor yX1_passHours.desc).map (fun d => d.parameters.length) = some 2 by decide +kernel⟩ (by omega) (by decide) (Nat.le_of_ble_eq_true rfl) rfl (fun r51 I51 J51 R51 c51 => ?_)
  obtain ⟨rfl, q1, q2, q3, rfl, rfl⟩ := c51
  refine pw_istore 56 rfl dX5_compareRules_54 (by decide) ?_
  refine pw_aload_n 57 rfl dX5_compareRules_56 rfl ?_
  refine pw_getR 60 rfl dX5_compareRules_57 fX5_29 (by first | rfl | assumption | exact rowS hh | exact mtS hm | exact ruS hr | exact mtA1 hm | exact mtA2 hm | exact mtA3 hm | exact mtA4 hm | exact mtA5 hm | exact mtA6 hm | exact mtA7 hm | exact ruA1 hr | exact ruA2 hr | exact ruA3 hr) rfl (by first | rfl | assumption | exact mtR0 hm | exact mtR1 hm | exact mtR2 hm | exact mtR3 hm | exact mtR4 hm | exact mtR5 hm | exact mtR6 hm | exact ruR0 hr | exact ruR1 hr | exact ruR3 hr) ?_
  refine pw_iload 62 rfl dX5_compareRules_60 rfl ?_
  refine pw_i2l 63 rfl dX5_compareRules_62 ?_
  refine pw_iload_n 64 rfl dX5_compareRules_63 rfl ?_
  refine pw_i2l 65 rfl dX5_compareRules_64 ?_
  refine pw_callV (as := [_, _]) 68 rfl dX5_compareRules_65 mX5_63 vX2_tellTwo (x_tellTwo (d := d) _ _) (by first | rfl | assumption | exact rowS hh | exact mtS hm | exact ruS hr | exact mtA1 hm | exact mtA2 hm | exact mtA3 hm | exact mtA4 hm | exact mtA5 hm | exact mtA6 hm | exact mtA7 hm | exact ruA1 hr | exact ruA2 hr | exact ruA3 hr) rfl (by decide) ⟨rfl, by decide, by decide, show (parseMethodDescriptor yX2_tellTwo.desc).map (fun d => d.parameters.length) = some 2 by decide +kernel⟩ (by omega) (by decide) (Nat.le_of_ble_eq_true rfl) rfl (fun r65 I65 J65 R65 c65 => ?_)
  obtain ⟨rfl, n1, n2, rfl⟩ := c65
  refine pw_aload_n 69 rfl dX5_compareRules_68 rfl ?_
  refine pw_getR 72 rfl dX5_compareRules_69 fX5_29 (by first | rfl | assumption | exact rowS hh | exact mtS hm | exact ruS hr | exact mtA1 hm | exact mtA2 hm | exact mtA3 hm | exact mtA4 hm | exact mtA5 hm | exact mtA6 hm | exact mtA7 hm | exact ruA1 hr | exact ruA2 hr | exact ruA3 hr) rfl (by first | rfl | assumption | exact mtR0 hm | exact mtR1 hm | exact mtR2 hm | exact mtR3 hm | exact mtR4 hm | exact mtR5 hm | exact mtR6 hm | exact ruR0 hr | exact ruR1 hr | exact ruR3 hr) ?_
  refine pw_aload_n 73 rfl dX5_compareRules_72 rfl ?_
  refine pw_getR 76 rfl dX5_compareRules_73 fX5_12 (by first | rfl | assumption | exact rowS hh | exact mtS hm | exact ruS hr | exact mtA1 hm | exact mtA2 hm | exact mtA3 hm | exact mtA4 hm | exact mtA5 hm | exact mtA6 hm | exact mtA7 hm | exact ruA1 hr | exact ruA2 hr | exact ruA3 hr) rfl (by first | rfl | assumption | exact mtR0 hm | exact mtR1 hm | exact mtR2 hm | exact mtR3 hm | exact mtR4 hm | exact mtR5 hm | exact mtR6 hm | exact ruR0 hr | exact ruR1 hr | exact ruR3 hr) ?_
  refine pw_getI 79 rfl dX5_compareRules_76 fX5_37 (by first | rfl | assumption | exact rowS hh | exact mtS hm | exact ruS hr | exact mtA1 hm | exact mtA2 hm | exact mtA3 hm | exact mtA4 hm | exact mtA5 hm | exact mtA6 hm | exact mtA7 hm | exact ruA1 hr | exact ruA2 hr | exact ruA3 hr) rfl ?_
  refine pw_i2l 80 rfl dX5_compareRules_79 ?_
  refine pw_callV (as := [_]) 83 rfl dX5_compareRules_80 mX5_113 vX2_add (x_add (d := d) _ n1) (by first | rfl | assumption | exact rowS hh | exact mtS hm | exact ruS hr | exact mtA1 hm | exact mtA2 hm | exact mtA3 hm | exact mtA4 hm | exact mtA5 hm | exact mtA6 hm | exact mtA7 hm | exact ruA1 hr | exact ruA2 hr | exact ruA3 hr) rfl (by decide) ⟨rfl, by decide, by decide, show (parseMethodDescriptor yX2_add.desc).map (fun d => d.parameters.length) = some 1 by decide +kernel⟩ (by omega) (by decide) (Nat.le_of_ble_eq_true rfl) rfl (fun r80 I80 J80 R80 c80 => ?_)
  obtain ⟨rfl, n3, n4, rfl⟩ := c80
  refine pw_aload_n 84 rfl dX5_compareRules_83 rfl ?_
  refine pw_getR 87 rfl dX5_compareRules_84 fX5_29 (by first | rfl | assumption | exact rowS hh | exact mtS hm | exact ruS hr | exact mtA1 hm | exact mtA2 hm | exact mtA3 hm | exact mtA4 hm | exact mtA5 hm | exact mtA6 hm | exact mtA7 hm | exact ruA1 hr | exact ruA2 hr | exact ruA3 hr) rfl (by first | rfl | assumption | exact mtR0 hm | exact mtR1 hm | exact mtR2 hm | exact mtR3 hm | exact mtR4 hm | exact mtR5 hm | exact mtR6 hm | exact ruR0 hr | exact ruR1 hr | exact ruR3 hr) ?_
  refine pw_iload_n 88 rfl dX5_compareRules_87 rfl ?_
  refine pw_i2l 89 rfl dX5_compareRules_88 ?_
  refine pw_callV (as := [_]) 92 rfl dX5_compareRules_89 mX5_113 vX2_add (x_add (d := d) _ n3) (by first | rfl | assumption | exact rowS hh | exact mtS hm | exact ruS hr | exact mtA1 hm | exact mtA2 hm | exact mtA3 hm | exact mtA4 hm | exact mtA5 hm | exact mtA6 hm | exact mtA7 hm | exact ruA1 hr | exact ruA2 hr | exact ruA3 hr) rfl (by decide) ⟨rfl, by decide, by decide, show (parseMethodDescriptor yX2_add.desc).map (fun d => d.parameters.length) = some 1 by decide +kernel⟩ (by omega) (by decide) (Nat.le_of_ble_eq_true rfl) rfl (fun r89 I89 J89 R89 c89 => ?_)
  obtain ⟨rfl, n5, n6, rfl⟩ := c89
  rotate_left
  refine pw_iload 94 rfl dX5_compareRules_92 rfl ?_
  refine pw_iload_n 95 rfl dX5_compareRules_94 rfl ?_
  refine pw_isub 96 rfl dX5_compareRules_95 ?_
  refine pw_iret dX5_compareRules_96 rfl ?_
  rotate_left
  rw [n2 52 (by omega), q1.2.2.2.1] at n5
  refine ⟨rfl, n5, fun a h1 h2 h3 h4 => ?_, rfl⟩
  rw [n6 a h3, n4 a h3, n2 a h3, q3 a h2 (by omega), p3 a (by omega), f2 a h1 h4]
/-- the sets of the fewest, then the least number: as they are gone through -/
def few (Q : Nat → Bool) : Nat → Option Nat
  | 0 => none
  | k + 1 => if Q k then (match few Q k with
    | none => some k
    | some s => if popc k < popc s then some k else some s) else few Q k
theorem few_spec (Q : Nat → Bool) : ∀ k, (few Q k = none ∧ ∀ s, s < k → Q s = false) ∨ (∃ s, few Q k = some s ∧ s < k ∧ Q s = true ∧ ∀ s', s' < k → Q s' = true → popc s < popc s' ∨ (popc s = popc s' ∧ s ≤ s'))
  | 0 => Or.inl ⟨rfl, fun s h => by omega⟩
  | k + 1 => by
    have ih := few_spec Q k
    cases hq : Q k with
    | false =>
      have e : few Q (k + 1) = few Q k := by rw [few, hq]; rfl
      rw [e]
      rcases ih with ⟨a, b⟩ | ⟨s, a, b, c, d⟩
      · exact Or.inl ⟨a, fun s hs => by
          by_cases e : s = k
          · rw [e]; exact hq
          · exact b s (by omega)⟩
      · exact Or.inr ⟨s, a, by omega, c, fun s' h1 h2 => by
          by_cases e : s' = k
          · rw [e, hq] at h2; cases h2
          · exact d s' (by omega) h2⟩
    | true =>
      right
      rcases ih with ⟨a, b⟩ | ⟨s, a, b, c, d⟩
      · refine ⟨k, by rw [few, if_pos hq, a], by omega, hq, fun s' h1 h2 => ?_⟩
        by_cases e : s' = k
        · rw [e]; exact Or.inr ⟨rfl, Nat.le_refl _⟩
        · rw [b s' (by omega)] at h2; cases h2
      · by_cases hp : popc k < popc s
        · refine ⟨k, by rw [few, if_pos hq, a]; exact if_pos hp, by omega, hq, fun s' h1 h2 => ?_⟩
          by_cases e : s' = k
          · rw [e]; exact Or.inr ⟨rfl, Nat.le_refl _⟩
          · rcases d s' (by omega) h2 with h | h
            · exact Or.inl (by omega)
            · exact Or.inl (by omega)
        · refine ⟨s, by rw [few, if_pos hq, a]; exact if_neg hp, by omega, c, fun s' h1 h2 => ?_⟩
          by_cases e : s' = k
          · rw [e]
            by_cases e2 : popc s = popc k
            · exact Or.inr ⟨e2, by omega⟩
            · exact Or.inl (by omega)
          · exact d s' (by omega) h2
theorem few_none {Q : Nat → Bool} {k : Nat} (h : ∀ s, s < k → Q s = false) : few Q k = none := by
  rcases few_spec Q k with ⟨a, -⟩ | ⟨s, a, b, c, -⟩
  · exact a
  · rw [h s b] at c; cases c
theorem few_some {Q : Nat → Bool} {k s : Nat} (h1 : s < k) (h2 : Q s = true) (h3 : ∀ s', s' < k → Q s' = true → popc s < popc s' ∨ (popc s = popc s' ∧ s ≤ s')) : few Q k = some s := by
  rcases few_spec Q k with ⟨-, a⟩ | ⟨s', a, b, c, d⟩
  · rw [a s h1] at h2; cases h2
  · rw [a]
    have e1 := h3 s' b c
    have e2 := d s h1 h2
    have : s' = s := by omega
    rw [this]
