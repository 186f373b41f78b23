/-! the reference: hours, texts, what is kept -/
set_option maxRecDepth 100000 in
set_option maxHeartbeats 2000000 in
theorem mo_hours {d g : Nat} {s : aSt} {rd : Option Nat} {I : pI} {J : pJ} (hA : MA I J s) (hD : MDg g I) (hg : g ≤ 500000000) (hW : WA s) (v : Int32) : PC SM (d + 245) yX12_hours cX12_hours 2 (some .int) [.ref 0, .int v] (I) (J) (RM rd (some 6)) (moP (g + 10000) (oHours v s)) := by
  refine PC.of [some (.ref 0), some (.int v)] rfl rfl (Nat.le_of_ble_eq_true rfl) ?_
  obtain ⟨n, pc, b, us, kp, rw, tx, rt, hd, sw⟩ := s
  refine pw_aload_n 1 rfl dX12_hours_0 rfl ?_
  refine pw_iconst (v := nI 0) 2 rfl dX12_hours_1 rfl ?_
  refine pw_putI 5 rfl dX12_hours_2 fX12_88 w12_7 (by first | rfl | assumption | exact rowS hh | exact mtS hm | exact ruS hr | exact mtA1 hm | exact mtA2 hm | exact mtA3 hm | exact mtA4 hm | exact mtA5 hm | exact mtA6 hm | exact mtA7 hm | exact ruA1 hr | exact ruA2 hr | exact ruA3 hr) rfl rfl rfl ?_
  rotate_left
  have hA0 := MA_thr (v := nI 0) hA
  have hD0 : MDg g (uI I 0 7 (nI 0)) := MDg_f hD (uI_ne (by omega)) (fun j => uI_ne (by omega))
  clear hA hD
  generalize uI I 0 7 (nI 0) = I at hA0 hD0 ⊢
  obtain ⟨mC, mB, mT, mN, mR, mU, mK, mH, mG⟩ := id hA0
  obtain ⟨aW, aU, aK⟩ := id hW
  have hE := MSt_A hA0
  have hn7 := mC.1
  have hn := mC.2.1
  rcases inOf_cases (lo := 0) (hi := 60) (by decide) v (by decide) with ⟨N, h1, h2, rfl, hi⟩ | ⟨hi, ho⟩
  · have e : oHours (nI N) (n, pc, b, us, kp, rw, tx, rt, hd, sw) = (nI (hrs n pc (ruE rt) N b 29), (n, pc, hrs n pc (ruE rt) N b, if 0 < N then aKeep us b else us, kp, [lI (cdn n pc (ruE rt) b N), lI (onW n (hrs n pc (ruE rt) N b))], tx, rt, hd, sw)) := by unfold oHours; simp only [hi]
    have tail : ∀ (I' : pI), MB I' 1 b → MU I' (if 0 < N then aKeep us b else us) → (∀ a j, a ≠ 9 → ¬ (a = 0 ∧ j = 20) → I' a j = I a j) → PW SM yX12_hours.cls cX12_hours 2 (d + 245) 29 [some (.ref 0), some (.int (nI N))] [] (I') (J) (RM rd (some 6)) (rX cX12_hours (some .int) (moP (g + 10000) (oHours (nI N) (n, pc, b, us, kp, rw, tx, rt, hd, sw)))) := by
      intro I' g1 g2 g3
      have hC' : MC I' n pc := MC_f mC (g3 _ _ (by omega) (by omega)) (fun j => g3 _ _ (by omega) (by omega))
      have hWh := WF_hrs (ruE rt) aW.1 N
      refine pw_aload_n 30 rfl dX12_hours_29 rfl ?_
      refine pw_aload_n 31 rfl dX12_hours_30 rfl ?_
      refine pw_getR 34 rfl dX12_hours_31 fX12_9 (by first | rfl | assumption | exact rowS hh | exact mtS hm | exact ruS hr | exact mtA1 hm | exact mtA2 hm | exact mtA3 hm | exact mtA4 hm | exact mtA5 hm | exact mtA6 hm | exact mtA7 hm | exact ruA1 hr | exact ruA2 hr | exact ruA3 hr) rfl (by first | rfl | assumption | exact mtR0 hm | exact mtR1 hm | exact mtR2 hm | exact mtR3 hm | exact mtR4 hm | exact mtR5 hm | exact mtR6 hm | exact ruR0 hr | exact ruR1 hr | exact ruR3 hr) ?_
      refine pw_iload_n 35 rfl dX12_hours_34 rfl ?_
      refine pw_callV (as := [_, _]) 38 rfl dX12_hours_35 mX12_233 vX12_goHours (m_goHours (d := d + 6) (Or.inl rfl) hC' g1 aW.1 (hE.fr (g3 _ _ (by omega) (by omega)) (fun j => g3 _ _ (by omega) (by omega)) (fun j => g3 _ _ (by omega) (by omega))) (show N ≤ 100 by omega)) (by first | rfl | assumption | exact rowS hh | exact mtS hm | exact ruS hr | exact mtA1 hm | exact mtA2 hm | exact mtA3 hm | exact mtA4 hm | exact mtA5 hm | exact mtA6 hm | exact mtA7 hm | exact ruA1 hr | exact ruA2 hr | exact ruA3 hr) rfl (by decide) ⟨rfl, by decide, by decide, show (parseMethodDescriptor yX12_goHours.desc).map (fun d => d.parameters.length) = some 2 by decide +kernel⟩ (by omega) (by decide) (Nat.le_of_ble_eq_true rfl) rfl (fun r35 I35 J35 R35 c35 => ?_)
      obtain ⟨rfl, p1, p2, p3, rfl, rd2, rfl⟩ := c35
      rotate_left
      refine pw_aload_n 39 rfl dX12_hours_38 rfl ?_
      refine pw_iconst (v := nI 0) 40 rfl dX12_hours_39 rfl ?_
      refine pw_putI 43 rfl dX12_hours_40 fX12_92 w12_6 (by first | rfl | assumption | exact rowS hh | exact mtS hm | exact ruS hr | exact mtA1 hm | exact mtA2 hm | exact mtA3 hm | exact mtA4 hm | exact mtA5 hm | exact mtA6 hm | exact mtA7 hm | exact ruA1 hr | exact ruA2 hr | exact ruA3 hr) rfl rfl rfl ?_
      refine pw_aload_n 44 rfl dX12_hours_43 rfl ?_
      refine pw_aload_n 45 rfl dX12_hours_44 rfl ?_
      refine pw_getI 48 rfl dX12_hours_45 fX12_223 (by first | rfl | assumption | exact rowS hh | exact mtS hm | exact ruS hr | exact mtA1 hm | exact mtA2 hm | exact mtA3 hm | exact mtA4 hm | exact mtA5 hm | exact mtA6 hm | exact mtA7 hm | exact ruA1 hr | exact ruA2 hr | exact ruA3 hr) rfl ?_
      rotate_left
      rw [uI_ne (by omega), p3.1, dlA_len hn7]
      refine pw_i2l 49 rfl dX12_hours_48 ?_
      refine pw_callV (as := [_]) 52 rfl dX12_hours_49 mX12_236 vX12_tell (m_tell (d := d + 244) MN_0 (by decide)) (by first | rfl | assumption | exact rowS hh | exact mtS hm | exact ruS hr | exact mtA1 hm | exact mtA2 hm | exact mtA3 hm | exact mtA4 hm | exact mtA5 hm | exact mtA6 hm | exact mtA7 hm | exact ruA1 hr | exact ruA2 hr | exact ruA3 hr) rfl (by decide) ⟨rfl, by decide, by decide, show (parseMethodDescriptor yX12_tell.desc).map (fun d => d.parameters.length) = some 1 by decide +kernel⟩ (by omega) (by decide) (Nat.le_of_ble_eq_true rfl) rfl (fun r49 I49 J49 R49 c49 => ?_)
      obtain ⟨rfl, t1, t2, rfl⟩ := c49
      rotate_left
      have hf1 : ∀ a j, ¬ (a = 0 ∧ j = 6) → I49 a j = I35 a j := fun a j q => by rw [t2 a j q, uI_ne (by omega)]
      refine pw_aload_n 53 rfl dX12_hours_52 rfl ?_
      refine pw_aload_n 54 rfl dX12_hours_53 rfl ?_
      refine pw_aload_n 55 rfl dX12_hours_54 rfl ?_
      refine pw_getR 58 rfl dX12_hours_55 fX12_9 (by first | rfl | assumption | exact rowS hh | exact mtS hm | exact ruS hr | exact mtA1 hm | exact mtA2 hm | exact mtA3 hm | exact mtA4 hm | exact mtA5 hm | exact mtA6 hm | exact mtA7 hm | exact ruA1 hr | exact ruA2 hr | exact ruA3 hr) rfl (by first | rfl | assumption | exact mtR0 hm | exact mtR1 hm | exact mtR2 hm | exact mtR3 hm | exact mtR4 hm | exact mtR5 hm | exact mtR6 hm | exact ruR0 hr | exact ruR1 hr | exact ruR3 hr) ?_
      refine pw_callVP (as := [_]) 61 rfl dX12_hours_58 mX12_240 vX12_walking (m_walking (d := d + 244) (b := hrs n pc (ruE rt) N b) (Or.inl rfl) (by rw [hf1 _ _ (by omega), p2 _ _ (by omega) (by omega) (by omega) (by omega) (by omega)]; exact hC'.2.1) hn7 (WF_way hWh) (fun j hj => by rw [hf1 _ _ (by omega)]; exact p1 j hj)) (by first | rfl | assumption | exact rowS hh | exact mtS hm | exact ruS hr | exact mtA1 hm | exact mtA2 hm | exact mtA3 hm | exact mtA4 hm | exact mtA5 hm | exact mtA6 hm | exact mtA7 hm | exact ruA1 hr | exact ruA2 hr | exact ruA3 hr) rfl (by decide) ⟨rfl, by decide, by decide, show (parseMethodDescriptor yX12_walking.desc).map (fun d => d.parameters.length) = some 1 by decide +kernel⟩ (by omega) (by decide) (Nat.le_of_ble_eq_true rfl) rfl ?_
      refine pw_callSP (as := [_]) 64 rfl dX12_hours_61 mX12_244 sJ6_bitCount_0f7a4 (x_bitCount (d := d + 244) _) ⟨rfl, by decide, by decide, show (parseMethodDescriptor yJ6_bitCount_0f7a4.desc).map (fun d => d.parameters.length) = some 1 by decide +kernel⟩ (by omega) (by decide) (Nat.le_of_ble_eq_true rfl) rfl ?_
      rotate_left
      rw [bc_bts n hn7]
      refine pw_i2l 65 rfl dX12_hours_64 ?_
      refine pw_callV (as := [_]) 68 rfl dX12_hours_65 mX12_236 vX12_tell (m_tell (d := d + 244) t1 (by show (1 : Nat) < 12; decide)) (by first | rfl | assumption | exact rowS hh | exact mtS hm | exact ruS hr | exact mtA1 hm | exact mtA2 hm | exact mtA3 hm | exact mtA4 hm | exact mtA5 hm | exact mtA6 hm | exact mtA7 hm | exact ruA1 hr | exact ruA2 hr | exact ruA3 hr) rfl (by decide) ⟨rfl, by decide, by decide, show (parseMethodDescriptor yX12_tell.desc).map (fun d => d.parameters.length) = some 1 by decide +kernel⟩ (by omega) (by decide) (Nat.le_of_ble_eq_true rfl) rfl (fun r65 I65 J65 R65 c65 => ?_)
      obtain ⟨rfl, u1, u2, rfl⟩ := c65
      rotate_left
      have hf2 : ∀ a j, ¬ (a = 0 ∧ j = 6) → I65 a j = I35 a j := fun a j q => by rw [u2 a j q, hf1 a j q]
      refine pw_aload_n 69 rfl dX12_hours_68 rfl ?_
      refine pw_getR 72 rfl dX12_hours_69 fX12_9 (by first | rfl | assumption | exact rowS hh | exact mtS hm | exact ruS hr | exact mtA1 hm | exact mtA2 hm | exact mtA3 hm | exact mtA4 hm | exact mtA5 hm | exact mtA6 hm | exact mtA7 hm | exact ruA1 hr | exact ruA2 hr | exact ruA3 hr) rfl (by first | rfl | assumption | exact mtR0 hm | exact mtR1 hm | exact mtR2 hm | exact mtR3 hm | exact mtR4 hm | exact mtR5 hm | exact mtR6 hm | exact ruR0 hr | exact ruR1 hr | exact ruR3 hr) ?_
      refine pw_bipush (v := nI 29) 74 rfl dX12_hours_72 rfl ?_
      refine pw_ialdN 75 rfl dX12_hours_74 (by first | rfl | assumption | exact rowS hh | exact mtS hm | exact ruS hr | exact mtA1 hm | exact mtA2 hm | exact mtA3 hm | exact mtA4 hm | exact mtA5 hm | exact mtA6 hm | exact mtA7 hm | exact ruA1 hr | exact ruA2 hr | exact ruA3 hr) (by omega) (by first | decide | omega) ?_
      rotate_left
      rw [hf2 _ _ (by omega), p1 29 (by omega)]
      refine pw_iret dX12_hours_75 rfl ?_
      rotate_left
      have hf3 : ∀ a j, a ≠ 1 → a ≠ 8 → a ≠ 12 → a ≠ 13 → ¬ (a = 0 ∧ (j = 6 ∨ j = 9 ∨ j = 10 ∨ j = 11 ∨ j = 12 ∨ j = 17 ∨ j = 24)) → I65 a j = I' a j := fun a j q1 q2 q3 q4 q5 => by rw [hf2 a j (by omega)]; exact p2 a j q1 q2 q3 q4 (by omega)
      refine moE e ⟨rfl, MA_bu hA0 (fun a j q => by rw [hf3 a j (by omega) (by omega) (by omega) (by omega) (by omega)]; exact g3 a j (by omega) (by omega)) (fun j hj => by rw [hf2 _ _ (by omega)]; exact p1 j hj) (MU_f g2 (hf3 _ _ (by omega) (by omega) (by omega) (by omega) (by omega)) (fun j => hf3 _ _ (by omega) (by omega) (by omega) (by omega) (by omega))) u1, ⟨_, ⟨by rw [hf2 _ _ (by omega)]; exact p3.1, p3.2.1, fun j x hj hx => by rw [hf2 _ _ (by omega)]; exact p3.2.2 j x hj hx⟩, ?_⟩, rd2, rfl⟩
      have := dlA_le hn7 pc (ruE rt) b (show N ≤ 100 by omega)
      omega
    by_cases hN : 0 < N
    · rw [if_pos hN] at tail
      refine pw_iload_n 6 rfl dX12_hours_5 rfl ?_
      refine pw_iconst (v := nI 0) 7 rfl dX12_hours_6 rfl ?_
      refine pw_bipush (v := nI 60) 9 rfl dX12_hours_7 rfl ?_
      refine pw_callSP (as := [_, _, _]) 12 rfl dX12_hours_9 mX12_98 sX12_in (m_in (d := d) _ _ _) ⟨rfl, by decide, by decide, show (parseMethodDescriptor yX12_in.desc).map (fun d => d.parameters.length) = some 3 by decide +kernel⟩ (by omega) (by decide) (Nat.le_of_ble_eq_true rfl) rfl ?_
      refine pw_if_ne (tgt := 17) 15 rfl dX12_hours_12 rfl (fun h12 => ?_) (fun h12 => absurd h12 (by rw [inV_y h1 h2 (by decide)]; decide))
      refine pw_iload_n 18 rfl dX12_hours_17 rfl ?_
      refine pw_if_le (tgt := 29) 21 rfl dX12_hours_18 rfl (fun h18 => absurd h18 (nI_nle hN (by omega))) (fun h18 => ?_)
      refine pw_aload_n 22 rfl dX12_hours_21 rfl ?_
      refine pw_aload_n 23 rfl dX12_hours_22 rfl ?_
      refine pw_getR 26 rfl dX12_hours_23 fX12_9 (by first | rfl | assumption | exact rowS hh | exact mtS hm | exact ruS hr | exact mtA1 hm | exact mtA2 hm | exact mtA3 hm | exact mtA4 hm | exact mtA5 hm | exact mtA6 hm | exact mtA7 hm | exact ruA1 hr | exact ruA2 hr | exact ruA3 hr) rfl (by first | rfl | assumption | exact mtR0 hm | exact mtR1 hm | exact mtR2 hm | exact mtR3 hm | exact mtR4 hm | exact mtR5 hm | exact mtR6 hm | exact ruR0 hr | exact ruR1 hr | exact ruR3 hr) ?_
      refine pw_callV (as := [_]) 29 rfl dX12_hours_26 mX12_201 vX12_remember (m_remember (d := d + 243) rfl (by decide) (by decide) mB mU) (by first | rfl | assumption | exact rowS hh | exact mtS hm | exact ruS hr | exact mtA1 hm | exact mtA2 hm | exact mtA3 hm | exact mtA4 hm | exact mtA5 hm | exact mtA6 hm | exact mtA7 hm | exact ruA1 hr | exact ruA2 hr | exact ruA3 hr) rfl (by decide) ⟨rfl, by decide, by decide, show (parseMethodDescriptor yX12_remember.desc).map (fun d => d.parameters.length) = some 1 by decide +kernel⟩ (by omega) (by decide) (Nat.le_of_ble_eq_true rfl) rfl (fun r26 I26 J26 R26 c26 => ?_)
      obtain ⟨rfl, r1, r2, rfl, rfl⟩ := c26
      rotate_left
      exact tail I26 (MB_f mB (fun j => r2 _ _ (by omega) (by omega))) r1 r2
    · rw [if_neg hN] at tail
      refine pw_iload_n 6 rfl dX12_hours_5 rfl ?_
      refine pw_iconst (v := nI 0) 7 rfl dX12_hours_6 rfl ?_
      refine pw_bipush (v := nI 60) 9 rfl dX12_hours_7 rfl ?_
      refine pw_callSP (as := [_, _, _]) 12 rfl dX12_hours_9 mX12_98 sX12_in (m_in (d := d) _ _ _) ⟨rfl, by decide, by decide, show (parseMethodDescriptor yX12_in.desc).map (fun d => d.parameters.length) = some 3 by decide +kernel⟩ (by omega) (by decide) (Nat.le_of_ble_eq_true rfl) rfl ?_
      refine pw_if_ne (tgt := 17) 15 rfl dX12_hours_12 rfl (fun h12 => ?_) (fun h12 => absurd h12 (by rw [inV_y h1 h2 (by decide)]; decide))
      refine pw_iload_n 18 rfl dX12_hours_17 rfl ?_
      refine pw_if_le (tgt := 29) 21 rfl dX12_hours_18 rfl (fun h18 => ?_) (fun h18 => absurd (by rw [show N = 0 by omega]; decide) h18)
      rotate_left
      exact tail I mB mU (fun _ _ _ _ => rfl)
  · refine pw_iload_n 6 rfl dX12_hours_5 rfl ?_
    refine pw_iconst (v := nI 0) 7 rfl dX12_hours_6 rfl ?_
    refine pw_bipush (v := nI 60) 9 rfl dX12_hours_7 rfl ?_
    refine pw_callSP (as := [_, _, _]) 12 rfl dX12_hours_9 mX12_98 sX12_in (m_in (d := d) _ _ _) ⟨rfl, by decide, by decide, show (parseMethodDescriptor yX12_in.desc).map (fun d => d.parameters.length) = some 3 by decide +kernel⟩ (by omega) (by decide) (Nat.le_of_ble_eq_true rfl) rfl ?_
    refine pw_if_ne (tgt := 17) 15 rfl dX12_hours_12 rfl (fun h12 => absurd (by rw [inV_n ho]; rfl) h12) (fun h12 => ?_)
    refine pw_iconst (v := -1) 16 rfl dX12_hours_15 rfl ?_
    refine pw_iret dX12_hours_16 rfl ?_
    rotate_left
    exact moE (y := (-1, (n, pc, b, us, kp, rw, tx, rt, hd, sw))) (by unfold oHours; simp only [hi]) ⟨rfl, hA0, hD0.mono (by omega), rd, rfl⟩
theorem MA_tx {I I' : pI} {J : pJ} {n : Nat} {pc b : Nat → Nat} {us : List (Nat → Nat)} {kp : Nat → Option (Nat → Nat)} {rw : List Int64} {tx tx' rt : List Nat} {hd sw : List (Nat × Nat)} (h : MA I J (n, pc, b, us, kp, rw, tx, rt, hd, sw)) (f : ∀ a j, a ≠ 3 → ¬ (a = 0 ∧ j = 4) → I' a j = I a j) (hT : MT I' tx') : MA I' J (n, pc, b, us, kp, rw, tx', rt, hd, sw) := by
  obtain ⟨a1, a2, a3, a4, a5, a6, a7, a8, a9⟩ := h
  exact ⟨MC_f a1 (f _ _ (by omega) (by omega)) (fun j => f _ _ (by omega) (by omega)), MB_f a2 (fun j => f _ _ (by omega) (by omega)), hT, MN_f a4 (f _ _ (by omega) (by omega)), MRl_f a5 (f _ _ (by omega) (by omega)) (fun j => f _ _ (by omega) (by omega)), MU_f a6 (f _ _ (by omega) (by omega)) (fun j => f _ _ (by omega) (by omega)), MK_f a7 (f _ _ (by omega) (by omega)) (fun j => f _ _ (by omega) (by omega)) (fun j => f _ _ (by omega) (by omega)) (fun j => f _ _ (by omega) (by omega)), MH_f a8 (f _ _ (by omega) (by omega)) (fun j => f _ _ (by omega) (by omega)) (fun j => f _ _ (by omega) (by omega)), MG_f a9 (f _ _ (by omega) (by omega)) (fun j => f _ _ (by omega) (by omega)) (fun j => f _ _ (by omega) (by omega))⟩
theorem byV_nar : ∀ c, c < 256 → vp_nar .byte (byV c) = byV c := by decide +kernel
theorem i2b_V (v : Int32) : ∀ i, i < 4 → (v >>> (nI (8 * (3 - i)) &&& 31)).toInt8.toInt32 = byV (by4 v i) := by
  have key : ∀ (s : Nat) (m : Int32), s ≤ 24 → (m.toBitVec.smod 32).toNat = s → (v >>> m).toInt8 = (nI (v.toBitVec.toNat / 2 ^ s % 256)).toInt8 := by
    intro s m hs hm
    apply Int8.toBitVec_inj.mp
    rw [Int32.toBitVec_toInt8, Int32.toBitVec_toInt8, Int32.toBitVec_shiftRight]
    apply BitVec.eq_of_getLsbD_eq
    intro j hj
    rw [BitVec.getLsbD_signExtend, BitVec.getLsbD_signExtend, if_pos (show j < 32 by omega), if_pos (show j < 32 by omega), BitVec.sshiftRight_eq', BitVec.getLsbD_sshiftRight, hm, if_pos (show s + j < 32 by omega)]
    show _ = (decide (j < 8) && (BitVec.ofNat 32 (v.toBitVec.toNat / 2 ^ s % 2 ^ 8)).getLsbD j)
    rw [BitVec.getLsbD_ofNat, Nat.testBit_mod_two_pow, Nat.testBit_div_two_pow, decide_eq_true hj, decide_eq_true (show j < 32 by omega), decide_eq_false (show ¬ 32 ≤ j by omega), BitVec.testBit_toNat, Nat.add_comm s j]
    simp
  intro i hi
  unfold byV by4
  rw [key (24 - 8 * i) _ (by omega)]
  rcases (show i = 0 ∨ i = 1 ∨ i = 2 ∨ i = 3 by omega) with rfl | rfl | rfl | rfl <;> decide
set_option maxRecDepth 100000 in
set_option maxHeartbeats 2000000 in
theorem mo_sign {d g : Nat} {s : aSt} {rd : Option Nat} {I : pI} {J : pJ} (hA : MA I J s) (hD : MDg g I) (hg : g ≤ 500000000) (hW : WA s) (v : Int32) : PC SM (d + 245) yX12_sign cX12_sign 3 (some .int) [.ref 0, .int v] (I) (J) (RM rd (some 6)) (moP (g + 10000) (oSign v s)) := by
  refine PC.of [some (.ref 0), some (.int v), none] rfl rfl (Nat.le_of_ble_eq_true rfl) ?_
  obtain ⟨n, pc, b, us, kp, rw, tx, rt, hd, sw⟩ := s
  refine pw_aload_n 1 rfl dX12_sign_0 rfl ?_
  refine pw_iconst (v := nI 0) 2 rfl dX12_sign_1 rfl ?_
  refine pw_putI 5 rfl dX12_sign_2 fX12_88 w12_7 (by first | rfl | assumption | exact rowS hh | exact mtS hm | exact ruS hr | exact mtA1 hm | exact mtA2 hm | exact mtA3 hm | exact mtA4 hm | exact mtA5 hm | exact mtA6 hm | exact mtA7 hm | exact ruA1 hr | exact ruA2 hr | exact ruA3 hr) rfl rfl rfl ?_
  rotate_left
  have hA0 := MA_thr (v := nI 0) hA
  have hD0 : MDg g (uI I 0 7 (nI 0)) := MDg_f hD (uI_ne (by omega)) (fun j => uI_ne (by omega))
  clear hA hD
  generalize uI I 0 7 (nI 0) = I at hA0 hD0 ⊢
  obtain ⟨mC, mB, mT, mN, mR, mU, mK, mH, mG⟩ := id hA0
  obtain ⟨aW, aU, aK⟩ := id hW
  have hE := MSt_A hA0
  have hn7 := mC.1
  have hn := mC.2.1
  obtain ⟨q1, q2, q3⟩ := id mT
  refine pw_aload_n 6 rfl dX12_sign_5 rfl ?_
  refine pw_getI 9 rfl dX12_sign_6 fX12_102 (by first | rfl | assumption | exact rowS hh | exact mtS hm | exact ruS hr | exact mtA1 hm | exact mtA2 hm | exact mtA3 hm | exact mtA4 hm | exact mtA5 hm | exact mtA6 hm | exact mtA7 hm | exact ruA1 hr | exact ruA2 hr | exact ruA3 hr) rfl ?_
  rotate_left
  rw [q1]
  by_cases hl : tx.length + 4 ≤ 80
  · have e : aSign tx v = (nI (tx.length + 4), tx ++ tx4 v) := if_pos hl
    refine pw_iconst (v := nI 4) 10 rfl dX12_sign_9 rfl ?_
    first | refine pw_iaddN 11 rfl dX12_sign_10 ?_ | refine pw_iadd 11 rfl dX12_sign_10 ?_
    refine pw_bipush (v := nI 80) 13 rfl dX12_sign_11 rfl ?_
    refine pw_icmp_le (tgt := 18) 16 rfl dX12_sign_13 rfl (fun h13 => ?_) (fun h13 => absurd (by (simp (disch := omega) only [nI_leI, nI_ltI, nI_eq, show (0 : Int32) = nI 0 from rfl, not_true_eq_false, not_false_eq_true] <;> omega)) h13)
    refine pw_iconst (v := nI 3) 19 rfl dX12_sign_18 rfl ?_
    refine pw_istore_n 20 rfl dX12_sign_19 (by decide) ?_
    rotate_left
    have L := nat_loop 4 (fun i => ∀ (I' : pI), I' 0 4 = nI (tx.length + i) → (∀ j, j < i → I' 3 (tx.length + j) = byV (by4 v j)) → (∀ a j, ¬ (a = 0 ∧ j = 4) → ¬ (a = 3 ∧ tx.length ≤ j) → I' a j = I a j) → PW SM yX12_sign.cls cX12_sign 3 (d + 245) 20 [some (.ref 0), some (.int v), some (.int (nI (4 - i) + Int32.ofInt (-1)))] [] (I') (J) (RM rd (some 6)) (rX cX12_sign (some .int) (moP (g + 10000) (oSign v (n, pc, b, us, kp, rw, tx, rt, hd, sw))))) ?_ ?_
    · exact L I q1 (fun j hj => by omega) (fun _ _ _ _ => rfl)
    · intro I' g1 g2 g3
      refine pw_iload_n 21 rfl dX12_sign_20 rfl ?_
      refine pw_if_lt (tgt := 53) 24 rfl dX12_sign_21 rfl (fun h21 => ?_) (fun h21 => absurd (by decide) h21)
      refine pw_aload_n 54 rfl dX12_sign_53 rfl ?_
      refine pw_getI 57 rfl dX12_sign_54 fX12_102 (by first | rfl | assumption | exact rowS hh | exact mtS hm | exact ruS hr | exact mtA1 hm | exact mtA2 hm | exact mtA3 hm | exact mtA4 hm | exact mtA5 hm | exact mtA6 hm | exact mtA7 hm | exact ruA1 hr | exact ruA2 hr | exact ruA3 hr) rfl ?_
      rotate_left
      rw [g1]
      refine pw_iret dX12_sign_57 rfl ?_
      rotate_left
      refine moE (y := (nI (tx.length + 4), (n, pc, b, us, kp, rw, tx ++ tx4 v, rt, hd, sw))) (by show ((aSign tx v).1, _) = _; rw [e]) ⟨rfl, MA_tx hA0 (fun a j q1 q2 => g3 a j q2 (by omega)) ⟨by rw [g1, List.length_append]; rfl, by rw [List.length_append]; exact hl, fun j c hj => ?_⟩, (MDg_f hD0 (g3 _ _ (by omega) (by omega)) (fun j => g3 _ _ (by omega) (by omega))).mono (by omega), rd, rfl⟩
      by_cases ej : j < tx.length
      · rw [List.getElem?_append_left ej] at hj
        rw [g3 _ _ (by omega) (by omega)]
        exact q3 j c hj
      · rw [List.getElem?_append_right (by omega)] at hj
        have hj4 : j - tx.length < 4 := (List.getElem?_eq_some_iff.mp hj).1
        rw [tx4_get v _ hj4] at hj
        cases hj
        have := g2 (j - tx.length) hj4
        rw [show tx.length + (j - tx.length) = j by omega] at this
        exact ⟨this, by4_lt _ _⟩
    · intro i hi ih I' g1 g2 g3
      rw [show nI (4 - i) + Int32.ofInt (-1) = nI (3 - i) from by rw [show 4 - i = (3 - i) + 1 by omega]; exact pk_m1 (3 - i)]
      rw [show 4 - (i + 1) = 3 - i by omega] at ih
      refine pw_iload_n 21 rfl dX12_sign_20 rfl ?_
      refine pw_if_lt (tgt := 53) 24 rfl dX12_sign_21 rfl (fun h21 => absurd h21 (nI_pos (by omega))) (fun h21 => ?_)
      refine pw_aload_n 25 rfl dX12_sign_24 rfl ?_
      refine pw_getR 28 rfl dX12_sign_25 fX12_16 (by first | rfl | assumption | exact rowS hh | exact mtS hm | exact ruS hr | exact mtA1 hm | exact mtA2 hm | exact mtA3 hm | exact mtA4 hm | exact mtA5 hm | exact mtA6 hm | exact mtA7 hm | exact ruA1 hr | exact ruA2 hr | exact ruA3 hr) rfl (by first | rfl | assumption | exact mtR0 hm | exact mtR1 hm | exact mtR2 hm | exact mtR3 hm | exact mtR4 hm | exact mtR5 hm | exact mtR6 hm | exact ruR0 hr | exact ruR1 hr | exact ruR3 hr) ?_
      refine pw_aload_n 29 rfl dX12_sign_28 rfl ?_
      refine pw_dup 30 rfl dX12_sign_29 rfl ?_
      refine pw_getI 33 rfl dX12_sign_30 fX12_102 (by first | rfl | assumption | exact rowS hh | exact mtS hm | exact ruS hr | exact mtA1 hm | exact mtA2 hm | exact mtA3 hm | exact mtA4 hm | exact mtA5 hm | exact mtA6 hm | exact mtA7 hm | exact ruA1 hr | exact ruA2 hr | exact ruA3 hr) rfl ?_
      rotate_left
      rw [g1]
      refine pw_dup_x1 34 rfl dX12_sign_33 rfl rfl ?_
      refine pw_iconst (v := nI 1) 35 rfl dX12_sign_34 rfl ?_
      first | refine pw_iaddN 36 rfl dX12_sign_35 ?_ | refine pw_iadd 36 rfl dX12_sign_35 ?_
      refine pw_putI 39 rfl dX12_sign_36 fX12_102 w12_4 (by first | rfl | assumption | exact rowS hh | exact mtS hm | exact ruS hr | exact mtA1 hm | exact mtA2 hm | exact mtA3 hm | exact mtA4 hm | exact mtA5 hm | exact mtA6 hm | exact mtA7 hm | exact ruA1 hr | exact ruA2 hr | exact ruA3 hr) rfl rfl rfl ?_
      refine pw_iload_n 40 rfl dX12_sign_39 rfl ?_
      refine pw_bipush (v := nI 8) 42 rfl dX12_sign_40 rfl ?_
      refine pw_iload_n 43 rfl dX12_sign_42 rfl ?_
      first | refine pw_imulN 44 rfl dX12_sign_43 ?_ | refine pw_imul 44 rfl dX12_sign_43 ?_
      refine pw_ishr 45 rfl dX12_sign_44 ?_
      refine pw_i2b 46 rfl dX12_sign_45 ?_
      rotate_left
      rw [i2b_V v i hi]
      refine pw_bastN 47 rfl dX12_sign_46 (by first | rfl | assumption | exact rowS hh | exact mtS hm | exact ruS hr | exact mtA1 hm | exact mtA2 hm | exact mtA3 hm | exact mtA4 hm | exact mtA5 hm | exact mtA6 hm | exact mtA7 hm | exact ruA1 hr | exact ruA2 hr | exact ruA3 hr) (by omega) (by first | decide | omega) ?_
      refine pw_iinc 50 rfl dX12_sign_47 (by decide) rfl ?_
      refine pw_goto (tgt := 20) dX12_sign_50 rfl ?_
      rotate_left
      rw [byV_nar _ (by4_lt v i)]
      refine ih _ ?_ (fun j hj => ?_) (fun a j z1 z2 => ?_)
      · rw [uI_ne (by omega), uI_eq]; rfl
      · by_cases ej : j = i
        · rw [ej, uI_eq]
        · rw [uI_ne (by omega), uI_ne (by omega)]; exact g2 j (by omega)
      · rw [uI_ne (by omega), uI_ne (by omega)]; exact g3 a j z1 z2
  · have e : aSign tx v = (-1, tx) := if_neg hl
    refine pw_iconst (v := nI 4) 10 rfl dX12_sign_9 rfl ?_
    first | refine pw_iaddN 11 rfl dX12_sign_10 ?_ | refine pw_iadd 11 rfl dX12_sign_10 ?_
    refine pw_bipush (v := nI 80) 13 rfl dX12_sign_11 rfl ?_
    refine pw_icmp_le (tgt := 18) 16 rfl dX12_sign_13 rfl (fun h13 => absurd h13 (by (simp (disch := omega) only [nI_leI, nI_ltI, nI_eq, show (0 : Int32) = nI 0 from rfl, not_true_eq_false, not_false_eq_true] <;> omega))) (fun h13 => ?_)
    refine pw_iconst (v := -1) 17 rfl dX12_sign_16 rfl ?_
    refine pw_iret dX12_sign_17 rfl ?_
    rotate_left
    exact moE (y := (-1, (n, pc, b, us, kp, rw, tx, rt, hd, sw))) (by show ((aSign tx v).1, _) = _; rw [e]) ⟨rfl, hA0, hD0.mono (by omega), rd, rfl⟩
set_option maxRecDepth 100000 in
set_option maxHeartbeats 2000000 in
theorem mo_end {d g : Nat} {s : aSt} {rd : Option Nat} {I : pI} {J : pJ} (hA : MA I J s) (hD : MDg g I) (hg : g ≤ 500000000) (hW : WA s) (v : Int32) : PC SM (d + 245) yX12_end cX12_end 2 (some .boolean) [.ref 0, .int v] (I) (J) (RM rd (some 6)) (moP (g + 10000) (oEnd v s)) := by
  refine PC.of [some (.ref 0), some (.int v)] rfl rfl (Nat.le_of_ble_eq_true rfl) ?_
  obtain ⟨n, pc, b, us, kp, rw, tx, rt, hd, sw⟩ := s
  refine pw_aload_n 1 rfl dX12_end_0 rfl ?_
  refine pw_iconst (v := nI 0) 2 rfl dX12_end_1 rfl ?_
  refine pw_putI 5 rfl dX12_end_2 fX12_88 w12_7 (by first | rfl | assumption | exact rowS hh | exact mtS hm | exact ruS hr | exact mtA1 hm | exact mtA2 hm | exact mtA3 hm | exact mtA4 hm | exact mtA5 hm | exact mtA6 hm | exact mtA7 hm | exact ruA1 hr | exact ruA2 hr | exact ruA3 hr) rfl rfl rfl ?_
  rotate_left
  have hA0 := MA_thr (v := nI 0) hA
  have hD0 : MDg g (uI I 0 7 (nI 0)) := MDg_f hD (uI_ne (by omega)) (fun j => uI_ne (by omega))
  clear hA hD
  generalize uI I 0 7 (nI 0) = I at hA0 hD0 ⊢
  obtain ⟨mC, mB, mT, mN, mR, mU, mK, mH, mG⟩ := id hA0
  obtain ⟨aW, aU, aK⟩ := id hW
  have hE := MSt_A hA0
  have hn7 := mC.1
  have hn := mC.2.1
  obtain ⟨q1, q2, q3⟩ := id mT
  refine pw_iload_n 6 rfl dX12_end_5 rfl ?_
  refine pw_iconst (v := nI 0) 7 rfl dX12_end_6 rfl ?_
  refine pw_aload_n 8 rfl dX12_end_7 rfl ?_
  refine pw_getI 11 rfl dX12_end_8 fX12_102 (by first | rfl | assumption | exact rowS hh | exact mtS hm | exact ruS hr | exact mtA1 hm | exact mtA2 hm | exact mtA3 hm | exact mtA4 hm | exact mtA5 hm | exact mtA6 hm | exact mtA7 hm | exact ruA1 hr | exact ruA2 hr | exact ruA3 hr) rfl ?_
  rotate_left
  rw [q1]
  rcases inOf_cases (lo := 0) (hi := tx.length) (by omega) v (by omega) with ⟨k, h1, h2, rfl, hi⟩ | ⟨hi, ho⟩
  · refine pw_callSP (as := [_, _, _]) 14 rfl dX12_end_11 mX12_98 sX12_in (m_in (d := d) _ _ _) ⟨rfl, by decide, by decide, show (parseMethodDescriptor yX12_in.desc).map (fun d => d.parameters.length) = some 3 by decide +kernel⟩ (by omega) (by decide) (Nat.le_of_ble_eq_true rfl) rfl ?_
    refine pw_if_ne (tgt := 19) 17 rfl dX12_end_14 rfl (fun h14 => ?_) (fun h14 => absurd h14 (by rw [inV_y h1 h2 (by omega)]; decide))
    refine pw_aload_n 20 rfl dX12_end_19 rfl ?_
    refine pw_iload_n 21 rfl dX12_end_20 rfl ?_
    refine pw_putI 24 rfl dX12_end_21 fX12_102 w12_4 (by first | rfl | assumption | exact rowS hh | exact mtS hm | exact ruS hr | exact mtA1 hm | exact mtA2 hm | exact mtA3 hm | exact mtA4 hm | exact mtA5 hm | exact mtA6 hm | exact mtA7 hm | exact ruA1 hr | exact ruA2 hr | exact ruA3 hr) rfl rfl rfl ?_
    refine pw_iconst (v := nI 1) 25 rfl dX12_end_24 rfl ?_
    refine pw_iret dX12_end_25 rfl ?_
    rotate_left
    refine moE (y := (nI 1, (n, pc, b, us, kp, rw, tx.take k, rt, hd, sw))) (by show ((aEnd tx (nI k)).1, _) = _; rw [aEnd_s hi]) ⟨rfl, MA_tx hA0 (fun a j q1 q2 => uI_ne (by omega)) ⟨by rw [uI_eq, List.length_take, Nat.min_eq_left h2], by rw [List.length_take]; omega, fun j c hj => ?_⟩, (MDg_f hD0 (uI_ne (by omega)) (fun j => uI_ne (by omega))).mono (by omega), rd, rfl⟩
    rw [uI_ne (by omega)]
    rw [List.getElem?_take] at hj
    split at hj
    · exact q3 j c hj
    · cases hj
  · refine pw_callSP (as := [_, _, _]) 14 rfl dX12_end_11 mX12_98 sX12_in (m_in (d := d) _ _ _) ⟨rfl, by decide, by decide, show (parseMethodDescriptor yX12_in.desc).map (fun d => d.parameters.length) = some 3 by decide +kernel⟩ (by omega) (by decide) (Nat.le_of_ble_eq_true rfl) rfl ?_
    refine pw_if_ne (tgt := 19) 17 rfl dX12_end_14 rfl (fun h14 => absurd (by rw [inV_n ho]; rfl) h14) (fun h14 => ?_)
    refine pw_iconst (v := nI 0) 18 rfl dX12_end_17 rfl ?_
    refine pw_iret dX12_end_18 rfl ?_
    rotate_left
    exact moE (y := (nI 0, (n, pc, b, us, kp, rw, tx, rt, hd, sw))) (by show ((aEnd tx v).1, _) = _; rw [aEnd_n hi]) ⟨rfl, hA0, hD0.mono (by omega), rd, rfl⟩
set_option maxRecDepth 100000 in
set_option maxHeartbeats 2000000 in
theorem mo_undo {d g : Nat} {s : aSt} {rd : Option Nat} {I : pI} {J : pJ} (hA : MA I J s) (hD : MDg g I) (hg : g ≤ 500000000) (hW : WA s)  : PC SM (d + 245) yX12_undo cX12_undo 2 (some .int) [.ref 0] (I) (J) (RM rd (some 6)) (moP (g + 10000) (oUndo s)) := by
  refine PC.of [some (.ref 0), none] rfl rfl (Nat.le_of_ble_eq_true rfl) ?_
  obtain ⟨n, pc, b, us, kp, rw, tx, rt, hd, sw⟩ := s
  refine pw_aload_n 1 rfl dX12_undo_0 rfl ?_
  refine pw_iconst (v := nI 0) 2 rfl dX12_undo_1 rfl ?_
  refine pw_putI 5 rfl dX12_undo_2 fX12_88 w12_7 (by first | rfl | assumption | exact rowS hh | exact mtS hm | exact ruS hr | exact mtA1 hm | exact mtA2 hm | exact mtA3 hm | exact mtA4 hm | exact mtA5 hm | exact mtA6 hm | exact mtA7 hm | exact ruA1 hr | exact ruA2 hr | exact ruA3 hr) rfl rfl rfl ?_
  rotate_left
  have hA0 := MA_thr (v := nI 0) hA
  have hD0 : MDg g (uI I 0 7 (nI 0)) := MDg_f hD (uI_ne (by omega)) (fun j => uI_ne (by omega))
  clear hA hD
  generalize uI I 0 7 (nI 0) = I at hA0 hD0 ⊢
  obtain ⟨mC, mB, mT, mN, mR, mU, mK, mH, mG⟩ := id hA0
  obtain ⟨aW, aU, aK⟩ := id hW
  have hE := MSt_A hA0
  have hn7 := mC.1
  have hn := mC.2.1
  obtain ⟨u1, u2, u3⟩ := id mU
  by_cases hz : us = []
  · have el : us.length = 0 := by rw [hz]; rfl
    refine pw_aload_n 6 rfl dX12_undo_5 rfl ?_
    refine pw_getI 9 rfl dX12_undo_6 fX12_150 (by first | rfl | assumption | exact rowS hh | exact mtS hm | exact ruS hr | exact mtA1 hm | exact mtA2 hm | exact mtA3 hm | exact mtA4 hm | exact mtA5 hm | exact mtA6 hm | exact mtA7 hm | exact ruA1 hr | exact ruA2 hr | exact ruA3 hr) rfl ?_
    refine pw_if_ne (tgt := 14) 12 rfl dX12_undo_9 rfl (fun h9 => absurd (by rw [u1, el]; rfl) h9) (fun h9 => ?_)
    refine pw_iconst (v := -1) 13 rfl dX12_undo_12 rfl ?_
    refine pw_iret dX12_undo_13 rfl ?_
    rotate_left
    refine moE (y := (-1, (n, pc, b, us, kp, rw, tx, rt, hd, sw))) (by show (if us = [] then _ else _, (n, pc, us.getLast?.getD b, us.dropLast, _)) = _; rw [if_pos hz, hz]; rfl) ⟨rfl, hA0, hD0.mono (by omega), rd, rfl⟩
  · have hpos : 0 < us.length := List.length_pos_iff.mpr hz
    obtain ⟨u, hu⟩ : ∃ u, us[us.length - 1]? = some u := ⟨_, List.getElem?_eq_getElem (by omega)⟩
    have hgl : us.getLast? = some u := by rw [List.getLast?_eq_getElem?]; exact hu
    have e : oUndo (n, pc, b, us, kp, rw, tx, rt, hd, sw) = (nI (us.length - 1), (n, pc, u, us.dropLast, kp, rw, tx, rt, hd, sw)) := by show (if us = [] then _ else _, (n, pc, us.getLast?.getD b, us.dropLast, _)) = _; rw [if_neg hz, hgl]; rfl
    refine pw_aload_n 6 rfl dX12_undo_5 rfl ?_
    refine pw_getI 9 rfl dX12_undo_6 fX12_150 (by first | rfl | assumption | exact rowS hh | exact mtS hm | exact ruS hr | exact mtA1 hm | exact mtA2 hm | exact mtA3 hm | exact mtA4 hm | exact mtA5 hm | exact mtA6 hm | exact mtA7 hm | exact ruA1 hr | exact ruA2 hr | exact ruA3 hr) rfl ?_
    refine pw_if_ne (tgt := 14) 12 rfl dX12_undo_9 rfl (fun h9 => ?_) (fun h9 => absurd h9 (by rw [u1]; exact nI_ne0 hpos (by omega)))
    refine pw_aload_n 15 rfl dX12_undo_14 rfl ?_
    refine pw_dup 16 rfl dX12_undo_15 rfl ?_
    refine pw_getI 19 rfl dX12_undo_16 fX12_150 (by first | rfl | assumption | exact rowS hh | exact mtS hm | exact ruS hr | exact mtA1 hm | exact mtA2 hm | exact mtA3 hm | exact mtA4 hm | exact mtA5 hm | exact mtA6 hm | exact mtA7 hm | exact ruA1 hr | exact ruA2 hr | exact ruA3 hr) rfl ?_
    rotate_left
    rw [u1]
    refine pw_iconst (v := nI 1) 20 rfl dX12_undo_19 rfl ?_
    refine pw_isubN 21 rfl dX12_undo_20 (by omega) ?_
    refine pw_putI 24 rfl dX12_undo_21 fX12_150 w12_20 (by first | rfl | assumption | exact rowS hh | exact mtS hm | exact ruS hr | exact mtA1 hm | exact mtA2 hm | exact mtA3 hm | exact mtA4 hm | exact mtA5 hm | exact mtA6 hm | exact mtA7 hm | exact ruA1 hr | exact ruA2 hr | exact ruA3 hr) rfl rfl rfl ?_
    refine pw_iconst (v := nI 0) 25 rfl dX12_undo_24 rfl ?_
    refine pw_istore_n 26 rfl dX12_undo_25 (by decide) ?_
    rotate_left
    have L := nat_loop 32 (fun k => ∀ (I' : pI), (∀ j, j < k → I' 1 j = nI (u j)) → I' 0 20 = nI (us.length - 1) → (∀ a j, a ≠ 1 → ¬ (a = 0 ∧ j = 20) → I' a j = I a j) → PW SM yX12_undo.cls cX12_undo 2 (d + 245) 26 [some (.ref 0), some (.int (nI k))] [] (I') (J) (RM rd (some 6)) (rX cX12_undo (some .int) (moP (g + 10000) (oUndo (n, pc, b, us, kp, rw, tx, rt, hd, sw))))) ?_ ?_
    · exact L _ (fun j hj => by omega) (uI_eq _ _ _ _) (fun a j q1 q2 => uI_ne (by omega))
    · intro I' g1 g2 g3
      refine pw_iload_n 27 rfl dX12_undo_26 rfl ?_
      refine pw_bipush (v := nI 32) 29 rfl dX12_undo_27 rfl ?_
      refine pw_icmp_ge (tgt := 58) 32 rfl dX12_undo_29 rfl (fun h29 => ?_) (fun h29 => absurd (by (simp (disch := omega) only [nI_leI, nI_ltI, nI_eq, show (0 : Int32) = nI 0 from rfl, not_true_eq_false, not_false_eq_true] <;> omega)) h29)
      refine pw_aload_n 59 rfl dX12_undo_58 rfl ?_
      refine pw_getI 62 rfl dX12_undo_59 fX12_150 (by first | rfl | assumption | exact rowS hh | exact mtS hm | exact ruS hr | exact mtA1 hm | exact mtA2 hm | exact mtA3 hm | exact mtA4 hm | exact mtA5 hm | exact mtA6 hm | exact mtA7 hm | exact ruA1 hr | exact ruA2 hr | exact ruA3 hr) rfl ?_
      rotate_left
      rw [g2]
      refine pw_iret dX12_undo_62 rfl ?_
      rotate_left
      refine moE e ⟨rfl, MA_bu hA0 (fun a j q => g3 a j (by omega) (by omega)) g1 ⟨by rw [g2, List.length_dropLast], by rw [List.length_dropLast]; omega, fun j x hj k hk => ?_⟩ (MN_f mN (g3 _ _ (by omega) (by omega))), (MDg_f hD0 (g3 _ _ (by omega) (by omega)) (fun j => g3 _ _ (by omega) (by omega))).mono (by omega), rd, rfl⟩
      rw [g3 _ _ (by omega) (by omega)]
      have hj' := (List.getElem?_eq_some_iff.mp hj).1
      rw [List.length_dropLast] at hj'
      rw [List.getElem?_dropLast, if_pos hj'] at hj
      exact u3 j x hj k hk
    · intro k hk ih I' g1 g2 g3
      have e9 : I' 9 (32 * (us.length - 1) + k) = nI (u k) := by rw [g3 _ _ (by omega) (by omega)]; exact u3 _ u hu k hk
      refine pw_iload_n 27 rfl dX12_undo_26 rfl ?_
      refine pw_bipush (v := nI 32) 29 rfl dX12_undo_27 rfl ?_
      refine pw_icmp_ge (tgt := 58) 32 rfl dX12_undo_29 rfl (fun h29 => absurd h29 (by (simp (disch := omega) only [nI_leI, nI_ltI, nI_eq, show (0 : Int32) = nI 0 from rfl, not_true_eq_false, not_false_eq_true] <;> omega))) (fun h29 => ?_)
      refine pw_aload_n 33 rfl dX12_undo_32 rfl ?_
      refine pw_getR 36 rfl dX12_undo_33 fX12_9 (by first | rfl | assumption | exact rowS hh | exact mtS hm | exact ruS hr | exact mtA1 hm | exact mtA2 hm | exact mtA3 hm | exact mtA4 hm | exact mtA5 hm | exact mtA6 hm | exact mtA7 hm | exact ruA1 hr | exact ruA2 hr | exact ruA3 hr) rfl (by first | rfl | assumption | exact mtR0 hm | exact mtR1 hm | exact mtR2 hm | exact mtR3 hm | exact mtR4 hm | exact mtR5 hm | exact mtR6 hm | exact ruR0 hr | exact ruR1 hr | exact ruR3 hr) ?_
      refine pw_iload_n 37 rfl dX12_undo_36 rfl ?_
      refine pw_aload_n 38 rfl dX12_undo_37 rfl ?_
      refine pw_getR 41 rfl dX12_undo_38 fX12_36 (by first | rfl | assumption | exact rowS hh | exact mtS hm | exact ruS hr | exact mtA1 hm | exact mtA2 hm | exact mtA3 hm | exact mtA4 hm | exact mtA5 hm | exact mtA6 hm | exact mtA7 hm | exact ruA1 hr | exact ruA2 hr | exact ruA3 hr) rfl (by first | rfl | assumption | exact mtR0 hm | exact mtR1 hm | exact mtR2 hm | exact mtR3 hm | exact mtR4 hm | exact mtR5 hm | exact mtR6 hm | exact ruR0 hr | exact ruR1 hr | exact ruR3 hr) ?_
      refine pw_bipush (v := nI 32) 43 rfl dX12_undo_41 rfl ?_
      refine pw_aload_n 44 rfl dX12_undo_43 rfl ?_
      refine pw_getI 47 rfl dX12_undo_44 fX12_150 (by first | rfl | assumption | exact rowS hh | exact mtS hm | exact ruS hr | exact mtA1 hm | exact mtA2 hm | exact mtA3 hm | exact mtA4 hm | exact mtA5 hm | exact mtA6 hm | exact mtA7 hm | exact ruA1 hr | exact ruA2 hr | exact ruA3 hr) rfl ?_
      rotate_left
      rw [g2]
      first | refine pw_imulN 48 rfl dX12_undo_47 ?_ | refine pw_imul 48 rfl dX12_undo_47 ?_
      refine pw_iload_n 49 rfl dX12_undo_48 rfl ?_
      first | refine pw_iaddN 50 rfl dX12_undo_49 ?_ | refine pw_iadd 50 rfl dX12_undo_49 ?_
      refine pw_ialdN 51 rfl dX12_undo_50 (by first | rfl | assumption | exact rowS hh | exact mtS hm | exact ruS hr | exact mtA1 hm | exact mtA2 hm | exact mtA3 hm | exact mtA4 hm | exact mtA5 hm | exact mtA6 hm | exact mtA7 hm | exact ruA1 hr | exact ruA2 hr | exact ruA3 hr) (by omega) (by first | decide | omega) ?_
      rotate_left
      rw [e9]
      refine pw_iastN 52 rfl dX12_undo_51 (by first | rfl | assumption | exact rowS hh | exact mtS hm | exact ruS hr | exact mtA1 hm | exact mtA2 hm | exact mtA3 hm | exact mtA4 hm | exact mtA5 hm | exact mtA6 hm | exact mtA7 hm | exact ruA1 hr | exact ruA2 hr | exact ruA3 hr) (by omega) (by first | decide | omega) ?_
      refine pw_iincN 55 rfl dX12_undo_52 (by decide) rfl ?_
      refine pw_goto (tgt := 26) dX12_undo_55 rfl ?_
      rotate_left
      refine ih _ (fun j hj => ?_) (by rw [uI_ne (by omega)]; exact g2) (fun a j q1 q2 => by rw [uI_ne (by omega)]; exact g3 a j q1 q2)
      by_cases ej : j = k
      · rw [ej, uI_eq]
      · rw [uI_ne (by omega)]; exact g1 j (by omega)
theorem MA_kp {I I' : pI} {J : pJ} {n : Nat} {pc b : Nat → Nat} {us : List (Nat → Nat)} {kp kp' : Nat → Option (Nat → Nat)} {rw : List Int64} {tx rt : List Nat} {hd sw : List (Nat × Nat)} (h : MA I J (n, pc, b, us, kp, rw, tx, rt, hd, sw)) (f : ∀ a j, a ≠ 23 → a ≠ 24 → a ≠ 25 → I' a j = I a j) (hK : MK I' n kp') : MA I' J (n, pc, b, us, kp', rw, tx, rt, hd, sw) := by
  obtain ⟨a1, a2, a3, a4, a5, a6, a7, a8, a9⟩ := h
  exact ⟨MC_f a1 (f _ _ (by omega) (by omega) (by omega)) (fun j => f _ _ (by omega) (by omega) (by omega)), MB_f a2 (fun j => f _ _ (by omega) (by omega) (by omega)), MT_f a3 (f _ _ (by omega) (by omega) (by omega)) (fun j => f _ _ (by omega) (by omega) (by omega)), MN_f a4 (f _ _ (by omega) (by omega) (by omega)), MRl_f a5 (f _ _ (by omega) (by omega) (by omega)) (fun j => f _ _ (by omega) (by omega) (by omega)), MU_f a6 (f _ _ (by omega) (by omega) (by omega)) (fun j => f _ _ (by omega) (by omega) (by omega)), hK, MH_f a8 (f _ _ (by omega) (by omega) (by omega)) (fun j => f _ _ (by omega) (by omega) (by omega)) (fun j => f _ _ (by omega) (by omega) (by omega)), MG_f a9 (f _ _ (by omega) (by omega) (by omega)) (fun j => f _ _ (by omega) (by omega) (by omega)) (fun j => f _ _ (by omega) (by omega) (by omega))⟩
theorem in2_V {w : Int32} (h : w < 0 ∨ nI 2 ≤ w) : inV w (nI 0) (nI 1) = nI 0 := inV_n (by
  rcases h with h | h
  · exact Or.inl h
  · refine Or.inr ?_
    rw [Int32.lt_iff_toInt_lt]
    rw [Int32.le_iff_toInt_le] at h
    have e1 : (nI 1).toInt = 1 := by decide
    have e2 : (nI 2).toInt = 2 := by decide
    omega)
set_option maxRecDepth 100000 in
set_option maxHeartbeats 2000000 in
theorem mo_keep {d g : Nat} {s : aSt} {rd : Option Nat} {I : pI} {J : pJ} (hA : MA I J s) (hD : MDg g I) (hg : g ≤ 500000000) (hW : WA s) (w : Int32) : PC SM (d + 245) yX12_keep cX12_keep 2 (some .boolean) [.ref 0, .int w] (I) (J) (RM rd (some 6)) (moP (g + 10000) (oKeep w s)) := by
  refine PC.of [some (.ref 0), some (.int w)] rfl rfl (Nat.le_of_ble_eq_true rfl) ?_
  obtain ⟨n, pc, b, us, kp, rw, tx, rt, hd, sw⟩ := s
  refine pw_aload_n 1 rfl dX12_keep_0 rfl ?_
  refine pw_iconst (v := nI 0) 2 rfl dX12_keep_1 rfl ?_
  refine pw_putI 5 rfl dX12_keep_2 fX12_88 w12_7 (by first | rfl | assumption | exact rowS hh | exact mtS hm | exact ruS hr | exact mtA1 hm | exact mtA2 hm | exact mtA3 hm | exact mtA4 hm | exact mtA5 hm | exact mtA6 hm | exact mtA7 hm | exact ruA1 hr | exact ruA2 hr | exact ruA3 hr) rfl rfl rfl ?_
  rotate_left
  have hA0 := MA_thr (v := nI 0) hA
  have hD0 : MDg g (uI I 0 7 (nI 0)) := MDg_f hD (uI_ne (by omega)) (fun j => uI_ne (by omega))
  clear hA hD
  generalize uI I 0 7 (nI 0) = I at hA0 hD0 ⊢
  obtain ⟨mC, mB, mT, mN, mR, mU, mK, mH, mG⟩ := id hA0
  obtain ⟨aW, aU, aK⟩ := id hW
  have hE := MSt_A hA0
  have hn7 := mC.1
  have hn := mC.2.1
  rcases pk_ix w (n := 2) (by decide) with h | h | ⟨i, hi, rfl⟩
  · refine pw_iload_n 6 rfl dX12_keep_5 rfl ?_
    refine pw_iconst (v := nI 0) 7 rfl dX12_keep_6 rfl ?_
    refine pw_iconst (v := nI 1) 8 rfl dX12_keep_7 rfl ?_
    refine pw_callSP (as := [_, _, _]) 11 rfl dX12_keep_8 mX12_98 sX12_in (m_in (d := d) _ _ _) ⟨rfl, by decide, by decide, show (parseMethodDescriptor yX12_in.desc).map (fun d => d.parameters.length) = some 3 by decide +kernel⟩ (by omega) (by decide) (Nat.le_of_ble_eq_true rfl) rfl ?_
    refine pw_if_ne (tgt := 16) 14 rfl dX12_keep_11 rfl (fun h11 => absurd (by rw [in2_V (Or.inl h)]; rfl) h11) (fun h11 => ?_)
    refine pw_iconst (v := nI 0) 15 rfl dX12_keep_14 rfl ?_
    refine pw_iret dX12_keep_15 rfl ?_
    rotate_left
    refine moE (y := (nI 0, (n, pc, b, us, aKp kp w b, rw, tx, rt, hd, sw))) (by show (if 0 ≤ w ∧ w < nI 2 then _ else _, _) = _; rw [if_neg (in2_no (Or.inl h))]) ⟨rfl, MA_kp hA0 (fun _ _ _ _ _ => rfl) ?_, hD0.mono (by omega), rd, rfl⟩
    obtain ⟨cm, k1, k2, k3⟩ := id mK
    refine ⟨cm, k1, k2, fun i hi => ?_⟩
    rw [show aKp kp w b i = kp i from if_neg (fun z => nI_pos (show i < 2 ^ 31 by omega) (by rw [z]; exact h))]
    exact k3 i hi
  · refine pw_iload_n 6 rfl dX12_keep_5 rfl ?_
    refine pw_iconst (v := nI 0) 7 rfl dX12_keep_6 rfl ?_
    refine pw_iconst (v := nI 1) 8 rfl dX12_keep_7 rfl ?_
    refine pw_callSP (as := [_, _, _]) 11 rfl dX12_keep_8 mX12_98 sX12_in (m_in (d := d) _ _ _) ⟨rfl, by decide, by decide, show (parseMethodDescriptor yX12_in.desc).map (fun d => d.parameters.length) = some 3 by decide +kernel⟩ (by omega) (by decide) (Nat.le_of_ble_eq_true rfl) rfl ?_
    refine pw_if_ne (tgt := 16) 14 rfl dX12_keep_11 rfl (fun h11 => absurd (by rw [in2_V (Or.inr h)]; rfl) h11) (fun h11 => ?_)
    refine pw_iconst (v := nI 0) 15 rfl dX12_keep_14 rfl ?_
    refine pw_iret dX12_keep_15 rfl ?_
    rotate_left
    refine moE (y := (nI 0, (n, pc, b, us, aKp kp w b, rw, tx, rt, hd, sw))) (by show (if 0 ≤ w ∧ w < nI 2 then _ else _, _) = _; rw [if_neg (in2_no (Or.inr h))]) ⟨rfl, MA_kp hA0 (fun _ _ _ _ _ => rfl) ?_, hD0.mono (by omega), rd, rfl⟩
    obtain ⟨cm, k1, k2, k3⟩ := id mK
    refine ⟨cm, k1, k2, fun i hi => ?_⟩
    rw [show aKp kp w b i = kp i from if_neg (fun z => by rw [← z, nI_leI (by omega) (by omega)] at h; omega)]
    exact k3 i hi
  · obtain ⟨cm, k1, k2, k3⟩ := id mK
    refine pw_iload_n 6 rfl dX12_keep_5 rfl ?_
    refine pw_iconst (v := nI 0) 7 rfl dX12_keep_6 rfl ?_
    refine pw_iconst (v := nI 1) 8 rfl dX12_keep_7 rfl ?_
    refine pw_callSP (as := [_, _, _]) 11 rfl dX12_keep_8 mX12_98 sX12_in (m_in (d := d) _ _ _) ⟨rfl, by decide, by decide, show (parseMethodDescriptor yX12_in.desc).map (fun d => d.parameters.length) = some 3 by decide +kernel⟩ (by omega) (by decide) (Nat.le_of_ble_eq_true rfl) rfl ?_
    refine pw_if_ne (tgt := 16) 14 rfl dX12_keep_11 rfl (fun h11 => ?_) (fun h11 => absurd h11 (by rw [inV_y (Nat.zero_le i) (show i ≤ 1 by omega) (by decide)]; decide))
    refine pw_aload_n 17 rfl dX12_keep_16 rfl ?_
    refine pw_getR 20 rfl dX12_keep_17 fX12_82 (by first | rfl | assumption | exact rowS hh | exact mtS hm | exact ruS hr | exact mtA1 hm | exact mtA2 hm | exact mtA3 hm | exact mtA4 hm | exact mtA5 hm | exact mtA6 hm | exact mtA7 hm | exact ruA1 hr | exact ruA2 hr | exact ruA3 hr) rfl (by first | rfl | assumption | exact mtR0 hm | exact mtR1 hm | exact mtR2 hm | exact mtR3 hm | exact mtR4 hm | exact mtR5 hm | exact mtR6 hm | exact ruR0 hr | exact ruR1 hr | exact ruR3 hr) ?_
    refine pw_iload_n 21 rfl dX12_keep_20 rfl ?_
    refine pw_iconst (v := nI 1) 22 rfl dX12_keep_21 rfl ?_
    refine pw_zastN 23 rfl dX12_keep_22 (by first | rfl | assumption | exact rowS hh | exact mtS hm | exact ruS hr | exact mtA1 hm | exact mtA2 hm | exact mtA3 hm | exact mtA4 hm | exact mtA5 hm | exact mtA6 hm | exact mtA7 hm | exact ruA1 hr | exact ruA2 hr | exact ruA3 hr) (by omega) (by first | decide | omega) ?_
    refine pw_aload_n 24 rfl dX12_keep_23 rfl ?_
    refine pw_getR 27 rfl dX12_keep_24 fX12_85 (by first | rfl | assumption | exact rowS hh | exact mtS hm | exact ruS hr | exact mtA1 hm | exact mtA2 hm | exact mtA3 hm | exact mtA4 hm | exact mtA5 hm | exact mtA6 hm | exact mtA7 hm | exact ruA1 hr | exact ruA2 hr | exact ruA3 hr) rfl (by first | rfl | assumption | exact mtR0 hm | exact mtR1 hm | exact mtR2 hm | exact mtR3 hm | exact mtR4 hm | exact mtR5 hm | exact mtR6 hm | exact ruR0 hr | exact ruR1 hr | exact ruR3 hr) ?_
    refine pw_iload_n 28 rfl dX12_keep_27 rfl ?_
    refine pw_aload_n 29 rfl dX12_keep_28 rfl ?_
    refine pw_getI 32 rfl dX12_keep_29 fX12_153 (by first | rfl | assumption | exact rowS hh | exact mtS hm | exact ruS hr | exact mtA1 hm | exact mtA2 hm | exact mtA3 hm | exact mtA4 hm | exact mtA5 hm | exact mtA6 hm | exact mtA7 hm | exact ruA1 hr | exact ruA2 hr | exact ruA3 hr) rfl ?_
    rotate_left
    rw [uI_ne (by omega), k1]
    refine pw_iastN 33 rfl dX12_keep_32 (by first | rfl | assumption | exact rowS hh | exact mtS hm | exact ruS hr | exact mtA1 hm | exact mtA2 hm | exact mtA3 hm | exact mtA4 hm | exact mtA5 hm | exact mtA6 hm | exact mtA7 hm | exact ruA1 hr | exact ruA2 hr | exact ruA3 hr) (by omega) (by first | decide | omega) ?_
    refine pw_aload_n 34 rfl dX12_keep_33 rfl ?_
    refine pw_getR 37 rfl dX12_keep_34 fX12_9 (by first | rfl | assumption | exact rowS hh | exact mtS hm | exact ruS hr | exact mtA1 hm | exact mtA2 hm | exact mtA3 hm | exact mtA4 hm | exact mtA5 hm | exact mtA6 hm | exact mtA7 hm | exact ruA1 hr | exact ruA2 hr | exact ruA3 hr) rfl (by first | rfl | assumption | exact mtR0 hm | exact mtR1 hm | exact mtR2 hm | exact mtR3 hm | exact mtR4 hm | exact mtR5 hm | exact mtR6 hm | exact ruR0 hr | exact ruR1 hr | exact ruR3 hr) ?_
    refine pw_aload_n 38 rfl dX12_keep_37 rfl ?_
    refine pw_getR 41 rfl dX12_keep_38 fX12_79 (by first | rfl | assumption | exact rowS hh | exact mtS hm | exact ruS hr | exact mtA1 hm | exact mtA2 hm | exact mtA3 hm | exact mtA4 hm | exact mtA5 hm | exact mtA6 hm | exact mtA7 hm | exact ruA1 hr | exact ruA2 hr | exact ruA3 hr) rfl (by first | rfl | assumption | exact mtR0 hm | exact mtR1 hm | exact mtR2 hm | exact mtR3 hm | exact mtR4 hm | exact mtR5 hm | exact mtR6 hm | exact ruR0 hr | exact ruR1 hr | exact ruR3 hr) ?_
    refine pw_bipush (v := nI 32) 43 rfl dX12_keep_41 rfl ?_
    refine pw_iload_n 44 rfl dX12_keep_43 rfl ?_
    first | refine pw_imulN 45 rfl dX12_keep_44 ?_ | refine pw_imul 45 rfl dX12_keep_44 ?_
    refine pw_callS (as := [_, _, _]) 48 rfl dX12_keep_45 mX12_219 sX12_lay (m_lay (d := d + 244) (t := 23) (k := 32 * i) (nt := 64) (b := b) (Or.inl rfl) rfl (by decide) (by omega) (by decide) (fun j hj => by rw [uI_ne (by omega), uI_ne (by omega)]; exact mB j hj)) ⟨rfl, by decide, by decide, show (parseMethodDescriptor yX12_lay.desc).map (fun d => d.parameters.length) = some 3 by decide +kernel⟩ (by omega) (by decide) (Nat.le_of_ble_eq_true rfl) rfl (fun r45 I45 J45 R45 c45 => ?_)
    obtain ⟨rfl, t1, t2, rfl, rfl⟩ := c45
    rotate_left
    refine pw_iconst (v := nI 1) 49 rfl dX12_keep_48 rfl ?_
    refine pw_iret dX12_keep_49 rfl ?_
    rotate_left
    have hf : ∀ a j, a ≠ 23 → a ≠ 24 → a ≠ 25 → I45 a j = I a j := fun a j q1 q2 q3 => by rw [t2 a j (by omega), uI_ne (by omega), uI_ne (by omega)]
    refine moE (y := (nI 1, (n, pc, b, us, aKp kp (nI i) b, rw, tx, rt, hd, sw))) (by show (if 0 ≤ nI i ∧ nI i < nI 2 then _ else _, _) = _; rw [if_pos (in2_y hi)]) ⟨rfl, MA_kp hA0 hf ⟨cm, by rw [hf _ _ (by omega) (by omega) (by omega)]; exact k1, k2, fun j hj => ?_⟩, (MDg_f hD0 (hf _ _ (by omega) (by omega) (by omega)) (fun j => hf _ _ (by omega) (by omega) (by omega))).mono (by omega), rd, rfl⟩
    by_cases ej : j = i
    · subst ej
      refine ⟨cm, by rw [t2 _ _ (by omega), uI_eq], Nat.le_refl _, ?_⟩
      rw [show aKp kp (nI j) b j = some b from if_pos rfl]
      exact ⟨by rw [t2 _ _ (by omega), uI_ne (by omega), uI_eq]; rfl, rfl, t1⟩
    · obtain ⟨kc, c1, c2, c3⟩ := k3 j hj
      refine ⟨kc, by rw [t2 _ _ (by omega), uI_ne (by omega), uI_ne (by omega)]; exact c1, c2, ?_⟩
      rw [show aKp kp (nI i) b j = kp j from if_neg (fun z => ej ((nI_eq (by omega) (by omega)).mp z))]
      revert c3
      rcases kp j with _ | u
      · intro c3
        rw [t2 _ _ (by omega), uI_ne (by omega), uI_ne (by omega)]
        exact c3
      · rintro ⟨d1, d2, d3⟩
        refine ⟨by rw [t2 _ _ (by omega), uI_ne (by omega), uI_ne (by omega)]; exact d1, d2, fun k hk => ?_⟩
        rw [t2 _ _ (by omega), uI_ne (by omega), uI_ne (by omega)]
        exact d3 k hk
set_option maxRecDepth 100000 in
set_option maxHeartbeats 2000000 in
theorem mo_again {d g : Nat} {s : aSt} {rd : Option Nat} {I : pI} {J : pJ} (hA : MA I J s) (hD : MDg g I) (hg : g ≤ 500000000) (hW : WA s) (w : Int32) : PC SM (d + 245) yX12_again cX12_again 3 (some .boolean) [.ref 0, .int w] (I) (J) (RM rd (some 6)) (moP (g + 10000) (oAgain w s)) := by
  refine PC.of [some (.ref 0), some (.int w), none] rfl rfl (Nat.le_of_ble_eq_true rfl) ?_
  obtain ⟨n, pc, b, us, kp, rw, tx, rt, hd, sw⟩ := s
  refine pw_aload_n 1 rfl dX12_again_0 rfl ?_
  refine pw_iconst (v := nI 0) 2 rfl dX12_again_1 rfl ?_
  refine pw_putI 5 rfl dX12_again_2 fX12_88 w12_7 (by first | rfl | assumption | exact rowS hh | exact mtS hm | exact ruS hr | exact mtA1 hm | exact mtA2 hm | exact mtA3 hm | exact mtA4 hm | exact mtA5 hm | exact mtA6 hm | exact mtA7 hm | exact ruA1 hr | exact ruA2 hr | exact ruA3 hr) rfl rfl rfl ?_
  rotate_left
  have hA0 := MA_thr (v := nI 0) hA
  have hD0 : MDg g (uI I 0 7 (nI 0)) := MDg_f hD (uI_ne (by omega)) (fun j => uI_ne (by omega))
  clear hA hD
  generalize uI I 0 7 (nI 0) = I at hA0 hD0 ⊢
  obtain ⟨mC, mB, mT, mN, mR, mU, mK, mH, mG⟩ := id hA0
  obtain ⟨aW, aU, aK⟩ := id hW
  have hE := MSt_A hA0
  have hn7 := mC.1
  have hn := mC.2.1
  have no : ∀ {w : Int32}, aBr kp w = none → moP (g + 10000) (oAgain w (n, pc, b, us, kp, rw, tx, rt, hd, sw)) (some (.int (nI 0))) I J (RM rd (some 6)) := fun {w} e => moE (y := (nI 0, (n, pc, b, us, kp, rw, tx, rt, hd, sw))) (by show (if aBr kp w = none then _ else _, (n, pc, (aBr kp w).getD b, if aBr kp w = none then us else [], _)) = _; rw [e, if_pos rfl, if_pos rfl]; rfl) ⟨rfl, hA0, hD0.mono (by omega), rd, rfl⟩
  rcases pk_ix w (n := 2) (by decide) with h | h | ⟨i, hi, rfl⟩
  · refine pw_iload_n 6 rfl dX12_again_5 rfl ?_
    refine pw_iconst (v := nI 0) 7 rfl dX12_again_6 rfl ?_
    refine pw_iconst (v := nI 1) 8 rfl dX12_again_7 rfl ?_
    refine pw_callSP (as := [_, _, _]) 11 rfl dX12_again_8 mX12_98 sX12_in (m_in (d := d) _ _ _) ⟨rfl, by decide, by decide, show (parseMethodDescriptor yX12_in.desc).map (fun d => d.parameters.length) = some 3 by decide +kernel⟩ (by omega) (by decide) (Nat.le_of_ble_eq_true rfl) rfl ?_
    refine pw_if_eq (tgt := 36) 14 rfl dX12_again_11 rfl (fun h11 => ?_) (fun h11 => absurd (by rw [in2_V (Or.inl h)]; rfl) h11)
    refine pw_iconst (v := nI 0) 37 rfl dX12_again_36 rfl ?_
    refine pw_iret dX12_again_37 rfl ?_
    rotate_left
    exact no (if_neg (in2_no (Or.inl h)))
  · refine pw_iload_n 6 rfl dX12_again_5 rfl ?_
    refine pw_iconst (v := nI 0) 7 rfl dX12_again_6 rfl ?_
    refine pw_iconst (v := nI 1) 8 rfl dX12_again_7 rfl ?_
    refine pw_callSP (as := [_, _, _]) 11 rfl dX12_again_8 mX12_98 sX12_in (m_in (d := d) _ _ _) ⟨rfl, by decide, by decide, show (parseMethodDescriptor yX12_in.desc).map (fun d => d.parameters.length) = some 3 by decide +kernel⟩ (by omega) (by decide) (Nat.le_of_ble_eq_true rfl) rfl ?_
    refine pw_if_eq (tgt := 36) 14 rfl dX12_again_11 rfl (fun h11 => ?_) (fun h11 => absurd (by rw [in2_V (Or.inr h)]; rfl) h11)
    refine pw_iconst (v := nI 0) 37 rfl dX12_again_36 rfl ?_
    refine pw_iret dX12_again_37 rfl ?_
    rotate_left
    exact no (if_neg (in2_no (Or.inr h)))
  · obtain ⟨cm, k1, k2, k3⟩ := id mK
    obtain ⟨kc, c1, c2, c3⟩ := k3 i hi
    have ebr : aBr kp (nI i) = kp i := by rw [aBr, if_pos (in2_y hi), nI_clamp (by omega)]
    have hin : inV (nI i) (nI 0) (nI 1) = nI 1 := inV_y (Nat.zero_le i) (show i ≤ 1 by omega) (by decide)
    cases hk : kp i with
    | none =>
      rw [hk] at c3 ebr
      rcases c3 with c3 | ⟨c3, c4⟩
      · refine pw_iload_n 6 rfl dX12_again_5 rfl ?_
        refine pw_iconst (v := nI 0) 7 rfl dX12_again_6 rfl ?_
        refine pw_iconst (v := nI 1) 8 rfl dX12_again_7 rfl ?_
        refine pw_callSP (as := [_, _, _]) 11 rfl dX12_again_8 mX12_98 sX12_in (m_in (d := d) _ _ _) ⟨rfl, by decide, by decide, show (parseMethodDescriptor yX12_in.desc).map (fun d => d.parameters.length) = some 3 by decide +kernel⟩ (by omega) (by decide) (Nat.le_of_ble_eq_true rfl) rfl ?_
        refine pw_if_eq (tgt := 36) 14 rfl dX12_again_11 rfl (fun h11 => absurd h11 (by rw [hin]; decide)) (fun h11 => ?_)
        refine pw_aload_n 15 rfl dX12_again_14 rfl ?_
        refine pw_getR 18 rfl dX12_again_15 fX12_82 (by first | rfl | assumption | exact rowS hh | exact mtS hm | exact ruS hr | exact mtA1 hm | exact mtA2 hm | exact mtA3 hm | exact mtA4 hm | exact mtA5 hm | exact mtA6 hm | exact mtA7 hm | exact ruA1 hr | exact ruA2 hr | exact ruA3 hr) rfl (by first | rfl | assumption | exact mtR0 hm | exact mtR1 hm | exact mtR2 hm | exact mtR3 hm | exact mtR4 hm | exact mtR5 hm | exact mtR6 hm | exact ruR0 hr | exact ruR1 hr | exact ruR3 hr) ?_
        refine pw_iload_n 19 rfl dX12_again_18 rfl ?_
        refine pw_zaldN 20 rfl dX12_again_19 (by first | rfl | assumption | exact rowS hh | exact mtS hm | exact ruS hr | exact mtA1 hm | exact mtA2 hm | exact mtA3 hm | exact mtA4 hm | exact mtA5 hm | exact mtA6 hm | exact mtA7 hm | exact ruA1 hr | exact ruA2 hr | exact ruA3 hr) (by omega) (by first | decide | omega) ?_
        refine pw_if_eq (tgt := 36) 23 rfl dX12_again_20 rfl (fun h20 => ?_) (fun h20 => absurd (by rw [c3]; rfl) h20)
        refine pw_iconst (v := nI 0) 37 rfl dX12_again_36 rfl ?_
        refine pw_iret dX12_again_37 rfl ?_
        rotate_left
        exact no ebr
      · refine pw_iload_n 6 rfl dX12_again_5 rfl ?_
        refine pw_iconst (v := nI 0) 7 rfl dX12_again_6 rfl ?_
        refine pw_iconst (v := nI 1) 8 rfl dX12_again_7 rfl ?_
        refine pw_callSP (as := [_, _, _]) 11 rfl dX12_again_8 mX12_98 sX12_in (m_in (d := d) _ _ _) ⟨rfl, by decide, by decide, show (parseMethodDescriptor yX12_in.desc).map (fun d => d.parameters.length) = some 3 by decide +kernel⟩ (by omega) (by decide) (Nat.le_of_ble_eq_true rfl) rfl ?_
        refine pw_if_eq (tgt := 36) 14 rfl dX12_again_11 rfl (fun h11 => absurd h11 (by rw [hin]; decide)) (fun h11 => ?_)
        refine pw_aload_n 15 rfl dX12_again_14 rfl ?_
        refine pw_getR 18 rfl dX12_again_15 fX12_82 (by first | rfl | assumption | exact rowS hh | exact mtS hm | exact ruS hr | exact mtA1 hm | exact mtA2 hm | exact mtA3 hm | exact mtA4 hm | exact mtA5 hm | exact mtA6 hm | exact mtA7 hm | exact ruA1 hr | exact ruA2 hr | exact ruA3 hr) rfl (by first | rfl | assumption | exact mtR0 hm | exact mtR1 hm | exact mtR2 hm | exact mtR3 hm | exact mtR4 hm | exact mtR5 hm | exact mtR6 hm | exact ruR0 hr | exact ruR1 hr | exact ruR3 hr) ?_
        refine pw_iload_n 19 rfl dX12_again_18 rfl ?_
        refine pw_zaldN 20 rfl dX12_again_19 (by first | rfl | assumption | exact rowS hh | exact mtS hm | exact ruS hr | exact mtA1 hm | exact mtA2 hm | exact mtA3 hm | exact mtA4 hm | exact mtA5 hm | exact mtA6 hm | exact mtA7 hm | exact ruA1 hr | exact ruA2 hr | exact ruA3 hr) (by omega) (by first | decide | omega) ?_
        refine pw_if_eq (tgt := 36) 23 rfl dX12_again_20 rfl (fun h20 => absurd h20 (by rw [c3]; decide)) (fun h20 => ?_)
        refine pw_aload_n 24 rfl dX12_again_23 rfl ?_
        refine pw_getR 27 rfl dX12_again_24 fX12_85 (by first | rfl | assumption | exact rowS hh | exact mtS hm | exact ruS hr | exact mtA1 hm | exact mtA2 hm | exact mtA3 hm | exact mtA4 hm | exact mtA5 hm | exact mtA6 hm | exact mtA7 hm | exact ruA1 hr | exact ruA2 hr | exact ruA3 hr) rfl (by first | rfl | assumption | exact mtR0 hm | exact mtR1 hm | exact mtR2 hm | exact mtR3 hm | exact mtR4 hm | exact mtR5 hm | exact mtR6 hm | exact ruR0 hr | exact ruR1 hr | exact ruR3 hr) ?_
        refine pw_iload_n 28 rfl dX12_again_27 rfl ?_
        refine pw_ialdN 29 rfl dX12_again_28 (by first | rfl | assumption | exact rowS hh | exact mtS hm | exact ruS hr | exact mtA1 hm | exact mtA2 hm | exact mtA3 hm | exact mtA4 hm | exact mtA5 hm | exact mtA6 hm | exact mtA7 hm | exact ruA1 hr | exact ruA2 hr | exact ruA3 hr) (by omega) (by first | decide | omega) ?_
        refine pw_aload_n 30 rfl dX12_again_29 rfl ?_
        refine pw_getI 33 rfl dX12_again_30 fX12_153 (by first | rfl | assumption | exact rowS hh | exact mtS hm | exact ruS hr | exact mtA1 hm | exact mtA2 hm | exact mtA3 hm | exact mtA4 hm | exact mtA5 hm | exact mtA6 hm | exact mtA7 hm | exact ruA1 hr | exact ruA2 hr | exact ruA3 hr) rfl ?_
        refine pw_icmp_eq (tgt := 38) 36 rfl dX12_again_33 rfl (fun h33 => absurd h33 (by rw [c1, k1, nI_eq (by omega) (by omega)]; omega)) (fun h33 => ?_)
        refine pw_iconst (v := nI 0) 37 rfl dX12_again_36 rfl ?_
        refine pw_iret dX12_again_37 rfl ?_
        rotate_left
        exact no ebr
    | some u =>
      rw [hk] at c3 ebr
      obtain ⟨c3, c4, c5⟩ := c3
      have e : oAgain (nI i) (n, pc, b, us, kp, rw, tx, rt, hd, sw) = (nI 1, (n, pc, u, [], kp, rw, tx, rt, hd, sw)) := by show (if aBr kp (nI i) = none then _ else _, (n, pc, (aBr kp (nI i)).getD b, if aBr kp (nI i) = none then us else [], _)) = _; rw [ebr, if_neg (fun z => by cases z), if_neg (fun z => by cases z)]; rfl
      refine pw_iload_n 6 rfl dX12_again_5 rfl ?_
      refine pw_iconst (v := nI 0) 7 rfl dX12_again_6 rfl ?_
      refine pw_iconst (v := nI 1) 8 rfl dX12_again_7 rfl ?_
      refine pw_callSP (as := [_, _, _]) 11 rfl dX12_again_8 mX12_98 sX12_in (m_in (d := d) _ _ _) ⟨rfl, by decide, by decide, show (parseMethodDescriptor yX12_in.desc).map (fun d => d.parameters.length) = some 3 by decide +kernel⟩ (by omega) (by decide) (Nat.le_of_ble_eq_true rfl) rfl ?_
      refine pw_if_eq (tgt := 36) 14 rfl dX12_again_11 rfl (fun h11 => absurd h11 (by rw [hin]; decide)) (fun h11 => ?_)
      refine pw_aload_n 15 rfl dX12_again_14 rfl ?_
      refine pw_getR 18 rfl dX12_again_15 fX12_82 (by first | rfl | assumption | exact rowS hh | exact mtS hm | exact ruS hr | exact mtA1 hm | exact mtA2 hm | exact mtA3 hm | exact mtA4 hm | exact mtA5 hm | exact mtA6 hm | exact mtA7 hm | exact ruA1 hr | exact ruA2 hr | exact ruA3 hr) rfl (by first | rfl | assumption | exact mtR0 hm | exact mtR1 hm | exact mtR2 hm | exact mtR3 hm | exact mtR4 hm | exact mtR5 hm | exact mtR6 hm | exact ruR0 hr | exact ruR1 hr | exact ruR3 hr) ?_
      refine pw_iload_n 19 rfl dX12_again_18 rfl ?_
      refine pw_zaldN 20 rfl dX12_again_19 (by first | rfl | assumption | exact rowS hh | exact mtS hm | exact ruS hr | exact mtA1 hm | exact mtA2 hm | exact mtA3 hm | exact mtA4 hm | exact mtA5 hm | exact mtA6 hm | exact mtA7 hm | exact ruA1 hr | exact ruA2 hr | exact ruA3 hr) (by omega) (by first | decide | omega) ?_
      refine pw_if_eq (tgt := 36) 23 rfl dX12_again_20 rfl (fun h20 => absurd h20 (by rw [c3]; decide)) (fun h20 => ?_)
      refine pw_aload_n 24 rfl dX12_again_23 rfl ?_
      refine pw_getR 27 rfl dX12_again_24 fX12_85 (by first | rfl | assumption | exact rowS hh | exact mtS hm | exact ruS hr | exact mtA1 hm | exact mtA2 hm | exact mtA3 hm | exact mtA4 hm | exact mtA5 hm | exact mtA6 hm | exact mtA7 hm | exact ruA1 hr | exact ruA2 hr | exact ruA3 hr) rfl (by first | rfl | assumption | exact mtR0 hm | exact mtR1 hm | exact mtR2 hm | exact mtR3 hm | exact mtR4 hm | exact mtR5 hm | exact mtR6 hm | exact ruR0 hr | exact ruR1 hr | exact ruR3 hr) ?_
      refine pw_iload_n 28 rfl dX12_again_27 rfl ?_
      refine pw_ialdN 29 rfl dX12_again_28 (by first | rfl | assumption | exact rowS hh | exact mtS hm | exact ruS hr | exact mtA1 hm | exact mtA2 hm | exact mtA3 hm | exact mtA4 hm | exact mtA5 hm | exact mtA6 hm | exact mtA7 hm | exact ruA1 hr | exact ruA2 hr | exact ruA3 hr) (by omega) (by first | decide | omega) ?_
      refine pw_aload_n 30 rfl dX12_again_29 rfl ?_
      refine pw_getI 33 rfl dX12_again_30 fX12_153 (by first | rfl | assumption | exact rowS hh | exact mtS hm | exact ruS hr | exact mtA1 hm | exact mtA2 hm | exact mtA3 hm | exact mtA4 hm | exact mtA5 hm | exact mtA6 hm | exact mtA7 hm | exact ruA1 hr | exact ruA2 hr | exact ruA3 hr) rfl ?_
      refine pw_icmp_eq (tgt := 38) 36 rfl dX12_again_33 rfl (fun h33 => ?_) (fun h33 => absurd (by rw [c1, k1, c4]) h33)
      refine pw_iconst (v := nI 0) 39 rfl dX12_again_38 rfl ?_
      refine pw_istore_n 40 rfl dX12_again_39 (by decide) ?_
      rotate_left
      have L := nat_loop 32 (fun k => ∀ (I' : pI), (∀ j, j < k → I' 1 j = nI (u j)) → (∀ a j, a ≠ 1 → I' a j = I a j) → PW SM yX12_again.cls cX12_again 3 (d + 245) 40 [some (.ref 0), some (.int (nI i)), some (.int (nI k))] [] (I') (J) (RM rd (some 6)) (rX cX12_again (some .boolean) (moP (g + 10000) (oAgain (nI i) (n, pc, b, us, kp, rw, tx, rt, hd, sw))))) ?_ ?_
      · exact L _ (fun j hj => by omega) (fun _ _ _ => rfl)
      · intro I' g1 g3
        refine pw_iload_n 41 rfl dX12_again_40 rfl ?_
        refine pw_bipush (v := nI 32) 43 rfl dX12_again_41 rfl ?_
        refine pw_icmp_ge (tgt := 69) 46 rfl dX12_again_43 rfl (fun h43 => ?_) (fun h43 => absurd (by (simp (disch := omega) only [nI_leI, nI_ltI, nI_eq, show (0 : Int32) = nI 0 from rfl, not_true_eq_false, not_false_eq_true] <;> omega)) h43)
        refine pw_aload_n 70 rfl dX12_again_69 rfl ?_
        refine pw_iconst (v := nI 0) 71 rfl dX12_again_70 rfl ?_
        refine pw_putI 74 rfl dX12_again_71 fX12_150 w12_20 (by first | rfl | assumption | exact rowS hh | exact mtS hm | exact ruS hr | exact mtA1 hm | exact mtA2 hm | exact mtA3 hm | exact mtA4 hm | exact mtA5 hm | exact mtA6 hm | exact mtA7 hm | exact ruA1 hr | exact ruA2 hr | exact ruA3 hr) rfl rfl rfl ?_
        refine pw_iconst (v := nI 1) 75 rfl dX12_again_74 rfl ?_
        refine pw_iret dX12_again_75 rfl ?_
        rotate_left
        refine moE e ⟨rfl, MA_bu hA0 (fun a j q => by rw [uI_ne (by omega)]; exact g3 a j (by omega)) (fun j hj => by rw [uI_ne (by omega)]; exact g1 j hj) ⟨uI_eq _ _ _ _, by show (0 : Nat) ≤ 12; omega, fun j x hj => by cases hj⟩ (MN_f mN (by rw [uI_ne (by omega)]; exact g3 _ _ (by omega))), (MDg_f hD0 (by rw [uI_ne (by omega)]; exact g3 _ _ (by omega)) (fun j => by rw [uI_ne (by omega)]; exact g3 _ _ (by omega))).mono (by omega), rd, rfl⟩
      · intro k hk2 ih I' g1 g3
        have e9 : I' 23 (32 * i + k) = nI (u k) := by rw [g3 _ _ (by omega)]; exact c5 k hk2
        refine pw_iload_n 41 rfl dX12_again_40 rfl ?_
        refine pw_bipush (v := nI 32) 43 rfl dX12_again_41 rfl ?_
        refine pw_icmp_ge (tgt := 69) 46 rfl dX12_again_43 rfl (fun h43 => absurd h43 (by (simp (disch := omega) only [nI_leI, nI_ltI, nI_eq, show (0 : Int32) = nI 0 from rfl, not_true_eq_false, not_false_eq_true] <;> omega))) (fun h43 => ?_)
        refine pw_aload_n 47 rfl dX12_again_46 rfl ?_
        refine pw_getR 50 rfl dX12_again_47 fX12_9 (by first | rfl | assumption | exact rowS hh | exact mtS hm | exact ruS hr | exact mtA1 hm | exact mtA2 hm | exact mtA3 hm | exact mtA4 hm | exact mtA5 hm | exact mtA6 hm | exact mtA7 hm | exact ruA1 hr | exact ruA2 hr | exact ruA3 hr) rfl (by first | rfl | assumption | exact mtR0 hm | exact mtR1 hm | exact mtR2 hm | exact mtR3 hm | exact mtR4 hm | exact mtR5 hm | exact mtR6 hm | exact ruR0 hr | exact ruR1 hr | exact ruR3 hr) ?_
        refine pw_iload_n 51 rfl dX12_again_50 rfl ?_
        refine pw_aload_n 52 rfl dX12_again_51 rfl ?_
        refine pw_getR 55 rfl dX12_again_52 fX12_79 (by first | rfl | assumption | exact rowS hh | exact mtS hm | exact ruS hr | exact mtA1 hm | exact mtA2 hm | exact mtA3 hm | exact mtA4 hm | exact mtA5 hm | exact mtA6 hm | exact mtA7 hm | exact ruA1 hr | exact ruA2 hr | exact ruA3 hr) rfl (by first | rfl | assumption | exact mtR0 hm | exact mtR1 hm | exact mtR2 hm | exact mtR3 hm | exact mtR4 hm | exact mtR5 hm | exact mtR6 hm | exact ruR0 hr | exact ruR1 hr | exact ruR3 hr) ?_
        refine pw_bipush (v := nI 32) 57 rfl dX12_again_55 rfl ?_
        refine pw_iload_n 58 rfl dX12_again_57 rfl ?_
        first | refine pw_imulN 59 rfl dX12_again_58 ?_ | refine pw_imul 59 rfl dX12_again_58 ?_
        refine pw_iload_n 60 rfl dX12_again_59 rfl ?_
        first | refine pw_iaddN 61 rfl dX12_again_60 ?_ | refine pw_iadd 61 rfl dX12_again_60 ?_
        refine pw_ialdN 62 rfl dX12_again_61 (by first | rfl | assumption | exact rowS hh | exact mtS hm | exact ruS hr | exact mtA1 hm | exact mtA2 hm | exact mtA3 hm | exact mtA4 hm | exact mtA5 hm | exact mtA6 hm | exact mtA7 hm | exact ruA1 hr | exact ruA2 hr | exact ruA3 hr) (by omega) (by first | decide | omega) ?_
        rotate_left
        rw [e9]
        refine pw_iastN 63 rfl dX12_again_62 (by first | rfl | assumption | exact rowS hh | exact mtS hm | exact ruS hr | exact mtA1 hm | exact mtA2 hm | exact mtA3 hm | exact mtA4 hm | exact mtA5 hm | exact mtA6 hm | exact mtA7 hm | exact ruA1 hr | exact ruA2 hr | exact ruA3 hr) (by omega) (by first | decide | omega) ?_
        refine pw_iincN 66 rfl dX12_again_63 (by decide) rfl ?_
        refine pw_goto (tgt := 40) dX12_again_66 rfl ?_
        rotate_left
        refine ih _ (fun j hj => ?_) (fun a j q1 => by rw [uI_ne (by omega)]; exact g3 a j q1)
        by_cases ej : j = k
        · rw [ej, uI_eq]
        · rw [uI_ne (by omega)]; exact g1 j (by omega)
