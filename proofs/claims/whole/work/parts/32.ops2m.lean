set_option maxRecDepth 100000 in
set_option maxHeartbeats 2000000 in
theorem m_hour {d n g : Nat} {pc b : Nat → Nat} {E : (Nat → Int32) → Nat} {rd rl : Option Nat} {I : pI} {J : pJ} (hC : MC I n pc) (hB : MB I 11 b) (hW : WF n pc b) (hE : MSt 236 rl I E) (hD : MDg g I) (hg : g ≤ 800000000) : PC SM (d + 237) yX12_goHour cX12_goHour 3 none [.ref 0, .ref 11] (I) (J) (RM rd rl) (fun r' I' J' R' => r' = none ∧ MB I' 11 (hr n pc E b) ∧ mFr 11 I I' ∧ MDg (g + 7) I' ∧ J = J' ∧ ∃ rd', R' = RM rd' rl) := by
  obtain ⟨dl, a1, a2⟩ := hD
  refine PC.mono (m_goHour (d := d + 235) (dd := 236) rfl (Or.inr rfl) hC hB hW hE (by omega) a1 (by omega)) (fun r' I' J' R' h => ?_)
  obtain ⟨h1, h2, h3, h4, h5, h6⟩ := h
  refine ⟨h1, h2, h3, ⟨_, h4, ?_⟩, h5, h6⟩
  have := hL_len (sts n pc b E) b n
  have := hC.1
  rw [List.length_append]
  omega
set_option maxRecDepth 100000 in
set_option maxHeartbeats 2000000 in
theorem m_layT {d : Nat} {b : Nat → Nat} {I : pI} {J : pJ} {R : pR} (hB : MB I 1 b) : PC SM (d) yX12_lay cX12_lay 4 none [.ref 1, .ref 11, .int (nI 0)] (I) (J) (R) (fun r' I' J' R' => r' = none ∧ MB I' 11 b ∧ (∀ a j, a ≠ 11 → I' a j = I a j) ∧ J = J' ∧ R' = R) := by
  refine PC.mono (m_lay (d := d) (t := 11) (k := 0) (nt := 32) (Or.inl rfl) rfl (by decide) (by decide) (by decide) hB) (fun r' I' J' R' h => ?_)
  obtain ⟨h1, h2, h3, h4, h5⟩ := h
  exact ⟨h1, fun j hj => by have := h2 j hj; rw [Nat.zero_add] at this; exact this, fun a j q => h3 a j (by omega), h4, h5⟩
/-- frames of walks on 'then' that tell nothing -/
theorem mFr_lay {I I' : pI} (h : ∀ a j, a ≠ 11 → I' a j = I a j) : mFr 11 I I' := fun a j q1 _ _ _ _ => h a j q1
theorem MSt_mFr {I I' : pI} {rl : Option Nat} {E : (Nat → Int32) → Nat} (h : MSt 236 rl I E) (f : mFr 11 I I') : MSt 236 rl I' E := h.fr (f 0 16 (by omega) (by omega) (by omega) (by omega) (by omega)) (fun j => f 6 j (by omega) (by omega) (by omega) (by omega) (by omega)) (fun j => f 7 j (by omega) (by omega) (by omega) (by omega) (by omega))
theorem MN_mFr {I I' : pI} {J : pJ} {rw : List Int64} (h : MN I J rw) (f : mFr 11 I I') : MN I' J rw := MN_f h (f 0 6 (by omega) (by omega) (by omega) (by omega) (by omega))
theorem fstP_0 {P : Nat → Bool} {v : Nat → Nat} : ∀ {k}, cntP P k = 0 → fstP P v k = -2
  | 0, _ => rfl
  | k + 1, h => by
    rw [cntP] at h
    have hp : P k = false := by cases e : P k; rfl; rw [e, if_pos rfl] at h; omega
    rw [hp, if_neg (by decide)] at h
    rw [fstP, hp, if_neg (by decide)]
    exact fstP_0 h
theorem fstP_ne {P : Nat → Bool} {v : Nat → Nat} (hv : ∀ j, j < 1000 → v j < 100000) : ∀ {k}, k ≤ 1000 → cntP P k ≠ 0 → fstP P v k ≠ -2
  | 0, _, h => absurd rfl h
  | k + 1, hk, h => by
    rw [fstP]
    cases e : P k
    · rw [cntP, e, if_neg (by decide)] at h
      rw [if_neg (by decide)]
      exact fstP_ne hv (by omega) h
    · rw [if_pos rfl]
      by_cases h0 : cntP P k = 0
      · rw [if_pos h0]
        have := hv k (by omega)
        exact fun z => nI_pos (show v k < 2 ^ 31 by omega) (by rw [z]; decide)
      · rw [if_neg h0]
        exact fstP_ne hv (by omega) h0
set_option maxRecDepth 100000 in
set_option maxHeartbeats 2000000 in
theorem mo_high {d g : Nat} {s : aSt} {rd : Option Nat} {I : pI} {J : pJ} (hA : MA I J s) (hD : MDg g I) (hg : g ≤ 500000000) (hW : WA s) (w v : Int32) : PC SM (d + 245) yX12_high cX12_high 3 (some .int) [.ref 0, .int w, .int v] (I) (J) (RM rd (some 6)) (moP (g + 10000) (qOp (qHigh w v) s)) := by
  refine PC.of [some (.ref 0), some (.int w), some (.int v)] rfl rfl (Nat.le_of_ble_eq_true rfl) ?_
  obtain ⟨n, pc, b, us, kp, rw, tx, rt, hd, sw⟩ := s
  refine pw_aload_n 1 rfl dX12_high_0 rfl ?_
  refine pw_iconst (v := nI 0) 2 rfl dX12_high_1 rfl ?_
  refine pw_putI 5 rfl dX12_high_2 fX12_88 w12_7 (by first | rfl | assumption | exact rowS hh | exact mtS hm | exact ruS hr | exact mtA1 hm | exact mtA2 hm | exact mtA3 hm | exact mtA4 hm | exact mtA5 hm | exact mtA6 hm | exact mtA7 hm | exact ruA1 hr | exact ruA2 hr | exact ruA3 hr) rfl rfl rfl ?_
  rotate_left
  have hA0 := MA_thr (v := nI 0) hA
  have hD0 : MDg g (uI I 0 7 (nI 0)) := MDg_f hD (uI_ne (by omega)) (fun j => uI_ne (by omega))
  clear hA hD
  generalize uI I 0 7 (nI 0) = I at hA0 hD0 ⊢
  obtain ⟨mC, mB, mT, mN, mR, mU, mK, mH, mG⟩ := id hA0
  obtain ⟨aW, aU, aK⟩ := id hW
  have hE := MSt_A hA0
  have hn7 := mC.1
  have hn := mC.2.1
  rcases qOf_cases hn7 w with ⟨q, hq, rfl, hi, hh⟩ | ⟨hi, hh⟩
  · rcases inOf_cases (lo := 0) (hi := 99) (by decide) v (by decide) with ⟨N, h1, h2, rfl, hj⟩ | ⟨hj, ho⟩
    · refine pw_aload_n 6 rfl dX12_high_5 rfl ?_
      refine pw_iload_n 7 rfl dX12_high_6 rfl ?_
      refine pw_callVP (as := [_]) 10 rfl dX12_high_7 mX12_205 vX12_isOne (m_isOne (d := d + 243) hn hn7 _) (by first | rfl | assumption | exact rowS hh | exact mtS hm | exact ruS hr | exact mtA1 hm | exact mtA2 hm | exact mtA3 hm | exact mtA4 hm | exact mtA5 hm | exact mtA6 hm | exact mtA7 hm | exact ruA1 hr | exact ruA2 hr | exact ruA3 hr) rfl (by decide) ⟨rfl, by decide, by decide, show (parseMethodDescriptor yX12_isOne.desc).map (fun d => d.parameters.length) = some 1 by decide +kernel⟩ (by omega) (by decide) (Nat.le_of_ble_eq_true rfl) rfl ?_
      refine pw_if_eq (tgt := 23) 13 rfl dX12_high_10 rfl (fun h10 => absurd h10 (by rw [hh]; decide)) (fun h10 => ?_)
      refine pw_iload_n 14 rfl dX12_high_13 rfl ?_
      refine pw_iconst (v := nI 0) 15 rfl dX12_high_14 rfl ?_
      refine pw_bipush (v := nI 99) 17 rfl dX12_high_15 rfl ?_
      refine pw_callSP (as := [_, _, _]) 20 rfl dX12_high_17 mX12_98 sX12_in (m_in (d := d) _ _ _) ⟨rfl, by decide, by decide, show (parseMethodDescriptor yX12_in.desc).map (fun d => d.parameters.length) = some 3 by decide +kernel⟩ (by omega) (by decide) (Nat.le_of_ble_eq_true rfl) rfl ?_
      refine pw_if_ne (tgt := 25) 23 rfl dX12_high_20 rfl (fun h20 => ?_) (fun h20 => absurd h20 (by rw [inV_y h1 h2 (by decide)]; decide))
      refine pw_aload_n 26 rfl dX12_high_25 rfl ?_
      refine pw_iload_n 27 rfl dX12_high_26 rfl ?_
      refine pw_callV (as := [_]) 30 rfl dX12_high_27 mX12_276 vX12_goThen (m_goThen (d := d + 5) mC mB aW.1 hE (show N ≤ 100 by omega)) (by first | rfl | assumption | exact rowS hh | exact mtS hm | exact ruS hr | exact mtA1 hm | exact mtA2 hm | exact mtA3 hm | exact mtA4 hm | exact mtA5 hm | exact mtA6 hm | exact mtA7 hm | exact ruA1 hr | exact ruA2 hr | exact ruA3 hr) rfl (by decide) ⟨rfl, by decide, by decide, show (parseMethodDescriptor yX12_goThen.desc).map (fun d => d.parameters.length) = some 1 by decide +kernel⟩ (by omega) (by decide) (Nat.le_of_ble_eq_true rfl) rfl (fun r27 I27 J27 R27 c27 => ?_)
      obtain ⟨rfl, g1, g2, g3, rfl, rd2, rfl⟩ := c27
      refine pw_aload_n 31 rfl dX12_high_30 rfl ?_
      refine pw_iconst (v := nI 0) 32 rfl dX12_high_31 rfl ?_
      refine pw_putI 35 rfl dX12_high_32 fX12_92 w12_6 (by first | rfl | assumption | exact rowS hh | exact mtS hm | exact ruS hr | exact mtA1 hm | exact mtA2 hm | exact mtA3 hm | exact mtA4 hm | exact mtA5 hm | exact mtA6 hm | exact mtA7 hm | exact ruA1 hr | exact ruA2 hr | exact ruA3 hr) rfl rfl rfl ?_
      rotate_left
      refine pw_aload_n 36 rfl dX12_high_35 rfl ?_
      refine pw_aload_n 37 rfl dX12_high_36 rfl ?_
      refine pw_getR 40 rfl dX12_high_37 fX12_42 (by first | rfl | assumption | exact rowS hh | exact mtS hm | exact ruS hr | exact mtA1 hm | exact mtA2 hm | exact mtA3 hm | exact mtA4 hm | exact mtA5 hm | exact mtA6 hm | exact mtA7 hm | exact ruA1 hr | exact ruA2 hr | exact ruA3 hr) rfl (by first | rfl | assumption | exact mtR0 hm | exact mtR1 hm | exact mtR2 hm | exact mtR3 hm | exact mtR4 hm | exact mtR5 hm | exact mtR6 hm | exact ruR0 hr | exact ruR1 hr | exact ruR3 hr) ?_
      refine pw_bipush (v := nI 7) 42 rfl dX12_high_40 rfl ?_
      refine pw_iload_n 43 rfl dX12_high_42 rfl ?_
      first | refine pw_iaddN 44 rfl dX12_high_43 ?_ | refine pw_iadd 44 rfl dX12_high_43 ?_
      refine pw_ialdN 45 rfl dX12_high_44 (by first | rfl | assumption | exact rowS hh | exact mtS hm | exact ruS hr | exact mtA1 hm | exact mtA2 hm | exact mtA3 hm | exact mtA4 hm | exact mtA5 hm | exact mtA6 hm | exact mtA7 hm | exact ruA1 hr | exact ruA2 hr | exact ruA3 hr) (by omega) (by first | decide | omega) ?_
      rotate_left
      rw [uI_ne (by omega), g1 (7 + q) (by omega)]
      refine pw_i2l 46 rfl dX12_high_45 ?_
      refine pw_callV (as := [_]) 49 rfl dX12_high_46 mX12_236 vX12_tell (m_tell (d := d + 244) MN_0 (by decide)) (by first | rfl | assumption | exact rowS hh | exact mtS hm | exact ruS hr | exact mtA1 hm | exact mtA2 hm | exact mtA3 hm | exact mtA4 hm | exact mtA5 hm | exact mtA6 hm | exact mtA7 hm | exact ruA1 hr | exact ruA2 hr | exact ruA3 hr) rfl (by decide) ⟨rfl, by decide, by decide, show (parseMethodDescriptor yX12_tell.desc).map (fun d => d.parameters.length) = some 1 by decide +kernel⟩ (by omega) (by decide) (Nat.le_of_ble_eq_true rfl) rfl (fun r46 I46 J46 R46 c46 => ?_)
      obtain ⟨rfl, t1, t2, rfl⟩ := c46
      refine pw_aload_n 50 rfl dX12_high_49 rfl ?_
      refine pw_aload_n 51 rfl dX12_high_50 rfl ?_
      refine pw_getR 54 rfl dX12_high_51 fX12_42 (by first | rfl | assumption | exact rowS hh | exact mtS hm | exact ruS hr | exact mtA1 hm | exact mtA2 hm | exact mtA3 hm | exact mtA4 hm | exact mtA5 hm | exact mtA6 hm | exact mtA7 hm | exact ruA1 hr | exact ruA2 hr | exact ruA3 hr) rfl (by first | rfl | assumption | exact mtR0 hm | exact mtR1 hm | exact mtR2 hm | exact mtR3 hm | exact mtR4 hm | exact mtR5 hm | exact mtR6 hm | exact ruR0 hr | exact ruR1 hr | exact ruR3 hr) ?_
      refine pw_bipush (v := nI 21) 56 rfl dX12_high_54 rfl ?_
      refine pw_iload_n 57 rfl dX12_high_56 rfl ?_
      first | refine pw_iaddN 58 rfl dX12_high_57 ?_ | refine pw_iadd 58 rfl dX12_high_57 ?_
      refine pw_ialdN 59 rfl dX12_high_58 (by first | rfl | assumption | exact rowS hh | exact mtS hm | exact ruS hr | exact mtA1 hm | exact mtA2 hm | exact mtA3 hm | exact mtA4 hm | exact mtA5 hm | exact mtA6 hm | exact mtA7 hm | exact ruA1 hr | exact ruA2 hr | exact ruA3 hr) (by omega) (by first | decide | omega) ?_
      rotate_left
      have hf1 : ∀ a j, ¬ (a = 0 ∧ j = 6) → I46 a j = I27 a j := fun a j q => by rw [t2 a j q, uI_ne (by omega)]
      rw [hf1 _ _ (by omega), g1 (21 + q) (by omega)]
      refine pw_i2l 60 rfl dX12_high_59 ?_
      refine pw_callV (as := [_]) 63 rfl dX12_high_60 mX12_236 vX12_tell (m_tell (d := d + 244) t1 (by show (1 : Nat) < 12; decide)) (by first | rfl | assumption | exact rowS hh | exact mtS hm | exact ruS hr | exact mtA1 hm | exact mtA2 hm | exact mtA3 hm | exact mtA4 hm | exact mtA5 hm | exact mtA6 hm | exact mtA7 hm | exact ruA1 hr | exact ruA2 hr | exact ruA3 hr) rfl (by decide) ⟨rfl, by decide, by decide, show (parseMethodDescriptor yX12_tell.desc).map (fun d => d.parameters.length) = some 1 by decide +kernel⟩ (by omega) (by decide) (Nat.le_of_ble_eq_true rfl) rfl (fun r60 I60 J60 R60 c60 => ?_)
      obtain ⟨rfl, u1, u2, rfl⟩ := c60
      refine pw_aload_n 64 rfl dX12_high_63 rfl ?_
      refine pw_getR 67 rfl dX12_high_64 fX12_42 (by first | rfl | assumption | exact rowS hh | exact mtS hm | exact ruS hr | exact mtA1 hm | exact mtA2 hm | exact mtA3 hm | exact mtA4 hm | exact mtA5 hm | exact mtA6 hm | exact mtA7 hm | exact ruA1 hr | exact ruA2 hr | exact ruA3 hr) rfl (by first | rfl | assumption | exact mtR0 hm | exact mtR1 hm | exact mtR2 hm | exact mtR3 hm | exact mtR4 hm | exact mtR5 hm | exact mtR6 hm | exact ruR0 hr | exact ruR1 hr | exact ruR3 hr) ?_
      refine pw_iload_n 68 rfl dX12_high_67 rfl ?_
      refine pw_ialdN 69 rfl dX12_high_68 (by first | rfl | assumption | exact rowS hh | exact mtS hm | exact ruS hr | exact mtA1 hm | exact mtA2 hm | exact mtA3 hm | exact mtA4 hm | exact mtA5 hm | exact mtA6 hm | exact mtA7 hm | exact ruA1 hr | exact ruA2 hr | exact ruA3 hr) (by omega) (by first | decide | omega) ?_
      rotate_left
      have hf2 : ∀ a j, ¬ (a = 0 ∧ j = 6) → I60 a j = I27 a j := fun a j q => by rw [u2 a j q, hf1 a j q]
      rw [hf2 _ _ (by omega), g1 q (by omega)]
      refine pw_iret dX12_high_69 rfl ?_
      rotate_left
      refine moQ (by unfold qHigh; rw [hi, hj]; rfl) rfl (MA_rw hA0 (fun a j q => by rw [hf2 a j (by omega)]; exact fMs_mFr g2 a j q) u1) ⟨_, ⟨by rw [hf2 _ _ (by omega)]; exact g3.1, g3.2.1, fun j x hj hx => by rw [hf2 _ _ (by omega)]; exact g3.2.2 j x hj hx⟩, ?_⟩ ⟨rd2, rfl⟩
      have := dlA_le hn7 pc (ruE rt) b (show N ≤ 100 by omega)
      omega
    · refine pw_aload_n 6 rfl dX12_high_5 rfl ?_
      refine pw_iload_n 7 rfl dX12_high_6 rfl ?_
      refine pw_callVP (as := [_]) 10 rfl dX12_high_7 mX12_205 vX12_isOne (m_isOne (d := d + 243) hn hn7 _) (by first | rfl | assumption | exact rowS hh | exact mtS hm | exact ruS hr | exact mtA1 hm | exact mtA2 hm | exact mtA3 hm | exact mtA4 hm | exact mtA5 hm | exact mtA6 hm | exact mtA7 hm | exact ruA1 hr | exact ruA2 hr | exact ruA3 hr) rfl (by decide) ⟨rfl, by decide, by decide, show (parseMethodDescriptor yX12_isOne.desc).map (fun d => d.parameters.length) = some 1 by decide +kernel⟩ (by omega) (by decide) (Nat.le_of_ble_eq_true rfl) rfl ?_
      refine pw_if_eq (tgt := 23) 13 rfl dX12_high_10 rfl (fun h10 => absurd h10 (by rw [hh]; decide)) (fun h10 => ?_)
      refine pw_iload_n 14 rfl dX12_high_13 rfl ?_
      refine pw_iconst (v := nI 0) 15 rfl dX12_high_14 rfl ?_
      refine pw_bipush (v := nI 99) 17 rfl dX12_high_15 rfl ?_
      refine pw_callSP (as := [_, _, _]) 20 rfl dX12_high_17 mX12_98 sX12_in (m_in (d := d) _ _ _) ⟨rfl, by decide, by decide, show (parseMethodDescriptor yX12_in.desc).map (fun d => d.parameters.length) = some 3 by decide +kernel⟩ (by omega) (by decide) (Nat.le_of_ble_eq_true rfl) rfl ?_
      refine pw_if_ne (tgt := 25) 23 rfl dX12_high_20 rfl (fun h20 => absurd (by rw [inV_n ho]; rfl) h20) (fun h20 => ?_)
      refine pw_iconst (v := -1) 24 rfl dX12_high_23 rfl ?_
      refine pw_iret dX12_high_24 rfl ?_
      rotate_left
      exact moQ (by unfold qHigh; rw [hi, hj]; rfl) rfl hA0 (hD0.mono (by omega)) ⟨rd, rfl⟩
  · refine pw_aload_n 6 rfl dX12_high_5 rfl ?_
    refine pw_iload_n 7 rfl dX12_high_6 rfl ?_
    refine pw_callVP (as := [_]) 10 rfl dX12_high_7 mX12_205 vX12_isOne (m_isOne (d := d + 243) hn hn7 _) (by first | rfl | assumption | exact rowS hh | exact mtS hm | exact ruS hr | exact mtA1 hm | exact mtA2 hm | exact mtA3 hm | exact mtA4 hm | exact mtA5 hm | exact mtA6 hm | exact mtA7 hm | exact ruA1 hr | exact ruA2 hr | exact ruA3 hr) rfl (by decide) ⟨rfl, by decide, by decide, show (parseMethodDescriptor yX12_isOne.desc).map (fun d => d.parameters.length) = some 1 by decide +kernel⟩ (by omega) (by decide) (Nat.le_of_ble_eq_true rfl) rfl ?_
    refine pw_if_eq (tgt := 23) 13 rfl dX12_high_10 rfl (fun h10 => ?_) (fun h10 => absurd (by rw [hh]; rfl) h10)
    refine pw_iconst (v := -1) 24 rfl dX12_high_23 rfl ?_
    refine pw_iret dX12_high_24 rfl ?_
    rotate_left
    exact moQ (by unfold qHigh; rw [hi]; rfl) rfl hA0 (hD0.mono (by omega)) ⟨rd, rfl⟩
set_option maxRecDepth 100000 in
set_option maxHeartbeats 2000000 in
theorem mo_when {d g : Nat} {s : aSt} {rd : Option Nat} {I : pI} {J : pJ} (hA : MA I J s) (hD : MDg g I) (hg : g ≤ 500000000) (hW : WA s) (w : Int32) : PC SM (d + 245) yX12_when cX12_when 5 (some .int) [.ref 0, .int w] (I) (J) (RM rd (some 6)) (moP (g + 10000) (qOp (qWhen w) s)) := by
  refine PC.of [some (.ref 0), some (.int w), none, none, none] rfl rfl (Nat.le_of_ble_eq_true rfl) ?_
  obtain ⟨n, pc, b, us, kp, rw, tx, rt, hd, sw⟩ := s
  refine pw_aload_n 1 rfl dX12_when_0 rfl ?_
  refine pw_iconst (v := nI 0) 2 rfl dX12_when_1 rfl ?_
  refine pw_putI 5 rfl dX12_when_2 fX12_88 w12_7 (by first | rfl | assumption | exact rowS hh | exact mtS hm | exact ruS hr | exact mtA1 hm | exact mtA2 hm | exact mtA3 hm | exact mtA4 hm | exact mtA5 hm | exact mtA6 hm | exact mtA7 hm | exact ruA1 hr | exact ruA2 hr | exact ruA3 hr) rfl rfl rfl ?_
  rotate_left
  have hA0 := MA_thr (v := nI 0) hA
  have hD0 : MDg g (uI I 0 7 (nI 0)) := MDg_f hD (uI_ne (by omega)) (fun j => uI_ne (by omega))
  clear hA hD
  generalize uI I 0 7 (nI 0) = I at hA0 hD0 ⊢
  obtain ⟨mC, mB, mT, mN, mR, mU, mK, mH, mG⟩ := id hA0
  obtain ⟨aW, aU, aK⟩ := id hW
  have hE := MSt_A hA0
  have hn7 := mC.1
  have hn := mC.2.1
  rcases qOf_cases hn7 w with ⟨q, hq, rfl, hi, hh⟩ | ⟨hi, hh⟩
  · have eq : qWhen (nI q) n pc b (ruE rt) rw hd sw = (fstP (fun k => decide (hrs n pc (ruE rt) k b 29 = q)) id 100, if cntP (fun k => decide (hrs n pc (ruE rt) k b 29 = q)) 100 = 0 then rw else [lI (cntP (fun k => decide (hrs n pc (ruE rt) k b 29 = q)) 100)]) := by unfold qWhen; rw [hi]; rfl
    refine pw_aload_n 6 rfl dX12_when_5 rfl ?_
    refine pw_iload_n 7 rfl dX12_when_6 rfl ?_
    refine pw_callVP (as := [_]) 10 rfl dX12_when_7 mX12_205 vX12_isOne (m_isOne (d := d + 243) hn hn7 _) (by first | rfl | assumption | exact rowS hh | exact mtS hm | exact ruS hr | exact mtA1 hm | exact mtA2 hm | exact mtA3 hm | exact mtA4 hm | exact mtA5 hm | exact mtA6 hm | exact mtA7 hm | exact ruA1 hr | exact ruA2 hr | exact ruA3 hr) rfl (by decide) ⟨rfl, by decide, by decide, show (parseMethodDescriptor yX12_isOne.desc).map (fun d => d.parameters.length) = some 1 by decide +kernel⟩ (by omega) (by decide) (Nat.le_of_ble_eq_true rfl) rfl ?_
    refine pw_if_ne (tgt := 15) 13 rfl dX12_when_10 rfl (fun h10 => ?_) (fun h10 => absurd h10 (by rw [hh]; decide))
    refine pw_aload_n 16 rfl dX12_when_15 rfl ?_
    refine pw_getR 19 rfl dX12_when_16 fX12_9 (by first | rfl | assumption | exact rowS hh | exact mtS hm | exact ruS hr | exact mtA1 hm | exact mtA2 hm | exact mtA3 hm | exact mtA4 hm | exact mtA5 hm | exact mtA6 hm | exact mtA7 hm | exact ruA1 hr | exact ruA2 hr | exact ruA3 hr) rfl (by first | rfl | assumption | exact mtR0 hm | exact mtR1 hm | exact mtR2 hm | exact mtR3 hm | exact mtR4 hm | exact mtR5 hm | exact mtR6 hm | exact ruR0 hr | exact ruR1 hr | exact ruR3 hr) ?_
    refine pw_aload_n 20 rfl dX12_when_19 rfl ?_
    refine pw_getR 23 rfl dX12_when_20 fX12_42 (by first | rfl | assumption | exact rowS hh | exact mtS hm | exact ruS hr | exact mtA1 hm | exact mtA2 hm | exact mtA3 hm | exact mtA4 hm | exact mtA5 hm | exact mtA6 hm | exact mtA7 hm | exact ruA1 hr | exact ruA2 hr | exact ruA3 hr) rfl (by first | rfl | assumption | exact mtR0 hm | exact mtR1 hm | exact mtR2 hm | exact mtR3 hm | exact mtR4 hm | exact mtR5 hm | exact mtR6 hm | exact ruR0 hr | exact ruR1 hr | exact ruR3 hr) ?_
    refine pw_iconst (v := nI 0) 24 rfl dX12_when_23 rfl ?_
    refine pw_callS (as := [_, _, _]) 27 rfl dX12_when_24 mX12_219 sX12_lay (m_layT (d := d + 244) mB) ⟨rfl, by decide, by decide, show (parseMethodDescriptor yX12_lay.desc).map (fun d => d.parameters.length) = some 3 by decide +kernel⟩ (by omega) (by decide) (Nat.le_of_ble_eq_true rfl) rfl (fun r24 I24 J24 R24 c24 => ?_)
    obtain ⟨rfl, k1, k2, rfl, rfl⟩ := c24
    rotate_left
    refine pw_bipush (v := -2) 29 rfl dX12_when_27 rfl ?_
    refine pw_istore_n 30 rfl dX12_when_29 (by decide) ?_
    refine pw_iconst (v := nI 0) 31 rfl dX12_when_30 rfl ?_
    refine pw_istore_n 32 rfl dX12_when_31 (by decide) ?_
    refine pw_iconst (v := nI 0) 33 rfl dX12_when_32 rfl ?_
    refine pw_istore 35 rfl dX12_when_33 (by decide) ?_
    rotate_left
    generalize hP : (fun k => decide (hrs n pc (ruE rt) k b 29 = q)) = P at eq
    have hPk : ∀ k, P k = decide (hrs n pc (ruE rt) k b 29 = q) := fun k => by rw [← hP]
    have L := nat_loop 100 (fun t => ∀ (I' : pI) (rd' : Option Nat), MB I' 11 (hrs n pc (ruE rt) t b) → mFr 11 I I' → MDg (g + 7 * t) I' → PW SM yX12_when.cls cX12_when 5 (d + 245) 35 [some (.ref 0), some (.int (nI q)), some (.int (fstP P id t)), some (.int (nI (cntP P t))), some (.int (nI t))] [] I' J (RM rd' (some 6)) (rX cX12_when (some .int) (moP (g + 10000) (qOp (qWhen (nI q)) (n, pc, b, us, kp, rw, tx, rt, hd, sw))))) ?_ ?_
    · exact L _ rd k1 (mFr_lay k2) (MDg_f hD0 (k2 _ _ (by decide)) (fun j => k2 _ _ (by decide)))
    · intro I' rd' m1 m2 m3
      have hcl := cntP_le P 100
      by_cases h0 : cntP P 100 = 0
      · rw [if_pos h0] at eq
        refine pw_iload 37 rfl dX12_when_35 rfl ?_
        refine pw_bipush (v := nI 99) 39 rfl dX12_when_37 rfl ?_
        refine pw_icmp_gt (tgt := 83) 42 rfl dX12_when_39 rfl (fun h39 => ?_) (fun h39 => absurd (by (simp (disch := omega) only [nI_leI, nI_ltI, nI_eq, show (0 : Int32) = nI 0 from rfl, not_true_eq_false, not_false_eq_true] <;> omega)) h39)
        refine pw_iload_n 84 rfl dX12_when_83 rfl ?_
        refine pw_bipush (v := -2) 86 rfl dX12_when_84 rfl ?_
        refine pw_icmp_ne (tgt := 92) 89 rfl dX12_when_86 rfl (fun h86 => absurd (fstP_0 h0) h86) (fun h86 => ?_)
        refine pw_bipush (v := -2) 91 rfl dX12_when_89 rfl ?_
        refine pw_iret dX12_when_91 rfl ?_
        rotate_left
        exact moQ eq (by rw [fstP_0 h0]) (MA_rw hA0 (fMs_mFr m2) (MN_mFr mN m2)) (m3.mono (by omega)) ⟨rd', rfl⟩
      · rw [if_neg h0] at eq
        refine pw_iload 37 rfl dX12_when_35 rfl ?_
        refine pw_bipush (v := nI 99) 39 rfl dX12_when_37 rfl ?_
        refine pw_icmp_gt (tgt := 83) 42 rfl dX12_when_39 rfl (fun h39 => ?_) (fun h39 => absurd (by (simp (disch := omega) only [nI_leI, nI_ltI, nI_eq, show (0 : Int32) = nI 0 from rfl, not_true_eq_false, not_false_eq_true] <;> omega)) h39)
        refine pw_iload_n 84 rfl dX12_when_83 rfl ?_
        refine pw_bipush (v := -2) 86 rfl dX12_when_84 rfl ?_
        refine pw_icmp_ne (tgt := 92) 89 rfl dX12_when_86 rfl (fun h86 => ?_) (fun h86 => absurd h86 (fstP_ne (fun j hj => by show j < _; omega) (by decide) h0))
        refine pw_aload_n 93 rfl dX12_when_92 rfl ?_
        refine pw_iconst (v := nI 0) 94 rfl dX12_when_93 rfl ?_
        refine pw_putI 97 rfl dX12_when_94 fX12_92 w12_6 (by first | rfl | assumption | exact rowS hh | exact mtS hm | exact ruS hr | exact mtA1 hm | exact mtA2 hm | exact mtA3 hm | exact mtA4 hm | exact mtA5 hm | exact mtA6 hm | exact mtA7 hm | exact ruA1 hr | exact ruA2 hr | exact ruA3 hr) rfl rfl rfl ?_
        rotate_left
        refine pw_aload_n 98 rfl dX12_when_97 rfl ?_
        refine pw_iload_n 99 rfl dX12_when_98 rfl ?_
        refine pw_i2l 100 rfl dX12_when_99 ?_
        refine pw_callV (as := [_]) 103 rfl dX12_when_100 mX12_236 vX12_tell (m_tell (d := d + 244) MN_0 (by decide)) (by first | rfl | assumption | exact rowS hh | exact mtS hm | exact ruS hr | exact mtA1 hm | exact mtA2 hm | exact mtA3 hm | exact mtA4 hm | exact mtA5 hm | exact mtA6 hm | exact mtA7 hm | exact ruA1 hr | exact ruA2 hr | exact ruA3 hr) rfl (by decide) ⟨rfl, by decide, by decide, show (parseMethodDescriptor yX12_tell.desc).map (fun d => d.parameters.length) = some 1 by decide +kernel⟩ (by omega) (by decide) (Nat.le_of_ble_eq_true rfl) rfl (fun r100 I100 J100 R100 c100 => ?_)
        obtain ⟨rfl, t1, t2, rfl⟩ := c100
        rotate_left
        have hf1 : ∀ a j, ¬ (a = 0 ∧ j = 6) → I100 a j = I' a j := fun a j q => by rw [t2 a j q, uI_ne (by omega)]
        refine pw_iload_n 104 rfl dX12_when_103 rfl ?_
        refine pw_iret dX12_when_104 rfl ?_
        rotate_left
        exact moQ eq rfl (MA_rw hA0 (fun a j q => by rw [hf1 a j (by omega)]; exact fMs_mFr m2 a j q) t1) ((MDg_f m3 (hf1 _ _ (by omega)) (fun j => hf1 _ _ (by omega))).mono (by omega)) ⟨rd', rfl⟩
    · intro t ht ih I' rd' m1 m2 m3
      have hcl := cntP_le P t
      have hWt := WF_hrs (ruE rt) aW.1 t
      have tail : ∀ (v c : Int32), v = fstP P id (t + 1) → c = nI (cntP P (t + 1)) → PW SM yX12_when.cls cX12_when 5 (d + 245) 69 [some (.ref 0), some (.int (nI q)), some (.int v), some (.int c), some (.int (nI t))] [] I' J (RM rd' (some 6)) (rX cX12_when (some .int) (moP (g + 10000) (qOp (qWhen (nI q)) (n, pc, b, us, kp, rw, tx, rt, hd, sw)))) := by
        intro v c hv hc
        subst hv hc
        refine pw_aload_n 70 rfl dX12_when_69 rfl ?_
        refine pw_aload_n 71 rfl dX12_when_70 rfl ?_
        refine pw_getR 74 rfl dX12_when_71 fX12_42 (by first | rfl | assumption | exact rowS hh | exact mtS hm | exact ruS hr | exact mtA1 hm | exact mtA2 hm | exact mtA3 hm | exact mtA4 hm | exact mtA5 hm | exact mtA6 hm | exact mtA7 hm | exact ruA1 hr | exact ruA2 hr | exact ruA3 hr) rfl (by first | rfl | assumption | exact mtR0 hm | exact mtR1 hm | exact mtR2 hm | exact mtR3 hm | exact mtR4 hm | exact mtR5 hm | exact mtR6 hm | exact ruR0 hr | exact ruR1 hr | exact ruR3 hr) ?_
        refine pw_callV (as := [_]) 77 rfl dX12_when_74 mX12_230 vX12_goHour (m_hour (d := d + 7) (mC.fr m2 (Or.inr rfl)) m1 hWt (MSt_mFr hE m2) m3 (by omega)) (by first | rfl | assumption | exact rowS hh | exact mtS hm | exact ruS hr | exact mtA1 hm | exact mtA2 hm | exact mtA3 hm | exact mtA4 hm | exact mtA5 hm | exact mtA6 hm | exact mtA7 hm | exact ruA1 hr | exact ruA2 hr | exact ruA3 hr) rfl (by decide) ⟨rfl, by decide, by decide, show (parseMethodDescriptor yX12_goHour.desc).map (fun d => d.parameters.length) = some 1 by decide +kernel⟩ (by omega) (by decide) (Nat.le_of_ble_eq_true rfl) rfl (fun r74 I74 J74 R74 c74 => ?_)
        obtain ⟨rfl, p1, p2, p3, rfl, rd2, rfl⟩ := c74
        rotate_left
        refine pw_iincN 80 rfl dX12_when_77 (by decide) rfl ?_
        refine pw_goto (tgt := 35) dX12_when_80 rfl ?_
        rotate_left
        exact ih I74 rd2 p1 (m2.trans p2) (p3.mono (by omega))
      have eO : I' 11 29 = nI (hrs n pc (ruE rt) t b 29) := m1 29 (by omega)
      have hO := hWt.2.2.1
      by_cases hp : hrs n pc (ruE rt) t b 29 = q
      · have hpt : P t = true := by rw [hPk]; exact decide_eq_true hp
        by_cases h0 : cntP P t = 0
        · refine pw_iload 37 rfl dX12_when_35 rfl ?_
          refine pw_bipush (v := nI 99) 39 rfl dX12_when_37 rfl ?_
          refine pw_icmp_gt (tgt := 83) 42 rfl dX12_when_39 rfl (fun h39 => absurd h39 (by (simp (disch := omega) only [nI_leI, nI_ltI, nI_eq, show (0 : Int32) = nI 0 from rfl, not_true_eq_false, not_false_eq_true] <;> omega))) (fun h39 => ?_)
          refine pw_aload_n 43 rfl dX12_when_42 rfl ?_
          refine pw_getR 46 rfl dX12_when_43 fX12_42 (by first | rfl | assumption | exact rowS hh | exact mtS hm | exact ruS hr | exact mtA1 hm | exact mtA2 hm | exact mtA3 hm | exact mtA4 hm | exact mtA5 hm | exact mtA6 hm | exact mtA7 hm | exact ruA1 hr | exact ruA2 hr | exact ruA3 hr) rfl (by first | rfl | assumption | exact mtR0 hm | exact mtR1 hm | exact mtR2 hm | exact mtR3 hm | exact mtR4 hm | exact mtR5 hm | exact mtR6 hm | exact ruR0 hr | exact ruR1 hr | exact ruR3 hr) ?_
          refine pw_bipush (v := nI 29) 48 rfl dX12_when_46 rfl ?_
          refine pw_ialdN 49 rfl dX12_when_48 (by first | rfl | assumption | exact rowS hh | exact mtS hm | exact ruS hr | exact mtA1 hm | exact mtA2 hm | exact mtA3 hm | exact mtA4 hm | exact mtA5 hm | exact mtA6 hm | exact mtA7 hm | exact ruA1 hr | exact ruA2 hr | exact ruA3 hr) (by omega) (by first | decide | omega) ?_
          refine pw_iload_n 50 rfl dX12_when_49 rfl ?_
          refine pw_icmp_ne (tgt := 69) 53 rfl dX12_when_50 rfl (fun h50 => absurd (by rw [eO, hp]) h50) (fun h50 => ?_)
          refine pw_iload_n 54 rfl dX12_when_53 rfl ?_
          refine pw_bipush (v := -2) 56 rfl dX12_when_54 rfl ?_
          refine pw_icmp_ne (tgt := 64) 59 rfl dX12_when_56 rfl (fun h56 => absurd (fstP_0 h0) h56) (fun h56 => ?_)
          refine pw_iload 61 rfl dX12_when_59 rfl ?_
          refine pw_goto (tgt := 65) dX12_when_61 rfl ?_
          refine pw_istore_n 66 rfl dX12_when_65 (by decide) ?_
          refine pw_iincN 69 rfl dX12_when_66 (by decide) rfl ?_
          rotate_left
          exact tail _ _ (by rw [fstP_y hpt, if_pos h0]; rfl) (by rw [cntP_y hpt])
        · refine pw_iload 37 rfl dX12_when_35 rfl ?_
          refine pw_bipush (v := nI 99) 39 rfl dX12_when_37 rfl ?_
          refine pw_icmp_gt (tgt := 83) 42 rfl dX12_when_39 rfl (fun h39 => absurd h39 (by (simp (disch := omega) only [nI_leI, nI_ltI, nI_eq, show (0 : Int32) = nI 0 from rfl, not_true_eq_false, not_false_eq_true] <;> omega))) (fun h39 => ?_)
          refine pw_aload_n 43 rfl dX12_when_42 rfl ?_
          refine pw_getR 46 rfl dX12_when_43 fX12_42 (by first | rfl | assumption | exact rowS hh | exact mtS hm | exact ruS hr | exact mtA1 hm | exact mtA2 hm | exact mtA3 hm | exact mtA4 hm | exact mtA5 hm | exact mtA6 hm | exact mtA7 hm | exact ruA1 hr | exact ruA2 hr | exact ruA3 hr) rfl (by first | rfl | assumption | exact mtR0 hm | exact mtR1 hm | exact mtR2 hm | exact mtR3 hm | exact mtR4 hm | exact mtR5 hm | exact mtR6 hm | exact ruR0 hr | exact ruR1 hr | exact ruR3 hr) ?_
          refine pw_bipush (v := nI 29) 48 rfl dX12_when_46 rfl ?_
          refine pw_ialdN 49 rfl dX12_when_48 (by first | rfl | assumption | exact rowS hh | exact mtS hm | exact ruS hr | exact mtA1 hm | exact mtA2 hm | exact mtA3 hm | exact mtA4 hm | exact mtA5 hm | exact mtA6 hm | exact mtA7 hm | exact ruA1 hr | exact ruA2 hr | exact ruA3 hr) (by omega) (by first | decide | omega) ?_
          refine pw_iload_n 50 rfl dX12_when_49 rfl ?_
          refine pw_icmp_ne (tgt := 69) 53 rfl dX12_when_50 rfl (fun h50 => absurd (by rw [eO, hp]) h50) (fun h50 => ?_)
          refine pw_iload_n 54 rfl dX12_when_53 rfl ?_
          refine pw_bipush (v := -2) 56 rfl dX12_when_54 rfl ?_
          refine pw_icmp_ne (tgt := 64) 59 rfl dX12_when_56 rfl (fun h56 => ?_) (fun h56 => absurd h56 (fstP_ne (fun j hj => by show j < _; omega) (by omega) h0))
          refine pw_iload_n 65 rfl dX12_when_64 rfl ?_
          refine pw_istore_n 66 rfl dX12_when_65 (by decide) ?_
          refine pw_iincN 69 rfl dX12_when_66 (by decide) rfl ?_
          rotate_left
          exact tail _ _ (by rw [fstP_y hpt, if_neg h0]) (by rw [cntP_y hpt])
      · have hpt : P t = false := by rw [hPk]; exact decide_eq_false hp
        refine pw_iload 37 rfl dX12_when_35 rfl ?_
        refine pw_bipush (v := nI 99) 39 rfl dX12_when_37 rfl ?_
        refine pw_icmp_gt (tgt := 83) 42 rfl dX12_when_39 rfl (fun h39 => absurd h39 (by (simp (disch := omega) only [nI_leI, nI_ltI, nI_eq, show (0 : Int32) = nI 0 from rfl, not_true_eq_false, not_false_eq_true] <;> omega))) (fun h39 => ?_)
        refine pw_aload_n 43 rfl dX12_when_42 rfl ?_
        refine pw_getR 46 rfl dX12_when_43 fX12_42 (by first | rfl | assumption | exact rowS hh | exact mtS hm | exact ruS hr | exact mtA1 hm | exact mtA2 hm | exact mtA3 hm | exact mtA4 hm | exact mtA5 hm | exact mtA6 hm | exact mtA7 hm | exact ruA1 hr | exact ruA2 hr | exact ruA3 hr) rfl (by first | rfl | assumption | exact mtR0 hm | exact mtR1 hm | exact mtR2 hm | exact mtR3 hm | exact mtR4 hm | exact mtR5 hm | exact mtR6 hm | exact ruR0 hr | exact ruR1 hr | exact ruR3 hr) ?_
        refine pw_bipush (v := nI 29) 48 rfl dX12_when_46 rfl ?_
        refine pw_ialdN 49 rfl dX12_when_48 (by first | rfl | assumption | exact rowS hh | exact mtS hm | exact ruS hr | exact mtA1 hm | exact mtA2 hm | exact mtA3 hm | exact mtA4 hm | exact mtA5 hm | exact mtA6 hm | exact mtA7 hm | exact ruA1 hr | exact ruA2 hr | exact ruA3 hr) (by omega) (by first | decide | omega) ?_
        refine pw_iload_n 50 rfl dX12_when_49 rfl ?_
        refine pw_icmp_ne (tgt := 69) 53 rfl dX12_when_50 rfl (fun h50 => ?_) (fun h50 => absurd h50 (by rw [eO, nI_eq (by omega) (by omega)]; exact hp))
        rotate_left
        exact tail _ _ (by rw [fstP_n hpt]) (by rw [cntP_n hpt])
  · refine pw_aload_n 6 rfl dX12_when_5 rfl ?_
    refine pw_iload_n 7 rfl dX12_when_6 rfl ?_
    refine pw_callVP (as := [_]) 10 rfl dX12_when_7 mX12_205 vX12_isOne (m_isOne (d := d + 243) hn hn7 _) (by first | rfl | assumption | exact rowS hh | exact mtS hm | exact ruS hr | exact mtA1 hm | exact mtA2 hm | exact mtA3 hm | exact mtA4 hm | exact mtA5 hm | exact mtA6 hm | exact mtA7 hm | exact ruA1 hr | exact ruA2 hr | exact ruA3 hr) rfl (by decide) ⟨rfl, by decide, by decide, show (parseMethodDescriptor yX12_isOne.desc).map (fun d => d.parameters.length) = some 1 by decide +kernel⟩ (by omega) (by decide) (Nat.le_of_ble_eq_true rfl) rfl ?_
    refine pw_if_ne (tgt := 15) 13 rfl dX12_when_10 rfl (fun h10 => absurd (by rw [hh]; rfl) h10) (fun h10 => ?_)
    refine pw_iconst (v := -1) 14 rfl dX12_when_13 rfl ?_
    refine pw_iret dX12_when_14 rfl ?_
    rotate_left
    exact moQ (by unfold qWhen; rw [hi]; rfl) rfl hA0 (hD0.mono (by omega)) ⟨rd, rfl⟩
