/-! the reference: climbers told -/
set_option maxRecDepth 100000 in
set_option maxHeartbeats 2000000 in
theorem m_oneOfY {d hr nn L T c f m : Nat} {cs r : List Nat} {rl : Option Nat} {I : pI} {J : pJ} (hP : MP I hr nn L T cs (c :: r)) (hf : I 0 12 = -1) (h1 : f ≤ c) (h2 : c < f + m) (h3 : f + m ≤ 128) : PC SM (d + 1) yX12_oneOf cX12_oneOf 3 (some .int) [.ref 0, .int (nI f), .int (nI m)] (I) (J) (RM (some hr) rl) (fun r' I' J' R' => r' = some (.int (nI (c - f))) ∧ I' = mAt I (cs.length - r.length) ∧ J = J' ∧ R' = RM (some hr) rl) := by
  refine PC.of [some (.ref 0), some (.int (nI f)), some (.int (nI m))] rfl rfl (Nat.le_of_ble_eq_true rfl) ?_
  obtain ⟨s0, s1, s2, s3, s4, s5, s6, s7, s8, s9, s10⟩ := id hP
  have hl := sfx_le s8
  have hg := s9 _ c (sfx_at s8)
  have hk : cs.length - (c :: r).length < min L T := by rw [← s4]; rw [List.length_cons] at hl ⊢; omega
  have k1 : cs.length - (c :: r).length < L := Nat.lt_of_lt_of_le hk (Nat.min_le_left _ _)
  refine pw_aload_n 1 rfl dX12_oneOf_0 rfl ?_
  refine pw_callVP (as := []) 4 rfl dX12_oneOf_1 mX12_124 vX12_fine (m_fine (d := d) hf) (by first | rfl | assumption | exact rowS hh | exact mtS hm | exact ruS hr | exact mtA1 hm | exact mtA2 hm | exact mtA3 hm | exact mtA4 hm | exact mtA5 hm | exact mtA6 hm | exact mtA7 hm | exact ruA1 hr | exact ruA2 hr | exact ruA3 hr) rfl (by decide) ⟨rfl, by decide, by decide, show (parseMethodDescriptor yX12_fine.desc).map (fun d => d.parameters.length) = some 0 by decide +kernel⟩ (by omega) (by decide) (Nat.le_of_ble_eq_true rfl) rfl ?_
  refine pw_if_ne (tgt := 9) 7 rfl dX12_oneOf_4 rfl (fun h4 => ?_) (fun h4 => absurd h4 (by rw [if_pos rfl]; decide))
  refine pw_aload_n 10 rfl dX12_oneOf_9 rfl ?_
  refine pw_callVP (as := []) 13 rfl dX12_oneOf_10 mX12_128 vX12_here (m_here (d := d) hP) (by first | rfl | assumption | exact rowS hh | exact mtS hm | exact ruS hr | exact mtA1 hm | exact mtA2 hm | exact mtA3 hm | exact mtA4 hm | exact mtA5 hm | exact mtA6 hm | exact mtA7 hm | exact ruA1 hr | exact ruA2 hr | exact ruA3 hr) rfl (by decide) ⟨rfl, by decide, by decide, show (parseMethodDescriptor yX12_here.desc).map (fun d => d.parameters.length) = some 0 by decide +kernel⟩ (by omega) (by decide) (Nat.le_of_ble_eq_true rfl) rfl ?_
  rotate_left
  refine pw_iload_n 14 rfl dX12_oneOf_13 rfl ?_
  refine pw_iload_n 15 rfl dX12_oneOf_14 rfl ?_
  refine pw_iload_n 16 rfl dX12_oneOf_15 rfl ?_
  first | refine pw_iaddN 17 rfl dX12_oneOf_16 ?_ | refine pw_iadd 17 rfl dX12_oneOf_16 ?_
  refine pw_iconst (v := nI 1) 18 rfl dX12_oneOf_17 rfl ?_
  refine pw_isubN 19 rfl dX12_oneOf_18 (by omega) ?_
  refine pw_callSP (as := [_, _, _]) 22 rfl dX12_oneOf_19 mX12_98 sX12_in (m_in (d := d) _ _ _) ⟨rfl, by decide, by decide, show (parseMethodDescriptor yX12_in.desc).map (fun d => d.parameters.length) = some 3 by decide +kernel⟩ (by omega) (by decide) (Nat.le_of_ble_eq_true rfl) rfl ?_
  refine pw_if_ne (tgt := 35) 25 rfl dX12_oneOf_22 rfl (fun h22 => ?_) (fun h22 => absurd h22 (by show ¬ inV (nI c) (nI f) (nI (f + m - 1)) = 0; rw [inV_y h1 (by omega) (by omega)]; decide))
  refine pw_aload_n 36 rfl dX12_oneOf_35 rfl ?_
  refine pw_dup 37 rfl dX12_oneOf_36 rfl ?_
  refine pw_getI 40 rfl dX12_oneOf_37 fX12_114 (by first | rfl | assumption | exact rowS hh | exact mtS hm | exact ruS hr | exact mtA1 hm | exact mtA2 hm | exact mtA3 hm | exact mtA4 hm | exact mtA5 hm | exact mtA6 hm | exact mtA7 hm | exact ruA1 hr | exact ruA2 hr | exact ruA3 hr) rfl ?_
  rotate_left
  rw [s7]
  have e1 : cs.length - (c :: r).length + 1 = cs.length - r.length := by rw [List.length_cons] at hl ⊢; omega
  refine pw_iconst (v := nI 1) 41 rfl dX12_oneOf_40 rfl ?_
  first | refine pw_iaddN 42 rfl dX12_oneOf_41 ?_ | refine pw_iadd 42 rfl dX12_oneOf_41 ?_
  refine pw_putI 45 rfl dX12_oneOf_42 fX12_114 w12_11 (by first | rfl | assumption | exact rowS hh | exact mtS hm | exact ruS hr | exact mtA1 hm | exact mtA2 hm | exact mtA3 hm | exact mtA4 hm | exact mtA5 hm | exact mtA6 hm | exact mtA7 hm | exact ruA1 hr | exact ruA2 hr | exact ruA3 hr) rfl rfl rfl ?_
  refine pw_aload_n 46 rfl dX12_oneOf_45 rfl ?_
  refine pw_getR 49 rfl dX12_oneOf_46 fX12_105 (by first | rfl | assumption | exact rowS hh | exact mtS hm | exact ruS hr | exact mtA1 hm | exact mtA2 hm | exact mtA3 hm | exact mtA4 hm | exact mtA5 hm | exact mtA6 hm | exact mtA7 hm | exact ruA1 hr | exact ruA2 hr | exact ruA3 hr) rfl (by first | rfl | assumption | exact mtR0 hm | exact mtR1 hm | exact mtR2 hm | exact mtR3 hm | exact mtR4 hm | exact mtR5 hm | exact mtR6 hm | exact ruR0 hr | exact ruR1 hr | exact ruR3 hr) ?_
  refine pw_aload_n 50 rfl dX12_oneOf_49 rfl ?_
  refine pw_getI 53 rfl dX12_oneOf_50 fX12_114 (by first | rfl | assumption | exact rowS hh | exact mtS hm | exact ruS hr | exact mtA1 hm | exact mtA2 hm | exact mtA3 hm | exact mtA4 hm | exact mtA5 hm | exact mtA6 hm | exact mtA7 hm | exact ruA1 hr | exact ruA2 hr | exact ruA3 hr) rfl ?_
  rotate_left
  rw [e1, uI_eq]
  refine pw_iconst (v := nI 1) 54 rfl dX12_oneOf_53 rfl ?_
  refine pw_isubN 55 rfl dX12_oneOf_54 (by omega) ?_
  refine pw_baldN 56 rfl dX12_oneOf_55 (by first | rfl | assumption | exact rowS hh | exact mtS hm | exact ruS hr | exact mtA1 hm | exact mtA2 hm | exact mtA3 hm | exact mtA4 hm | exact mtA5 hm | exact mtA6 hm | exact mtA7 hm | exact ruA1 hr | exact ruA2 hr | exact ruA3 hr) (by omega) (by first | decide | omega) ?_
  rotate_left
  rw [show cs.length - r.length - 1 = cs.length - (c :: r).length by omega, uI_ne (fun e => s10 e.1), hg.1, byV_low c (by omega)]
  refine pw_iload_n 57 rfl dX12_oneOf_56 rfl ?_
  refine pw_isubN 58 rfl dX12_oneOf_57 (by omega) ?_
  refine pw_iret dX12_oneOf_58 rfl ?_
  rotate_left
  exact ⟨rfl, rfl, rfl, rfl⟩
set_option maxRecDepth 100000 in
set_option maxHeartbeats 2000000 in
theorem m_oneOfN {d hr nn L T f m : Nat} {cs r : List Nat} {rl : Option Nat} {I : pI} {J : pJ} (hP : MP I hr nn L T cs r) (hf : I 0 12 = -1) (hn : ∀ c, r.head? = some c → ¬ (f ≤ c ∧ c < f + m)) (h3 : f + m ≤ 128) (h0 : 0 < m) : PC SM (d + 2) yX12_oneOf cX12_oneOf 3 (some .int) [.ref 0, .int (nI f), .int (nI m)] (I) (J) (RM (some hr) rl) (fun r' I' J' R' => r' = some (.int (nI 0)) ∧ I' = uI I 0 12 (nI (cs.length - r.length)) ∧ J = J' ∧ R' = RM (some hr) rl) := by
  refine PC.of [some (.ref 0), some (.int (nI f)), some (.int (nI m))] rfl rfl (Nat.le_of_ble_eq_true rfl) ?_
  have h11 : I 0 11 = nI (cs.length - r.length) := hP.2.2.2.2.2.2.2.1
  have hv : inV (hdV r) (nI f) (nI (f + m - 1)) = nI 0 := by
    rcases r with _ | ⟨c, r⟩
    · refine inV_n (Or.inl ?_)
      rw [Int32.lt_iff_toInt_lt, nI_toInt (by omega)]
      rw [show (hdV []).toInt = -1 from by decide]
      omega
    · have hx := MP_lt hP
      have := hn c rfl
      refine inV_n ?_
      show nI c < nI f ∨ nI (f + m - 1) < nI c
      rw [nI_ltI (by omega) (by omega), nI_ltI (by omega) (by omega)]
      omega
  refine pw_aload_n 1 rfl dX12_oneOf_0 rfl ?_
  refine pw_callVP (as := []) 4 rfl dX12_oneOf_1 mX12_124 vX12_fine (m_fine (d := d + 1) hf) (by first | rfl | assumption | exact rowS hh | exact mtS hm | exact ruS hr | exact mtA1 hm | exact mtA2 hm | exact mtA3 hm | exact mtA4 hm | exact mtA5 hm | exact mtA6 hm | exact mtA7 hm | exact ruA1 hr | exact ruA2 hr | exact ruA3 hr) rfl (by decide) ⟨rfl, by decide, by decide, show (parseMethodDescriptor yX12_fine.desc).map (fun d => d.parameters.length) = some 0 by decide +kernel⟩ (by omega) (by decide) (Nat.le_of_ble_eq_true rfl) rfl ?_
  refine pw_if_ne (tgt := 9) 7 rfl dX12_oneOf_4 rfl (fun h4 => ?_) (fun h4 => absurd h4 (by rw [if_pos rfl]; decide))
  refine pw_aload_n 10 rfl dX12_oneOf_9 rfl ?_
  refine pw_callVP (as := []) 13 rfl dX12_oneOf_10 mX12_128 vX12_here (m_here (d := d + 1) hP) (by first | rfl | assumption | exact rowS hh | exact mtS hm | exact ruS hr | exact mtA1 hm | exact mtA2 hm | exact mtA3 hm | exact mtA4 hm | exact mtA5 hm | exact mtA6 hm | exact mtA7 hm | exact ruA1 hr | exact ruA2 hr | exact ruA3 hr) rfl (by decide) ⟨rfl, by decide, by decide, show (parseMethodDescriptor yX12_here.desc).map (fun d => d.parameters.length) = some 0 by decide +kernel⟩ (by omega) (by decide) (Nat.le_of_ble_eq_true rfl) rfl ?_
  refine pw_iload_n 14 rfl dX12_oneOf_13 rfl ?_
  refine pw_iload_n 15 rfl dX12_oneOf_14 rfl ?_
  refine pw_iload_n 16 rfl dX12_oneOf_15 rfl ?_
  first | refine pw_iaddN 17 rfl dX12_oneOf_16 ?_ | refine pw_iadd 17 rfl dX12_oneOf_16 ?_
  refine pw_iconst (v := nI 1) 18 rfl dX12_oneOf_17 rfl ?_
  refine pw_isubN 19 rfl dX12_oneOf_18 (by omega) ?_
  refine pw_callSP (as := [_, _, _]) 22 rfl dX12_oneOf_19 mX12_98 sX12_in (m_in (d := d) _ _ _) ⟨rfl, by decide, by decide, show (parseMethodDescriptor yX12_in.desc).map (fun d => d.parameters.length) = some 3 by decide +kernel⟩ (by omega) (by decide) (Nat.le_of_ble_eq_true rfl) rfl ?_
  refine pw_if_ne (tgt := 35) 25 rfl dX12_oneOf_22 rfl (fun h22 => absurd (by rw [hv]; rfl) h22) (fun h22 => ?_)
  refine pw_aload_n 26 rfl dX12_oneOf_25 rfl ?_
  refine pw_aload_n 27 rfl dX12_oneOf_26 rfl ?_
  refine pw_getI 30 rfl dX12_oneOf_27 fX12_114 (by first | rfl | assumption | exact rowS hh | exact mtS hm | exact ruS hr | exact mtA1 hm | exact mtA2 hm | exact mtA3 hm | exact mtA4 hm | exact mtA5 hm | exact mtA6 hm | exact mtA7 hm | exact ruA1 hr | exact ruA2 hr | exact ruA3 hr) rfl ?_
  rotate_left
  rw [h11]
  refine pw_callV (as := [_]) 33 rfl dX12_oneOf_30 mX12_136 vX12_fault (m_fault (d := d) hf) (by first | rfl | assumption | exact rowS hh | exact mtS hm | exact ruS hr | exact mtA1 hm | exact mtA2 hm | exact mtA3 hm | exact mtA4 hm | exact mtA5 hm | exact mtA6 hm | exact mtA7 hm | exact ruA1 hr | exact ruA2 hr | exact ruA3 hr) rfl (by decide) ⟨rfl, by decide, by decide, show (parseMethodDescriptor yX12_fault.desc).map (fun d => d.parameters.length) = some 1 by decide +kernel⟩ (by omega) (by decide) (Nat.le_of_ble_eq_true rfl) rfl (fun r30 I30 J30 R30 c30 => ?_)
  obtain ⟨rfl, rfl, rfl, rfl⟩ := c30
  refine pw_iconst (v := nI 0) 34 rfl dX12_oneOf_33 rfl ?_
  refine pw_iret dX12_oneOf_34 rfl ?_
  rotate_left
  exact ⟨rfl, rfl, rfl, rfl⟩
set_option maxRecDepth 100000 in
set_option maxHeartbeats 2000000 in
theorem m_oneOfBad {d : Nat} {f m w : Int32} {I : pI} {J : pJ} {R : pR} (h : I 0 12 = w) (hw : w ≠ -1) : PC SM (d + 1) yX12_oneOf cX12_oneOf 3 (some .int) [.ref 0, .int f, .int m] (I) (J) (R) (pPu (.int (nI 0)) I J R) := by
  refine PC.of [some (.ref 0), some (.int f), some (.int m)] rfl rfl (Nat.le_of_ble_eq_true rfl) ?_
  refine pw_aload_n 1 rfl dX12_oneOf_0 rfl ?_
  refine pw_callVP (as := []) 4 rfl dX12_oneOf_1 mX12_124 vX12_fine (m_fine (d := d) h) (by first | rfl | assumption | exact rowS hh | exact mtS hm | exact ruS hr | exact mtA1 hm | exact mtA2 hm | exact mtA3 hm | exact mtA4 hm | exact mtA5 hm | exact mtA6 hm | exact mtA7 hm | exact ruA1 hr | exact ruA2 hr | exact ruA3 hr) rfl (by decide) ⟨rfl, by decide, by decide, show (parseMethodDescriptor yX12_fine.desc).map (fun d => d.parameters.length) = some 0 by decide +kernel⟩ (by omega) (by decide) (Nat.le_of_ble_eq_true rfl) rfl ?_
  refine pw_if_ne (tgt := 9) 7 rfl dX12_oneOf_4 rfl (fun h4 => absurd (by rw [if_neg hw]; rfl) h4) (fun h4 => ?_)
  refine pw_iconst (v := nI 0) 8 rfl dX12_oneOf_7 rfl ?_
  refine pw_iret dX12_oneOf_8 rfl ?_
  rotate_left
  exact ⟨rfl, rfl, rfl, rfl⟩
theorem dropc {tx : List Nat} {T p c : Nat} (h : tx[p]? = some c) (hp : p < T) : (tx.take T).drop p = c :: (tx.take T).drop (p + 1) := by
  obtain ⟨h1, h2⟩ := List.getElem?_eq_some_iff.mp h
  rw [List.drop_eq_getElem_cons (by rw [List.length_take]; omega), List.getElem_take, h2]
theorem at_drop {cs : List Nat} {p : Nat} (h : p ≤ cs.length) : cs.length - (cs.drop p).length = p := by rw [List.length_drop]; omega
/-- the reader at p of the text, its first T signs -/
def mTQ (I : pI) (T : Nat) (tx : List Nat) : Prop := I 0 9 = nI tx.length ∧ I 0 10 = nI T ∧ tx.length ≤ 80 ∧ T ≤ 80 ∧ ∀ j c, tx[j]? = some c → I 3 j = byV c ∧ c < 256
theorem mTQ.at {I : pI} {T p : Nat} {tx : List Nat} (h : mTQ I T tx) (hp : p ≤ min tx.length T) (h11 : I 0 11 = nI p) : MP I 3 80 tx.length T (tx.take T) ((tx.take T).drop p) := by
  obtain ⟨a1, a2, a3, a4, a5⟩ := h
  have hct : (tx.take T).length = min tx.length T := by rw [List.length_take, Nat.min_comm]
  refine ⟨rfl, a3, by decide, a4, hct, a1, a2, by rw [at_drop (by omega)]; exact h11, List.drop_suffix _ _, fun j c hj => ?_, by decide⟩
  rw [List.getElem?_take] at hj
  split at hj
  · exact a5 j c hj
  · cases hj
theorem mTQ.fr {I I' : pI} {T : Nat} {tx : List Nat} (h : mTQ I T tx) (h9 : I' 0 9 = I 0 9) (h10 : I' 0 10 = I 0 10) (h3 : ∀ j, I' 3 j = I 3 j) : mTQ I' T tx := ⟨by rw [h9]; exact h.1, by rw [h10]; exact h.2.1, h.2.2.1, h.2.2.2.1, fun j c hj => by rw [h3]; exact h.2.2.2.2 j c hj⟩
theorem MB_z {I : pI} {m : Nat} {b : Nat → Nat} (hB : MB I 1 b) (hz : b m = 0) : MB (uI I 1 m (nI 0)) 1 b := fun j hj => by
  by_cases e : j = m
  · rw [e, uI_eq, hz]
  · rw [uI_ne (by omega)]; exact hB j hj
theorem wrC_b {tx : List Nat} {room p : Nat} (h0 : tx.length ≠ 0) (hp : p < min tx.length 13) (hg : ∀ q, q < p → badC tx room q = false) (hb : badC tx room p = true) : wrC tx room = some p := by
  have := fstL_at (ok := badC tx room) (t := p) hp hg hb
  rw [wrC_s h0 this]
theorem wrC_e {tx : List Nat} {room : Nat} (h0 : tx.length ≠ 0) (hg : ∀ q, q < min tx.length 13 → badC tx room q = false) : wrC tx room = if 13 < tx.length then some 13 else if tx.length % 2 = 0 then some tx.length else none := by rw [wrC_n h0 (fstL_none hg)]
set_option maxRecDepth 100000 in
set_option maxHeartbeats 2000000 in
theorem mo_climbers {d g : Nat} {s : aSt} {rd : Option Nat} {I : pI} {J : pJ} (hA : MA I J s) (hD : MDg g I) (hg : g ≤ 500000000) (hW : WA s)  : PC SM (d + 245) yX12_climbers cX12_climbers 4 (some .int) [.ref 0] (I) (J) (RM rd (some 6)) (moP (g + 10000) (oClimbers s)) := by
  refine PC.of [some (.ref 0), none, none, none] rfl rfl (Nat.le_of_ble_eq_true rfl) ?_
  obtain ⟨n, pc, b, us, kp, rw, tx, rt, hd, sw⟩ := s
  refine pw_aload_n 1 rfl dX12_climbers_0 rfl ?_
  refine pw_iconst (v := nI 0) 2 rfl dX12_climbers_1 rfl ?_
  refine pw_putI 5 rfl dX12_climbers_2 fX12_88 w12_7 (by first | rfl | assumption | exact rowS hh | exact mtS hm | exact ruS hr | exact mtA1 hm | exact mtA2 hm | exact mtA3 hm | exact mtA4 hm | exact mtA5 hm | exact mtA6 hm | exact mtA7 hm | exact ruA1 hr | exact ruA2 hr | exact ruA3 hr) rfl rfl rfl ?_
  rotate_left
  have hA0 := MA_thr (v := nI 0) hA
  have hD0 : MDg g (uI I 0 7 (nI 0)) := MDg_f hD (uI_ne (by omega)) (fun j => uI_ne (by omega))
  clear hA hD
  generalize uI I 0 7 (nI 0) = I at hA0 hD0 ⊢
  obtain ⟨mC, mB, mT, mN, mR, mU, mK, mH, mG⟩ := id hA0
  obtain ⟨aW, aU, aK⟩ := id hW
  have hE := MSt_A hA0
  have hn7 := mC.1
  have hn := mC.2.1
  obtain ⟨t1, t2, t3⟩ := id mT
  refine pw_aload_n 6 rfl dX12_climbers_5 rfl ?_
  refine pw_bipush (v := nI 13) 8 rfl dX12_climbers_6 rfl ?_
  refine pw_callV (as := [_]) 11 rfl dX12_climbers_8 mX12_144 vX12_beginText (m_beginText (d := d + 243) t1) (by first | rfl | assumption | exact rowS hh | exact mtS hm | exact ruS hr | exact mtA1 hm | exact mtA2 hm | exact mtA3 hm | exact mtA4 hm | exact mtA5 hm | exact mtA6 hm | exact mtA7 hm | exact ruA1 hr | exact ruA2 hr | exact ruA3 hr) rfl (by decide) ⟨rfl, by decide, by decide, show (parseMethodDescriptor yX12_beginText.desc).map (fun d => d.parameters.length) = some 1 by decide +kernel⟩ (by omega) (by decide) (Nat.le_of_ble_eq_true rfl) rfl (fun r8 I8 J8 R8 c8 => ?_)
  obtain ⟨rfl, rfl, rfl, rfl⟩ := c8
  refine pw_aload_n 12 rfl dX12_climbers_11 rfl ?_
  refine pw_getI 15 rfl dX12_climbers_12 fX12_108 (by first | rfl | assumption | exact rowS hh | exact mtS hm | exact ruS hr | exact mtA1 hm | exact mtA2 hm | exact mtA3 hm | exact mtA4 hm | exact mtA5 hm | exact mtA6 hm | exact mtA7 hm | exact ruA1 hr | exact ruA2 hr | exact ruA3 hr) rfl ?_
  rotate_left
  generalize hI1 : uI (uI (uI (uI (uI I 0 9 (nI tx.length)) 0 10 (nI 13)) 0 11 (nI 0)) 0 12 (-1)) 0 4 (nI 0) = I1
  have f0 : ∀ a j, ¬ (a = 0 ∧ (j = 4 ∨ j = 9 ∨ j = 10 ∨ j = 11 ∨ j = 12)) → I1 a j = I a j := fun a j q => by rw [← hI1, uI_ne (by omega), uI_ne (by omega), uI_ne (by omega), uI_ne (by omega), uI_ne (by omega)]
  have e4 : I1 0 4 = nI 0 := by rw [← hI1, uI_eq]
  have e9 : I1 0 9 = nI tx.length := by rw [← hI1, uI_ne (by omega), uI_ne (by omega), uI_ne (by omega), uI_ne (by omega), uI_eq]
  have e10 : I1 0 10 = nI 13 := by rw [← hI1, uI_ne (by omega), uI_ne (by omega), uI_ne (by omega), uI_eq]
  have e11 : I1 0 11 = nI 0 := by rw [← hI1, uI_ne (by omega), uI_ne (by omega), uI_eq]
  have e12 : I1 0 12 = -1 := by rw [← hI1, uI_ne (by omega), uI_eq]
  clear hI1
  rw [e9]
  by_cases h0 : tx.length = 0
  · have er : oClimbers (n, pc, b, us, kp, rw, tx, rt, hd, sw) = (nI 0, (n, pc, b, us, kp, rw, [], rt, hd, sw)) := by unfold oClimbers; simp only [wrC_0 (room := 7 - n) h0]; rw [h0]; rfl
    refine pw_if_ne (tgt := 20) 18 rfl dX12_climbers_15 rfl (fun h15 => absurd (by rw [h0]; rfl) h15) (fun h15 => ?_)
    refine pw_iconst (v := nI 0) 19 rfl dX12_climbers_18 rfl ?_
    refine pw_iret dX12_climbers_19 rfl ?_
    rotate_left
    exact moE er ⟨rfl, MA_rt hA0 (fun a j q1 q2 => f0 a j (by omega)) (MT_0 e4) (MRl_f mR (f0 _ _ (by omega)) (fun j => f0 _ _ (by omega))), (MDg_f hD0 (f0 _ _ (by omega)) (fun j => f0 _ _ (by omega))).mono (by omega), some 3, rfl⟩
  · have hQ : mTQ I1 13 tx := ⟨e9, e10, t2, by decide, fun j c hj => by rw [f0 _ _ (by omega)]; exact t3 j c hj⟩
    have hn1 : I1 0 1 = nI n := by rw [f0 _ _ (by omega)]; exact hn
    have exit : ∀ (I2 : pI) (k q : Nat) (w : Int32), I2 0 11 = nI q → I2 0 12 = w → q ≤ 100 → wrW q tx.length w = rdV (wrC tx (7 - n)) → (wrC tx (7 - n) = none → k = (tx.length + 1) / 2 ∧ ∀ j, j < k → I2 5 j = nI (tx.getD (2 * j) 0 - 48)) → (∀ a j, a ≠ 5 → ¬ (a = 0 ∧ (j = 11 ∨ j = 12)) → I2 a j = I1 a j) → PW SM yX12_climbers.cls cX12_climbers 4 (d + 245) 84 [some (.ref 0), some (.int (nI k)), some (.int (nI 0)), none] [] (I2) (J) (RM (some 3) (some 6)) (rX cX12_climbers (some .int) (moP (g + 10000) (oClimbers (n, pc, b, us, kp, rw, tx, rt, hd, sw)))) := by
      intro I2 k q w g1 g2 g3 g4 g5 g6
      refine pw_aload_n 85 rfl dX12_climbers_84 rfl ?_
      refine pw_callV (as := []) 88 rfl dX12_climbers_85 mX12_147 vX12_wasRight (m_wasRight (d := d + 242) g1 (by rw [g6 _ _ (by omega) (by omega)]; exact e9) g3 (by omega) g2) (by first | rfl | assumption | exact rowS hh | exact mtS hm | exact ruS hr | exact mtA1 hm | exact mtA2 hm | exact mtA3 hm | exact mtA4 hm | exact mtA5 hm | exact mtA6 hm | exact mtA7 hm | exact ruA1 hr | exact ruA2 hr | exact ruA3 hr) rfl (by decide) ⟨rfl, by decide, by decide, show (parseMethodDescriptor yX12_wasRight.desc).map (fun d => d.parameters.length) = some 0 by decide +kernel⟩ (by omega) (by decide) (Nat.le_of_ble_eq_true rfl) rfl (fun r85 I85 J85 R85 c85 => ?_)
      obtain ⟨rfl, p1, p2, rfl, rfl⟩ := c85
      rotate_left
      rw [g4] at p1
      rw [g4]
      cases e : wrC tx (7 - n) with
      | some p =>
        have hp := wrC_le t2 e
        rw [e] at p1
        have er : oClimbers (n, pc, b, us, kp, rw, tx, rt, hd, sw) = (-1 - nI p, (n, pc, b, us, kp, rw, [], rt, hd, sw)) := by unfold oClimbers; simp only [e]
        refine pw_if_ne (tgt := 98) 91 rfl dX12_climbers_88 rfl (fun h88 => absurd (by rw [if_neg (show ¬ rdV (some p) = -1 from rdV_ne (by omega))]; rfl) h88) (fun h88 => ?_)
        refine pw_iconst (v := -1) 92 rfl dX12_climbers_91 rfl ?_
        refine pw_aload_n 93 rfl dX12_climbers_92 rfl ?_
        refine pw_getI 96 rfl dX12_climbers_93 fX12_117 (by first | rfl | assumption | exact rowS hh | exact mtS hm | exact ruS hr | exact mtA1 hm | exact mtA2 hm | exact mtA3 hm | exact mtA4 hm | exact mtA5 hm | exact mtA6 hm | exact mtA7 hm | exact ruA1 hr | exact ruA2 hr | exact ruA3 hr) rfl ?_
        rotate_left
        rw [p1]
        refine pw_isub 97 rfl dX12_climbers_96 ?_
        refine pw_iret dX12_climbers_97 rfl ?_
        rotate_left
        have hf : ∀ a j, a ≠ 5 → ¬ (a = 0 ∧ (j = 4 ∨ j = 9 ∨ j = 10 ∨ j = 11 ∨ j = 12)) → I85 a j = I a j := fun a j q1 q2 => by rw [p2 a j (by omega), g6 a j q1 (by omega), f0 a j q2]
        refine moE er ⟨rfl, ?_, (MDg_f hD0 (hf _ _ (by omega) (by omega)) (fun j => hf _ _ (by omega) (by omega))).mono (by omega), some 3, rfl⟩
        exact ⟨MC_f mC (hf _ _ (by omega) (by omega)) (fun j => hf _ _ (by omega) (by omega)), MB_f mB (fun j => hf _ _ (by omega) (by omega)), MT_0 (by rw [p2 _ _ (by omega), g6 _ _ (by omega) (by omega)]; exact e4), MN_f mN (hf _ _ (by omega) (by omega)), MRl_f mR (hf _ _ (by omega) (by omega)) (fun j => hf _ _ (by omega) (by omega)), MU_f mU (hf _ _ (by omega) (by omega)) (fun j => hf _ _ (by omega) (by omega)), MK_f mK (hf _ _ (by omega) (by omega)) (fun j => hf _ _ (by omega) (by omega)) (fun j => hf _ _ (by omega) (by omega)) (fun j => hf _ _ (by omega) (by omega)), MH_f mH (hf _ _ (by omega) (by omega)) (fun j => hf _ _ (by omega) (by omega)) (fun j => hf _ _ (by omega) (by omega)), MG_f mG (hf _ _ (by omega) (by omega)) (fun j => hf _ _ (by omega) (by omega)) (fun j => hf _ _ (by omega) (by omega))⟩
      | none =>
        obtain ⟨hk, g7⟩ := g5 e
        obtain ⟨hl13, hodd, hL⟩ := (wrC_ok e).resolve_left h0
        have hN0 : 0 < (tx.length + 1) / 2 := by omega
        have er : oClimbers (n, pc, b, us, kp, rw, tx, rt, hd, sw) = (nI k, (n + k, pcA tx n pc k, b, [], fun _ => none, rw, [], rt, hd, sw)) := by unfold oClimbers; simp only [e]; rw [if_pos hN0, if_pos hN0, hk]
        have hkr : ∀ i, i < k → i < 7 - n := fun i hi => (hL i (by omega)).2
        have hk1 : 1 ≤ k := by omega
        refine pw_if_ne (tgt := 98) 91 rfl dX12_climbers_88 rfl (fun h88 => ?_) (fun h88 => absurd h88 (by decide))
        refine pw_iconst (v := nI 0) 99 rfl dX12_climbers_98 rfl ?_
        refine pw_istore_n 100 rfl dX12_climbers_99 (by decide) ?_
        rotate_left
        have L := nat_loop k (fun i => ∀ (I' : pI), MC I' (n + i) (pcA tx n pc i) → MB I' 1 b → (∀ a j, ¬ (a = 1 ∨ a = 2) → ¬ (a = 0 ∧ j = 1) → I' a j = I85 a j) → PW SM yX12_climbers.cls cX12_climbers 4 (d + 245) 100 [some (.ref 0), some (.int (nI k)), some (.int (nI 0)), some (.int (nI i))] [] (I') (J) (RM (some 3) (some 6)) (rX cX12_climbers (some .int) (moP (g + 10000) (oClimbers (n, pc, b, us, kp, rw, tx, rt, hd, sw))))) ?_ ?_
        · refine L I85 ?_ ?_ (fun _ _ _ _ => rfl)
          · exact MC_f mC (by rw [p2 _ _ (by omega), g6 _ _ (by omega) (by omega), f0 _ _ (by omega)]) (fun j => by rw [p2 _ _ (by omega), g6 _ _ (by omega) (by omega), f0 _ _ (by omega)])
          · exact MB_f mB (fun j => by rw [p2 _ _ (by omega), g6 _ _ (by omega) (by omega), f0 _ _ (by omega)])
        · intro I' m1 m2 m3
          have hf : ∀ a j, ¬ (a = 1 ∨ a = 2 ∨ a = 5) → ¬ (a = 0 ∧ (j = 1 ∨ j = 4 ∨ j = 9 ∨ j = 10 ∨ j = 11 ∨ j = 12)) → I' a j = I a j := fun a j q1 q2 => by rw [m3 a j (by omega) (by omega), p2 a j (by omega), g6 a j (by omega) (by omega), f0 a j (by omega)]
          obtain ⟨cm, k1, k2, k3⟩ := id mK
          refine pw_iload_n 101 rfl dX12_climbers_100 rfl ?_
          refine pw_iload_n 102 rfl dX12_climbers_101 rfl ?_
          refine pw_icmp_ge (tgt := 185) 105 rfl dX12_climbers_102 rfl (fun h102 => ?_) (fun h102 => absurd (by (simp (disch := omega) only [nI_leI, nI_ltI, nI_eq, show (0 : Int32) = nI 0 from rfl, not_true_eq_false, not_false_eq_true] <;> omega)) h102)
          refine pw_aload_n 186 rfl dX12_climbers_185 rfl ?_
          refine pw_iconst (v := nI 0) 187 rfl dX12_climbers_186 rfl ?_
          refine pw_putI 190 rfl dX12_climbers_187 fX12_150 w12_20 (by first | rfl | assumption | exact rowS hh | exact mtS hm | exact ruS hr | exact mtA1 hm | exact mtA2 hm | exact mtA3 hm | exact mtA4 hm | exact mtA5 hm | exact mtA6 hm | exact mtA7 hm | exact ruA1 hr | exact ruA2 hr | exact ruA3 hr) rfl rfl rfl ?_
          refine pw_aload_n 191 rfl dX12_climbers_190 rfl ?_
          refine pw_dup 192 rfl dX12_climbers_191 rfl ?_
          refine pw_getI 195 rfl dX12_climbers_192 fX12_153 (by first | rfl | assumption | exact rowS hh | exact mtS hm | exact ruS hr | exact mtA1 hm | exact mtA2 hm | exact mtA3 hm | exact mtA4 hm | exact mtA5 hm | exact mtA6 hm | exact mtA7 hm | exact ruA1 hr | exact ruA2 hr | exact ruA3 hr) rfl ?_
          rotate_left
          rw [uI_ne (by omega), hf _ _ (by omega) (by omega), k1]
          refine pw_iconst (v := nI 1) 196 rfl dX12_climbers_195 rfl ?_
          first | refine pw_iaddN 197 rfl dX12_climbers_196 ?_ | refine pw_iadd 197 rfl dX12_climbers_196 ?_
          refine pw_putI 200 rfl dX12_climbers_197 fX12_153 w12_38 (by first | rfl | assumption | exact rowS hh | exact mtS hm | exact ruS hr | exact mtA1 hm | exact mtA2 hm | exact mtA3 hm | exact mtA4 hm | exact mtA5 hm | exact mtA6 hm | exact mtA7 hm | exact ruA1 hr | exact ruA2 hr | exact ruA3 hr) rfl rfl rfl ?_
          refine pw_iload_n 201 rfl dX12_climbers_200 rfl ?_
          refine pw_iret dX12_climbers_201 rfl ?_
          rotate_left
          have hf2 : ∀ a j, ¬ (a = 1 ∨ a = 2 ∨ a = 5) → ¬ (a = 0 ∧ (j = 1 ∨ j = 4 ∨ j = 9 ∨ j = 10 ∨ j = 11 ∨ j = 12 ∨ j = 20 ∨ j = 38)) → uI (uI I' 0 20 (nI 0)) 0 38 (nI (cm + 1)) a j = I a j := fun a j q1 q2 => by rw [uI_ne (by omega), uI_ne (by omega), hf a j q1 (by omega)]
          refine moE er ⟨rfl, ?_, (MDg_f hD0 (hf2 _ _ (by omega) (by omega)) (fun j => hf2 _ _ (by omega) (by omega))).mono (by omega), some 3, rfl⟩
          refine ⟨MC_f m1 (by rw [uI_ne (by omega), uI_ne (by omega)]) (fun j => by rw [uI_ne (by omega), uI_ne (by omega)]), MB_f m2 (fun j => by rw [uI_ne (by omega), uI_ne (by omega)]), MT_0 (by rw [uI_ne (by omega), uI_ne (by omega), m3 _ _ (by omega) (by omega), p2 _ _ (by omega), g6 _ _ (by omega) (by omega)]; exact e4), MN_f mN (hf2 _ _ (by omega) (by omega)), MRl_f mR (hf2 _ _ (by omega) (by omega)) (fun j => hf2 _ _ (by omega) (by omega)), ⟨by rw [uI_ne (by omega), uI_eq]; rfl, by show (0 : Nat) ≤ 12; omega, fun j x hj => by cases hj⟩, ⟨cm + 1, uI_eq _ _ _ _, by omega, fun i hi => ?_⟩, MH_f mH (hf2 _ _ (by omega) (by omega)) (fun j => hf2 _ _ (by omega) (by omega)) (fun j => hf2 _ _ (by omega) (by omega)), MG_f mG (hf2 _ _ (by omega) (by omega)) (fun j => hf2 _ _ (by omega) (by omega)) (fun j => hf2 _ _ (by omega) (by omega))⟩
          obtain ⟨kc, c1, c2, c3⟩ := k3 i hi
          refine ⟨kc, by rw [hf2 _ _ (by omega) (by omega)]; exact c1, by omega, ?_⟩
          rw [hf2 _ _ (by omega) (by omega)]
          revert c3
          rcases kp i with _ | u
          · rintro (c3 | ⟨c3, c4⟩)
            · exact Or.inl c3
            · exact Or.inr ⟨c3, by omega⟩
          · rintro ⟨c3, c4, -⟩
            exact Or.inr ⟨c3, by omega⟩
        · intro i hi ih I' m1 m2 m3
          have hlt := hkr i hi
          have hz := aW.2.1 (n + i) (by omega) (by omega)
          have h1 := m1.2.1
          have e5 : I' 5 i = nI (tx.getD (2 * i) 0 - 48) := by rw [m3 _ _ (by omega) (by omega), p2 _ _ (by omega)]; exact g7 i hi
          refine pw_iload_n 101 rfl dX12_climbers_100 rfl ?_
          refine pw_iload_n 102 rfl dX12_climbers_101 rfl ?_
          refine pw_icmp_ge (tgt := 185) 105 rfl dX12_climbers_102 rfl (fun h102 => absurd h102 (by (simp (disch := omega) only [nI_leI, nI_ltI, nI_eq, show (0 : Int32) = nI 0 from rfl, not_true_eq_false, not_false_eq_true] <;> omega))) (fun h102 => ?_)
          refine pw_aload_n 106 rfl dX12_climbers_105 rfl ?_
          refine pw_getR 109 rfl dX12_climbers_106 fX12_13 (by first | rfl | assumption | exact rowS hh | exact mtS hm | exact ruS hr | exact mtA1 hm | exact mtA2 hm | exact mtA3 hm | exact mtA4 hm | exact mtA5 hm | exact mtA6 hm | exact mtA7 hm | exact ruA1 hr | exact ruA2 hr | exact ruA3 hr) rfl (by first | rfl | assumption | exact mtR0 hm | exact mtR1 hm | exact mtR2 hm | exact mtR3 hm | exact mtR4 hm | exact mtR5 hm | exact mtR6 hm | exact ruR0 hr | exact ruR1 hr | exact ruR3 hr) ?_
          refine pw_aload_n 110 rfl dX12_climbers_109 rfl ?_
          refine pw_getI 113 rfl dX12_climbers_110 fX12_95 (by first | rfl | assumption | exact rowS hh | exact mtS hm | exact ruS hr | exact mtA1 hm | exact mtA2 hm | exact mtA3 hm | exact mtA4 hm | exact mtA5 hm | exact mtA6 hm | exact mtA7 hm | exact ruA1 hr | exact ruA2 hr | exact ruA3 hr) rfl ?_
          rotate_left
          rw [h1]
          refine pw_aload_n 114 rfl dX12_climbers_113 rfl ?_
          refine pw_getR 117 rfl dX12_climbers_114 fX12_24 (by first | rfl | assumption | exact rowS hh | exact mtS hm | exact ruS hr | exact mtA1 hm | exact mtA2 hm | exact mtA3 hm | exact mtA4 hm | exact mtA5 hm | exact mtA6 hm | exact mtA7 hm | exact ruA1 hr | exact ruA2 hr | exact ruA3 hr) rfl (by first | rfl | assumption | exact mtR0 hm | exact mtR1 hm | exact mtR2 hm | exact mtR3 hm | exact mtR4 hm | exact mtR5 hm | exact mtR6 hm | exact ruR0 hr | exact ruR1 hr | exact ruR3 hr) ?_
          refine pw_iload_n 118 rfl dX12_climbers_117 rfl ?_
          refine pw_ialdN 119 rfl dX12_climbers_118 (by first | rfl | assumption | exact rowS hh | exact mtS hm | exact ruS hr | exact mtA1 hm | exact mtA2 hm | exact mtA3 hm | exact mtA4 hm | exact mtA5 hm | exact mtA6 hm | exact mtA7 hm | exact ruA1 hr | exact ruA2 hr | exact ruA3 hr) (by omega) (by first | decide | omega) ?_
          rotate_left
          rw [e5]
          refine pw_iastN 120 rfl dX12_climbers_119 (by first | rfl | assumption | exact rowS hh | exact mtS hm | exact ruS hr | exact mtA1 hm | exact mtA2 hm | exact mtA3 hm | exact mtA4 hm | exact mtA5 hm | exact mtA6 hm | exact mtA7 hm | exact ruA1 hr | exact ruA2 hr | exact ruA3 hr) (by omega) (by first | decide | omega) ?_
          refine pw_aload_n 121 rfl dX12_climbers_120 rfl ?_
          refine pw_getR 124 rfl dX12_climbers_121 fX12_9 (by first | rfl | assumption | exact rowS hh | exact mtS hm | exact ruS hr | exact mtA1 hm | exact mtA2 hm | exact mtA3 hm | exact mtA4 hm | exact mtA5 hm | exact mtA6 hm | exact mtA7 hm | exact ruA1 hr | exact ruA2 hr | exact ruA3 hr) rfl (by first | rfl | assumption | exact mtR0 hm | exact mtR1 hm | exact mtR2 hm | exact mtR3 hm | exact mtR4 hm | exact mtR5 hm | exact mtR6 hm | exact ruR0 hr | exact ruR1 hr | exact ruR3 hr) ?_
          refine pw_aload_n 125 rfl dX12_climbers_124 rfl ?_
          refine pw_getI 128 rfl dX12_climbers_125 fX12_95 (by first | rfl | assumption | exact rowS hh | exact mtS hm | exact ruS hr | exact mtA1 hm | exact mtA2 hm | exact mtA3 hm | exact mtA4 hm | exact mtA5 hm | exact mtA6 hm | exact mtA7 hm | exact ruA1 hr | exact ruA2 hr | exact ruA3 hr) rfl ?_
          rotate_left
          rw [uI_ne (by omega), h1]
          refine pw_iconst (v := nI 0) 129 rfl dX12_climbers_128 rfl ?_
          refine pw_iastN 130 rfl dX12_climbers_129 (by first | rfl | assumption | exact rowS hh | exact mtS hm | exact ruS hr | exact mtA1 hm | exact mtA2 hm | exact mtA3 hm | exact mtA4 hm | exact mtA5 hm | exact mtA6 hm | exact mtA7 hm | exact ruA1 hr | exact ruA2 hr | exact ruA3 hr) (by omega) (by first | decide | omega) ?_
          refine pw_aload_n 131 rfl dX12_climbers_130 rfl ?_
          refine pw_getR 134 rfl dX12_climbers_131 fX12_9 (by first | rfl | assumption | exact rowS hh | exact mtS hm | exact ruS hr | exact mtA1 hm | exact mtA2 hm | exact mtA3 hm | exact mtA4 hm | exact mtA5 hm | exact mtA6 hm | exact mtA7 hm | exact ruA1 hr | exact ruA2 hr | exact ruA3 hr) rfl (by first | rfl | assumption | exact mtR0 hm | exact mtR1 hm | exact mtR2 hm | exact mtR3 hm | exact mtR4 hm | exact mtR5 hm | exact mtR6 hm | exact ruR0 hr | exact ruR1 hr | exact ruR3 hr) ?_
          refine pw_bipush (v := nI 7) 136 rfl dX12_climbers_134 rfl ?_
          refine pw_aload_n 137 rfl dX12_climbers_136 rfl ?_
          refine pw_getI 140 rfl dX12_climbers_137 fX12_95 (by first | rfl | assumption | exact rowS hh | exact mtS hm | exact ruS hr | exact mtA1 hm | exact mtA2 hm | exact mtA3 hm | exact mtA4 hm | exact mtA5 hm | exact mtA6 hm | exact mtA7 hm | exact ruA1 hr | exact ruA2 hr | exact ruA3 hr) rfl ?_
          rotate_left
          rw [uI_ne (by omega), uI_ne (by omega), h1]
          first | refine pw_iaddN 141 rfl dX12_climbers_140 ?_ | refine pw_iadd 141 rfl dX12_climbers_140 ?_
          refine pw_iconst (v := nI 0) 142 rfl dX12_climbers_141 rfl ?_
          refine pw_iastN 143 rfl dX12_climbers_142 (by first | rfl | assumption | exact rowS hh | exact mtS hm | exact ruS hr | exact mtA1 hm | exact mtA2 hm | exact mtA3 hm | exact mtA4 hm | exact mtA5 hm | exact mtA6 hm | exact mtA7 hm | exact ruA1 hr | exact ruA2 hr | exact ruA3 hr) (by omega) (by first | decide | omega) ?_
          refine pw_aload_n 144 rfl dX12_climbers_143 rfl ?_
          refine pw_getR 147 rfl dX12_climbers_144 fX12_9 (by first | rfl | assumption | exact rowS hh | exact mtS hm | exact ruS hr | exact mtA1 hm | exact mtA2 hm | exact mtA3 hm | exact mtA4 hm | exact mtA5 hm | exact mtA6 hm | exact mtA7 hm | exact ruA1 hr | exact ruA2 hr | exact ruA3 hr) rfl (by first | rfl | assumption | exact mtR0 hm | exact mtR1 hm | exact mtR2 hm | exact mtR3 hm | exact mtR4 hm | exact mtR5 hm | exact mtR6 hm | exact ruR0 hr | exact ruR1 hr | exact ruR3 hr) ?_
          refine pw_bipush (v := nI 14) 149 rfl dX12_climbers_147 rfl ?_
          refine pw_aload_n 150 rfl dX12_climbers_149 rfl ?_
          refine pw_getI 153 rfl dX12_climbers_150 fX12_95 (by first | rfl | assumption | exact rowS hh | exact mtS hm | exact ruS hr | exact mtA1 hm | exact mtA2 hm | exact mtA3 hm | exact mtA4 hm | exact mtA5 hm | exact mtA6 hm | exact mtA7 hm | exact ruA1 hr | exact ruA2 hr | exact ruA3 hr) rfl ?_
          rotate_left
          rw [uI_ne (by omega), uI_ne (by omega), uI_ne (by omega), h1]
          first | refine pw_iaddN 154 rfl dX12_climbers_153 ?_ | refine pw_iadd 154 rfl dX12_climbers_153 ?_
          refine pw_iconst (v := nI 0) 155 rfl dX12_climbers_154 rfl ?_
          refine pw_iastN 156 rfl dX12_climbers_155 (by first | rfl | assumption | exact rowS hh | exact mtS hm | exact ruS hr | exact mtA1 hm | exact mtA2 hm | exact mtA3 hm | exact mtA4 hm | exact mtA5 hm | exact mtA6 hm | exact mtA7 hm | exact ruA1 hr | exact ruA2 hr | exact ruA3 hr) (by omega) (by first | decide | omega) ?_
          refine pw_aload_n 157 rfl dX12_climbers_156 rfl ?_
          refine pw_getR 160 rfl dX12_climbers_157 fX12_9 (by first | rfl | assumption | exact rowS hh | exact mtS hm | exact ruS hr | exact mtA1 hm | exact mtA2 hm | exact mtA3 hm | exact mtA4 hm | exact mtA5 hm | exact mtA6 hm | exact mtA7 hm | exact ruA1 hr | exact ruA2 hr | exact ruA3 hr) rfl (by first | rfl | assumption | exact mtR0 hm | exact mtR1 hm | exact mtR2 hm | exact mtR3 hm | exact mtR4 hm | exact mtR5 hm | exact mtR6 hm | exact ruR0 hr | exact ruR1 hr | exact ruR3 hr) ?_
          refine pw_bipush (v := nI 21) 162 rfl dX12_climbers_160 rfl ?_
          refine pw_aload_n 163 rfl dX12_climbers_162 rfl ?_
          refine pw_getI 166 rfl dX12_climbers_163 fX12_95 (by first | rfl | assumption | exact rowS hh | exact mtS hm | exact ruS hr | exact mtA1 hm | exact mtA2 hm | exact mtA3 hm | exact mtA4 hm | exact mtA5 hm | exact mtA6 hm | exact mtA7 hm | exact ruA1 hr | exact ruA2 hr | exact ruA3 hr) rfl ?_
          rotate_left
          rw [uI_ne (by omega), uI_ne (by omega), uI_ne (by omega), uI_ne (by omega), h1]
          first | refine pw_iaddN 167 rfl dX12_climbers_166 ?_ | refine pw_iadd 167 rfl dX12_climbers_166 ?_
          refine pw_iconst (v := nI 0) 168 rfl dX12_climbers_167 rfl ?_
          refine pw_iastN 169 rfl dX12_climbers_168 (by first | rfl | assumption | exact rowS hh | exact mtS hm | exact ruS hr | exact mtA1 hm | exact mtA2 hm | exact mtA3 hm | exact mtA4 hm | exact mtA5 hm | exact mtA6 hm | exact mtA7 hm | exact ruA1 hr | exact ruA2 hr | exact ruA3 hr) (by omega) (by first | decide | omega) ?_
          refine pw_aload_n 170 rfl dX12_climbers_169 rfl ?_
          refine pw_dup 171 rfl dX12_climbers_170 rfl ?_
          refine pw_getI 174 rfl dX12_climbers_171 fX12_95 (by first | rfl | assumption | exact rowS hh | exact mtS hm | exact ruS hr | exact mtA1 hm | exact mtA2 hm | exact mtA3 hm | exact mtA4 hm | exact mtA5 hm | exact mtA6 hm | exact mtA7 hm | exact ruA1 hr | exact ruA2 hr | exact ruA3 hr) rfl ?_
          rotate_left
          rw [uI_ne (by omega), uI_ne (by omega), uI_ne (by omega), uI_ne (by omega), uI_ne (by omega), h1]
          refine pw_iconst (v := nI 1) 175 rfl dX12_climbers_174 rfl ?_
          first | refine pw_iaddN 176 rfl dX12_climbers_175 ?_ | refine pw_iadd 176 rfl dX12_climbers_175 ?_
          refine pw_putI 179 rfl dX12_climbers_176 fX12_95 w12_1 (by first | rfl | assumption | exact rowS hh | exact mtS hm | exact ruS hr | exact mtA1 hm | exact mtA2 hm | exact mtA3 hm | exact mtA4 hm | exact mtA5 hm | exact mtA6 hm | exact mtA7 hm | exact ruA1 hr | exact ruA2 hr | exact ruA3 hr) rfl rfl rfl ?_
          refine pw_iincN 182 rfl dX12_climbers_179 (by decide) rfl ?_
          refine pw_goto (tgt := 100) dX12_climbers_182 rfl ?_
          rotate_left
          refine ih _ ⟨by omega, by rw [uI_eq]; rfl, fun j hj => ?_⟩ ?_ (fun a j q1 q2 => by rw [uI_ne (by omega), uI_ne (by omega), uI_ne (by omega), uI_ne (by omega), uI_ne (by omega), uI_ne (by omega)]; exact m3 a j q1 q2)
          · rw [uI_ne (by omega), uI_ne (by omega), uI_ne (by omega), uI_ne (by omega), uI_ne (by omega), pcA]
            by_cases ej : j = n + i
            · rw [ej, uI_eq, bu_eq]
            · rw [uI_ne (by omega), bu_ne ej]; exact m1.2.2 j hj
          · have q0 : MB (uI I' 2 (n + i) (nI (tx.getD (2 * i) 0 - 48))) 1 b := MB_f m2 (fun j => uI_ne (by omega))
            exact MB_f (MB_z (MB_z (MB_z (MB_z q0 hz.1) hz.2.1) hz.2.2.1) hz.2.2.2) (fun j => uI_ne (by omega))
    refine pw_if_ne (tgt := 20) 18 rfl dX12_climbers_15 rfl (fun h15 => ?_) (fun h15 => absurd h15 (nI_ne0 (by omega) (by omega)))
    refine pw_iconst (v := nI 0) 21 rfl dX12_climbers_20 rfl ?_
    refine pw_istore_n 22 rfl dX12_climbers_21 (by decide) ?_
    refine pw_iconst (v := nI 1) 23 rfl dX12_climbers_22 rfl ?_
    refine pw_istore_n 24 rfl dX12_climbers_23 (by decide) ?_
    rotate_left
    have hmin : min tx.length 13 ≤ 13 := Nat.min_le_right _ _
    have hml : min tx.length 13 ≤ tx.length := Nat.min_le_left _ _
    have L := nat_loop 7 (fun k => ∀ (I' : pI), n + k ≤ 7 → 2 * k ≤ min tx.length 13 → (∀ p, p < 2 * k → badC tx (7 - n) p = false) → I' 0 11 = nI (2 * k) → I' 0 12 = -1 → (∀ j, j < k → I' 5 j = nI (tx.getD (2 * j) 0 - 48)) → (∀ a j, a ≠ 5 → ¬ (a = 0 ∧ (j = 11 ∨ j = 12)) → I' a j = I1 a j) → PW SM yX12_climbers.cls cX12_climbers 4 (d + 245) 24 [some (.ref 0), some (.int (nI k)), some (.int (nI 1)), none] [] (I') (J) (RM (some 3) (some 6)) (rX cX12_climbers (some .int) (moP (g + 10000) (oClimbers (n, pc, b, us, kp, rw, tx, rt, hd, sw))))) ?_ ?_
    · exact L I1 hn7 (Nat.zero_le _) (fun p hp => by omega) e11 e12 (fun j hj => by omega) (fun _ _ _ _ => rfl)
    · intro I' gn g1
      omega
    · intro k hk ih I' gn g1 g2 g3 g4 g5 g6
      have hQ' : mTQ I' 13 tx := hQ.fr (g6 _ _ (by omega) (by omega)) (g6 _ _ (by omega) (by omega)) (fun j => g6 _ _ (by omega) (by omega))
      have hP := hQ'.at g1 g3
      have hct : (tx.take 13).length = min tx.length 13 := by rw [List.length_take, Nat.min_comm]
      have hat : (tx.take 13).length - ((tx.take 13).drop (2 * k)).length = 2 * k := at_drop (by omega)
      -- at the sign 2k nothing can stand
      have atBad : (2 * k < min tx.length 13 → badC tx (7 - n) (2 * k) = true) → wrC tx (7 - n) = some (2 * k) := by
        intro hb
        by_cases c : 2 * k < min tx.length 13
        · exact wrC_b h0 c g2 (hb c)
        · rw [wrC_e h0 (fun q hq => g2 q (by omega)), if_neg (by omega), if_pos (by omega)]
          congr 1
          omega
      refine pw_iload_n 25 rfl dX12_climbers_24 rfl ?_
      refine pw_if_eq (tgt := 84) 28 rfl dX12_climbers_25 rfl (fun h25 => absurd h25 (by decide)) (fun h25 => ?_)
      refine pw_aload_n 29 rfl dX12_climbers_28 rfl ?_
      refine pw_callVP (as := []) 32 rfl dX12_climbers_29 mX12_124 vX12_fine (m_fine (d := d + 244) g4) (by first | rfl | assumption | exact rowS hh | exact mtS hm | exact ruS hr | exact mtA1 hm | exact mtA2 hm | exact mtA3 hm | exact mtA4 hm | exact mtA5 hm | exact mtA6 hm | exact mtA7 hm | exact ruA1 hr | exact ruA2 hr | exact ruA3 hr) rfl (by decide) ⟨rfl, by decide, by decide, show (parseMethodDescriptor yX12_fine.desc).map (fun d => d.parameters.length) = some 0 by decide +kernel⟩ (by omega) (by decide) (Nat.le_of_ble_eq_true rfl) rfl ?_
      refine pw_if_eq (tgt := 84) 35 rfl dX12_climbers_32 rfl (fun h32 => absurd h32 (by rw [if_pos rfl]; decide)) (fun h32 => ?_)
      refine pw_aload_n 36 rfl dX12_climbers_35 rfl ?_
      refine pw_getI 39 rfl dX12_climbers_36 fX12_95 (by first | rfl | assumption | exact rowS hh | exact mtS hm | exact ruS hr | exact mtA1 hm | exact mtA2 hm | exact mtA3 hm | exact mtA4 hm | exact mtA5 hm | exact mtA6 hm | exact mtA7 hm | exact ruA1 hr | exact ruA2 hr | exact ruA3 hr) rfl ?_
      rotate_left
      rw [show I' 0 1 = nI n from by rw [g6 _ _ (by omega) (by omega)]; exact hn1]
      by_cases c7 : n + k = 7
      · have hw := atBad (fun _ => by rw [badC, if_pos (by omega), show 2 * k / 2 = k by omega, decide_eq_false (show ¬ k < 7 - n by omega), Bool.and_false]; rfl)
        refine pw_iload_n 40 rfl dX12_climbers_39 rfl ?_
        first | refine pw_iaddN 41 rfl dX12_climbers_40 ?_ | refine pw_iadd 41 rfl dX12_climbers_40 ?_
        refine pw_bipush (v := nI 7) 43 rfl dX12_climbers_41 rfl ?_
        refine pw_icmp_ne (tgt := 57) 46 rfl dX12_climbers_43 rfl (fun h43 => absurd (by rw [c7]) h43) (fun h43 => ?_)
        refine pw_aload_n 47 rfl dX12_climbers_46 rfl ?_
        refine pw_aload_n 48 rfl dX12_climbers_47 rfl ?_
        refine pw_getI 51 rfl dX12_climbers_48 fX12_114 (by first | rfl | assumption | exact rowS hh | exact mtS hm | exact ruS hr | exact mtA1 hm | exact mtA2 hm | exact mtA3 hm | exact mtA4 hm | exact mtA5 hm | exact mtA6 hm | exact mtA7 hm | exact ruA1 hr | exact ruA2 hr | exact ruA3 hr) rfl ?_
        rotate_left
        rw [g3]
        refine pw_callV (as := [_]) 54 rfl dX12_climbers_51 mX12_136 vX12_fault (m_fault (d := d + 243) g4) (by first | rfl | assumption | exact rowS hh | exact mtS hm | exact ruS hr | exact mtA1 hm | exact mtA2 hm | exact mtA3 hm | exact mtA4 hm | exact mtA5 hm | exact mtA6 hm | exact mtA7 hm | exact ruA1 hr | exact ruA2 hr | exact ruA3 hr) rfl (by decide) ⟨rfl, by decide, by decide, show (parseMethodDescriptor yX12_fault.desc).map (fun d => d.parameters.length) = some 1 by decide +kernel⟩ (by omega) (by decide) (Nat.le_of_ble_eq_true rfl) rfl (fun r51 I51 J51 R51 c51 => ?_)
        obtain ⟨rfl, rfl, rfl, rfl⟩ := c51
        refine pw_goto (tgt := 71) dX12_climbers_54 rfl ?_
        refine pw_iincN 74 rfl dX12_climbers_71 (by decide) rfl ?_
        refine pw_aload_n 75 rfl dX12_climbers_74 rfl ?_
        refine pw_bipush (v := nI 59) 77 rfl dX12_climbers_75 rfl ?_
        refine pw_callVP (as := [_]) 80 rfl dX12_climbers_77 mX12_132 vX12_passes (m_passesBad (d := d + 243) (c := 59) (uI_eq _ _ _ _) (rdV_ne (by omega))) (by first | rfl | assumption | exact rowS hh | exact mtS hm | exact ruS hr | exact mtA1 hm | exact mtA2 hm | exact mtA3 hm | exact mtA4 hm | exact mtA5 hm | exact mtA6 hm | exact mtA7 hm | exact ruA1 hr | exact ruA2 hr | exact ruA3 hr) rfl (by decide) ⟨rfl, by decide, by decide, show (parseMethodDescriptor yX12_passes.desc).map (fun d => d.parameters.length) = some 1 by decide +kernel⟩ (by omega) (by decide) (Nat.le_of_ble_eq_true rfl) rfl ?_
        rotate_left
        refine pw_istore_n 81 rfl dX12_climbers_80 (by decide) ?_
        refine pw_goto (tgt := 24) dX12_climbers_81 rfl ?_
        rotate_left
        refine pw_iload_n 25 rfl dX12_climbers_24 rfl ?_
        refine pw_if_eq (tgt := 84) 28 rfl dX12_climbers_25 rfl (fun h25 => ?_) (fun h25 => absurd (by rfl) h25)
        rotate_left
        refine exit _ _ (2 * k) (nI (2 * k)) (by rw [uI_ne (by omega)]; exact g3) (uI_eq _ _ _ _) (by omega) ?_ (fun z => by rw [hw] at z; cases z) (fun a j q1 q2 => by rw [uI_ne (by omega)]; exact g6 a j q1 q2)
        rw [wrW, if_neg (fun z => rdV_ne (by omega) z.2), hw]
        rfl
      · have hc7 : ¬ nI (n + k) = nI 7 := by rw [nI_eq (by omega) (by decide)]; exact c7
        by_cases c : 2 * k < min tx.length 13 ∧ isDg (tx.getD (2 * k) 0) = true
        · obtain ⟨c, hdg⟩ := c
          obtain ⟨x, hx⟩ : ∃ x, tx[2 * k]? = some x := ⟨_, List.getElem?_eq_getElem (by omega)⟩
          rw [getD_s hx] at hdg
          have hxb := isDg_b hdg
          rw [dropc hx (by omega)] at hP
          have hat1 : (tx.take 13).length - ((tx.take 13).drop (2 * k + 1)).length = 2 * k + 1 := at_drop (by omega)
          have hgood : badC tx (7 - n) (2 * k) = false := by rw [badC, if_pos (by omega), getD_s hx, hdg, show 2 * k / 2 = k by omega, decide_eq_true (show k < 7 - n by omega)]; rfl
          refine pw_iload_n 40 rfl dX12_climbers_39 rfl ?_
          first | refine pw_iaddN 41 rfl dX12_climbers_40 ?_ | refine pw_iadd 41 rfl dX12_climbers_40 ?_
          refine pw_bipush (v := nI 7) 43 rfl dX12_climbers_41 rfl ?_
          refine pw_icmp_ne (tgt := 57) 46 rfl dX12_climbers_43 rfl (fun h43 => ?_) (fun h43 => absurd h43 hc7)
          refine pw_aload_n 58 rfl dX12_climbers_57 rfl ?_
          refine pw_getR 61 rfl dX12_climbers_58 fX12_24 (by first | rfl | assumption | exact rowS hh | exact mtS hm | exact ruS hr | exact mtA1 hm | exact mtA2 hm | exact mtA3 hm | exact mtA4 hm | exact mtA5 hm | exact mtA6 hm | exact mtA7 hm | exact ruA1 hr | exact ruA2 hr | exact ruA3 hr) rfl (by first | rfl | assumption | exact mtR0 hm | exact mtR1 hm | exact mtR2 hm | exact mtR3 hm | exact mtR4 hm | exact mtR5 hm | exact mtR6 hm | exact ruR0 hr | exact ruR1 hr | exact ruR3 hr) ?_
          refine pw_iload_n 62 rfl dX12_climbers_61 rfl ?_
          refine pw_aload_n 63 rfl dX12_climbers_62 rfl ?_
          refine pw_bipush (v := nI 48) 65 rfl dX12_climbers_63 rfl ?_
          refine pw_bipush (v := nI 10) 67 rfl dX12_climbers_65 rfl ?_
          refine pw_callV (as := [_, _]) 70 rfl dX12_climbers_67 mX12_140 vX12_oneOf (m_oneOfY (d := d + 243) (f := 48) (m := 10) hP g4 hxb.1 (by omega) (by decide)) (by first | rfl | assumption | exact rowS hh | exact mtS hm | exact ruS hr | exact mtA1 hm | exact mtA2 hm | exact mtA3 hm | exact mtA4 hm | exact mtA5 hm | exact mtA6 hm | exact mtA7 hm | exact ruA1 hr | exact ruA2 hr | exact ruA3 hr) rfl (by decide) ⟨rfl, by decide, by decide, show (parseMethodDescriptor yX12_oneOf.desc).map (fun d => d.parameters.length) = some 2 by decide +kernel⟩ (by omega) (by decide) (Nat.le_of_ble_eq_true rfl) rfl (fun r67 I67 J67 R67 c67 => ?_)
          obtain ⟨rfl, rfl, rfl, rfl⟩ := c67
          rotate_left
          rw [hat1]
          refine pw_iastN 71 rfl dX12_climbers_70 (by first | rfl | assumption | exact rowS hh | exact mtS hm | exact ruS hr | exact mtA1 hm | exact mtA2 hm | exact mtA3 hm | exact mtA4 hm | exact mtA5 hm | exact mtA6 hm | exact mtA7 hm | exact ruA1 hr | exact ruA2 hr | exact ruA3 hr) (by omega) (by first | decide | omega) ?_
          refine pw_iincN 74 rfl dX12_climbers_71 (by decide) rfl ?_
          refine pw_aload_n 75 rfl dX12_climbers_74 rfl ?_
          refine pw_bipush (v := nI 59) 77 rfl dX12_climbers_75 rfl ?_
          rotate_left
          generalize hI2 : uI (mAt I' (2 * k + 1)) 5 k (nI (x - 48)) = I2
          have f2 : ∀ a j, a ≠ 5 → ¬ (a = 0 ∧ (j = 11 ∨ j = 12)) → I2 a j = I1 a j := fun a j q1 q2 => by rw [← hI2, uI_ne (by omega), mAt, uI_ne (by omega)]; exact g6 a j q1 q2
          have h11 : I2 0 11 = nI (2 * k + 1) := by rw [← hI2, uI_ne (by omega), mAt, uI_eq]
          have h12 : I2 0 12 = -1 := by rw [← hI2, uI_ne (by omega), mAt, uI_ne (by omega)]; exact g4
          have h5 : ∀ j, j < k + 1 → I2 5 j = nI (tx.getD (2 * j) 0 - 48) := fun j hj => by
            rw [← hI2]
            by_cases ej : j = k
            · rw [ej, uI_eq, getD_s hx]
            · rw [uI_ne (by omega), mAt, uI_ne (by omega)]; exact g5 j (by omega)
          clear hI2
          have hQ2 : mTQ I2 13 tx := hQ.fr (f2 _ _ (by omega) (by omega)) (f2 _ _ (by omega) (by omega)) (fun j => f2 _ _ (by omega) (by omega))
          have hP2 := hQ2.at (show 2 * k + 1 ≤ min tx.length 13 by omega) h11
          have g2' : ∀ p, p < 2 * k + 1 → badC tx (7 - n) p = false := fun p hp => by
            by_cases ep : p = 2 * k
            · rw [ep]; exact hgood
            · exact g2 p (by omega)
          by_cases c2 : 2 * k + 1 < min tx.length 13 ∧ tx.getD (2 * k + 1) 0 = 59
          · obtain ⟨c2, hsc⟩ := c2
            obtain ⟨y, hy⟩ : ∃ y, tx[2 * k + 1]? = some y := ⟨_, List.getElem?_eq_getElem (by omega)⟩
            rw [getD_s hy] at hsc
            subst hsc
            rw [dropc hy (by omega)] at hP2
            have hat2 : (tx.take 13).length - ((tx.take 13).drop (2 * k + 1 + 1)).length = 2 * k + 1 + 1 := at_drop (by omega)
            refine pw_callV (as := [_]) 80 rfl dX12_climbers_77 mX12_132 vX12_passes (m_passes (d := d + 243) hP2 h12) (by first | rfl | assumption | exact rowS hh | exact mtS hm | exact ruS hr | exact mtA1 hm | exact mtA2 hm | exact mtA3 hm | exact mtA4 hm | exact mtA5 hm | exact mtA6 hm | exact mtA7 hm | exact ruA1 hr | exact ruA2 hr | exact ruA3 hr) rfl (by decide) ⟨rfl, by decide, by decide, show (parseMethodDescriptor yX12_passes.desc).map (fun d => d.parameters.length) = some 1 by decide +kernel⟩ (by omega) (by decide) (Nat.le_of_ble_eq_true rfl) rfl (fun r77 I77 J77 R77 c77 => ?_)
            obtain ⟨rfl, rfl, rfl, rfl⟩ := c77
            rotate_left
            rw [hat2]
            refine pw_istore_n 81 rfl dX12_climbers_80 (by decide) ?_
            refine pw_goto (tgt := 24) dX12_climbers_81 rfl ?_
            rotate_left
            refine ih _ (by omega) (by omega) (fun p hp => ?_) (by rw [mAt, uI_eq]; rfl) (by rw [mAt, uI_ne (by omega)]; exact h12) (fun j hj => by rw [mAt, uI_ne (by omega)]; exact h5 j hj) (fun a j q1 q2 => by rw [mAt, uI_ne (by omega)]; exact f2 a j q1 q2)
            by_cases ep : p = 2 * k + 1
            · rw [ep, badC, if_neg (by omega), getD_s hy]; rfl
            · exact g2' p (by omega)
          · have hno : ((tx.take 13).drop (2 * k + 1)).head? ≠ some 59 := by
              intro z
              by_cases cc : 2 * k + 1 < min tx.length 13
              · obtain ⟨y, hy⟩ : ∃ y, tx[2 * k + 1]? = some y := ⟨_, List.getElem?_eq_getElem (by omega)⟩
                rw [dropc hy (by omega)] at z
                cases z
                exact c2 ⟨cc, getD_s hy⟩
              · rw [List.drop_of_length_le (by omega)] at z
                cases z
            refine pw_callVP (as := [_]) 80 rfl dX12_climbers_77 mX12_132 vX12_passes (m_passesNo (d := d + 243) hP2 hno (by decide)) (by first | rfl | assumption | exact rowS hh | exact mtS hm | exact ruS hr | exact mtA1 hm | exact mtA2 hm | exact mtA3 hm | exact mtA4 hm | exact mtA5 hm | exact mtA6 hm | exact mtA7 hm | exact ruA1 hr | exact ruA2 hr | exact ruA3 hr) rfl (by decide) ⟨rfl, by decide, by decide, show (parseMethodDescriptor yX12_passes.desc).map (fun d => d.parameters.length) = some 1 by decide +kernel⟩ (by omega) (by decide) (Nat.le_of_ble_eq_true rfl) rfl ?_
            rotate_left
            refine pw_istore_n 81 rfl dX12_climbers_80 (by decide) ?_
            refine pw_goto (tgt := 24) dX12_climbers_81 rfl ?_
            rotate_left
            refine pw_iload_n 25 rfl dX12_climbers_24 rfl ?_
            refine pw_if_eq (tgt := 84) 28 rfl dX12_climbers_25 rfl (fun h25 => ?_) (fun h25 => absurd (by rfl) h25)
            rotate_left
            have hW2 : wrC tx (7 - n) = if 2 * k + 1 < tx.length then some (2 * k + 1) else none := by
              by_cases cc : 2 * k + 1 < min tx.length 13
              · rw [if_pos (by omega)]
                refine wrC_b h0 cc g2' ?_
                rw [badC, if_neg (by omega), decide_eq_false (fun z => c2 ⟨cc, z⟩)]
                rfl
              · rw [wrC_e h0 (fun q hq => g2' q (by omega))]
                by_cases c13 : 13 < tx.length
                · rw [if_pos c13, if_pos (by omega), show 2 * k + 1 = 13 by omega]
                · rw [if_neg c13, if_neg (by omega), if_neg (by omega)]
            refine exit I2 _ (2 * k + 1) (-1) h11 h12 (by omega) ?_ (fun z => ⟨?_, h5⟩) f2
            · rw [hW2, wrW]
              by_cases cl : 2 * k + 1 < tx.length
              · rw [if_pos ⟨cl, rfl⟩, if_pos cl]; rfl
              · rw [if_neg (fun z => cl z.1), if_neg cl]; rfl
            · rw [hW2] at z
              by_cases cl : 2 * k + 1 < tx.length
              · rw [if_pos cl] at z; cases z
              · omega
        · have hw := atBad (fun cc => by
            rw [badC, if_pos (by omega)]
            cases e : isDg (tx.getD (2 * k) 0)
            · rfl
            · exact absurd ⟨cc, e⟩ c)
          have hnd : ∀ x, ((tx.take 13).drop (2 * k)).head? = some x → ¬ (48 ≤ x ∧ x < 48 + 10) := by
            intro x hx hb
            by_cases cc : 2 * k < min tx.length 13
            · obtain ⟨y, hy⟩ : ∃ y, tx[2 * k]? = some y := ⟨_, List.getElem?_eq_getElem (by omega)⟩
              rw [dropc hy (by omega)] at hx
              cases hx
              refine c ⟨cc, ?_⟩
              rw [getD_s hy, isDg, decide_eq_true hb.1, decide_eq_true (show x ≤ 57 by omega)]
              rfl
            · rw [List.drop_of_length_le (by omega)] at hx
              cases hx
          refine pw_iload_n 40 rfl dX12_climbers_39 rfl ?_
          first | refine pw_iaddN 41 rfl dX12_climbers_40 ?_ | refine pw_iadd 41 rfl dX12_climbers_40 ?_
          refine pw_bipush (v := nI 7) 43 rfl dX12_climbers_41 rfl ?_
          refine pw_icmp_ne (tgt := 57) 46 rfl dX12_climbers_43 rfl (fun h43 => ?_) (fun h43 => absurd h43 hc7)
          refine pw_aload_n 58 rfl dX12_climbers_57 rfl ?_
          refine pw_getR 61 rfl dX12_climbers_58 fX12_24 (by first | rfl | assumption | exact rowS hh | exact mtS hm | exact ruS hr | exact mtA1 hm | exact mtA2 hm | exact mtA3 hm | exact mtA4 hm | exact mtA5 hm | exact mtA6 hm | exact mtA7 hm | exact ruA1 hr | exact ruA2 hr | exact ruA3 hr) rfl (by first | rfl | assumption | exact mtR0 hm | exact mtR1 hm | exact mtR2 hm | exact mtR3 hm | exact mtR4 hm | exact mtR5 hm | exact mtR6 hm | exact ruR0 hr | exact ruR1 hr | exact ruR3 hr) ?_
          refine pw_iload_n 62 rfl dX12_climbers_61 rfl ?_
          refine pw_aload_n 63 rfl dX12_climbers_62 rfl ?_
          refine pw_bipush (v := nI 48) 65 rfl dX12_climbers_63 rfl ?_
          refine pw_bipush (v := nI 10) 67 rfl dX12_climbers_65 rfl ?_
          refine pw_callV (as := [_, _]) 70 rfl dX12_climbers_67 mX12_140 vX12_oneOf (m_oneOfN (d := d + 242) hP g4 hnd (by decide) (by decide)) (by first | rfl | assumption | exact rowS hh | exact mtS hm | exact ruS hr | exact mtA1 hm | exact mtA2 hm | exact mtA3 hm | exact mtA4 hm | exact mtA5 hm | exact mtA6 hm | exact mtA7 hm | exact ruA1 hr | exact ruA2 hr | exact ruA3 hr) rfl (by decide) ⟨rfl, by decide, by decide, show (parseMethodDescriptor yX12_oneOf.desc).map (fun d => d.parameters.length) = some 2 by decide +kernel⟩ (by omega) (by decide) (Nat.le_of_ble_eq_true rfl) rfl (fun r67 I67 J67 R67 c67 => ?_)
          obtain ⟨rfl, rfl, rfl, rfl⟩ := c67
          rotate_left
          rw [hat]
          refine pw_iastN 71 rfl dX12_climbers_70 (by first | rfl | assumption | exact rowS hh | exact mtS hm | exact ruS hr | exact mtA1 hm | exact mtA2 hm | exact mtA3 hm | exact mtA4 hm | exact mtA5 hm | exact mtA6 hm | exact mtA7 hm | exact ruA1 hr | exact ruA2 hr | exact ruA3 hr) (by omega) (by first | decide | omega) ?_
          refine pw_iincN 74 rfl dX12_climbers_71 (by decide) rfl ?_
          refine pw_aload_n 75 rfl dX12_climbers_74 rfl ?_
          refine pw_bipush (v := nI 59) 77 rfl dX12_climbers_75 rfl ?_
          refine pw_callVP (as := [_]) 80 rfl dX12_climbers_77 mX12_132 vX12_passes (m_passesBad (d := d + 243) (c := 59) (w := nI (2 * k)) (by rw [uI_ne (by omega), uI_eq]) (rdV_ne (by omega))) (by first | rfl | assumption | exact rowS hh | exact mtS hm | exact ruS hr | exact mtA1 hm | exact mtA2 hm | exact mtA3 hm | exact mtA4 hm | exact mtA5 hm | exact mtA6 hm | exact mtA7 hm | exact ruA1 hr | exact ruA2 hr | exact ruA3 hr) rfl (by decide) ⟨rfl, by decide, by decide, show (parseMethodDescriptor yX12_passes.desc).map (fun d => d.parameters.length) = some 1 by decide +kernel⟩ (by omega) (by decide) (Nat.le_of_ble_eq_true rfl) rfl ?_
          rotate_left
          refine pw_istore_n 81 rfl dX12_climbers_80 (by decide) ?_
          refine pw_goto (tgt := 24) dX12_climbers_81 rfl ?_
          rotate_left
          refine pw_iload_n 25 rfl dX12_climbers_24 rfl ?_
          refine pw_if_eq (tgt := 84) 28 rfl dX12_climbers_25 rfl (fun h25 => ?_) (fun h25 => absurd (by rfl) h25)
          rotate_left
          refine exit _ _ (2 * k) (nI (2 * k)) (by rw [uI_ne (by omega), uI_ne (by omega)]; exact g3) (by rw [uI_ne (by omega), uI_eq]) (by omega) ?_ (fun z => by rw [hw] at z; cases z) (fun a j q1 q2 => by rw [uI_ne (by omega), uI_ne (by omega)]; exact g6 a j q1 q2)
          rw [wrW, if_neg (fun z => rdV_ne (by omega) z.2), hw]
          rfl
