/-! the reference's asking methods -/
theorem moQ {g : Nat} {f : qFn} {n : Nat} {pc b : Nat → Nat} {us : List (Nat → Nat)} {kp : Nat → Option (Nat → Nat)} {rw B : List Int64} {tx rt : List Nat} {hd sw : List (Nat × Nat)} {A : Int32} {r' : Option Value} {I' : pI} {J' : pJ} {R' : pR} (e : f n pc b (ruE rt) rw hd sw = (A, B)) (hr : r' = some (.int A)) (hX : MA I' J' (n, pc, b, us, kp, B, tx, rt, hd, sw)) (hD : MDg g I') (hR : ∃ rd', R' = RM rd' (some 6)) : moP g (qOp f (n, pc, b, us, kp, rw, tx, rt, hd, sw)) r' I' J' R' := by
  refine ⟨?_, ?_, hD, hR⟩
  · rw [qOp, e]; exact hr
  · rw [qOp, e]; exact hX
theorem MN_0 {I : pI} {J : pJ} : MN (uI I 0 6 (nI 0)) J [] := ⟨uI_eq _ _ _ _, by show (0 : Nat) ≤ 12; omega, fun j x hj => by cases hj⟩
theorem dlA_le {n N : Nat} (h7 : n ≤ 7) (pc : Nat → Nat) (E : (Nat → Int32) → Nat) (b : Nat → Nat) (hN : N ≤ 100) : (dlA n pc E b N).length ≤ 1000 := by
  rw [dlA_len h7]; have := cdn_le n pc E b N; omega
theorem bc_bts {P : Nat → Bool} (n : Nat) (h : n ≤ 7) : bcF (nI (bts P n)) = nI (popc (bts P n)) := bc_pop _ (Nat.lt_of_lt_of_le (bts_lt _ n) (Nat.le_trans (Nat.pow_le_pow_right (by decide) h) (by decide)))
theorem WF_way {n : Nat} {pc b : Nat → Nat} (h : WF n pc b) : ∀ k, k < 7 → b (7 + k) ≤ 2 := fun k hk => (h.2.2.2.2 k hk).2.2.1
set_option maxRecDepth 100000 in
set_option maxHeartbeats 2000000 in
theorem mo_later {d g : Nat} {s : aSt} {rd : Option Nat} {I : pI} {J : pJ} (hA : MA I J s) (hD : MDg g I) (hg : g ≤ 500000000) (hW : WA s) (v : Int32) : PC SM (d + 245) yX12_later cX12_later 2 (some .int) [.ref 0, .int v] (I) (J) (RM rd (some 6)) (moP (g + 10000) (qOp (qLater v) s)) := by
  refine PC.of [some (.ref 0), some (.int v)] rfl rfl (Nat.le_of_ble_eq_true rfl) ?_
  obtain ⟨n, pc, b, us, kp, rw, tx, rt, hd, sw⟩ := s
  refine pw_aload_n 1 rfl dX12_later_0 rfl ?_
  refine pw_iconst (v := nI 0) 2 rfl dX12_later_1 rfl ?_
  refine pw_putI 5 rfl dX12_later_2 fX12_88 w12_7 (by first | rfl | assumption | exact rowS hh | exact mtS hm | exact ruS hr | exact mtA1 hm | exact mtA2 hm | exact mtA3 hm | exact mtA4 hm | exact mtA5 hm | exact mtA6 hm | exact mtA7 hm | exact ruA1 hr | exact ruA2 hr | exact ruA3 hr) rfl rfl rfl ?_
  rotate_left
  have hA0 := MA_thr (v := nI 0) hA
  have hD0 : MDg g (uI I 0 7 (nI 0)) := MDg_f hD (uI_ne (by omega)) (fun j => uI_ne (by omega))
  clear hA hD
  generalize uI I 0 7 (nI 0) = I at hA0 hD0 ⊢
  obtain ⟨mC, mB, mT, mN, mR, mU, mK, mH, mG⟩ := id hA0
  obtain ⟨aW, aU, aK⟩ := id hW
  have hE := MSt_A hA0
  have hn7 := mC.1
  have hn := mC.2.1
  rcases inOf_cases (lo := 0) (hi := 99) (by decide) v (by decide) with ⟨N, h1, h2, rfl, hi⟩ | ⟨hi, ho⟩
  · refine pw_iload_n 6 rfl dX12_later_5 rfl ?_
    refine pw_iconst (v := nI 0) 7 rfl dX12_later_6 rfl ?_
    refine pw_bipush (v := nI 99) 9 rfl dX12_later_7 rfl ?_
    refine pw_callSP (as := [_, _, _]) 12 rfl dX12_later_9 mX12_98 sX12_in (m_in (d := d) _ _ _) ⟨rfl, by decide, by decide, show (parseMethodDescriptor yX12_in.desc).map (fun d => d.parameters.length) = some 3 by decide +kernel⟩ (by omega) (by decide) (Nat.le_of_ble_eq_true rfl) rfl ?_
    refine pw_if_ne (tgt := 17) 15 rfl dX12_later_12 rfl (fun h12 => ?_) (fun h12 => absurd h12 (by rw [inV_y h1 h2 (by decide)]; decide))
    refine pw_aload_n 18 rfl dX12_later_17 rfl ?_
    refine pw_iload_n 19 rfl dX12_later_18 rfl ?_
    refine pw_callV (as := [_]) 22 rfl dX12_later_19 mX12_276 vX12_goThen (m_goThen (d := d + 5) mC mB aW.1 hE (show N ≤ 100 by omega)) (by first | rfl | assumption | exact rowS hh | exact mtS hm | exact ruS hr | exact mtA1 hm | exact mtA2 hm | exact mtA3 hm | exact mtA4 hm | exact mtA5 hm | exact mtA6 hm | exact mtA7 hm | exact ruA1 hr | exact ruA2 hr | exact ruA3 hr) rfl (by decide) ⟨rfl, by decide, by decide, show (parseMethodDescriptor yX12_goThen.desc).map (fun d => d.parameters.length) = some 1 by decide +kernel⟩ (by omega) (by decide) (Nat.le_of_ble_eq_true rfl) rfl (fun r19 I19 J19 R19 c19 => ?_)
    obtain ⟨rfl, g1, g2, g3, rfl, rd2, rfl⟩ := c19
    refine pw_aload_n 23 rfl dX12_later_22 rfl ?_
    refine pw_iconst (v := nI 0) 24 rfl dX12_later_23 rfl ?_
    refine pw_putI 27 rfl dX12_later_24 fX12_92 w12_6 (by first | rfl | assumption | exact rowS hh | exact mtS hm | exact ruS hr | exact mtA1 hm | exact mtA2 hm | exact mtA3 hm | exact mtA4 hm | exact mtA5 hm | exact mtA6 hm | exact mtA7 hm | exact ruA1 hr | exact ruA2 hr | exact ruA3 hr) rfl rfl rfl ?_
    rotate_left
    have hWh := WF_hrs (ruE rt) aW.1 N
    refine pw_aload_n 28 rfl dX12_later_27 rfl ?_
    refine pw_aload_n 29 rfl dX12_later_28 rfl ?_
    refine pw_getI 32 rfl dX12_later_29 fX12_223 (by first | rfl | assumption | exact rowS hh | exact mtS hm | exact ruS hr | exact mtA1 hm | exact mtA2 hm | exact mtA3 hm | exact mtA4 hm | exact mtA5 hm | exact mtA6 hm | exact mtA7 hm | exact ruA1 hr | exact ruA2 hr | exact ruA3 hr) rfl ?_
    rotate_left
    rw [uI_ne (by omega), g3.1, dlA_len hn7]
    refine pw_i2l 33 rfl dX12_later_32 ?_
    refine pw_callV (as := [_]) 36 rfl dX12_later_33 mX12_236 vX12_tell (m_tell (d := d + 244) MN_0 (by decide)) (by first | rfl | assumption | exact rowS hh | exact mtS hm | exact ruS hr | exact mtA1 hm | exact mtA2 hm | exact mtA3 hm | exact mtA4 hm | exact mtA5 hm | exact mtA6 hm | exact mtA7 hm | exact ruA1 hr | exact ruA2 hr | exact ruA3 hr) rfl (by decide) ⟨rfl, by decide, by decide, show (parseMethodDescriptor yX12_tell.desc).map (fun d => d.parameters.length) = some 1 by decide +kernel⟩ (by omega) (by decide) (Nat.le_of_ble_eq_true rfl) rfl (fun r33 I33 J33 R33 c33 => ?_)
    obtain ⟨rfl, t1, t2, rfl⟩ := c33
    rotate_left
    have hf1 : ∀ a j, ¬ (a = 0 ∧ j = 6) → I33 a j = I19 a j := fun a j q => by rw [t2 a j q, uI_ne (by omega)]
    refine pw_aload_n 37 rfl dX12_later_36 rfl ?_
    refine pw_aload_n 38 rfl dX12_later_37 rfl ?_
    refine pw_aload_n 39 rfl dX12_later_38 rfl ?_
    refine pw_getR 42 rfl dX12_later_39 fX12_42 (by first | rfl | assumption | exact rowS hh | exact mtS hm | exact ruS hr | exact mtA1 hm | exact mtA2 hm | exact mtA3 hm | exact mtA4 hm | exact mtA5 hm | exact mtA6 hm | exact mtA7 hm | exact ruA1 hr | exact ruA2 hr | exact ruA3 hr) rfl (by first | rfl | assumption | exact mtR0 hm | exact mtR1 hm | exact mtR2 hm | exact mtR3 hm | exact mtR4 hm | exact mtR5 hm | exact mtR6 hm | exact ruR0 hr | exact ruR1 hr | exact ruR3 hr) ?_
    refine pw_callVP (as := [_]) 45 rfl dX12_later_42 mX12_240 vX12_walking (m_walking (d := d + 244) (b := hrs n pc (ruE rt) N b) (Or.inr rfl) (by rw [hf1 _ _ (by omega), g2 _ _ (by omega) (by omega) (by omega) (by omega) (by omega)]; exact hn) hn7 (WF_way hWh) (fun j hj => by rw [hf1 _ _ (by omega)]; exact g1 j hj)) (by first | rfl | assumption | exact rowS hh | exact mtS hm | exact ruS hr | exact mtA1 hm | exact mtA2 hm | exact mtA3 hm | exact mtA4 hm | exact mtA5 hm | exact mtA6 hm | exact mtA7 hm | exact ruA1 hr | exact ruA2 hr | exact ruA3 hr) rfl (by decide) ⟨rfl, by decide, by decide, show (parseMethodDescriptor yX12_walking.desc).map (fun d => d.parameters.length) = some 1 by decide +kernel⟩ (by omega) (by decide) (Nat.le_of_ble_eq_true rfl) rfl ?_
    refine pw_callSP (as := [_]) 48 rfl dX12_later_45 mX12_244 sJ6_bitCount_0f7a4 (x_bitCount (d := d + 244) _) ⟨rfl, by decide, by decide, show (parseMethodDescriptor yJ6_bitCount_0f7a4.desc).map (fun d => d.parameters.length) = some 1 by decide +kernel⟩ (by omega) (by decide) (Nat.le_of_ble_eq_true rfl) rfl ?_
    refine pw_i2l 49 rfl dX12_later_48 ?_
    refine pw_callV (as := [_]) 52 rfl dX12_later_49 mX12_236 vX12_tell (m_tell (d := d + 244) t1 (by show (1 : Nat) < 12; decide)) (by first | rfl | assumption | exact rowS hh | exact mtS hm | exact ruS hr | exact mtA1 hm | exact mtA2 hm | exact mtA3 hm | exact mtA4 hm | exact mtA5 hm | exact mtA6 hm | exact mtA7 hm | exact ruA1 hr | exact ruA2 hr | exact ruA3 hr) rfl (by decide) ⟨rfl, by decide, by decide, show (parseMethodDescriptor yX12_tell.desc).map (fun d => d.parameters.length) = some 1 by decide +kernel⟩ (by omega) (by decide) (Nat.le_of_ble_eq_true rfl) rfl (fun r49 I49 J49 R49 c49 => ?_)
    obtain ⟨rfl, u1, u2, rfl⟩ := c49
    rotate_left
    refine pw_aload_n 53 rfl dX12_later_52 rfl ?_
    refine pw_getR 56 rfl dX12_later_53 fX12_42 (by first | rfl | assumption | exact rowS hh | exact mtS hm | exact ruS hr | exact mtA1 hm | exact mtA2 hm | exact mtA3 hm | exact mtA4 hm | exact mtA5 hm | exact mtA6 hm | exact mtA7 hm | exact ruA1 hr | exact ruA2 hr | exact ruA3 hr) rfl (by first | rfl | assumption | exact mtR0 hm | exact mtR1 hm | exact mtR2 hm | exact mtR3 hm | exact mtR4 hm | exact mtR5 hm | exact mtR6 hm | exact ruR0 hr | exact ruR1 hr | exact ruR3 hr) ?_
    refine pw_bipush (v := nI 29) 58 rfl dX12_later_56 rfl ?_
    refine pw_ialdN 59 rfl dX12_later_58 (by first | rfl | assumption | exact rowS hh | exact mtS hm | exact ruS hr | exact mtA1 hm | exact mtA2 hm | exact mtA3 hm | exact mtA4 hm | exact mtA5 hm | exact mtA6 hm | exact mtA7 hm | exact ruA1 hr | exact ruA2 hr | exact ruA3 hr) (by omega) (by first | decide | omega) ?_
    rotate_left
    have hf2 : ∀ a j, ¬ (a = 0 ∧ j = 6) → I49 a j = I19 a j := fun a j q => by rw [u2 a j q, hf1 a j q]
    rw [hf2 _ _ (by omega), g1 29 (by omega)]
    refine pw_iret dX12_later_59 rfl ?_
    rotate_left
    rw [bc_bts n (by omega)] at u1
    refine moQ (by unfold qLater; rw [hi]; rfl) rfl (MA_rw hA0 (fun a j q => by rw [hf2 a j (by omega)]; exact fMs_mFr g2 a j q) u1) ⟨_, ⟨by rw [hf2 _ _ (by omega)]; exact g3.1, g3.2.1, fun j x hj hx => by rw [hf2 _ _ (by omega)]; exact g3.2.2 j x hj hx⟩, ?_⟩ ⟨rd2, rfl⟩
    have := dlA_le hn7 pc (ruE rt) b (show N ≤ 100 by omega)
    omega
  · refine pw_iload_n 6 rfl dX12_later_5 rfl ?_
    refine pw_iconst (v := nI 0) 7 rfl dX12_later_6 rfl ?_
    refine pw_bipush (v := nI 99) 9 rfl dX12_later_7 rfl ?_
    refine pw_callSP (as := [_, _, _]) 12 rfl dX12_later_9 mX12_98 sX12_in (m_in (d := d) _ _ _) ⟨rfl, by decide, by decide, show (parseMethodDescriptor yX12_in.desc).map (fun d => d.parameters.length) = some 3 by decide +kernel⟩ (by omega) (by decide) (Nat.le_of_ble_eq_true rfl) rfl ?_
    refine pw_if_ne (tgt := 17) 15 rfl dX12_later_12 rfl (fun h12 => absurd (by rw [inV_n ho]; rfl) h12) (fun h12 => ?_)
    refine pw_iconst (v := -1) 16 rfl dX12_later_15 rfl ?_
    refine pw_iret dX12_later_16 rfl ?_
    rotate_left
    exact moQ (by unfold qLater; rw [hi]; rfl) rfl hA0 (hD0.mono (by omega)) ⟨rd, rfl⟩
