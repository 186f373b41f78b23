/-! what is done to a mountain -/
def bu (b : Nat → Nat) (k v : Nat) : Nat → Nat := fun j => if j = k then v else b j
theorem bu_eq (b : Nat → Nat) (k v : Nat) : bu b k v k = v := if_pos rfl
theorem bu_ne {b : Nat → Nat} {k v j : Nat} (h : j ≠ k) : bu b k v j = b j := if_neg h
theorem XM_height {I : pI} {m n q v : Nat} {pc b : Nat → Nat} (h : XM I m n pc b) (hq : q < 7) : XM (uI I (m + 2) q (nI v)) m n pc (bu b q v) := by
  obtain ⟨h7, i7, i8, i9, i10, i11, hA⟩ := h
  refine ⟨h7, ?_, ?_, ?_, ?_, ?_, fun k hk => ⟨?_, ?_, ?_, ?_, ?_⟩⟩
  · rw [uI_ne (by omega)]; exact i7
  · rw [uI_ne (by omega), bu_ne (by omega)]; exact i8
  · rw [uI_ne (by omega), bu_ne (by omega)]; exact i9
  · rw [uI_ne (by omega), bu_ne (by omega)]; exact i10
  · rw [uI_ne (by omega), bu_ne (by omega)]; exact i11
  · rw [uI_ne (by omega)]; exact (hA k hk).1
  · by_cases e : k = q
    · rw [e, uI_eq, bu_eq]
    · rw [uI_ne (by omega), bu_ne e]; exact (hA k hk).2.1
  · rw [uI_ne (by omega), bu_ne (by omega)]; exact (hA k hk).2.2.1
  · rw [uI_ne (by omega), bu_ne (by omega)]; exact (hA k hk).2.2.2.1
  · rw [uI_ne (by omega), bu_ne (by omega)]; exact (hA k hk).2.2.2.2
theorem XM_way {I : pI} {m n q v : Nat} {pc b : Nat → Nat} (h : XM I m n pc b) (hq : q < 7) : XM (uI I (m + 3) q (nI v)) m n pc (bu b (7 + q) v) := by
  obtain ⟨h7, i7, i8, i9, i10, i11, hA⟩ := h
  refine ⟨h7, ?_, ?_, ?_, ?_, ?_, fun k hk => ⟨?_, ?_, ?_, ?_, ?_⟩⟩
  · rw [uI_ne (by omega)]; exact i7
  · rw [uI_ne (by omega), bu_ne (by omega)]; exact i8
  · rw [uI_ne (by omega), bu_ne (by omega)]; exact i9
  · rw [uI_ne (by omega), bu_ne (by omega)]; exact i10
  · rw [uI_ne (by omega), bu_ne (by omega)]; exact i11
  · rw [uI_ne (by omega)]; exact (hA k hk).1
  · rw [uI_ne (by omega), bu_ne (by omega)]; exact (hA k hk).2.1
  · by_cases e : k = q
    · rw [e, uI_eq, bu_eq]
    · rw [uI_ne (by omega), bu_ne (by omega)]; exact (hA k hk).2.2.1
  · rw [uI_ne (by omega), bu_ne (by omega)]; exact (hA k hk).2.2.2.1
  · rw [uI_ne (by omega), bu_ne (by omega)]; exact (hA k hk).2.2.2.2
theorem XM_wait {I : pI} {m n q v : Nat} {pc b : Nat → Nat} (h : XM I m n pc b) (hq : q < 7) : XM (uI I (m + 4) q (nI v)) m n pc (bu b (14 + q) v) := by
  obtain ⟨h7, i7, i8, i9, i10, i11, hA⟩ := h
  refine ⟨h7, ?_, ?_, ?_, ?_, ?_, fun k hk => ⟨?_, ?_, ?_, ?_, ?_⟩⟩
  · rw [uI_ne (by omega)]; exact i7
  · rw [uI_ne (by omega), bu_ne (by omega)]; exact i8
  · rw [uI_ne (by omega), bu_ne (by omega)]; exact i9
  · rw [uI_ne (by omega), bu_ne (by omega)]; exact i10
  · rw [uI_ne (by omega), bu_ne (by omega)]; exact i11
  · rw [uI_ne (by omega)]; exact (hA k hk).1
  · rw [uI_ne (by omega), bu_ne (by omega)]; exact (hA k hk).2.1
  · rw [uI_ne (by omega), bu_ne (by omega)]; exact (hA k hk).2.2.1
  · by_cases e : k = q
    · rw [e, uI_eq, bu_eq]
    · rw [uI_ne (by omega), bu_ne (by omega)]; exact (hA k hk).2.2.2.1
  · rw [uI_ne (by omega), bu_ne (by omega)]; exact (hA k hk).2.2.2.2
theorem XM_top {I : pI} {m n v : Nat} {pc b : Nat → Nat} (h : XM I m n pc b) : XM (uI I m 8 (nI v)) m n pc (bu b 28 v) := by
  obtain ⟨h7, i7, i8, i9, i10, i11, hA⟩ := h
  refine ⟨h7, ?_, ?_, ?_, ?_, ?_, fun k hk => ⟨?_, ?_, ?_, ?_, ?_⟩⟩
  · rw [uI_ne (by omega)]; exact i7
  · rw [uI_eq, bu_eq]
  · rw [uI_ne (by omega), bu_ne (by omega)]; exact i9
  · rw [uI_ne (by omega), bu_ne (by omega)]; exact i10
  · rw [uI_ne (by omega), bu_ne (by omega)]; exact i11
  · rw [uI_ne (by omega)]; exact (hA k hk).1
  · rw [uI_ne (by omega), bu_ne (by omega)]; exact (hA k hk).2.1
  · rw [uI_ne (by omega), bu_ne (by omega)]; exact (hA k hk).2.2.1
  · rw [uI_ne (by omega), bu_ne (by omega)]; exact (hA k hk).2.2.2.1
  · rw [uI_ne (by omega), bu_ne (by omega)]; exact (hA k hk).2.2.2.2
theorem WF_bu {n : Nat} {pc b : Nat → Nat} (h : WF n pc b) {j v : Nat} (hj : (j < 7 ∧ v ≤ b 28) ∨ (7 ≤ j ∧ j < 14 ∧ v ≤ 2) ∨ (14 ≤ j ∧ j < 21 ∧ v ≤ 500)) : WF n pc (bu b j v) := by
  obtain ⟨h7, ht, ho, hd, hB⟩ := h
  refine ⟨h7, by rw [bu_ne (by omega)]; exact ht, by rw [bu_ne (by omega)]; exact ho, by rw [bu_ne (by omega)]; exact hd, fun k hk => ?_⟩
  have hb := hB k hk
  refine ⟨hb.1, ?_, ?_, ?_, ?_⟩
  · rw [bu_ne (j := 28) (by omega)]
    by_cases e : k = j
    · rw [e, bu_eq]; omega
    · rw [bu_ne e]; exact hb.2.1
  · by_cases e : 7 + k = j
    · rw [e, bu_eq]; omega
    · rw [bu_ne e]; exact hb.2.2.1
  · by_cases e : 14 + k = j
    · rw [e, bu_eq]; omega
    · rw [bu_ne e]; exact hb.2.2.2.1
  · rw [bu_ne (by omega)]; exact hb.2.2.2.2
/-- is it a climber, and which -/
def qOf (n : Nat) (w : Int32) : Option Nat := if hasV n w = nI 1 then some w.toNatClampNeg else none
theorem qOf_y {n q : Nat} (h : q < n) (h7 : n ≤ 7) : qOf n (nI q) = some q := by
  rw [qOf, if_pos (hasV_y h h7), nI_clamp (by omega)]
theorem qOf_no {n : Nat} {w : Int32} (h : w < 0 ∨ nI n ≤ w) : qOf n w = none := by
  rw [qOf, hasV_no h, if_neg (by decide)]
def aSet (n : Nat) (b : Nat → Nat) (w : Int32) : Int32 × (Nat → Nat) := match qOf n w with
  | none => (-1, b)
  | some q => if b (7 + q) = 0 then (nI (onW n (bu b (7 + q) 1)), bu b (7 + q) 1) else (-2, b)
def aTurn (n : Nat) (b : Nat → Nat) (w : Int32) : Int32 × (Nat → Nat) := match qOf n w with
  | none => (-1, b)
  | some q => if b (7 + q) = 0 then (-2, b) else if b (7 + q) = 1 then (nI 2, bu b (7 + q) 2) else (nI 1, bu b (7 + q) 1)
/-- a number 1 .. 9 -/
def nOf (v : Int32) : Option Nat := if nI 1 ≤ v ∧ v ≤ nI 9 then some v.toNatClampNeg else none
def aWait (n : Nat) (b : Nat → Nat) (w v : Int32) : Int32 × (Nat → Nat) := match qOf n w with
  | none => (-1, b)
  | some q => match nOf v with
    | none => (-1, b)
    | some k => (nI (min 99 (b (14 + q) + k)), bu b (14 + q) (min 99 (b (14 + q) + k)))
def aSlip (n : Nat) (b : Nat → Nat) (w v : Int32) : Int32 × (Nat → Nat) := match qOf n w with
  | none => (-1, b)
  | some q => match nOf v with
    | none => (-1, b)
    | some k => if b (7 + q) = 0 then (-2, b) else (nI (b q - k), bu (bu b q (b q - k)) (7 + q) 2)
theorem nOf_y {k : Nat} (h1 : 1 ≤ k) (h9 : k ≤ 9) : nOf (nI k) = some k := by
  rw [nOf, if_pos ⟨nI_le h1 (by omega), nI_le h9 (by decide)⟩, nI_clamp (by omega)]
theorem nOf_cases (v : Int32) : (∃ k, 1 ≤ k ∧ k ≤ 9 ∧ v = nI k) ∨ (nOf v = none ∧ (v < nI 1 ∨ nI 9 < v)) := by
  by_cases h : nI 1 ≤ v ∧ v ≤ nI 9
  · left
    have hp : ¬ v < 0 := by
      intro z
      rw [Int32.lt_iff_toInt_lt] at z
      have := h.1
      rw [Int32.le_iff_toInt_le] at this
      rw [show (nI 1).toInt = 1 from by decide] at this
      rw [show (0 : Int32).toInt = 0 from by decide] at z
      omega
    obtain ⟨j, hj, rfl⟩ := nI_of hp
    exact ⟨j, (nI_leI (by decide) hj).mp h.1, (nI_leI hj (by decide)).mp h.2, rfl⟩
  · right
    refine ⟨if_neg h, ?_⟩
    rw [Int32.le_iff_toInt_le, Int32.le_iff_toInt_le] at h
    rw [Int32.lt_iff_toInt_lt, Int32.lt_iff_toInt_lt]
    omega
theorem outV_y {v a b : Int32} (h : v < a ∨ b < v) : outV v a b = nI 1 := if_pos h
theorem outV_n {v a b : Int32} (h : ¬ (v < a ∨ b < v)) : outV v a b = nI 0 := if_neg h
theorem outV_nI {k a b : Nat} (h1 : a ≤ k) (h2 : k ≤ b) (hb : b < 2147483648) : outV (nI k) (nI a) (nI b) = nI 0 := outV_n (fun z => z.elim (nI_nlt h1 (by omega)) (nI_nlt h2 hb))
def fM (m : Nat) (I I' : pI) : Prop := ∀ a, ¬ (m ≤ a ∧ a ≤ m + 7) → I' a = I a
set_option maxRecDepth 100000 in
set_option maxHeartbeats 2000000 in
theorem x_setOut {m d n : Nat} {pc b : Nat → Nat} (hm : isMt m) {I : pI} {J : pJ} (hM : XM I m n pc b) (hW : WF n pc b) (w : Int32) : PC SX (d + 2) yX1_setOut cX1_setOut 2 (some .int) [.ref m, .int w] (I) (J) (RX) (fun r' I' J' R' => r' = some (.int (aSet n b w).1) ∧ XM I' m n pc (aSet n b w).2 ∧ WF n pc (aSet n b w).2 ∧ fM m I I' ∧ J = J' ∧ R' = RX) := by
  refine PC.of [some (.ref m), some (.int w)] rfl rfl (Nat.le_of_ble_eq_true rfl) ?_
  have h7 := hW.1
  rcases pk_ix w (n := n) (by omega) with h | h | ⟨q, hq, rfl⟩
  · rw [aSet, qOf_no (Or.inl h)]
    refine pw_aload_n 1 rfl dX1_setOut_0 rfl ?_
    refine pw_iload_n 2 rfl dX1_setOut_1 rfl ?_
    refine pw_callVP (as := [_]) 5 rfl dX1_setOut_2 mX1_68 vX1_has (x_has (d := d) hm hM.2.1 h7 _) (by first | rfl | assumption | exact rowS hh | exact mtS hm | exact ruS hr | exact mtA1 hm | exact mtA2 hm | exact mtA3 hm | exact mtA4 hm | exact mtA5 hm | exact mtA6 hm | exact mtA7 hm | exact ruA1 hr | exact ruA2 hr | exact ruA3 hr) rfl (by decide) ⟨rfl, by decide, by decide, show (parseMethodDescriptor yX1_has.desc).map (fun d => d.parameters.length) = some 1 by decide +kernel⟩ (by omega) (by decide) (Nat.le_of_ble_eq_true rfl) rfl ?_
    refine pw_if_ne (tgt := 10) 8 rfl dX1_setOut_5 rfl (fun h5 => absurd (by rw [hasV_no (Or.inl h)]; rfl) h5) (fun h5 => ?_)
    refine pw_iconst (v := -1) 9 rfl dX1_setOut_8 rfl ?_
    refine pw_iret dX1_setOut_9 rfl ?_
    rotate_left
    exact ⟨rfl, hM, hW, fun _ _ => rfl, rfl, rfl⟩
  · rw [aSet, qOf_no (Or.inr h)]
    refine pw_aload_n 1 rfl dX1_setOut_0 rfl ?_
    refine pw_iload_n 2 rfl dX1_setOut_1 rfl ?_
    refine pw_callVP (as := [_]) 5 rfl dX1_setOut_2 mX1_68 vX1_has (x_has (d := d) hm hM.2.1 h7 _) (by first | rfl | assumption | exact rowS hh | exact mtS hm | exact ruS hr | exact mtA1 hm | exact mtA2 hm | exact mtA3 hm | exact mtA4 hm | exact mtA5 hm | exact mtA6 hm | exact mtA7 hm | exact ruA1 hr | exact ruA2 hr | exact ruA3 hr) rfl (by decide) ⟨rfl, by decide, by decide, show (parseMethodDescriptor yX1_has.desc).map (fun d => d.parameters.length) = some 1 by decide +kernel⟩ (by omega) (by decide) (Nat.le_of_ble_eq_true rfl) rfl ?_
    refine pw_if_ne (tgt := 10) 8 rfl dX1_setOut_5 rfl (fun h5 => absurd (by rw [hasV_no (Or.inr h)]; rfl) h5) (fun h5 => ?_)
    refine pw_iconst (v := -1) 9 rfl dX1_setOut_8 rfl ?_
    refine pw_iret dX1_setOut_9 rfl ?_
    rotate_left
    exact ⟨rfl, hM, hW, fun _ _ => rfl, rfl, rfl⟩
  · have hb := hW.2.2.2.2 q (by omega)
    have e3 := (hM.2.2.2.2.2.2 q (by omega)).2.2.1
    rw [aSet, qOf_y hq h7]
    by_cases h0 : b (7 + q) = 0
    · rw [show (match some q with | none => ((-1 : Int32), b) | some q => if b (7 + q) = 0 then (nI (onW n (bu b (7 + q) 1)), bu b (7 + q) 1) else (-2, b)) = (nI (onW n (bu b (7 + q) 1)), bu b (7 + q) 1) from if_pos h0]
      have hM' := XM_way (v := 1) hM (show q < 7 by omega)
      have hW' : WF n pc (bu b (7 + q) 1) := WF_bu hW (by omega)
      refine pw_aload_n 1 rfl dX1_setOut_0 rfl ?_
      refine pw_iload_n 2 rfl dX1_setOut_1 rfl ?_
      refine pw_callVP (as := [_]) 5 rfl dX1_setOut_2 mX1_68 vX1_has (x_has (d := d) hm hM.2.1 h7 _) (by first | rfl | assumption | exact rowS hh | exact mtS hm | exact ruS hr | exact mtA1 hm | exact mtA2 hm | exact mtA3 hm | exact mtA4 hm | exact mtA5 hm | exact mtA6 hm | exact mtA7 hm | exact ruA1 hr | exact ruA2 hr | exact ruA3 hr) rfl (by decide) ⟨rfl, by decide, by decide, show (parseMethodDescriptor yX1_has.desc).map (fun d => d.parameters.length) = some 1 by decide +kernel⟩ (by omega) (by decide) (Nat.le_of_ble_eq_true rfl) rfl ?_
      refine pw_if_ne (tgt := 10) 8 rfl dX1_setOut_5 rfl (fun h5 => ?_) (fun h5 => absurd h5 (by rw [hasV_y hq h7]; decide))
      refine pw_aload_n 11 rfl dX1_setOut_10 rfl ?_
      refine pw_getR 14 rfl dX1_setOut_11 fX1_18 (by first | rfl | assumption | exact rowS hh | exact mtS hm | exact ruS hr | exact mtA1 hm | exact mtA2 hm | exact mtA3 hm | exact mtA4 hm | exact mtA5 hm | exact mtA6 hm | exact mtA7 hm | exact ruA1 hr | exact ruA2 hr | exact ruA3 hr) rfl (by first | rfl | assumption | exact mtR0 hm | exact mtR1 hm | exact mtR2 hm | exact mtR3 hm | exact mtR4 hm | exact mtR5 hm | exact mtR6 hm | exact ruR0 hr | exact ruR1 hr | exact ruR3 hr) ?_
      refine pw_iload_n 15 rfl dX1_setOut_14 rfl ?_
      refine pw_ialdN 16 rfl dX1_setOut_15 (by first | rfl | assumption | exact rowS hh | exact mtS hm | exact ruS hr | exact mtA1 hm | exact mtA2 hm | exact mtA3 hm | exact mtA4 hm | exact mtA5 hm | exact mtA6 hm | exact mtA7 hm | exact ruA1 hr | exact ruA2 hr | exact ruA3 hr) (by omega) (by decide) ?_
      refine pw_if_eq (tgt := 22) 19 rfl dX1_setOut_16 rfl (fun h16 => ?_) (fun h16 => absurd (by rw [e3, h0]; rfl) h16)
      refine pw_aload_n 23 rfl dX1_setOut_22 rfl ?_
      refine pw_getR 26 rfl dX1_setOut_23 fX1_18 (by first | rfl | assumption | exact rowS hh | exact mtS hm | exact ruS hr | exact mtA1 hm | exact mtA2 hm | exact mtA3 hm | exact mtA4 hm | exact mtA5 hm | exact mtA6 hm | exact mtA7 hm | exact ruA1 hr | exact ruA2 hr | exact ruA3 hr) rfl (by first | rfl | assumption | exact mtR0 hm | exact mtR1 hm | exact mtR2 hm | exact mtR3 hm | exact mtR4 hm | exact mtR5 hm | exact mtR6 hm | exact ruR0 hr | exact ruR1 hr | exact ruR3 hr) ?_
      refine pw_iload_n 27 rfl dX1_setOut_26 rfl ?_
      refine pw_iconst (v := nI 1) 28 rfl dX1_setOut_27 rfl ?_
      refine pw_iastN 29 rfl dX1_setOut_28 (by first | rfl | assumption | exact rowS hh | exact mtS hm | exact ruS hr | exact mtA1 hm | exact mtA2 hm | exact mtA3 hm | exact mtA4 hm | exact mtA5 hm | exact mtA6 hm | exact mtA7 hm | exact ruA1 hr | exact ruA2 hr | exact ruA3 hr) (by omega) (by decide) ?_
      refine pw_aload_n 30 rfl dX1_setOut_29 rfl ?_
      refine pw_callVP (as := []) 33 rfl dX1_setOut_30 mX1_72 vX1_howManyOnWay (x_howManyOnWay (d := d) hm hM' hW') (by first | rfl | assumption | exact rowS hh | exact mtS hm | exact ruS hr | exact mtA1 hm | exact mtA2 hm | exact mtA3 hm | exact mtA4 hm | exact mtA5 hm | exact mtA6 hm | exact mtA7 hm | exact ruA1 hr | exact ruA2 hr | exact ruA3 hr) rfl (by decide) ⟨rfl, by decide, by decide, show (parseMethodDescriptor yX1_howManyOnWay.desc).map (fun d => d.parameters.length) = some 0 by decide +kernel⟩ (by omega) (by decide) (Nat.le_of_ble_eq_true rfl) rfl ?_
      refine pw_iret dX1_setOut_33 rfl ?_
      rotate_left
      exact ⟨rfl, hM', hW', fun a ha => by rw [uI, if_neg (by omega)], rfl, rfl⟩
    · rw [show (match some q with | none => ((-1 : Int32), b) | some q => if b (7 + q) = 0 then (nI (onW n (bu b (7 + q) 1)), bu b (7 + q) 1) else (-2, b)) = (-2, b) from if_neg h0]
      refine pw_aload_n 1 rfl dX1_setOut_0 rfl ?_
      refine pw_iload_n 2 rfl dX1_setOut_1 rfl ?_
      refine pw_callVP (as := [_]) 5 rfl dX1_setOut_2 mX1_68 vX1_has (x_has (d := d) hm hM.2.1 h7 _) (by first | rfl | assumption | exact rowS hh | exact mtS hm | exact ruS hr | exact mtA1 hm | exact mtA2 hm | exact mtA3 hm | exact mtA4 hm | exact mtA5 hm | exact mtA6 hm | exact mtA7 hm | exact ruA1 hr | exact ruA2 hr | exact ruA3 hr) rfl (by decide) ⟨rfl, by decide, by decide, show (parseMethodDescriptor yX1_has.desc).map (fun d => d.parameters.length) = some 1 by decide +kernel⟩ (by omega) (by decide) (Nat.le_of_ble_eq_true rfl) rfl ?_
      refine pw_if_ne (tgt := 10) 8 rfl dX1_setOut_5 rfl (fun h5 => ?_) (fun h5 => absurd h5 (by rw [hasV_y hq h7]; decide))
      refine pw_aload_n 11 rfl dX1_setOut_10 rfl ?_
      refine pw_getR 14 rfl dX1_setOut_11 fX1_18 (by first | rfl | assumption | exact rowS hh | exact mtS hm | exact ruS hr | exact mtA1 hm | exact mtA2 hm | exact mtA3 hm | exact mtA4 hm | exact mtA5 hm | exact mtA6 hm | exact mtA7 hm | exact ruA1 hr | exact ruA2 hr | exact ruA3 hr) rfl (by first | rfl | assumption | exact mtR0 hm | exact mtR1 hm | exact mtR2 hm | exact mtR3 hm | exact mtR4 hm | exact mtR5 hm | exact mtR6 hm | exact ruR0 hr | exact ruR1 hr | exact ruR3 hr) ?_
      refine pw_iload_n 15 rfl dX1_setOut_14 rfl ?_
      refine pw_ialdN 16 rfl dX1_setOut_15 (by first | rfl | assumption | exact rowS hh | exact mtS hm | exact ruS hr | exact mtA1 hm | exact mtA2 hm | exact mtA3 hm | exact mtA4 hm | exact mtA5 hm | exact mtA6 hm | exact mtA7 hm | exact ruA1 hr | exact ruA2 hr | exact ruA3 hr) (by omega) (by decide) ?_
      refine pw_if_eq (tgt := 22) 19 rfl dX1_setOut_16 rfl (fun h16 => absurd h16 (by rw [e3]; exact nI_ne0 (by omega) (by omega))) (fun h16 => ?_)
      refine pw_bipush (v := -2) 21 rfl dX1_setOut_19 rfl ?_
      refine pw_iret dX1_setOut_21 rfl ?_
      rotate_left
      exact ⟨rfl, hM, hW, fun _ _ => rfl, rfl, rfl⟩
