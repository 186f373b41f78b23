/-! the reference's parser -/
def mRes (I : pI) (J : pJ) (R : pR) (cs : List Nat) (lt : Nat → Int32) (res : Except (List Nat) (((Nat → Int32) → Int32) × List Nat)) : Option Value → pI → pJ → pR → Prop := fun r' I' J' R' => (match res with
  | .ok q => r' = some (.int (q.1 lt)) ∧ I' 0 11 = nI (cs.length - q.2.length) ∧ I' 0 12 = -1 ∧ q.2 <:+ cs
  | .error e => (∃ v : Int32, r' = some (.int v)) ∧ I' 0 11 = nI (cs.length - e.length) ∧ I' 0 12 = nI (cs.length - e.length) ∧ e <:+ cs) ∧ (∀ a j, ¬ (a = 0 ∧ (j = 11 ∨ j = 12)) → I' a j = I a j) ∧ J = J' ∧ R' = R
def letN (c : Nat) : Nat := if c = 112 then 0 else if c = 104 then 1 else if c = 117 then 2 else if c = 111 then 3 else if c = 107 then 4 else if c = 98 then 5 else 6
/-- what letters are now -/
def mLt (I : pI) (lt : Nat → Int32) : Prop := (I 0 17 = nI 1 ∧ ∀ c, letB c = true → I 8 (letN c) = lt c) ∨ (I 0 17 = nI 0 ∧ ∀ c, letB c = true → lt c = nI 0)
theorem mLt.fr {I I' : pI} {lt : Nat → Int32} (h : mLt I lt) (hf : ∀ a j, ¬ (a = 0 ∧ (j = 11 ∨ j = 12)) → I' a j = I a j) : mLt I' lt := by
  rcases h with ⟨h1, h2⟩ | ⟨h1, h2⟩
  · exact Or.inl ⟨by rw [hf _ _ (by omega)]; exact h1, fun c hc => by rw [hf _ _ (by omega)]; exact h2 c hc⟩
  · exact Or.inr ⟨by rw [hf _ _ (by omega)]; exact h1, h2⟩
theorem MP.fr {I I' : pI} {hr nn L T : Nat} {cs r r' : List Nat} (hP : MP I hr nn L T cs r) (hf : ∀ a j, ¬ (a = 0 ∧ (j = 11 ∨ j = 12)) → I' a j = I a j) (h1 : I' 0 11 = nI (cs.length - r'.length)) (hs : r' <:+ cs) : MP I' hr nn L T cs r' := by
  obtain ⟨s0, s1, s2, s3, s4, s5, s6, s7, s8, s9, s10⟩ := hP
  exact ⟨s0, s1, s2, s3, s4, by rw [hf _ _ (by omega)]; exact s5, by rw [hf _ _ (by omega)]; exact s6, h1, hs, fun j c hj => by rw [hf _ _ (by omega)]; exact s9 j c hj, s10⟩
def mCt (y : MethodName) (cc : ByteArray) (nL D deep : Nat) (X : List Nat → Except (List Nat) (((Nat → Int32) → Int32) × List Nat)) : Prop :=
  ∀ (d hr nn L T : Nat) (rl : Option Nat) (cs r : List Nat) (lt : Nat → Int32) (I : pI) (J : pJ), MP I hr nn L T cs r → r.length ≤ 40 → I 0 12 = -1 → mLt I lt → PC SM (d + D) y cc nL (some .int) [.ref 0, .int (nI deep)] I J (RM (some hr) rl) (mRes I J (RM (some hr) rl) cs lt (X r))
theorem mAt_fr {I : pI} {p : Nat} : ∀ a j, ¬ (a = 0 ∧ (j = 11 ∨ j = 12)) → mAt I p a j = I a j := fun a j h => uI_ne (by omega)
theorem mAt_12 {I : pI} {p : Nat} : mAt I p 0 12 = I 0 12 := uI_ne (by omega)
theorem in_dg {c : Nat} (hc : c < 65536) : inV (nI c) (nI 48) (nI 57) = nI (if isDg c = true then 1 else 0) := by
  unfold inV
  by_cases h : isDg c = true
  · have hb := isDg_b h
    rw [if_pos h, if_pos ⟨nI_le hb.1 (by omega), nI_le hb.2 (by omega)⟩]
  · rw [if_neg h, if_neg]
    rintro ⟨z1, z2⟩
    rw [nI_leI (by omega) (by omega)] at z1 z2
    exact h (by rw [isDg, decide_eq_true z1, decide_eq_true z2]; rfl)
set_option maxRecDepth 100000 in
set_option maxHeartbeats 2000000 in
theorem m_need {d hr nn L T c : Nat} {cs r : List Nat} {rl : Option Nat} {I : pI} {J : pJ} (hP : MP I hr nn L T cs r) (hf : I 0 12 = -1) (hc : c < 256) : PC SM (d + 2) yX12_need cX12_need 2 none [.ref 0, .int (nI c)] (I) (J) (RM (some hr) rl) (fun r' I' J' R' => r' = none ∧ I' = (if r.head? = some c then mAt I (cs.length - r.tail.length) else uI I 0 12 (nI (cs.length - r.length))) ∧ J = J' ∧ R' = RM (some hr) rl) := by
  refine PC.of [some (.ref 0), some (.int (nI c))] rfl rfl (Nat.le_of_ble_eq_true rfl) ?_
  have h11 : I 0 11 = nI (cs.length - r.length) := hP.2.2.2.2.2.2.2.1
  by_cases hh : r.head? = some c
  · rw [if_pos hh]
    rcases r with _ | ⟨x, r⟩
    · cases hh
    · cases hh
      refine pw_aload_n 1 rfl dX12_need_0 rfl ?_
      refine pw_iload_n 2 rfl dX12_need_1 rfl ?_
      refine pw_callV (as := [_]) 5 rfl dX12_need_2 mX12_132 vX12_passes (m_passes (d := d) hP hf) (by first | rfl | assumption | exact rowS hh | exact mtS hm | exact ruS hr | exact mtA1 hm | exact mtA2 hm | exact mtA3 hm | exact mtA4 hm | exact mtA5 hm | exact mtA6 hm | exact mtA7 hm | exact ruA1 hr | exact ruA2 hr | exact ruA3 hr) rfl (by decide) ⟨rfl, by decide, by decide, show (parseMethodDescriptor yX12_passes.desc).map (fun d => d.parameters.length) = some 1 by decide +kernel⟩ (by omega) (by decide) (Nat.le_of_ble_eq_true rfl) rfl (fun r2 I2 J2 R2 c2 => ?_)
      obtain ⟨rfl, rfl, rfl, rfl⟩ := c2
      refine pw_if_ne (tgt := 16) 8 rfl dX12_need_5 rfl (fun h5 => ?_) (fun h5 => absurd h5 (by decide))
      refine pw_vret dX12_need_16 ?_
      rotate_left
      exact ⟨rfl, rfl, rfl, rfl⟩
  · rw [if_neg hh]
    refine pw_aload_n 1 rfl dX12_need_0 rfl ?_
    refine pw_iload_n 2 rfl dX12_need_1 rfl ?_
    refine pw_callVP (as := [_]) 5 rfl dX12_need_2 mX12_132 vX12_passes (m_passesNo (d := d) hP hh hc) (by first | rfl | assumption | exact rowS hh | exact mtS hm | exact ruS hr | exact mtA1 hm | exact mtA2 hm | exact mtA3 hm | exact mtA4 hm | exact mtA5 hm | exact mtA6 hm | exact mtA7 hm | exact ruA1 hr | exact ruA2 hr | exact ruA3 hr) rfl (by decide) ⟨rfl, by decide, by decide, show (parseMethodDescriptor yX12_passes.desc).map (fun d => d.parameters.length) = some 1 by decide +kernel⟩ (by omega) (by decide) (Nat.le_of_ble_eq_true rfl) rfl ?_
    refine pw_if_ne (tgt := 16) 8 rfl dX12_need_5 rfl (fun h5 => absurd rfl h5) (fun h5 => ?_)
    refine pw_aload_n 9 rfl dX12_need_8 rfl ?_
    refine pw_aload_n 10 rfl dX12_need_9 rfl ?_
    refine pw_getI 13 rfl dX12_need_10 fX12_114 (by first | rfl | assumption | exact rowS hh | exact mtS hm | exact ruS hr | exact mtA1 hm | exact mtA2 hm | exact mtA3 hm | exact mtA4 hm | exact mtA5 hm | exact mtA6 hm | exact mtA7 hm | exact ruA1 hr | exact ruA2 hr | exact ruA3 hr) rfl ?_
    rotate_left
    rw [h11]
    refine pw_callV (as := [_]) 16 rfl dX12_need_13 mX12_136 vX12_fault (m_fault (d := d) hf) (by first | rfl | assumption | exact rowS hh | exact mtS hm | exact ruS hr | exact mtA1 hm | exact mtA2 hm | exact mtA3 hm | exact mtA4 hm | exact mtA5 hm | exact mtA6 hm | exact mtA7 hm | exact ruA1 hr | exact ruA2 hr | exact ruA3 hr) rfl (by decide) ⟨rfl, by decide, by decide, show (parseMethodDescriptor yX12_fault.desc).map (fun d => d.parameters.length) = some 1 by decide +kernel⟩ (by omega) (by decide) (Nat.le_of_ble_eq_true rfl) rfl (fun r13 I13 J13 R13 c13 => ?_)
    obtain ⟨rfl, rfl, rfl, rfl⟩ := c13
    refine pw_vret dX12_need_16 ?_
    rotate_left
    exact ⟨rfl, rfl, rfl, rfl⟩
set_option maxRecDepth 100000 in
set_option maxHeartbeats 2000000 in
theorem m_digit {d hr nn L T c : Nat} {cs r : List Nat} {rl : Option Nat} {I : pI} {J : pJ} (hP : MP I hr nn L T cs (c :: r)) (hf : I 0 12 = -1) (hd : isDg c = true) : PC SM (d + 1) yX12_oneOf cX12_oneOf 3 (some .int) [.ref 0, .int (nI 48), .int (nI 10)] (I) (J) (RM (some hr) rl) (fun r' I' J' R' => r' = some (.int (nI (c - 48))) ∧ I' = mAt I (cs.length - r.length) ∧ J = J' ∧ R' = RM (some hr) rl) := by
  refine PC.of [some (.ref 0), some (.int (nI 48)), some (.int (nI 10))] rfl rfl (Nat.le_of_ble_eq_true rfl) ?_
  obtain ⟨s0, s1, s2, s3, s4, s5, s6, s7, s8, s9, s10⟩ := id hP
  have hb := isDg_b hd
  have hl := sfx_le s8
  have hg := s9 _ c (sfx_at s8)
  have hk : cs.length - (c :: r).length < min L T := by rw [← s4]; rw [List.length_cons] at hl ⊢; omega
  have k1 : cs.length - (c :: r).length < L := Nat.lt_of_lt_of_le hk (Nat.min_le_left _ _)
  refine pw_aload_n 1 rfl dX12_oneOf_0 rfl ?_
  refine pw_callVP (as := []) 4 rfl dX12_oneOf_1 mX12_124 vX12_fine (m_fine (d := d) hf) (by first | rfl | assumption | exact rowS hh | exact mtS hm | exact ruS hr | exact mtA1 hm | exact mtA2 hm | exact mtA3 hm | exact mtA4 hm | exact mtA5 hm | exact mtA6 hm | exact mtA7 hm | exact ruA1 hr | exact ruA2 hr | exact ruA3 hr) rfl (by decide) ⟨rfl, by decide, by decide, show (parseMethodDescriptor yX12_fine.desc).map (fun d => d.parameters.length) = some 0 by decide +kernel⟩ (by omega) (by decide) (Nat.le_of_ble_eq_true rfl) rfl ?_
  refine pw_if_ne (tgt := 9) 7 rfl dX12_oneOf_4 rfl (fun h4 => ?_) (fun h4 => absurd h4 (by rw [if_pos rfl]; decide))
  refine pw_aload_n 10 rfl dX12_oneOf_9 rfl ?_
  refine pw_callVP (as := []) 13 rfl dX12_oneOf_10 mX12_128 vX12_here (m_here (d := d) hP) (by first | rfl | assumption | exact rowS hh | exact mtS hm | exact ruS hr | exact mtA1 hm | exact mtA2 hm | exact mtA3 hm | exact mtA4 hm | exact mtA5 hm | exact mtA6 hm | exact mtA7 hm | exact ruA1 hr | exact ruA2 hr | exact ruA3 hr) rfl (by decide) ⟨rfl, by decide, by decide, show (parseMethodDescriptor yX12_here.desc).map (fun d => d.parameters.length) = some 0 by decide +kernel⟩ (by omega) (by decide) (Nat.le_of_ble_eq_true rfl) rfl ?_
  rotate_left
  refine pw_iload_n 14 rfl dX12_oneOf_13 rfl ?_
  refine pw_iload_n 15 rfl dX12_oneOf_14 rfl ?_
  refine pw_iload_n 16 rfl dX12_oneOf_15 rfl ?_
  first | refine pw_iaddN 17 rfl dX12_oneOf_16 ?_ | refine pw_iadd 17 rfl dX12_oneOf_16 ?_
  refine pw_iconst (v := nI 1) 18 rfl dX12_oneOf_17 rfl ?_
  refine pw_isubN 19 rfl dX12_oneOf_18 (by omega) ?_
  refine pw_callSP (as := [_, _, _]) 22 rfl dX12_oneOf_19 mX12_98 sX12_in (m_in (d := d) _ _ _) ⟨rfl, by decide, by decide, show (parseMethodDescriptor yX12_in.desc).map (fun d => d.parameters.length) = some 3 by decide +kernel⟩ (by omega) (by decide) (Nat.le_of_ble_eq_true rfl) rfl ?_
  refine pw_if_ne (tgt := 35) 25 rfl dX12_oneOf_22 rfl (fun h22 => ?_) (fun h22 => absurd h22 (by show ¬ inV (nI c) (nI 48) (nI 57) = 0; rw [in_dg (by omega), if_pos hd]; decide))
  refine pw_aload_n 36 rfl dX12_oneOf_35 rfl ?_
  refine pw_dup 37 rfl dX12_oneOf_36 rfl ?_
  refine pw_getI 40 rfl dX12_oneOf_37 fX12_114 (by first | rfl | assumption | exact rowS hh | exact mtS hm | exact ruS hr | exact mtA1 hm | exact mtA2 hm | exact mtA3 hm | exact mtA4 hm | exact mtA5 hm | exact mtA6 hm | exact mtA7 hm | exact ruA1 hr | exact ruA2 hr | exact ruA3 hr) rfl ?_
  rotate_left
  rw [s7]
  have e1 : cs.length - (c :: r).length + 1 = cs.length - r.length := by rw [List.length_cons] at hl ⊢; omega
  refine pw_iconst (v := nI 1) 41 rfl dX12_oneOf_40 rfl ?_
  first | refine pw_iaddN 42 rfl dX12_oneOf_41 ?_ | refine pw_iadd 42 rfl dX12_oneOf_41 ?_
  refine pw_putI 45 rfl dX12_oneOf_42 fX12_114 w12_11 (by first | rfl | assumption | exact rowS hh | exact mtS hm | exact ruS hr | exact mtA1 hm | exact mtA2 hm | exact mtA3 hm | exact mtA4 hm | exact mtA5 hm | exact mtA6 hm | exact mtA7 hm | exact ruA1 hr | exact ruA2 hr | exact ruA3 hr) rfl rfl rfl ?_
  refine pw_aload_n 46 rfl dX12_oneOf_45 rfl ?_
  refine pw_getR 49 rfl dX12_oneOf_46 fX12_105 (by first | rfl | assumption | exact rowS hh | exact mtS hm | exact ruS hr | exact mtA1 hm | exact mtA2 hm | exact mtA3 hm | exact mtA4 hm | exact mtA5 hm | exact mtA6 hm | exact mtA7 hm | exact ruA1 hr | exact ruA2 hr | exact ruA3 hr) rfl (by first | rfl | assumption | exact mtR0 hm | exact mtR1 hm | exact mtR2 hm | exact mtR3 hm | exact mtR4 hm | exact mtR5 hm | exact mtR6 hm | exact ruR0 hr | exact ruR1 hr | exact ruR3 hr) ?_
  refine pw_aload_n 50 rfl dX12_oneOf_49 rfl ?_
  refine pw_getI 53 rfl dX12_oneOf_50 fX12_114 (by first | rfl | assumption | exact rowS hh | exact mtS hm | exact ruS hr | exact mtA1 hm | exact mtA2 hm | exact mtA3 hm | exact mtA4 hm | exact mtA5 hm | exact mtA6 hm | exact mtA7 hm | exact ruA1 hr | exact ruA2 hr | exact ruA3 hr) rfl ?_
  rotate_left
  rw [e1, uI_eq]
  refine pw_iconst (v := nI 1) 54 rfl dX12_oneOf_53 rfl ?_
  refine pw_isubN 55 rfl dX12_oneOf_54 (by omega) ?_
  refine pw_baldN 56 rfl dX12_oneOf_55 (by first | rfl | assumption | exact rowS hh | exact mtS hm | exact ruS hr | exact mtA1 hm | exact mtA2 hm | exact mtA3 hm | exact mtA4 hm | exact mtA5 hm | exact mtA6 hm | exact mtA7 hm | exact ruA1 hr | exact ruA2 hr | exact ruA3 hr) (by omega) (by first | decide | omega) ?_
  rotate_left
  rw [show cs.length - r.length - 1 = cs.length - (c :: r).length by omega, uI_ne (fun e => s10 e.1), hg.1, byV_low c (by omega)]
  refine pw_iload_n 57 rfl dX12_oneOf_56 rfl ?_
  refine pw_isubN 58 rfl dX12_oneOf_57 (by omega) ?_
  refine pw_iret dX12_oneOf_58 rfl ?_
  rotate_left
  exact ⟨rfl, rfl, rfl, rfl⟩
theorem MP_lt {I : pI} {hr nn L T x : Nat} {cs r : List Nat} (hP : MP I hr nn L T cs (x :: r)) : x < 256 := (hP.2.2.2.2.2.2.2.2.2.1 _ x (sfx_at hP.2.2.2.2.2.2.2.2.1)).2
theorem in_no : inV (-1) (nI 48) (nI 57) = nI 0 := by decide
theorem hd_dg {I : pI} {hr nn L T : Nat} {cs r : List Nat} (hP : MP I hr nn L T cs r) : inV (hdV r) (nI 48) (nI 57) = nI (match r with | [] => 0 | c :: _ => if isDg c = true then 1 else 0) := by
  rcases r with _ | ⟨c, r⟩
  · exact in_no
  · exact in_dg (by have := MP_lt hP; omega)
set_option maxRecDepth 100000 in
set_option maxHeartbeats 2000000 in
theorem m_number {d hr nn L T c : Nat} {cs r : List Nat} {rl : Option Nat} {I : pI} {J : pJ} (hP : MP I hr nn L T cs (c :: r)) (hf : I 0 12 = -1) (hd : isDg c = true) : PC SM (d + 2) yX12_number cX12_number 4 (some .int) [.ref 0, .int (nI 3)] (I) (J) (RM (some hr) rl) (fun r' I' J' R' => r' = some (.int (nI (pNum (c - 48) 2 r).1)) ∧ I' 0 11 = nI (cs.length - (pNum (c - 48) 2 r).2.length) ∧ I' 0 12 = -1 ∧ (pNum (c - 48) 2 r).2 <:+ cs ∧ (∀ a j, ¬ (a = 0 ∧ (j = 11 ∨ j = 12)) → I' a j = I a j) ∧ J = J' ∧ R' = RM (some hr) rl) := by
  refine PC.of [some (.ref 0), some (.int (nI 3)), none, none] rfl rfl (Nat.le_of_ble_eq_true rfl) ?_
  have hs := hP.2.2.2.2.2.2.2.2.1
  have L : ∀ (k v i : Nat) (r' : List Nat) (I' : pI), i + k = 3 → 1 ≤ i → MP I' hr nn L T cs r' → I' 0 12 = -1 → (∀ a j, ¬ (a = 0 ∧ (j = 11 ∨ j = 12)) → I' a j = I a j) → pNum v k r' = pNum (c - 48) 2 r → PW SM yX12_number.cls cX12_number 4 (d + 2) 11 [some (.ref 0), some (.int (nI 3)), some (.int (nI v)), some (.int (nI i))] [] (I') (J) (RM (some hr) rl) (rX cX12_number (some .int) (fun r' I' J' R' => r' = some (.int (nI (pNum (c - 48) 2 r).1)) ∧ I' 0 11 = nI (cs.length - (pNum (c - 48) 2 r).2.length) ∧ I' 0 12 = -1 ∧ (pNum (c - 48) 2 r).2 <:+ cs ∧ (∀ a j, ¬ (a = 0 ∧ (j = 11 ∨ j = 12)) → I' a j = I a j) ∧ J = J' ∧ R' = RM (some hr) rl)) := by
    intro k
    induction k with
    | zero =>
      intro v i r' I' q1 q2 hP' hf' hfr hn
      rw [← hn]
      refine pw_iload_n 12 rfl dX12_number_11 rfl ?_
      refine pw_iload_n 13 rfl dX12_number_12 rfl ?_
      refine pw_icmp_ge (tgt := 57) 16 rfl dX12_number_13 rfl (fun h13 => ?_) (fun h13 => absurd (by (simp (disch := omega) only [nI_leI, nI_ltI, nI_eq, show (0 : Int32) = nI 0 from rfl, not_true_eq_false, not_false_eq_true] <;> omega)) h13)
      refine pw_iload_n 58 rfl dX12_number_57 rfl ?_
      refine pw_iret dX12_number_58 rfl ?_
      rotate_left
      exact ⟨rfl, hP'.2.2.2.2.2.2.2.1, hf', hP'.2.2.2.2.2.2.2.2.1, hfr, rfl, rfl⟩
    | succ k ih =>
      intro v i r' I' q1 q2 hP' hf' hfr hn
      rcases r' with _ | ⟨x, r'⟩
      · rw [← hn, pNum]
        refine pw_iload_n 12 rfl dX12_number_11 rfl ?_
        refine pw_iload_n 13 rfl dX12_number_12 rfl ?_
        refine pw_icmp_ge (tgt := 57) 16 rfl dX12_number_13 rfl (fun h13 => absurd h13 (by (simp (disch := omega) only [nI_leI, nI_ltI, nI_eq, show (0 : Int32) = nI 0 from rfl, not_true_eq_false, not_false_eq_true] <;> omega))) (fun h13 => ?_)
        refine pw_aload_n 17 rfl dX12_number_16 rfl ?_
        refine pw_callVP (as := []) 20 rfl dX12_number_17 mX12_124 vX12_fine (m_fine (d := d + 1) hf') (by first | rfl | assumption | exact rowS hh | exact mtS hm | exact ruS hr | exact mtA1 hm | exact mtA2 hm | exact mtA3 hm | exact mtA4 hm | exact mtA5 hm | exact mtA6 hm | exact mtA7 hm | exact ruA1 hr | exact ruA2 hr | exact ruA3 hr) rfl (by decide) ⟨rfl, by decide, by decide, show (parseMethodDescriptor yX12_fine.desc).map (fun d => d.parameters.length) = some 0 by decide +kernel⟩ (by omega) (by decide) (Nat.le_of_ble_eq_true rfl) rfl ?_
        refine pw_if_eq (tgt := 57) 23 rfl dX12_number_20 rfl (fun h20 => absurd h20 (by rw [if_pos rfl]; decide)) (fun h20 => ?_)
        refine pw_aload_n 24 rfl dX12_number_23 rfl ?_
        refine pw_callVP (as := []) 27 rfl dX12_number_24 mX12_128 vX12_here (m_here (d := d + 1) hP') (by first | rfl | assumption | exact rowS hh | exact mtS hm | exact ruS hr | exact mtA1 hm | exact mtA2 hm | exact mtA3 hm | exact mtA4 hm | exact mtA5 hm | exact mtA6 hm | exact mtA7 hm | exact ruA1 hr | exact ruA2 hr | exact ruA3 hr) rfl (by decide) ⟨rfl, by decide, by decide, show (parseMethodDescriptor yX12_here.desc).map (fun d => d.parameters.length) = some 0 by decide +kernel⟩ (by omega) (by decide) (Nat.le_of_ble_eq_true rfl) rfl ?_
        refine pw_bipush (v := nI 48) 29 rfl dX12_number_27 rfl ?_
        refine pw_bipush (v := nI 57) 31 rfl dX12_number_29 rfl ?_
        refine pw_callSP (as := [_, _, _]) 34 rfl dX12_number_31 mX12_98 sX12_in (m_in (d := d) _ _ _) ⟨rfl, by decide, by decide, show (parseMethodDescriptor yX12_in.desc).map (fun d => d.parameters.length) = some 3 by decide +kernel⟩ (by omega) (by decide) (Nat.le_of_ble_eq_true rfl) rfl ?_
        refine pw_if_eq (tgt := 57) 37 rfl dX12_number_34 rfl (fun h34 => ?_) (fun h34 => absurd (by show inV (-1) (nI 48) (nI 57) = 0; decide) h34)
        refine pw_iload_n 58 rfl dX12_number_57 rfl ?_
        refine pw_iret dX12_number_58 rfl ?_
        rotate_left
        exact ⟨rfl, hP'.2.2.2.2.2.2.2.1, hf', hP'.2.2.2.2.2.2.2.2.1, hfr, rfl, rfl⟩
      · have hx := MP_lt hP'
        rw [pNum] at hn
        by_cases hxd : isDg x = true
        · rw [if_pos hxd] at hn
          have hb := isDg_b hxd
          refine pw_iload_n 12 rfl dX12_number_11 rfl ?_
          refine pw_iload_n 13 rfl dX12_number_12 rfl ?_
          refine pw_icmp_ge (tgt := 57) 16 rfl dX12_number_13 rfl (fun h13 => absurd h13 (by (simp (disch := omega) only [nI_leI, nI_ltI, nI_eq, show (0 : Int32) = nI 0 from rfl, not_true_eq_false, not_false_eq_true] <;> omega))) (fun h13 => ?_)
          refine pw_aload_n 17 rfl dX12_number_16 rfl ?_
          refine pw_callVP (as := []) 20 rfl dX12_number_17 mX12_124 vX12_fine (m_fine (d := d + 1) hf') (by first | rfl | assumption | exact rowS hh | exact mtS hm | exact ruS hr | exact mtA1 hm | exact mtA2 hm | exact mtA3 hm | exact mtA4 hm | exact mtA5 hm | exact mtA6 hm | exact mtA7 hm | exact ruA1 hr | exact ruA2 hr | exact ruA3 hr) rfl (by decide) ⟨rfl, by decide, by decide, show (parseMethodDescriptor yX12_fine.desc).map (fun d => d.parameters.length) = some 0 by decide +kernel⟩ (by omega) (by decide) (Nat.le_of_ble_eq_true rfl) rfl ?_
          refine pw_if_eq (tgt := 57) 23 rfl dX12_number_20 rfl (fun h20 => absurd h20 (by rw [if_pos rfl]; decide)) (fun h20 => ?_)
          refine pw_aload_n 24 rfl dX12_number_23 rfl ?_
          refine pw_callVP (as := []) 27 rfl dX12_number_24 mX12_128 vX12_here (m_here (d := d + 1) hP') (by first | rfl | assumption | exact rowS hh | exact mtS hm | exact ruS hr | exact mtA1 hm | exact mtA2 hm | exact mtA3 hm | exact mtA4 hm | exact mtA5 hm | exact mtA6 hm | exact mtA7 hm | exact ruA1 hr | exact ruA2 hr | exact ruA3 hr) rfl (by decide) ⟨rfl, by decide, by decide, show (parseMethodDescriptor yX12_here.desc).map (fun d => d.parameters.length) = some 0 by decide +kernel⟩ (by omega) (by decide) (Nat.le_of_ble_eq_true rfl) rfl ?_
          refine pw_bipush (v := nI 48) 29 rfl dX12_number_27 rfl ?_
          refine pw_bipush (v := nI 57) 31 rfl dX12_number_29 rfl ?_
          refine pw_callSP (as := [_, _, _]) 34 rfl dX12_number_31 mX12_98 sX12_in (m_in (d := d) _ _ _) ⟨rfl, by decide, by decide, show (parseMethodDescriptor yX12_in.desc).map (fun d => d.parameters.length) = some 3 by decide +kernel⟩ (by omega) (by decide) (Nat.le_of_ble_eq_true rfl) rfl ?_
          refine pw_if_eq (tgt := 57) 37 rfl dX12_number_34 rfl (fun h34 => absurd h34 (by show ¬ inV (nI x) (nI 48) (nI 57) = 0; rw [in_dg (by omega), if_pos hxd]; decide)) (fun h34 => ?_)
          refine pw_bipush (v := nI 10) 39 rfl dX12_number_37 rfl ?_
          refine pw_iload_n 40 rfl dX12_number_39 rfl ?_
          first | refine pw_imulN 41 rfl dX12_number_40 ?_ | refine pw_imul 41 rfl dX12_number_40 ?_
          refine pw_aload_n 42 rfl dX12_number_41 rfl ?_
          refine pw_bipush (v := nI 48) 44 rfl dX12_number_42 rfl ?_
          refine pw_bipush (v := nI 10) 46 rfl dX12_number_44 rfl ?_
          refine pw_callV (as := [_, _]) 49 rfl dX12_number_46 mX12_140 vX12_oneOf (m_digit (d := d) hP' hf' hxd) (by first | rfl | assumption | exact rowS hh | exact mtS hm | exact ruS hr | exact mtA1 hm | exact mtA2 hm | exact mtA3 hm | exact mtA4 hm | exact mtA5 hm | exact mtA6 hm | exact mtA7 hm | exact ruA1 hr | exact ruA2 hr | exact ruA3 hr) rfl (by decide) ⟨rfl, by decide, by decide, show (parseMethodDescriptor yX12_oneOf.desc).map (fun d => d.parameters.length) = some 2 by decide +kernel⟩ (by omega) (by decide) (Nat.le_of_ble_eq_true rfl) rfl (fun r46 I46 J46 R46 c46 => ?_)
          obtain ⟨rfl, rfl, rfl, rfl⟩ := c46
          rotate_left
          first | refine pw_iaddN 50 rfl dX12_number_49 ?_ | refine pw_iadd 50 rfl dX12_number_49 ?_
          refine pw_istore_n 51 rfl dX12_number_50 (by decide) ?_
          refine pw_iincN 54 rfl dX12_number_51 (by decide) rfl ?_
          refine pw_goto (tgt := 11) dX12_number_54 rfl ?_
          rotate_left
          exact ih (10 * v + (x - 48)) (i + 1) r' _ (by omega) (by omega) (mAt_MP hP' (sfx_tl hP'.2.2.2.2.2.2.2.2.1)) (by rw [mAt_12]; exact hf') (fun a j h => by rw [mAt_fr a j h]; exact hfr a j h) hn
        · rw [if_neg hxd] at hn
          rw [← hn]
          refine pw_iload_n 12 rfl dX12_number_11 rfl ?_
          refine pw_iload_n 13 rfl dX12_number_12 rfl ?_
          refine pw_icmp_ge (tgt := 57) 16 rfl dX12_number_13 rfl (fun h13 => absurd h13 (by (simp (disch := omega) only [nI_leI, nI_ltI, nI_eq, show (0 : Int32) = nI 0 from rfl, not_true_eq_false, not_false_eq_true] <;> omega))) (fun h13 => ?_)
          refine pw_aload_n 17 rfl dX12_number_16 rfl ?_
          refine pw_callVP (as := []) 20 rfl dX12_number_17 mX12_124 vX12_fine (m_fine (d := d + 1) hf') (by first | rfl | assumption | exact rowS hh | exact mtS hm | exact ruS hr | exact mtA1 hm | exact mtA2 hm | exact mtA3 hm | exact mtA4 hm | exact mtA5 hm | exact mtA6 hm | exact mtA7 hm | exact ruA1 hr | exact ruA2 hr | exact ruA3 hr) rfl (by decide) ⟨rfl, by decide, by decide, show (parseMethodDescriptor yX12_fine.desc).map (fun d => d.parameters.length) = some 0 by decide +kernel⟩ (by omega) (by decide) (Nat.le_of_ble_eq_true rfl) rfl ?_
          refine pw_if_eq (tgt := 57) 23 rfl dX12_number_20 rfl (fun h20 => absurd h20 (by rw [if_pos rfl]; decide)) (fun h20 => ?_)
          refine pw_aload_n 24 rfl dX12_number_23 rfl ?_
          refine pw_callVP (as := []) 27 rfl dX12_number_24 mX12_128 vX12_here (m_here (d := d + 1) hP') (by first | rfl | assumption | exact rowS hh | exact mtS hm | exact ruS hr | exact mtA1 hm | exact mtA2 hm | exact mtA3 hm | exact mtA4 hm | exact mtA5 hm | exact mtA6 hm | exact mtA7 hm | exact ruA1 hr | exact ruA2 hr | exact ruA3 hr) rfl (by decide) ⟨rfl, by decide, by decide, show (parseMethodDescriptor yX12_here.desc).map (fun d => d.parameters.length) = some 0 by decide +kernel⟩ (by omega) (by decide) (Nat.le_of_ble_eq_true rfl) rfl ?_
          refine pw_bipush (v := nI 48) 29 rfl dX12_number_27 rfl ?_
          refine pw_bipush (v := nI 57) 31 rfl dX12_number_29 rfl ?_
          refine pw_callSP (as := [_, _, _]) 34 rfl dX12_number_31 mX12_98 sX12_in (m_in (d := d) _ _ _) ⟨rfl, by decide, by decide, show (parseMethodDescriptor yX12_in.desc).map (fun d => d.parameters.length) = some 3 by decide +kernel⟩ (by omega) (by decide) (Nat.le_of_ble_eq_true rfl) rfl ?_
          refine pw_if_eq (tgt := 57) 37 rfl dX12_number_34 rfl (fun h34 => ?_) (fun h34 => absurd (by show inV (nI x) (nI 48) (nI 57) = 0; rw [in_dg (by omega), if_neg hxd]; rfl) h34)
          refine pw_iload_n 58 rfl dX12_number_57 rfl ?_
          refine pw_iret dX12_number_58 rfl ?_
          rotate_left
          exact ⟨rfl, hP'.2.2.2.2.2.2.2.1, hf', hP'.2.2.2.2.2.2.2.2.1, hfr, rfl, rfl⟩
  have hb := isDg_b hd
  refine pw_aload_n 1 rfl dX12_number_0 rfl ?_
  refine pw_bipush (v := nI 48) 3 rfl dX12_number_1 rfl ?_
  refine pw_bipush (v := nI 10) 5 rfl dX12_number_3 rfl ?_
  refine pw_callV (as := [_, _]) 8 rfl dX12_number_5 mX12_140 vX12_oneOf (m_digit (d := d) hP hf hd) (by first | rfl | assumption | exact rowS hh | exact mtS hm | exact ruS hr | exact mtA1 hm | exact mtA2 hm | exact mtA3 hm | exact mtA4 hm | exact mtA5 hm | exact mtA6 hm | exact mtA7 hm | exact ruA1 hr | exact ruA2 hr | exact ruA3 hr) rfl (by decide) ⟨rfl, by decide, by decide, show (parseMethodDescriptor yX12_oneOf.desc).map (fun d => d.parameters.length) = some 2 by decide +kernel⟩ (by omega) (by decide) (Nat.le_of_ble_eq_true rfl) rfl (fun r5 I5 J5 R5 c5 => ?_)
  obtain ⟨rfl, rfl, rfl, rfl⟩ := c5
  refine pw_istore_n 9 rfl dX12_number_8 (by decide) ?_
  refine pw_iconst (v := nI 1) 10 rfl dX12_number_9 rfl ?_
  refine pw_istore_n 11 rfl dX12_number_10 (by decide) ?_
  rotate_left
  exact L 2 (c - 48) 1 r _ rfl (by decide) (mAt_MP hP (sfx_tl hs)) (by rw [mAt_12]; exact hf) (fun a j h => mAt_fr a j h) rfl
