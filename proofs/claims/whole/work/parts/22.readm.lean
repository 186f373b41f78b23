/-! the reference's reader -/
def byV (c : Nat) : Int32 := (nI c).toInt8.toInt32
theorem byV_and : ∀ c, c < 256 → byV c &&& nI 255 = nI c := by decide +kernel
theorem byV_low : ∀ c, c < 128 → byV c = nI c := by decide +kernel
/-- the reader at r, what is left of cs, in the row at hr; L signs, T of them looked at -/
def MP (I : pI) (hr nn L T : Nat) (cs r : List Nat) : Prop := SM[hr]? = some (102, nn) ∧ L ≤ nn ∧ nn ≤ 80 ∧ T ≤ 80 ∧ cs.length = min L T ∧ I 0 9 = nI L ∧ I 0 10 = nI T ∧ I 0 11 = nI (cs.length - r.length) ∧ r <:+ cs ∧ (∀ j c, cs[j]? = some c → I hr j = byV c ∧ c < 256) ∧ hr ≠ 0
def hdV (r : List Nat) : Int32 := match r with
  | [] => -1
  | c :: _ => nI c
theorem sfx_at {cs r : List Nat} {c : Nat} (h : c :: r <:+ cs) : cs[cs.length - (c :: r).length]? = some c := by
  obtain ⟨t, rfl⟩ := h
  rw [List.length_append, show t.length + (c :: r).length - (c :: r).length = t.length by omega, List.getElem?_append_right (Nat.le_refl _), Nat.sub_self]
  rfl
theorem sfx_le {cs r : List Nat} (h : r <:+ cs) : r.length ≤ cs.length := h.length_le
theorem sfx_tl {cs r : List Nat} {c : Nat} (h : c :: r <:+ cs) : r <:+ cs := by
  obtain ⟨t, rfl⟩ := h
  exact ⟨t ++ [c], by simp⟩
set_option maxRecDepth 100000 in
set_option maxHeartbeats 2000000 in
theorem m_fine {d : Nat} {w : Int32} {I : pI} {J : pJ} {R : pR} (h : I 0 12 = w) : PC SM (d) yX12_fine cX12_fine 1 (some .boolean) [.ref 0] (I) (J) (R) (pPu (.int (nI (if w = -1 then 1 else 0))) I J R) := by
  refine PC.of [some (.ref 0)] rfl rfl (Nat.le_of_ble_eq_true rfl) ?_
  by_cases hw : w = -1
  · rw [if_pos hw]
    refine pw_aload_n 1 rfl dX12_fine_0 rfl ?_
    refine pw_getI 4 rfl dX12_fine_1 fX12_117 (by first | rfl | assumption | exact rowS hh | exact mtS hm | exact ruS hr | exact mtA1 hm | exact mtA2 hm | exact mtA3 hm | exact mtA4 hm | exact mtA5 hm | exact mtA6 hm | exact mtA7 hm | exact ruA1 hr | exact ruA2 hr | exact ruA3 hr) rfl ?_
    refine pw_iconst (v := -1) 5 rfl dX12_fine_4 rfl ?_
    refine pw_icmp_ne (tgt := 12) 8 rfl dX12_fine_5 rfl (fun h5 => absurd (by rw [h, hw]) h5) (fun h5 => ?_)
    refine pw_iconst (v := nI 1) 9 rfl dX12_fine_8 rfl ?_
    refine pw_goto (tgt := 13) dX12_fine_9 rfl ?_
    refine pw_iret dX12_fine_13 rfl ?_
    rotate_left
    exact ⟨rfl, rfl, rfl, rfl⟩
  · rw [if_neg hw]
    refine pw_aload_n 1 rfl dX12_fine_0 rfl ?_
    refine pw_getI 4 rfl dX12_fine_1 fX12_117 (by first | rfl | assumption | exact rowS hh | exact mtS hm | exact ruS hr | exact mtA1 hm | exact mtA2 hm | exact mtA3 hm | exact mtA4 hm | exact mtA5 hm | exact mtA6 hm | exact mtA7 hm | exact ruA1 hr | exact ruA2 hr | exact ruA3 hr) rfl ?_
    refine pw_iconst (v := -1) 5 rfl dX12_fine_4 rfl ?_
    refine pw_icmp_ne (tgt := 12) 8 rfl dX12_fine_5 rfl (fun h5 => ?_) (fun h5 => absurd h5 (by rw [h]; exact hw))
    refine pw_iconst (v := nI 0) 13 rfl dX12_fine_12 rfl ?_
    refine pw_iret dX12_fine_13 rfl ?_
    rotate_left
    exact ⟨rfl, rfl, rfl, rfl⟩
set_option maxRecDepth 100000 in
set_option maxHeartbeats 2000000 in
theorem m_here {d hr nn L T : Nat} {cs r : List Nat} {rl : Option Nat} {I : pI} {J : pJ} (hP : MP I hr nn L T cs r) : PC SM (d) yX12_here cX12_here 1 (some .int) [.ref 0] (I) (J) (RM (some hr) rl) (pPu (.int (hdV r)) I J (RM (some hr) rl)) := by
  refine PC.of [some (.ref 0)] rfl rfl (Nat.le_of_ble_eq_true rfl) ?_
  obtain ⟨s0, s1, s2, s3, s4, s5, s6, s7, s8, s9, s10⟩ := hP
  have hl := sfx_le s8
  rcases r with _ | ⟨c, r⟩
  · have s7' : I 0 11 = nI (min L T) := by rw [s7, s4]; rfl
    by_cases hLT : L ≤ T
    · rw [Nat.min_eq_left hLT] at s7'
      refine pw_aload_n 1 rfl dX12_here_0 rfl ?_
      refine pw_getI 4 rfl dX12_here_1 fX12_114 (by first | rfl | assumption | exact rowS hh | exact mtS hm | exact ruS hr | exact mtA1 hm | exact mtA2 hm | exact mtA3 hm | exact mtA4 hm | exact mtA5 hm | exact mtA6 hm | exact mtA7 hm | exact ruA1 hr | exact ruA2 hr | exact ruA3 hr) rfl ?_
      refine pw_aload_n 5 rfl dX12_here_4 rfl ?_
      refine pw_getI 8 rfl dX12_here_5 fX12_108 (by first | rfl | assumption | exact rowS hh | exact mtS hm | exact ruS hr | exact mtA1 hm | exact mtA2 hm | exact mtA3 hm | exact mtA4 hm | exact mtA5 hm | exact mtA6 hm | exact mtA7 hm | exact ruA1 hr | exact ruA2 hr | exact ruA3 hr) rfl ?_
      refine pw_icmp_ge (tgt := 38) 11 rfl dX12_here_8 rfl (fun h8 => ?_) (fun h8 => absurd (by rw [s7', s5]; (simp (disch := omega) only [nI_leI, nI_ltI, nI_eq, show (0 : Int32) = nI 0 from rfl, not_true_eq_false, not_false_eq_true] <;> omega)) h8)
      refine pw_iconst (v := -1) 39 rfl dX12_here_38 rfl ?_
      refine pw_iret dX12_here_39 rfl ?_
      rotate_left
      exact ⟨rfl, rfl, rfl, rfl⟩
    · rw [Nat.min_eq_right (by omega)] at s7'
      refine pw_aload_n 1 rfl dX12_here_0 rfl ?_
      refine pw_getI 4 rfl dX12_here_1 fX12_114 (by first | rfl | assumption | exact rowS hh | exact mtS hm | exact ruS hr | exact mtA1 hm | exact mtA2 hm | exact mtA3 hm | exact mtA4 hm | exact mtA5 hm | exact mtA6 hm | exact mtA7 hm | exact ruA1 hr | exact ruA2 hr | exact ruA3 hr) rfl ?_
      refine pw_aload_n 5 rfl dX12_here_4 rfl ?_
      refine pw_getI 8 rfl dX12_here_5 fX12_108 (by first | rfl | assumption | exact rowS hh | exact mtS hm | exact ruS hr | exact mtA1 hm | exact mtA2 hm | exact mtA3 hm | exact mtA4 hm | exact mtA5 hm | exact mtA6 hm | exact mtA7 hm | exact ruA1 hr | exact ruA2 hr | exact ruA3 hr) rfl ?_
      refine pw_icmp_ge (tgt := 38) 11 rfl dX12_here_8 rfl (fun h8 => absurd h8 (by rw [s7', s5]; (simp (disch := omega) only [nI_leI, nI_ltI, nI_eq, show (0 : Int32) = nI 0 from rfl, not_true_eq_false, not_false_eq_true] <;> omega))) (fun h8 => ?_)
      refine pw_aload_n 12 rfl dX12_here_11 rfl ?_
      refine pw_getI 15 rfl dX12_here_12 fX12_114 (by first | rfl | assumption | exact rowS hh | exact mtS hm | exact ruS hr | exact mtA1 hm | exact mtA2 hm | exact mtA3 hm | exact mtA4 hm | exact mtA5 hm | exact mtA6 hm | exact mtA7 hm | exact ruA1 hr | exact ruA2 hr | exact ruA3 hr) rfl ?_
      refine pw_aload_n 16 rfl dX12_here_15 rfl ?_
      refine pw_getI 19 rfl dX12_here_16 fX12_111 (by first | rfl | assumption | exact rowS hh | exact mtS hm | exact ruS hr | exact mtA1 hm | exact mtA2 hm | exact mtA3 hm | exact mtA4 hm | exact mtA5 hm | exact mtA6 hm | exact mtA7 hm | exact ruA1 hr | exact ruA2 hr | exact ruA3 hr) rfl ?_
      refine pw_icmp_ge (tgt := 38) 22 rfl dX12_here_19 rfl (fun h19 => ?_) (fun h19 => absurd (by rw [s7', s6]; (simp (disch := omega) only [nI_leI, nI_ltI, nI_eq, show (0 : Int32) = nI 0 from rfl, not_true_eq_false, not_false_eq_true] <;> omega)) h19)
      refine pw_iconst (v := -1) 39 rfl dX12_here_38 rfl ?_
      refine pw_iret dX12_here_39 rfl ?_
      rotate_left
      exact ⟨rfl, rfl, rfl, rfl⟩
  · have hg := s9 _ c (sfx_at s8)
    have hk : cs.length - (c :: r).length < min L T := by rw [← s4]; rw [List.length_cons] at hl ⊢; omega
    generalize cs.length - (c :: r).length = k at hg hk s7
    have k1 : k < L := Nat.lt_of_lt_of_le hk (Nat.min_le_left _ _)
    have k2 : k < T := Nat.lt_of_lt_of_le hk (Nat.min_le_right _ _)
    refine pw_aload_n 1 rfl dX12_here_0 rfl ?_
    refine pw_getI 4 rfl dX12_here_1 fX12_114 (by first | rfl | assumption | exact rowS hh | exact mtS hm | exact ruS hr | exact mtA1 hm | exact mtA2 hm | exact mtA3 hm | exact mtA4 hm | exact mtA5 hm | exact mtA6 hm | exact mtA7 hm | exact ruA1 hr | exact ruA2 hr | exact ruA3 hr) rfl ?_
    refine pw_aload_n 5 rfl dX12_here_4 rfl ?_
    refine pw_getI 8 rfl dX12_here_5 fX12_108 (by first | rfl | assumption | exact rowS hh | exact mtS hm | exact ruS hr | exact mtA1 hm | exact mtA2 hm | exact mtA3 hm | exact mtA4 hm | exact mtA5 hm | exact mtA6 hm | exact mtA7 hm | exact ruA1 hr | exact ruA2 hr | exact ruA3 hr) rfl ?_
    refine pw_icmp_ge (tgt := 38) 11 rfl dX12_here_8 rfl (fun h8 => absurd h8 (by rw [s7, s5]; (simp (disch := omega) only [nI_leI, nI_ltI, nI_eq, show (0 : Int32) = nI 0 from rfl, not_true_eq_false, not_false_eq_true] <;> omega))) (fun h8 => ?_)
    refine pw_aload_n 12 rfl dX12_here_11 rfl ?_
    refine pw_getI 15 rfl dX12_here_12 fX12_114 (by first | rfl | assumption | exact rowS hh | exact mtS hm | exact ruS hr | exact mtA1 hm | exact mtA2 hm | exact mtA3 hm | exact mtA4 hm | exact mtA5 hm | exact mtA6 hm | exact mtA7 hm | exact ruA1 hr | exact ruA2 hr | exact ruA3 hr) rfl ?_
    refine pw_aload_n 16 rfl dX12_here_15 rfl ?_
    refine pw_getI 19 rfl dX12_here_16 fX12_111 (by first | rfl | assumption | exact rowS hh | exact mtS hm | exact ruS hr | exact mtA1 hm | exact mtA2 hm | exact mtA3 hm | exact mtA4 hm | exact mtA5 hm | exact mtA6 hm | exact mtA7 hm | exact ruA1 hr | exact ruA2 hr | exact ruA3 hr) rfl ?_
    refine pw_icmp_ge (tgt := 38) 22 rfl dX12_here_19 rfl (fun h19 => absurd h19 (by rw [s7, s6]; (simp (disch := omega) only [nI_leI, nI_ltI, nI_eq, show (0 : Int32) = nI 0 from rfl, not_true_eq_false, not_false_eq_true] <;> omega))) (fun h19 => ?_)
    refine pw_aload_n 23 rfl dX12_here_22 rfl ?_
    refine pw_getR 26 rfl dX12_here_23 fX12_105 (by first | rfl | assumption | exact rowS hh | exact mtS hm | exact ruS hr | exact mtA1 hm | exact mtA2 hm | exact mtA3 hm | exact mtA4 hm | exact mtA5 hm | exact mtA6 hm | exact mtA7 hm | exact ruA1 hr | exact ruA2 hr | exact ruA3 hr) rfl (by first | rfl | assumption | exact mtR0 hm | exact mtR1 hm | exact mtR2 hm | exact mtR3 hm | exact mtR4 hm | exact mtR5 hm | exact mtR6 hm | exact ruR0 hr | exact ruR1 hr | exact ruR3 hr) ?_
    refine pw_aload_n 27 rfl dX12_here_26 rfl ?_
    refine pw_getI 30 rfl dX12_here_27 fX12_114 (by first | rfl | assumption | exact rowS hh | exact mtS hm | exact ruS hr | exact mtA1 hm | exact mtA2 hm | exact mtA3 hm | exact mtA4 hm | exact mtA5 hm | exact mtA6 hm | exact mtA7 hm | exact ruA1 hr | exact ruA2 hr | exact ruA3 hr) rfl ?_
    rotate_left
    rw [s7]
    refine pw_baldN 31 rfl dX12_here_30 (by first | rfl | assumption | exact rowS hh | exact mtS hm | exact ruS hr | exact mtA1 hm | exact mtA2 hm | exact mtA3 hm | exact mtA4 hm | exact mtA5 hm | exact mtA6 hm | exact mtA7 hm | exact ruA1 hr | exact ruA2 hr | exact ruA3 hr) (by omega) (by first | decide | omega) ?_
    refine pw_sipush (v := nI 255) 34 rfl dX12_here_31 rfl ?_
    rotate_left
    rw [hg.1]
    refine pw_iand 35 rfl dX12_here_34 ?_
    rotate_left
    rw [byV_and c hg.2]
    refine pw_goto (tgt := 39) dX12_here_35 rfl ?_
    refine pw_iret dX12_here_39 rfl ?_
    rotate_left
    exact ⟨rfl, rfl, rfl, rfl⟩
set_option maxRecDepth 100000 in
set_option maxHeartbeats 2000000 in
theorem m_fault {d : Nat} {v : Int32} {I : pI} {J : pJ} {R : pR} (h : I 0 12 = -1) : PC SM (d + 1) yX12_fault cX12_fault 2 none [.ref 0, .int v] (I) (J) (R) (fun r' I' J' R' => r' = none ∧ I' = uI I 0 12 v ∧ J = J' ∧ R' = R) := by
  refine PC.of [some (.ref 0), some (.int v)] rfl rfl (Nat.le_of_ble_eq_true rfl) ?_
  refine pw_aload_n 1 rfl dX12_fault_0 rfl ?_
  refine pw_callVP (as := []) 4 rfl dX12_fault_1 mX12_124 vX12_fine (m_fine (d := d) h) (by first | rfl | assumption | exact rowS hh | exact mtS hm | exact ruS hr | exact mtA1 hm | exact mtA2 hm | exact mtA3 hm | exact mtA4 hm | exact mtA5 hm | exact mtA6 hm | exact mtA7 hm | exact ruA1 hr | exact ruA2 hr | exact ruA3 hr) rfl (by decide) ⟨rfl, by decide, by decide, show (parseMethodDescriptor yX12_fine.desc).map (fun d => d.parameters.length) = some 0 by decide +kernel⟩ (by omega) (by decide) (Nat.le_of_ble_eq_true rfl) rfl ?_
  refine pw_if_eq (tgt := 12) 7 rfl dX12_fault_4 rfl (fun h4 => absurd h4 (by rw [if_pos rfl]; decide)) (fun h4 => ?_)
  refine pw_aload_n 8 rfl dX12_fault_7 rfl ?_
  refine pw_iload_n 9 rfl dX12_fault_8 rfl ?_
  refine pw_putI 12 rfl dX12_fault_9 fX12_117 w12_12 (by first | rfl | assumption | exact rowS hh | exact mtS hm | exact ruS hr | exact mtA1 hm | exact mtA2 hm | exact mtA3 hm | exact mtA4 hm | exact mtA5 hm | exact mtA6 hm | exact mtA7 hm | exact ruA1 hr | exact ruA2 hr | exact ruA3 hr) rfl rfl rfl ?_
  refine pw_vret dX12_fault_12 ?_
  rotate_left
  exact ⟨rfl, rfl, rfl, rfl⟩
set_option maxRecDepth 100000 in
set_option maxHeartbeats 2000000 in
theorem m_faultNo {d : Nat} {v w : Int32} {I : pI} {J : pJ} {R : pR} (h : I 0 12 = w) (hw : w ≠ -1) : PC SM (d + 1) yX12_fault cX12_fault 2 none [.ref 0, .int v] (I) (J) (R) (fun r' I' J' R' => r' = none ∧ I' = I ∧ J = J' ∧ R' = R) := by
  refine PC.of [some (.ref 0), some (.int v)] rfl rfl (Nat.le_of_ble_eq_true rfl) ?_
  refine pw_aload_n 1 rfl dX12_fault_0 rfl ?_
  refine pw_callVP (as := []) 4 rfl dX12_fault_1 mX12_124 vX12_fine (m_fine (d := d) h) (by first | rfl | assumption | exact rowS hh | exact mtS hm | exact ruS hr | exact mtA1 hm | exact mtA2 hm | exact mtA3 hm | exact mtA4 hm | exact mtA5 hm | exact mtA6 hm | exact mtA7 hm | exact ruA1 hr | exact ruA2 hr | exact ruA3 hr) rfl (by decide) ⟨rfl, by decide, by decide, show (parseMethodDescriptor yX12_fine.desc).map (fun d => d.parameters.length) = some 0 by decide +kernel⟩ (by omega) (by decide) (Nat.le_of_ble_eq_true rfl) rfl ?_
  refine pw_if_eq (tgt := 12) 7 rfl dX12_fault_4 rfl (fun h4 => ?_) (fun h4 => absurd (by rw [if_neg hw]; rfl) h4)
  refine pw_vret dX12_fault_12 ?_
  rotate_left
  exact ⟨rfl, rfl, rfl, rfl⟩
/-- where the reader stands then -/
def mAt (I : pI) (p : Nat) : pI := uI I 0 11 (nI p)
theorem mAt_MP {I : pI} {hr nn L T : Nat} {cs r r' : List Nat} (hP : MP I hr nn L T cs r) (hs : r' <:+ cs) : MP (mAt I (cs.length - r'.length)) hr nn L T cs r' := by
  obtain ⟨s0, s1, s2, s3, s4, s5, s6, s7, s8, s9, s10⟩ := hP
  exact ⟨s0, s1, s2, s3, s4, by rw [mAt, uI_ne (by omega)]; exact s5, by rw [mAt, uI_ne (by omega)]; exact s6, uI_eq _ _ _ _, hs, fun j c hj => by rw [mAt, uI_ne (fun e => s10 e.1)]; exact s9 j c hj, s10⟩
set_option maxRecDepth 100000 in
set_option maxHeartbeats 2000000 in
theorem m_passes {d hr nn L T c : Nat} {cs r : List Nat} {rl : Option Nat} {I : pI} {J : pJ} (hP : MP I hr nn L T cs (c :: r)) (hf : I 0 12 = -1) : PC SM (d + 1) yX12_passes cX12_passes 2 (some .boolean) [.ref 0, .int (nI c)] (I) (J) (RM (some hr) rl) (fun r' I' J' R' => r' = some (.int (nI 1)) ∧ I' = mAt I (cs.length - r.length) ∧ J = J' ∧ R' = RM (some hr) rl) := by
  refine PC.of [some (.ref 0), some (.int (nI c))] rfl rfl (Nat.le_of_ble_eq_true rfl) ?_
  have hl := sfx_le hP.2.2.2.2.2.2.2.2.1
  have h11 : I 0 11 = nI (cs.length - (c :: r).length) := hP.2.2.2.2.2.2.2.1
  refine pw_aload_n 1 rfl dX12_passes_0 rfl ?_
  refine pw_callVP (as := []) 4 rfl dX12_passes_1 mX12_124 vX12_fine (m_fine (d := d) hf) (by first | rfl | assumption | exact rowS hh | exact mtS hm | exact ruS hr | exact mtA1 hm | exact mtA2 hm | exact mtA3 hm | exact mtA4 hm | exact mtA5 hm | exact mtA6 hm | exact mtA7 hm | exact ruA1 hr | exact ruA2 hr | exact ruA3 hr) rfl (by decide) ⟨rfl, by decide, by decide, show (parseMethodDescriptor yX12_fine.desc).map (fun d => d.parameters.length) = some 0 by decide +kernel⟩ (by omega) (by decide) (Nat.le_of_ble_eq_true rfl) rfl ?_
  refine pw_if_eq (tgt := 15) 7 rfl dX12_passes_4 rfl (fun h4 => absurd h4 (by rw [if_pos rfl]; decide)) (fun h4 => ?_)
  refine pw_aload_n 8 rfl dX12_passes_7 rfl ?_
  refine pw_callVP (as := []) 11 rfl dX12_passes_8 mX12_128 vX12_here (m_here (d := d) hP) (by first | rfl | assumption | exact rowS hh | exact mtS hm | exact ruS hr | exact mtA1 hm | exact mtA2 hm | exact mtA3 hm | exact mtA4 hm | exact mtA5 hm | exact mtA6 hm | exact mtA7 hm | exact ruA1 hr | exact ruA2 hr | exact ruA3 hr) rfl (by decide) ⟨rfl, by decide, by decide, show (parseMethodDescriptor yX12_here.desc).map (fun d => d.parameters.length) = some 0 by decide +kernel⟩ (by omega) (by decide) (Nat.le_of_ble_eq_true rfl) rfl ?_
  refine pw_iload_n 12 rfl dX12_passes_11 rfl ?_
  refine pw_icmp_eq (tgt := 17) 15 rfl dX12_passes_12 rfl (fun h12 => ?_) (fun h12 => absurd rfl h12)
  refine pw_aload_n 18 rfl dX12_passes_17 rfl ?_
  refine pw_dup 19 rfl dX12_passes_18 rfl ?_
  refine pw_getI 22 rfl dX12_passes_19 fX12_114 (by first | rfl | assumption | exact rowS hh | exact mtS hm | exact ruS hr | exact mtA1 hm | exact mtA2 hm | exact mtA3 hm | exact mtA4 hm | exact mtA5 hm | exact mtA6 hm | exact mtA7 hm | exact ruA1 hr | exact ruA2 hr | exact ruA3 hr) rfl ?_
  rotate_left
  rw [h11]
  refine pw_iconst (v := nI 1) 23 rfl dX12_passes_22 rfl ?_
  first | refine pw_iaddN 24 rfl dX12_passes_23 ?_ | refine pw_iadd 24 rfl dX12_passes_23 ?_
  refine pw_putI 27 rfl dX12_passes_24 fX12_114 w12_11 (by first | rfl | assumption | exact rowS hh | exact mtS hm | exact ruS hr | exact mtA1 hm | exact mtA2 hm | exact mtA3 hm | exact mtA4 hm | exact mtA5 hm | exact mtA6 hm | exact mtA7 hm | exact ruA1 hr | exact ruA2 hr | exact ruA3 hr) rfl rfl rfl ?_
  refine pw_iconst (v := nI 1) 28 rfl dX12_passes_27 rfl ?_
  refine pw_iret dX12_passes_28 rfl ?_
  rotate_left
  rw [List.length_cons] at hl ⊢
  rw [show cs.length - (r.length + 1) + 1 = cs.length - r.length by omega]
  exact ⟨rfl, rfl, rfl, rfl⟩
set_option maxRecDepth 100000 in
set_option maxHeartbeats 2000000 in
theorem m_passesNo {d hr nn L T c : Nat} {cs r : List Nat} {rl : Option Nat} {I : pI} {J : pJ} (hP : MP I hr nn L T cs r) (hn : r.head? ≠ some c) (hc : c < 256) : PC SM (d + 1) yX12_passes cX12_passes 2 (some .boolean) [.ref 0, .int (nI c)] (I) (J) (RM (some hr) rl) (pPu (.int (nI 0)) I J (RM (some hr) rl)) := by
  refine PC.of [some (.ref 0), some (.int (nI c))] rfl rfl (Nat.le_of_ble_eq_true rfl) ?_
  have hv : ¬ hdV r = nI c := by
    rcases r with _ | ⟨x, r⟩
    · exact fun z => nI_pos (show c < 2 ^ 31 by omega) (by rw [← z]; show (-1 : Int32) < 0; decide)
    · intro z
      have hx := (hP.2.2.2.2.2.2.2.2.2.1 _ x (sfx_at hP.2.2.2.2.2.2.2.2.1)).2
      have z' : nI x = nI c := z
      rw [nI_eq (by omega) (by omega)] at z'
      exact hn (by rw [z']; rfl)
  by_cases hw : I 0 12 = -1
  · refine pw_aload_n 1 rfl dX12_passes_0 rfl ?_
    refine pw_callVP (as := []) 4 rfl dX12_passes_1 mX12_124 vX12_fine (m_fine (d := d) hw) (by first | rfl | assumption | exact rowS hh | exact mtS hm | exact ruS hr | exact mtA1 hm | exact mtA2 hm | exact mtA3 hm | exact mtA4 hm | exact mtA5 hm | exact mtA6 hm | exact mtA7 hm | exact ruA1 hr | exact ruA2 hr | exact ruA3 hr) rfl (by decide) ⟨rfl, by decide, by decide, show (parseMethodDescriptor yX12_fine.desc).map (fun d => d.parameters.length) = some 0 by decide +kernel⟩ (by omega) (by decide) (Nat.le_of_ble_eq_true rfl) rfl ?_
    refine pw_if_eq (tgt := 15) 7 rfl dX12_passes_4 rfl (fun h4 => absurd h4 (by rw [if_pos rfl]; decide)) (fun h4 => ?_)
    refine pw_aload_n 8 rfl dX12_passes_7 rfl ?_
    refine pw_callVP (as := []) 11 rfl dX12_passes_8 mX12_128 vX12_here (m_here (d := d) hP) (by first | rfl | assumption | exact rowS hh | exact mtS hm | exact ruS hr | exact mtA1 hm | exact mtA2 hm | exact mtA3 hm | exact mtA4 hm | exact mtA5 hm | exact mtA6 hm | exact mtA7 hm | exact ruA1 hr | exact ruA2 hr | exact ruA3 hr) rfl (by decide) ⟨rfl, by decide, by decide, show (parseMethodDescriptor yX12_here.desc).map (fun d => d.parameters.length) = some 0 by decide +kernel⟩ (by omega) (by decide) (Nat.le_of_ble_eq_true rfl) rfl ?_
    refine pw_iload_n 12 rfl dX12_passes_11 rfl ?_
    refine pw_icmp_eq (tgt := 17) 15 rfl dX12_passes_12 rfl (fun h12 => absurd h12 hv) (fun h12 => ?_)
    refine pw_iconst (v := nI 0) 16 rfl dX12_passes_15 rfl ?_
    refine pw_iret dX12_passes_16 rfl ?_
    rotate_left
    exact ⟨rfl, rfl, rfl, rfl⟩
  · refine pw_aload_n 1 rfl dX12_passes_0 rfl ?_
    refine pw_callVP (as := []) 4 rfl dX12_passes_1 mX12_124 vX12_fine (m_fine (d := d) (w := I 0 12) rfl) (by first | rfl | assumption | exact rowS hh | exact mtS hm | exact ruS hr | exact mtA1 hm | exact mtA2 hm | exact mtA3 hm | exact mtA4 hm | exact mtA5 hm | exact mtA6 hm | exact mtA7 hm | exact ruA1 hr | exact ruA2 hr | exact ruA3 hr) rfl (by decide) ⟨rfl, by decide, by decide, show (parseMethodDescriptor yX12_fine.desc).map (fun d => d.parameters.length) = some 0 by decide +kernel⟩ (by omega) (by decide) (Nat.le_of_ble_eq_true rfl) rfl ?_
    refine pw_if_eq (tgt := 15) 7 rfl dX12_passes_4 rfl (fun h4 => ?_) (fun h4 => absurd (by rw [if_neg hw]; rfl) h4)
    refine pw_iconst (v := nI 0) 16 rfl dX12_passes_15 rfl ?_
    refine pw_iret dX12_passes_16 rfl ?_
    rotate_left
    exact ⟨rfl, rfl, rfl, rfl⟩
set_option maxRecDepth 100000 in
set_option maxHeartbeats 2000000 in
theorem m_passesBad {d c : Nat} {w : Int32} {R : pR} {I : pI} {J : pJ} (h : I 0 12 = w) (hw : w ≠ -1) : PC SM (d + 1) yX12_passes cX12_passes 2 (some .boolean) [.ref 0, .int (nI c)] (I) (J) (R) (pPu (.int (nI 0)) I J R) := by
  refine PC.of [some (.ref 0), some (.int (nI c))] rfl rfl (Nat.le_of_ble_eq_true rfl) ?_
  refine pw_aload_n 1 rfl dX12_passes_0 rfl ?_
  refine pw_callVP (as := []) 4 rfl dX12_passes_1 mX12_124 vX12_fine (m_fine (d := d) h) (by first | rfl | assumption | exact rowS hh | exact mtS hm | exact ruS hr | exact mtA1 hm | exact mtA2 hm | exact mtA3 hm | exact mtA4 hm | exact mtA5 hm | exact mtA6 hm | exact mtA7 hm | exact ruA1 hr | exact ruA2 hr | exact ruA3 hr) rfl (by decide) ⟨rfl, by decide, by decide, show (parseMethodDescriptor yX12_fine.desc).map (fun d => d.parameters.length) = some 0 by decide +kernel⟩ (by omega) (by decide) (Nat.le_of_ble_eq_true rfl) rfl ?_
  refine pw_if_eq (tgt := 15) 7 rfl dX12_passes_4 rfl (fun h4 => ?_) (fun h4 => absurd (by rw [if_neg hw]; rfl) h4)
  refine pw_iconst (v := nI 0) 16 rfl dX12_passes_15 rfl ?_
  refine pw_iret dX12_passes_16 rfl ?_
  rotate_left
  exact ⟨rfl, rfl, rfl, rfl⟩
