/-! the reference: rules read -/
set_option maxRecDepth 100000 in
set_option maxHeartbeats 2000000 in
theorem m_beginText {d T : Nat} {tx : List Nat} {rd rl : Option Nat} {I : pI} {J : pJ} (hT : I 0 4 = nI tx.length) : PC SM (d + 1) yX12_beginText cX12_beginText 2 none [.ref 0, .int (nI T)] (I) (J) (RM rd rl) (fun r' I' J' R' => r' = none ∧ I' = uI (uI (uI (uI (uI I 0 9 (nI tx.length)) 0 10 (nI T)) 0 11 (nI 0)) 0 12 (-1)) 0 4 (nI 0) ∧ J = J' ∧ R' = RM (some 3) rl) := by
  refine PC.of [some (.ref 0), some (.int (nI T))] rfl rfl (Nat.le_of_ble_eq_true rfl) ?_
  refine pw_aload_n 1 rfl dX12_beginText_0 rfl ?_
  refine pw_aload_n 2 rfl dX12_beginText_1 rfl ?_
  refine pw_getR 5 rfl dX12_beginText_2 fX12_16 (by first | rfl | assumption | exact rowS hh | exact mtS hm | exact ruS hr | exact mtA1 hm | exact mtA2 hm | exact mtA3 hm | exact mtA4 hm | exact mtA5 hm | exact mtA6 hm | exact mtA7 hm | exact ruA1 hr | exact ruA2 hr | exact ruA3 hr) rfl (by first | rfl | assumption | exact mtR0 hm | exact mtR1 hm | exact mtR2 hm | exact mtR3 hm | exact mtR4 hm | exact mtR5 hm | exact mtR6 hm | exact ruR0 hr | exact ruR1 hr | exact ruR3 hr) ?_
  refine pw_aload_n 6 rfl dX12_beginText_5 rfl ?_
  refine pw_getI 9 rfl dX12_beginText_6 fX12_102 (by first | rfl | assumption | exact rowS hh | exact mtS hm | exact ruS hr | exact mtA1 hm | exact mtA2 hm | exact mtA3 hm | exact mtA4 hm | exact mtA5 hm | exact mtA6 hm | exact mtA7 hm | exact ruA1 hr | exact ruA2 hr | exact ruA3 hr) rfl ?_
  rotate_left
  rw [hT]
  refine pw_iload_n 10 rfl dX12_beginText_9 rfl ?_
  refine pw_callV (as := [_, _, _]) 13 rfl dX12_beginText_10 mX12_120 vX12_begin (m_begin (d := d) rfl) (by first | rfl | assumption | exact rowS hh | exact mtS hm | exact ruS hr | exact mtA1 hm | exact mtA2 hm | exact mtA3 hm | exact mtA4 hm | exact mtA5 hm | exact mtA6 hm | exact mtA7 hm | exact ruA1 hr | exact ruA2 hr | exact ruA3 hr) rfl (by decide) ⟨rfl, by decide, by decide, show (parseMethodDescriptor yX12_begin.desc).map (fun d => d.parameters.length) = some 3 by decide +kernel⟩ (by omega) (by decide) (Nat.le_of_ble_eq_true rfl) rfl (fun r10 I10 J10 R10 c10 => ?_)
  obtain ⟨rfl, rfl, rfl, rfl⟩ := c10
  rotate_left
  refine pw_aload_n 14 rfl dX12_beginText_13 rfl ?_
  refine pw_iconst (v := nI 0) 15 rfl dX12_beginText_14 rfl ?_
  refine pw_putI 18 rfl dX12_beginText_15 fX12_102 w12_4 (by first | rfl | assumption | exact rowS hh | exact mtS hm | exact ruS hr | exact mtA1 hm | exact mtA2 hm | exact mtA3 hm | exact mtA4 hm | exact mtA5 hm | exact mtA6 hm | exact mtA7 hm | exact ruA1 hr | exact ruA2 hr | exact ruA3 hr) rfl rfl rfl ?_
  refine pw_vret dX12_beginText_18 ?_
  rotate_left
  exact ⟨rfl, rfl, rfl, rfl⟩
def wrW (p L : Nat) (w : Int32) : Int32 := if p < L ∧ w = -1 then nI p else w
set_option maxRecDepth 100000 in
set_option maxHeartbeats 2000000 in
theorem m_wasRight {d p L : Nat} {w : Int32} {I : pI} {J : pJ} {R : pR} (h11 : I 0 11 = nI p) (h9 : I 0 9 = nI L) (hp : p ≤ 100) (hL : L ≤ 100) (h12 : I 0 12 = w) : PC SM (d + 2) yX12_wasRight cX12_wasRight 1 (some .boolean) [.ref 0] (I) (J) (R) (fun r' I' J' R' => r' = some (.int (nI (if wrW p L w = -1 then 1 else 0))) ∧ I' 0 12 = wrW p L w ∧ (∀ a j, ¬ (a = 0 ∧ j = 12) → I' a j = I a j) ∧ J = J' ∧ R' = R) := by
  refine PC.of [some (.ref 0)] rfl rfl (Nat.le_of_ble_eq_true rfl) ?_
  have nar : ∀ c : Prop, [Decidable c] → narrow .boolean (.int (nI (if c then 1 else 0))) = .int (nI (if c then 1 else 0)) := fun c _ => by split <;> rfl
  by_cases c : p < L
  · by_cases hw : w = -1
    · rw [show wrW p L w = nI p from if_pos ⟨c, hw⟩]
      refine pw_aload_n 1 rfl dX12_wasRight_0 rfl ?_
      refine pw_getI 4 rfl dX12_wasRight_1 fX12_114 (by first | rfl | assumption | exact rowS hh | exact mtS hm | exact ruS hr | exact mtA1 hm | exact mtA2 hm | exact mtA3 hm | exact mtA4 hm | exact mtA5 hm | exact mtA6 hm | exact mtA7 hm | exact ruA1 hr | exact ruA2 hr | exact ruA3 hr) rfl ?_
      refine pw_aload_n 5 rfl dX12_wasRight_4 rfl ?_
      refine pw_getI 8 rfl dX12_wasRight_5 fX12_108 (by first | rfl | assumption | exact rowS hh | exact mtS hm | exact ruS hr | exact mtA1 hm | exact mtA2 hm | exact mtA3 hm | exact mtA4 hm | exact mtA5 hm | exact mtA6 hm | exact mtA7 hm | exact ruA1 hr | exact ruA2 hr | exact ruA3 hr) rfl ?_
      refine pw_icmp_ge (tgt := 19) 11 rfl dX12_wasRight_8 rfl (fun h8 => absurd h8 (by rw [h11, h9]; (simp (disch := omega) only [nI_leI, nI_ltI, nI_eq, show (0 : Int32) = nI 0 from rfl, not_true_eq_false, not_false_eq_true] <;> omega))) (fun h8 => ?_)
      refine pw_aload_n 12 rfl dX12_wasRight_11 rfl ?_
      refine pw_aload_n 13 rfl dX12_wasRight_12 rfl ?_
      refine pw_getI 16 rfl dX12_wasRight_13 fX12_114 (by first | rfl | assumption | exact rowS hh | exact mtS hm | exact ruS hr | exact mtA1 hm | exact mtA2 hm | exact mtA3 hm | exact mtA4 hm | exact mtA5 hm | exact mtA6 hm | exact mtA7 hm | exact ruA1 hr | exact ruA2 hr | exact ruA3 hr) rfl ?_
      rotate_left
      rw [h11]
      refine pw_callV (as := [_]) 19 rfl dX12_wasRight_16 mX12_136 vX12_fault (m_fault (d := d) (by rw [h12]; exact hw)) (by first | rfl | assumption | exact rowS hh | exact mtS hm | exact ruS hr | exact mtA1 hm | exact mtA2 hm | exact mtA3 hm | exact mtA4 hm | exact mtA5 hm | exact mtA6 hm | exact mtA7 hm | exact ruA1 hr | exact ruA2 hr | exact ruA3 hr) rfl (by decide) ⟨rfl, by decide, by decide, show (parseMethodDescriptor yX12_fault.desc).map (fun d => d.parameters.length) = some 1 by decide +kernel⟩ (by omega) (by decide) (Nat.le_of_ble_eq_true rfl) rfl (fun r16 I16 J16 R16 c16 => ?_)
      obtain ⟨rfl, rfl, rfl, rfl⟩ := c16
      refine pw_aload_n 20 rfl dX12_wasRight_19 rfl ?_
      refine pw_callVP (as := []) 23 rfl dX12_wasRight_20 mX12_124 vX12_fine (m_fine (d := d + 1) (w := nI p) (uI_eq _ _ _ _)) (by first | rfl | assumption | exact rowS hh | exact mtS hm | exact ruS hr | exact mtA1 hm | exact mtA2 hm | exact mtA3 hm | exact mtA4 hm | exact mtA5 hm | exact mtA6 hm | exact mtA7 hm | exact ruA1 hr | exact ruA2 hr | exact ruA3 hr) rfl (by decide) ⟨rfl, by decide, by decide, show (parseMethodDescriptor yX12_fine.desc).map (fun d => d.parameters.length) = some 0 by decide +kernel⟩ (by omega) (by decide) (Nat.le_of_ble_eq_true rfl) rfl ?_
      rotate_left
      refine pw_iret dX12_wasRight_23 (nar _) ?_
      rotate_left
      exact ⟨rfl, uI_eq _ _ _ _, fun a j q => uI_ne (by omega), rfl, rfl⟩
    · rw [show wrW p L w = w from if_neg (fun z => hw z.2)]
      refine pw_aload_n 1 rfl dX12_wasRight_0 rfl ?_
      refine pw_getI 4 rfl dX12_wasRight_1 fX12_114 (by first | rfl | assumption | exact rowS hh | exact mtS hm | exact ruS hr | exact mtA1 hm | exact mtA2 hm | exact mtA3 hm | exact mtA4 hm | exact mtA5 hm | exact mtA6 hm | exact mtA7 hm | exact ruA1 hr | exact ruA2 hr | exact ruA3 hr) rfl ?_
      refine pw_aload_n 5 rfl dX12_wasRight_4 rfl ?_
      refine pw_getI 8 rfl dX12_wasRight_5 fX12_108 (by first | rfl | assumption | exact rowS hh | exact mtS hm | exact ruS hr | exact mtA1 hm | exact mtA2 hm | exact mtA3 hm | exact mtA4 hm | exact mtA5 hm | exact mtA6 hm | exact mtA7 hm | exact ruA1 hr | exact ruA2 hr | exact ruA3 hr) rfl ?_
      refine pw_icmp_ge (tgt := 19) 11 rfl dX12_wasRight_8 rfl (fun h8 => absurd h8 (by rw [h11, h9]; (simp (disch := omega) only [nI_leI, nI_ltI, nI_eq, show (0 : Int32) = nI 0 from rfl, not_true_eq_false, not_false_eq_true] <;> omega))) (fun h8 => ?_)
      refine pw_aload_n 12 rfl dX12_wasRight_11 rfl ?_
      refine pw_aload_n 13 rfl dX12_wasRight_12 rfl ?_
      refine pw_getI 16 rfl dX12_wasRight_13 fX12_114 (by first | rfl | assumption | exact rowS hh | exact mtS hm | exact ruS hr | exact mtA1 hm | exact mtA2 hm | exact mtA3 hm | exact mtA4 hm | exact mtA5 hm | exact mtA6 hm | exact mtA7 hm | exact ruA1 hr | exact ruA2 hr | exact ruA3 hr) rfl ?_
      refine pw_callV (as := [_]) 19 rfl dX12_wasRight_16 mX12_136 vX12_fault (m_faultNo (d := d) h12 hw) (by first | rfl | assumption | exact rowS hh | exact mtS hm | exact ruS hr | exact mtA1 hm | exact mtA2 hm | exact mtA3 hm | exact mtA4 hm | exact mtA5 hm | exact mtA6 hm | exact mtA7 hm | exact ruA1 hr | exact ruA2 hr | exact ruA3 hr) rfl (by decide) ⟨rfl, by decide, by decide, show (parseMethodDescriptor yX12_fault.desc).map (fun d => d.parameters.length) = some 1 by decide +kernel⟩ (by omega) (by decide) (Nat.le_of_ble_eq_true rfl) rfl (fun r16 I16 J16 R16 c16 => ?_)
      obtain ⟨rfl, rfl, rfl, rfl⟩ := c16
      refine pw_aload_n 20 rfl dX12_wasRight_19 rfl ?_
      refine pw_callVP (as := []) 23 rfl dX12_wasRight_20 mX12_124 vX12_fine (m_fine (d := d + 1) (w := w) h12) (by first | rfl | assumption | exact rowS hh | exact mtS hm | exact ruS hr | exact mtA1 hm | exact mtA2 hm | exact mtA3 hm | exact mtA4 hm | exact mtA5 hm | exact mtA6 hm | exact mtA7 hm | exact ruA1 hr | exact ruA2 hr | exact ruA3 hr) rfl (by decide) ⟨rfl, by decide, by decide, show (parseMethodDescriptor yX12_fine.desc).map (fun d => d.parameters.length) = some 0 by decide +kernel⟩ (by omega) (by decide) (Nat.le_of_ble_eq_true rfl) rfl ?_
      rotate_left
      refine pw_iret dX12_wasRight_23 (nar _) ?_
      rotate_left
      exact ⟨rfl, h12, fun _ _ _ => rfl, rfl, rfl⟩
  · rw [show wrW p L w = w from if_neg (fun z => c z.1)]
    refine pw_aload_n 1 rfl dX12_wasRight_0 rfl ?_
    refine pw_getI 4 rfl dX12_wasRight_1 fX12_114 (by first | rfl | assumption | exact rowS hh | exact mtS hm | exact ruS hr | exact mtA1 hm | exact mtA2 hm | exact mtA3 hm | exact mtA4 hm | exact mtA5 hm | exact mtA6 hm | exact mtA7 hm | exact ruA1 hr | exact ruA2 hr | exact ruA3 hr) rfl ?_
    refine pw_aload_n 5 rfl dX12_wasRight_4 rfl ?_
    refine pw_getI 8 rfl dX12_wasRight_5 fX12_108 (by first | rfl | assumption | exact rowS hh | exact mtS hm | exact ruS hr | exact mtA1 hm | exact mtA2 hm | exact mtA3 hm | exact mtA4 hm | exact mtA5 hm | exact mtA6 hm | exact mtA7 hm | exact ruA1 hr | exact ruA2 hr | exact ruA3 hr) rfl ?_
    refine pw_icmp_ge (tgt := 19) 11 rfl dX12_wasRight_8 rfl (fun h8 => ?_) (fun h8 => absurd (by rw [h11, h9]; (simp (disch := omega) only [nI_leI, nI_ltI, nI_eq, show (0 : Int32) = nI 0 from rfl, not_true_eq_false, not_false_eq_true] <;> omega)) h8)
    refine pw_aload_n 20 rfl dX12_wasRight_19 rfl ?_
    refine pw_callVP (as := []) 23 rfl dX12_wasRight_20 mX12_124 vX12_fine (m_fine (d := d + 1) (w := w) h12) (by first | rfl | assumption | exact rowS hh | exact mtS hm | exact ruS hr | exact mtA1 hm | exact mtA2 hm | exact mtA3 hm | exact mtA4 hm | exact mtA5 hm | exact mtA6 hm | exact mtA7 hm | exact ruA1 hr | exact ruA2 hr | exact ruA3 hr) rfl (by decide) ⟨rfl, by decide, by decide, show (parseMethodDescriptor yX12_fine.desc).map (fun d => d.parameters.length) = some 0 by decide +kernel⟩ (by omega) (by decide) (Nat.le_of_ble_eq_true rfl) rfl ?_
    rotate_left
    refine pw_iret dX12_wasRight_23 (nar _) ?_
    rotate_left
    exact ⟨rfl, h12, fun _ _ _ => rfl, rfl, rfl⟩
def rdV (o : Option Nat) : Int32 := match o with
  | none => -1
  | some p => nI p
theorem rdV_ne {p : Nat} (h : p < 2 ^ 31) : ¬ nI p = -1 := fun z => nI_pos h (by rw [z]; decide)
set_option maxRecDepth 100000 in
set_option maxHeartbeats 2000000 in
theorem m_readRule {d : Nat} {tx : List Nat} {rd rl : Option Nat} {I : pI} {J : pJ} (hT : MT I tx) : PC SM (d + 236) yX12_readRule cX12_readRule 1 (some .boolean) [.ref 0] (I) (J) (RM rd rl) (fun r' I' J' R' => r' = some (.int (nI (if wrR tx = none then 1 else 0))) ∧ I' 0 12 = rdV (wrR tx) ∧ I' 0 4 = nI 0 ∧ (∀ a j, ¬ (a = 0 ∧ (j = 4 ∨ j = 9 ∨ j = 10 ∨ j = 11 ∨ j = 12 ∨ j = 17)) → I' a j = I a j) ∧ J = J' ∧ R' = RM (some 3) rl) := by
  refine PC.of [some (.ref 0)] rfl rfl (Nat.le_of_ble_eq_true rfl) ?_
  obtain ⟨t1, t2, t3⟩ := id hT
  have nar : ∀ c : Prop, [Decidable c] → narrow .boolean (.int (nI (if c then 1 else 0))) = .int (nI (if c then 1 else 0)) := fun c _ => by split <;> rfl
  refine pw_aload_n 1 rfl dX12_readRule_0 rfl ?_
  refine pw_bipush (v := nI 40) 3 rfl dX12_readRule_1 rfl ?_
  refine pw_callV (as := [_]) 6 rfl dX12_readRule_3 mX12_144 vX12_beginText (m_beginText (d := d + 234) t1) (by first | rfl | assumption | exact rowS hh | exact mtS hm | exact ruS hr | exact mtA1 hm | exact mtA2 hm | exact mtA3 hm | exact mtA4 hm | exact mtA5 hm | exact mtA6 hm | exact mtA7 hm | exact ruA1 hr | exact ruA2 hr | exact ruA3 hr) rfl (by decide) ⟨rfl, by decide, by decide, show (parseMethodDescriptor yX12_beginText.desc).map (fun d => d.parameters.length) = some 1 by decide +kernel⟩ (by omega) (by decide) (Nat.le_of_ble_eq_true rfl) rfl (fun r3 I3 J3 R3 c3 => ?_)
  obtain ⟨rfl, rfl, rfl, rfl⟩ := c3
  refine pw_aload_n 7 rfl dX12_readRule_6 rfl ?_
  refine pw_iconst (v := nI 0) 8 rfl dX12_readRule_7 rfl ?_
  refine pw_putI 11 rfl dX12_readRule_8 fX12_179 w12_17 (by first | rfl | assumption | exact rowS hh | exact mtS hm | exact ruS hr | exact mtA1 hm | exact mtA2 hm | exact mtA3 hm | exact mtA4 hm | exact mtA5 hm | exact mtA6 hm | exact mtA7 hm | exact ruA1 hr | exact ruA2 hr | exact ruA3 hr) rfl rfl rfl ?_
  refine pw_aload_n 12 rfl dX12_readRule_11 rfl ?_
  refine pw_getI 15 rfl dX12_readRule_12 fX12_108 (by first | rfl | assumption | exact rowS hh | exact mtS hm | exact ruS hr | exact mtA1 hm | exact mtA2 hm | exact mtA3 hm | exact mtA4 hm | exact mtA5 hm | exact mtA6 hm | exact mtA7 hm | exact ruA1 hr | exact ruA2 hr | exact ruA3 hr) rfl ?_
  rotate_left
  generalize hI1 : uI (uI (uI (uI (uI (uI I 0 9 (nI tx.length)) 0 10 (nI 40)) 0 11 (nI 0)) 0 12 (-1)) 0 4 (nI 0)) 0 17 (nI 0) = I1
  have f0 : ∀ a j, ¬ (a = 0 ∧ (j = 4 ∨ j = 9 ∨ j = 10 ∨ j = 11 ∨ j = 12 ∨ j = 17)) → I1 a j = I a j := fun a j q => by rw [← hI1, uI_ne (by omega), uI_ne (by omega), uI_ne (by omega), uI_ne (by omega), uI_ne (by omega), uI_ne (by omega)]
  have e4 : I1 0 4 = nI 0 := by rw [← hI1, uI_ne (by omega), uI_eq]
  have e9 : I1 0 9 = nI tx.length := by rw [← hI1, uI_ne (by omega), uI_ne (by omega), uI_ne (by omega), uI_ne (by omega), uI_ne (by omega), uI_eq]
  have e10 : I1 0 10 = nI 40 := by rw [← hI1, uI_ne (by omega), uI_ne (by omega), uI_ne (by omega), uI_ne (by omega), uI_eq]
  have e11 : I1 0 11 = nI 0 := by rw [← hI1, uI_ne (by omega), uI_ne (by omega), uI_ne (by omega), uI_eq]
  have e12 : I1 0 12 = -1 := by rw [← hI1, uI_ne (by omega), uI_ne (by omega), uI_eq]
  have e17 : I1 0 17 = nI 0 := by rw [← hI1, uI_eq]
  clear hI1
  rw [e9]
  have last : ∀ (I2 : pI) (p : Nat) (w : Int32), I2 0 11 = nI p → I2 0 12 = w → p ≤ 100 → wrW p tx.length w = rdV (wrR tx) → (∀ a j, ¬ (a = 0 ∧ (j = 11 ∨ j = 12)) → I2 a j = I1 a j) → PW SM yX12_readRule.cls cX12_readRule 1 (d + 236) 24 [some (.ref 0)] [] (I2) (J) (RM (some 3) rl) (rX cX12_readRule (some .boolean) (fun r' I' J' R' => r' = some (.int (nI (if wrR tx = none then 1 else 0))) ∧ I' 0 12 = rdV (wrR tx) ∧ I' 0 4 = nI 0 ∧ (∀ a j, ¬ (a = 0 ∧ (j = 4 ∨ j = 9 ∨ j = 10 ∨ j = 11 ∨ j = 12 ∨ j = 17)) → I' a j = I a j) ∧ J = J' ∧ R' = RM (some 3) rl)) := by
    intro I2 p w g1 g2 g3 g4 g5
    have er : nI (if wrW p tx.length w = -1 then 1 else 0) = nI (if wrR tx = none then 1 else 0) := by
      rw [g4]
      cases e : wrR tx with
      | none => rfl
      | some q =>
        have hq := wrR_le e
        rw [if_neg (show ¬ rdV (some q) = -1 from rdV_ne (by omega)), if_neg (fun z => by cases z)]
    refine pw_aload_n 25 rfl dX12_readRule_24 rfl ?_
    refine pw_callV (as := []) 28 rfl dX12_readRule_25 mX12_147 vX12_wasRight (m_wasRight (d := d + 233) g1 (by rw [g5 _ _ (by omega)]; exact e9) g3 (by omega) g2) (by first | rfl | assumption | exact rowS hh | exact mtS hm | exact ruS hr | exact mtA1 hm | exact mtA2 hm | exact mtA3 hm | exact mtA4 hm | exact mtA5 hm | exact mtA6 hm | exact mtA7 hm | exact ruA1 hr | exact ruA2 hr | exact ruA3 hr) rfl (by decide) ⟨rfl, by decide, by decide, show (parseMethodDescriptor yX12_wasRight.desc).map (fun d => d.parameters.length) = some 0 by decide +kernel⟩ (by omega) (by decide) (Nat.le_of_ble_eq_true rfl) rfl (fun r25 I25 J25 R25 c25 => ?_)
    obtain ⟨rfl, p1, p2, rfl, rfl⟩ := c25
    rotate_left
    rw [er]
    refine pw_iret dX12_readRule_28 (nar _) ?_
    rotate_left
    exact ⟨rfl, by rw [p1]; exact g4, by rw [p2 _ _ (by omega), g5 _ _ (by omega)]; exact e4, fun a j q => by rw [p2 a j (by omega), g5 a j (by omega), f0 a j q], rfl, rfl⟩
  by_cases h0 : tx = []
  · have hl0 : tx.length = 0 := by rw [h0]; rfl
    refine pw_if_le (tgt := 24) 18 rfl dX12_readRule_15 rfl (fun h15 => ?_) (fun h15 => absurd (by rw [hl0]; decide) h15)
    rotate_left
    refine last I1 0 (-1) e11 e12 (by omega) ?_ (fun _ _ _ => rfl)
    rw [wrW, if_neg (by omega), wrR, if_pos h0]
    rfl
  · have hl1 : 0 < tx.length := List.length_pos_iff.mpr h0
    have hct : (tx.take 40).length = min tx.length 40 := by rw [List.length_take, Nat.min_comm]
    have hMP : MP I1 3 80 tx.length 40 (tx.take 40) (tx.take 40) := by
      refine ⟨rfl, t2, by decide, by decide, hct, e9, e10, by rw [Nat.sub_self]; exact e11, List.suffix_refl _, fun j c hj => ?_, by decide⟩
      rw [f0 _ _ (by omega)]
      rw [List.getElem?_take] at hj
      split at hj
      · exact t3 j c hj
      · cases hj
    have hLt : mLt I1 (fun _ => nI 0) := Or.inr ⟨e17, fun _ _ => rfl⟩
    have hh := m_heldK 4 0 rfl d 3 80 tx.length 40 rl (tx.take 40) (tx.take 40) (fun _ => nI 0) I1 J hMP (by omega) e12 hLt
    refine pw_if_le (tgt := 24) 18 rfl dX12_readRule_15 rfl (fun h15 => absurd h15 (nI_nle hl1 (by omega))) (fun h15 => ?_)
    refine pw_aload_n 19 rfl dX12_readRule_18 rfl ?_
    refine pw_iconst (v := nI 0) 20 rfl dX12_readRule_19 rfl ?_
    refine pw_callV (as := [_]) 23 rfl dX12_readRule_20 mX12_166 vX12_held hh (by first | rfl | assumption | exact rowS hh | exact mtS hm | exact ruS hr | exact mtA1 hm | exact mtA2 hm | exact mtA3 hm | exact mtA4 hm | exact mtA5 hm | exact mtA6 hm | exact mtA7 hm | exact ruA1 hr | exact ruA2 hr | exact ruA3 hr) rfl (by decide) ⟨rfl, by decide, by decide, show (parseMethodDescriptor yX12_held.desc).map (fun d => d.parameters.length) = some 1 by decide +kernel⟩ (by omega) (by decide) (Nat.le_of_ble_eq_true rfl) rfl (fun r20 I20 J20 R20 c20 => ?_)
    rotate_left
    revert c20
    rcases hpe : pHeld 4 (tx.take 40) with e | ⟨f, r⟩
    · rintro ⟨⟨⟨v, rfl⟩, q1, q2, q3⟩, q4, rfl, rfl⟩
      have ew' : wrR tx = some ((tx.take 40).length - e.length) := by unfold wrR; rw [if_neg h0, hpe]
      refine pw_pop 24 rfl dX12_readRule_23 rfl ?_
      rotate_left
      refine last I20 _ _ q1 q2 (by omega) ?_ q4
      rw [wrW, if_neg (fun z => rdV_ne (by omega) z.2), ew']
      rfl
    · rintro ⟨⟨rfl, q1, q2, q3⟩, q4, rfl, rfl⟩
      have ew' : wrR tx = if r = [] ∧ tx.length ≤ 40 then none else some ((tx.take 40).length - r.length) := by unfold wrR; rw [if_neg h0, hpe]
      have hsl := sfx_le q3
      have hsl' : r.length ≤ (tx.take 40).length := hsl
      refine pw_pop 24 rfl dX12_readRule_23 rfl ?_
      rotate_left
      refine last I20 _ _ q1 q2 (by show (tx.take 40).length - r.length ≤ 100; omega) ?_ q4
      show wrW ((tx.take 40).length - r.length) tx.length (-1) = _
      rw [ew']
      by_cases c : r = [] ∧ tx.length ≤ 40
      · rw [if_pos c, wrW, if_neg]
        · rfl
        · rintro ⟨z, -⟩
          rw [c.1] at z
          have : (tx.take 40).length - 0 < tx.length := z
          omega
      · rw [if_neg c, wrW, if_pos]
        · rfl
        · refine ⟨?_, rfl⟩
          by_cases c1 : r = []
          · have : ¬ tx.length ≤ 40 := fun z => c ⟨c1, z⟩
            omega
          · have := List.length_pos_iff.mpr c1
            omega
theorem wrR_len {tx : List Nat} (h : wrR tx = none) : tx.length ≤ 40 := by
  unfold wrR at h
  by_cases h0 : tx = []
  · rw [h0]; exact Nat.zero_le _
  · rw [if_neg h0] at h
    rcases hpe : pHeld 4 (tx.take 40) with e | q
    · rw [hpe] at h; cases h
    · rw [hpe] at h
      simp only at h
      by_cases c : q.2 = [] ∧ tx.length ≤ 40
      · exact c.2
      · rw [if_neg c] at h; cases h
theorem RM_rl {rd rl : Option Nat} {x : Nat} : uR (RM rd rl) 0 14 (some x) = RM rd (some x) := by
  funext a k
  unfold uR RM
  by_cases h : a = 0
  · subst h
    rw [if_pos rfl, if_pos rfl]
    by_cases hk : k = 14
    · subst hk; rfl
    · simp only [hk, if_false, if_true]
      split <;> first | rfl | (exfalso; omega) | simp_all
  · rw [if_neg h, if_neg h, if_neg h]
theorem MA_rt {I I' : pI} {J : pJ} {n : Nat} {pc b : Nat → Nat} {us : List (Nat → Nat)} {kp : Nat → Option (Nat → Nat)} {rw : List Int64} {tx tx' rt rt' : List Nat} {hd sw : List (Nat × Nat)} (h : MA I J (n, pc, b, us, kp, rw, tx, rt, hd, sw)) (f : ∀ a j, a ≠ 6 → ¬ (a = 0 ∧ (j = 4 ∨ j = 9 ∨ j = 10 ∨ j = 11 ∨ j = 12 ∨ j = 16 ∨ j = 17)) → I' a j = I a j) (hT : MT I' tx') (hR : MRl I' 6 rt') : MA I' J (n, pc, b, us, kp, rw, tx', rt', hd, sw) := by
  obtain ⟨a1, a2, a3, a4, a5, a6, a7, a8, a9⟩ := h
  exact ⟨MC_f a1 (f _ _ (by omega) (by omega)) (fun j => f _ _ (by omega) (by omega)), MB_f a2 (fun j => f _ _ (by omega) (by omega)), hT, MN_f a4 (f _ _ (by omega) (by omega)), hR, MU_f a6 (f _ _ (by omega) (by omega)) (fun j => f _ _ (by omega) (by omega)), MK_f a7 (f _ _ (by omega) (by omega)) (fun j => f _ _ (by omega) (by omega)) (fun j => f _ _ (by omega) (by omega)) (fun j => f _ _ (by omega) (by omega)), MH_f a8 (f _ _ (by omega) (by omega)) (fun j => f _ _ (by omega) (by omega)) (fun j => f _ _ (by omega) (by omega)), MG_f a9 (f _ _ (by omega) (by omega)) (fun j => f _ _ (by omega) (by omega)) (fun j => f _ _ (by omega) (by omega))⟩
theorem MT_0 {I : pI} (h : I 0 4 = nI 0) : MT I [] := ⟨h, by show (0 : Nat) ≤ 80; omega, fun j c hj => by cases hj⟩
set_option maxRecDepth 100000 in
set_option maxHeartbeats 2000000 in
theorem mo_rule {d g : Nat} {s : aSt} {rd : Option Nat} {I : pI} {J : pJ} (hA : MA I J s) (hD : MDg g I) (hg : g ≤ 500000000) (hW : WA s)  : PC SM (d + 245) yX12_rule cX12_rule 3 (some .int) [.ref 0] (I) (J) (RM rd (some 6)) (moP (g + 10000) (oRule s)) := by
  refine PC.of [some (.ref 0), none, none] rfl rfl (Nat.le_of_ble_eq_true rfl) ?_
  obtain ⟨n, pc, b, us, kp, rw, tx, rt, hd, sw⟩ := s
  refine pw_aload_n 1 rfl dX12_rule_0 rfl ?_
  refine pw_iconst (v := nI 0) 2 rfl dX12_rule_1 rfl ?_
  refine pw_putI 5 rfl dX12_rule_2 fX12_88 w12_7 (by first | rfl | assumption | exact rowS hh | exact mtS hm | exact ruS hr | exact mtA1 hm | exact mtA2 hm | exact mtA3 hm | exact mtA4 hm | exact mtA5 hm | exact mtA6 hm | exact mtA7 hm | exact ruA1 hr | exact ruA2 hr | exact ruA3 hr) rfl rfl rfl ?_
  rotate_left
  have hA0 := MA_thr (v := nI 0) hA
  have hD0 : MDg g (uI I 0 7 (nI 0)) := MDg_f hD (uI_ne (by omega)) (fun j => uI_ne (by omega))
  clear hA hD
  generalize uI I 0 7 (nI 0) = I at hA0 hD0 ⊢
  obtain ⟨mC, mB, mT, mN, mR, mU, mK, mH, mG⟩ := id hA0
  obtain ⟨aW, aU, aK⟩ := id hW
  have hE := MSt_A hA0
  have hn7 := mC.1
  have hn := mC.2.1
  obtain ⟨t1, t2, t3⟩ := id mT
  refine pw_aload_n 6 rfl dX12_rule_5 rfl ?_
  refine pw_getI 9 rfl dX12_rule_6 fX12_102 (by first | rfl | assumption | exact rowS hh | exact mtS hm | exact ruS hr | exact mtA1 hm | exact mtA2 hm | exact mtA3 hm | exact mtA4 hm | exact mtA5 hm | exact mtA6 hm | exact mtA7 hm | exact ruA1 hr | exact ruA2 hr | exact ruA3 hr) rfl ?_
  rotate_left
  rw [t1]
  refine pw_istore_n 10 rfl dX12_rule_9 (by decide) ?_
  refine pw_aload_n 11 rfl dX12_rule_10 rfl ?_
  refine pw_callV (as := []) 14 rfl dX12_rule_11 mX12_183 vX12_readRule (m_readRule (d := d + 8) mT) (by first | rfl | assumption | exact rowS hh | exact mtS hm | exact ruS hr | exact mtA1 hm | exact mtA2 hm | exact mtA3 hm | exact mtA4 hm | exact mtA5 hm | exact mtA6 hm | exact mtA7 hm | exact ruA1 hr | exact ruA2 hr | exact ruA3 hr) rfl (by decide) ⟨rfl, by decide, by decide, show (parseMethodDescriptor yX12_readRule.desc).map (fun d => d.parameters.length) = some 0 by decide +kernel⟩ (by omega) (by decide) (Nat.le_of_ble_eq_true rfl) rfl (fun r11 I11 J11 R11 c11 => ?_)
  obtain ⟨rfl, r1, r2, r3, rfl, rfl⟩ := c11
  rotate_left
  cases e : wrR tx with
  | some p =>
    rw [e] at r1
    have er : oRule (n, pc, b, us, kp, rw, tx, rt, hd, sw) = (-1 - nI p, (n, pc, b, us, kp, rw, [], rt, hd, sw)) := by unfold oRule; simp only [e]
    refine pw_if_ne (tgt := 24) 17 rfl dX12_rule_14 rfl (fun h14 => absurd (by rfl) h14) (fun h14 => ?_)
    refine pw_iconst (v := -1) 18 rfl dX12_rule_17 rfl ?_
    refine pw_aload_n 19 rfl dX12_rule_18 rfl ?_
    refine pw_getI 22 rfl dX12_rule_19 fX12_117 (by first | rfl | assumption | exact rowS hh | exact mtS hm | exact ruS hr | exact mtA1 hm | exact mtA2 hm | exact mtA3 hm | exact mtA4 hm | exact mtA5 hm | exact mtA6 hm | exact mtA7 hm | exact ruA1 hr | exact ruA2 hr | exact ruA3 hr) rfl ?_
    rotate_left
    rw [r1]
    refine pw_isub 23 rfl dX12_rule_22 ?_
    refine pw_iret dX12_rule_23 rfl ?_
    rotate_left
    exact moE er ⟨rfl, MA_rt hA0 (fun a j q1 q2 => r3 a j (by omega)) (MT_0 r2) (MRl_f mR (r3 _ _ (by omega)) (fun j => r3 _ _ (by omega))), (MDg_f hD0 (r3 _ _ (by omega)) (fun j => r3 _ _ (by omega))).mono (by omega), some 3, rfl⟩
  | none =>
    have hl40 := wrR_len e
    have er : oRule (n, pc, b, us, kp, rw, tx, rt, hd, sw) = (nI 0, (n, pc, b, us, kp, rw, [], tx, hd, sw)) := by unfold oRule; simp only [e]
    refine pw_if_ne (tgt := 24) 17 rfl dX12_rule_14 rfl (fun h14 => ?_) (fun h14 => absurd h14 (by decide))
    refine pw_iconst (v := nI 0) 25 rfl dX12_rule_24 rfl ?_
    refine pw_istore_n 26 rfl dX12_rule_25 (by decide) ?_
    rotate_left
    have L := nat_loop tx.length (fun k => ∀ (I' : pI), (∀ j, j < k → I' 6 j = I 3 j) → (∀ a j, a ≠ 6 → I' a j = I11 a j) → PW SM yX12_rule.cls cX12_rule 3 (d + 245) 26 [some (.ref 0), some (.int (nI tx.length)), some (.int (nI k))] [] (I') (J) (RM (some 3) (some 6)) (rX cX12_rule (some .int) (moP (g + 10000) (oRule (n, pc, b, us, kp, rw, tx, rt, hd, sw))))) ?_ ?_
    · exact L I11 (fun j hj => by omega) (fun _ _ _ => rfl)
    · intro I' g1 g2
      refine pw_iload_n 27 rfl dX12_rule_26 rfl ?_
      refine pw_iload_n 28 rfl dX12_rule_27 rfl ?_
      refine pw_icmp_ge (tgt := 49) 31 rfl dX12_rule_28 rfl (fun h28 => ?_) (fun h28 => absurd (by (simp (disch := omega) only [nI_leI, nI_ltI, nI_eq, show (0 : Int32) = nI 0 from rfl, not_true_eq_false, not_false_eq_true] <;> omega)) h28)
      refine pw_aload_n 50 rfl dX12_rule_49 rfl ?_
      refine pw_iload_n 51 rfl dX12_rule_50 rfl ?_
      refine pw_putI 54 rfl dX12_rule_51 fX12_186 w12_16 (by first | rfl | assumption | exact rowS hh | exact mtS hm | exact ruS hr | exact mtA1 hm | exact mtA2 hm | exact mtA3 hm | exact mtA4 hm | exact mtA5 hm | exact mtA6 hm | exact mtA7 hm | exact ruA1 hr | exact ruA2 hr | exact ruA3 hr) rfl rfl rfl ?_
      refine pw_iconst (v := nI 0) 55 rfl dX12_rule_54 rfl ?_
      refine pw_iret dX12_rule_55 rfl ?_
      rotate_left
      have hf : ∀ a j, a ≠ 6 → ¬ (a = 0 ∧ (j = 4 ∨ j = 9 ∨ j = 10 ∨ j = 11 ∨ j = 12 ∨ j = 16 ∨ j = 17)) → uI I' 0 16 (nI tx.length) a j = I a j := fun a j q1 q2 => by rw [uI_ne (by omega), g2 a j q1, r3 a j (by omega)]
      refine moE er ⟨rfl, MA_rt hA0 hf (MT_0 (by rw [uI_ne (by omega), g2 _ _ (by omega)]; exact r2)) ⟨hl40, uI_eq _ _ _ _, fun j c hj => ?_, e⟩, (MDg_f hD0 (hf _ _ (by omega) (by omega)) (fun j => hf _ _ (by omega) (by omega))).mono (by omega), some 3, rfl⟩
      rw [uI_ne (by omega), g1 j (List.getElem?_eq_some_iff.mp hj).1]
      exact t3 j c hj
    · intro k hk ih I' g1 g2
      obtain ⟨c, hc⟩ : ∃ c, tx[k]? = some c := ⟨_, List.getElem?_eq_getElem hk⟩
      have hb := t3 k c hc
      have e3 : I' 3 k = byV c := by rw [g2 _ _ (by omega), r3 _ _ (by omega)]; exact hb.1
      refine pw_iload_n 27 rfl dX12_rule_26 rfl ?_
      refine pw_iload_n 28 rfl dX12_rule_27 rfl ?_
      refine pw_icmp_ge (tgt := 49) 31 rfl dX12_rule_28 rfl (fun h28 => absurd h28 (by (simp (disch := omega) only [nI_leI, nI_ltI, nI_eq, show (0 : Int32) = nI 0 from rfl, not_true_eq_false, not_false_eq_true] <;> omega))) (fun h28 => ?_)
      refine pw_aload_n 32 rfl dX12_rule_31 rfl ?_
      refine pw_getR 35 rfl dX12_rule_32 fX12_27 (by first | rfl | assumption | exact rowS hh | exact mtS hm | exact ruS hr | exact mtA1 hm | exact mtA2 hm | exact mtA3 hm | exact mtA4 hm | exact mtA5 hm | exact mtA6 hm | exact mtA7 hm | exact ruA1 hr | exact ruA2 hr | exact ruA3 hr) rfl (by first | rfl | assumption | exact mtR0 hm | exact mtR1 hm | exact mtR2 hm | exact mtR3 hm | exact mtR4 hm | exact mtR5 hm | exact mtR6 hm | exact ruR0 hr | exact ruR1 hr | exact ruR3 hr) ?_
      refine pw_iload_n 36 rfl dX12_rule_35 rfl ?_
      refine pw_aload_n 37 rfl dX12_rule_36 rfl ?_
      refine pw_getR 40 rfl dX12_rule_37 fX12_16 (by first | rfl | assumption | exact rowS hh | exact mtS hm | exact ruS hr | exact mtA1 hm | exact mtA2 hm | exact mtA3 hm | exact mtA4 hm | exact mtA5 hm | exact mtA6 hm | exact mtA7 hm | exact ruA1 hr | exact ruA2 hr | exact ruA3 hr) rfl (by first | rfl | assumption | exact mtR0 hm | exact mtR1 hm | exact mtR2 hm | exact mtR3 hm | exact mtR4 hm | exact mtR5 hm | exact mtR6 hm | exact ruR0 hr | exact ruR1 hr | exact ruR3 hr) ?_
      refine pw_iload_n 41 rfl dX12_rule_40 rfl ?_
      refine pw_baldN 42 rfl dX12_rule_41 (by first | rfl | assumption | exact rowS hh | exact mtS hm | exact ruS hr | exact mtA1 hm | exact mtA2 hm | exact mtA3 hm | exact mtA4 hm | exact mtA5 hm | exact mtA6 hm | exact mtA7 hm | exact ruA1 hr | exact ruA2 hr | exact ruA3 hr) (by omega) (by first | decide | omega) ?_
      rotate_left
      rw [e3]
      refine pw_bastN 43 rfl dX12_rule_42 (by first | rfl | assumption | exact rowS hh | exact mtS hm | exact ruS hr | exact mtA1 hm | exact mtA2 hm | exact mtA3 hm | exact mtA4 hm | exact mtA5 hm | exact mtA6 hm | exact mtA7 hm | exact ruA1 hr | exact ruA2 hr | exact ruA3 hr) (by omega) (by first | decide | omega) ?_
      refine pw_iincN 46 rfl dX12_rule_43 (by decide) rfl ?_
      refine pw_goto (tgt := 26) dX12_rule_46 rfl ?_
      rotate_left
      rw [byV_nar _ hb.2]
      refine ih _ (fun j hj => ?_) (fun a j q => by rw [uI_ne (by omega)]; exact g2 a j q)
      by_cases ej : j = k
      · rw [ej, uI_eq]; exact hb.1.symm
      · rw [uI_ne (by omega)]; exact g1 j (by omega)
set_option maxRecDepth 100000 in
set_option maxHeartbeats 2000000 in
theorem mo_law {d g : Nat} {s : aSt} {rd : Option Nat} {I : pI} {J : pJ} (hA : MA I J s) (hD : MDg g I) (hg : g ≤ 500000000) (hW : WA s)  : PC SM (d + 245) yX12_law cX12_law 7 (some .int) [.ref 0] (I) (J) (RM rd (some 6)) (moP (g + 10000) (oLaw s)) := by
  refine PC.of [some (.ref 0), none, none, none, none, none, none] rfl rfl (Nat.le_of_ble_eq_true rfl) ?_
  obtain ⟨n, pc, b, us, kp, rw, tx, rt, hd, sw⟩ := s
  refine pw_aload_n 1 rfl dX12_law_0 rfl ?_
  refine pw_iconst (v := nI 0) 2 rfl dX12_law_1 rfl ?_
  refine pw_putI 5 rfl dX12_law_2 fX12_88 w12_7 (by first | rfl | assumption | exact rowS hh | exact mtS hm | exact ruS hr | exact mtA1 hm | exact mtA2 hm | exact mtA3 hm | exact mtA4 hm | exact mtA5 hm | exact mtA6 hm | exact mtA7 hm | exact ruA1 hr | exact ruA2 hr | exact ruA3 hr) rfl rfl rfl ?_
  rotate_left
  have hA0 := MA_thr (v := nI 0) hA
  have hD0 : MDg g (uI I 0 7 (nI 0)) := MDg_f hD (uI_ne (by omega)) (fun j => uI_ne (by omega))
  clear hA hD
  generalize uI I 0 7 (nI 0) = I at hA0 hD0 ⊢
  obtain ⟨mC, mB, mT, mN, mR, mU, mK, mH, mG⟩ := id hA0
  obtain ⟨aW, aU, aK⟩ := id hW
  have hE := MSt_A hA0
  have hn7 := mC.1
  have hn := mC.2.1
  obtain ⟨t1, t2, t3⟩ := id mT
  refine pw_aload_n 6 rfl dX12_law_5 rfl ?_
  refine pw_getI 9 rfl dX12_law_6 fX12_102 (by first | rfl | assumption | exact rowS hh | exact mtS hm | exact ruS hr | exact mtA1 hm | exact mtA2 hm | exact mtA3 hm | exact mtA4 hm | exact mtA5 hm | exact mtA6 hm | exact mtA7 hm | exact ruA1 hr | exact ruA2 hr | exact ruA3 hr) rfl ?_
  rotate_left
  rw [t1]
  refine pw_istore_n 10 rfl dX12_law_9 (by decide) ?_
  refine pw_aload_n 11 rfl dX12_law_10 rfl ?_
  refine pw_callV (as := []) 14 rfl dX12_law_11 mX12_183 vX12_readRule (m_readRule (d := d + 8) mT) (by first | rfl | assumption | exact rowS hh | exact mtS hm | exact ruS hr | exact mtA1 hm | exact mtA2 hm | exact mtA3 hm | exact mtA4 hm | exact mtA5 hm | exact mtA6 hm | exact mtA7 hm | exact ruA1 hr | exact ruA2 hr | exact ruA3 hr) rfl (by decide) ⟨rfl, by decide, by decide, show (parseMethodDescriptor yX12_readRule.desc).map (fun d => d.parameters.length) = some 0 by decide +kernel⟩ (by omega) (by decide) (Nat.le_of_ble_eq_true rfl) rfl (fun r11 I11 J11 R11 c11 => ?_)
  obtain ⟨rfl, r1, r2, r3, rfl, rfl⟩ := c11
  rotate_left
  cases e : wrR tx with
  | some p =>
    rw [e] at r1
    have er : oLaw (n, pc, b, us, kp, rw, tx, rt, hd, sw) = (-10000 - nI p, (n, pc, b, us, kp, rw, [], rt, hd, sw)) := by unfold oLaw; simp only [e]
    refine pw_if_ne (tgt := 26) 17 rfl dX12_law_14 rfl (fun h14 => absurd (by rfl) h14) (fun h14 => ?_)
    refine pw_sipush (v := -10000) 20 rfl dX12_law_17 rfl ?_
    refine pw_aload_n 21 rfl dX12_law_20 rfl ?_
    refine pw_getI 24 rfl dX12_law_21 fX12_117 (by first | rfl | assumption | exact rowS hh | exact mtS hm | exact ruS hr | exact mtA1 hm | exact mtA2 hm | exact mtA3 hm | exact mtA4 hm | exact mtA5 hm | exact mtA6 hm | exact mtA7 hm | exact ruA1 hr | exact ruA2 hr | exact ruA3 hr) rfl ?_
    rotate_left
    rw [r1]
    refine pw_isub 25 rfl dX12_law_24 ?_
    refine pw_iret dX12_law_25 rfl ?_
    rotate_left
    exact moE er ⟨rfl, MA_rt hA0 (fun a j q1 q2 => r3 a j (by omega)) (MT_0 r2) (MRl_f mR (r3 _ _ (by omega)) (fun j => r3 _ _ (by omega))), (MDg_f hD0 (r3 _ _ (by omega)) (fun j => r3 _ _ (by omega))).mono (by omega), some 3, rfl⟩
  | none =>
    have hl40 := wrR_len e
    have er : oLaw (n, pc, b, us, kp, rw, tx, rt, hd, sw) = (nI (cdn n pc (ruE tx) b 20) - nI (cdn n pc (ruE rt) b 20), (n, pc, b, us, kp, [lI (cdn n pc (ruE tx) b 20), lI (cdn n pc (ruE rt) b 20), lI (hrs n pc (ruE tx) 20 b 29), lI (hrs n pc (ruE rt) 20 b 29)], [], rt, hd, sw)) := by unfold oLaw; simp only [e]
    have mC1 : MC I11 n pc := MC_f mC (r3 _ _ (by omega)) (fun j => r3 _ _ (by omega))
    have mB1 : MB I11 1 b := MB_f mB (fun j => r3 _ _ (by omega))
    have hE1 : MSt 236 (some 6) I11 (ruE rt) := hE.fr (r3 _ _ (by omega)) (fun j => r3 _ _ (by omega)) (fun j => r3 _ _ (by omega))
    refine pw_if_ne (tgt := 26) 17 rfl dX12_law_14 rfl (fun h14 => ?_) (fun h14 => absurd h14 (by decide))
    refine pw_aload_n 27 rfl dX12_law_26 rfl ?_
    refine pw_bipush (v := nI 20) 29 rfl dX12_law_27 rfl ?_
    refine pw_callV (as := [_]) 32 rfl dX12_law_29 mX12_276 vX12_goThen (m_goThen (d := d + 5) mC1 mB1 aW.1 hE1 (show 20 ≤ 100 by decide)) (by first | rfl | assumption | exact rowS hh | exact mtS hm | exact ruS hr | exact mtA1 hm | exact mtA2 hm | exact mtA3 hm | exact mtA4 hm | exact mtA5 hm | exact mtA6 hm | exact mtA7 hm | exact ruA1 hr | exact ruA2 hr | exact ruA3 hr) rfl (by decide) ⟨rfl, by decide, by decide, show (parseMethodDescriptor yX12_goThen.desc).map (fun d => d.parameters.length) = some 1 by decide +kernel⟩ (by omega) (by decide) (Nat.le_of_ble_eq_true rfl) rfl (fun r29 I29 J29 R29 c29 => ?_)
    obtain ⟨rfl, p1, p2, p3, rfl, rd2, rfl⟩ := c29
    refine pw_aload_n 33 rfl dX12_law_32 rfl ?_
    refine pw_getI 36 rfl dX12_law_33 fX12_223 (by first | rfl | assumption | exact rowS hh | exact mtS hm | exact ruS hr | exact mtA1 hm | exact mtA2 hm | exact mtA3 hm | exact mtA4 hm | exact mtA5 hm | exact mtA6 hm | exact mtA7 hm | exact ruA1 hr | exact ruA2 hr | exact ruA3 hr) rfl ?_
    rotate_left
    rw [p3.1, dlA_len hn7]
    refine pw_istore_n 37 rfl dX12_law_36 (by decide) ?_
    refine pw_aload_n 38 rfl dX12_law_37 rfl ?_
    refine pw_getR 41 rfl dX12_law_38 fX12_42 (by first | rfl | assumption | exact rowS hh | exact mtS hm | exact ruS hr | exact mtA1 hm | exact mtA2 hm | exact mtA3 hm | exact mtA4 hm | exact mtA5 hm | exact mtA6 hm | exact mtA7 hm | exact ruA1 hr | exact ruA2 hr | exact ruA3 hr) rfl (by first | rfl | assumption | exact mtR0 hm | exact mtR1 hm | exact mtR2 hm | exact mtR3 hm | exact mtR4 hm | exact mtR5 hm | exact mtR6 hm | exact ruR0 hr | exact ruR1 hr | exact ruR3 hr) ?_
    refine pw_bipush (v := nI 29) 43 rfl dX12_law_41 rfl ?_
    refine pw_ialdN 44 rfl dX12_law_43 (by first | rfl | assumption | exact rowS hh | exact mtS hm | exact ruS hr | exact mtA1 hm | exact mtA2 hm | exact mtA3 hm | exact mtA4 hm | exact mtA5 hm | exact mtA6 hm | exact mtA7 hm | exact ruA1 hr | exact ruA2 hr | exact ruA3 hr) (by omega) (by first | decide | omega) ?_
    rotate_left
    rw [p1 29 (by omega)]
    refine pw_istore_n 45 rfl dX12_law_44 (by decide) ?_
    refine pw_aload_n 46 rfl dX12_law_45 rfl ?_
    refine pw_getR 49 rfl dX12_law_46 fX12_27 (by first | rfl | assumption | exact rowS hh | exact mtS hm | exact ruS hr | exact mtA1 hm | exact mtA2 hm | exact mtA3 hm | exact mtA4 hm | exact mtA5 hm | exact mtA6 hm | exact mtA7 hm | exact ruA1 hr | exact ruA2 hr | exact ruA3 hr) rfl (by first | rfl | assumption | exact mtR0 hm | exact mtR1 hm | exact mtR2 hm | exact mtR3 hm | exact mtR4 hm | exact mtR5 hm | exact mtR6 hm | exact ruR0 hr | exact ruR1 hr | exact ruR3 hr) ?_
    refine pw_astore 51 rfl dX12_law_49 (by decide) ?_
    refine pw_aload_n 52 rfl dX12_law_51 rfl ?_
    refine pw_getI 55 rfl dX12_law_52 fX12_186 (by first | rfl | assumption | exact rowS hh | exact mtS hm | exact ruS hr | exact mtA1 hm | exact mtA2 hm | exact mtA3 hm | exact mtA4 hm | exact mtA5 hm | exact mtA6 hm | exact mtA7 hm | exact ruA1 hr | exact ruA2 hr | exact ruA3 hr) rfl ?_
    rotate_left
    rw [show I29 0 16 = nI rt.length from by rw [p2 _ _ (by omega) (by omega) (by omega) (by omega) (by omega), r3 _ _ (by omega)]; exact mR.2.1]
    refine pw_istore 57 rfl dX12_law_55 (by decide) ?_
    refine pw_aload_n 58 rfl dX12_law_57 rfl ?_
    refine pw_aload_n 59 rfl dX12_law_58 rfl ?_
    refine pw_getR 62 rfl dX12_law_59 fX12_30 (by first | rfl | assumption | exact rowS hh | exact mtS hm | exact ruS hr | exact mtA1 hm | exact mtA2 hm | exact mtA3 hm | exact mtA4 hm | exact mtA5 hm | exact mtA6 hm | exact mtA7 hm | exact ruA1 hr | exact ruA2 hr | exact ruA3 hr) rfl (by first | rfl | assumption | exact mtR0 hm | exact mtR1 hm | exact mtR2 hm | exact mtR3 hm | exact mtR4 hm | exact mtR5 hm | exact mtR6 hm | exact ruR0 hr | exact ruR1 hr | exact ruR3 hr) ?_
    refine pw_putR 65 rfl dX12_law_62 fX12_27 w12_14 (by first | rfl | assumption | exact rowS hh | exact mtS hm | exact ruS hr | exact mtA1 hm | exact mtA2 hm | exact mtA3 hm | exact mtA4 hm | exact mtA5 hm | exact mtA6 hm | exact mtA7 hm | exact ruA1 hr | exact ruA2 hr | exact ruA3 hr) rfl (fun _ => ⟨rfl, rfl⟩) ?_
    rotate_left
    rw [RM_rl]
    refine pw_aload_n 66 rfl dX12_law_65 rfl ?_
    refine pw_iload_n 67 rfl dX12_law_66 rfl ?_
    refine pw_putI 70 rfl dX12_law_67 fX12_186 w12_16 (by first | rfl | assumption | exact rowS hh | exact mtS hm | exact ruS hr | exact mtA1 hm | exact mtA2 hm | exact mtA3 hm | exact mtA4 hm | exact mtA5 hm | exact mtA6 hm | exact mtA7 hm | exact ruA1 hr | exact ruA2 hr | exact ruA3 hr) rfl rfl rfl ?_
    refine pw_iconst (v := nI 0) 71 rfl dX12_law_70 rfl ?_
    refine pw_istore 73 rfl dX12_law_71 (by decide) ?_
    rotate_left
    have L := nat_loop tx.length (fun k => ∀ (I' : pI), (∀ j, j < k → I' 7 j = I 3 j) → I' 0 16 = nI tx.length → (∀ a j, a ≠ 7 → ¬ (a = 0 ∧ j = 16) → I' a j = I29 a j) → PW SM yX12_law.cls cX12_law 7 (d + 245) 73 [some (.ref 0), some (.int (nI tx.length)), some (.int (nI (cdn n pc (ruE rt) b 20))), some (.int (nI (hrs n pc (ruE rt) 20 b 29))), some (.ref 6), some (.int (nI rt.length)), some (.int (nI k))] [] (I') (J) (RM rd2 (some 7)) (rX cX12_law (some .int) (moP (g + 10000) (oLaw (n, pc, b, us, kp, rw, tx, rt, hd, sw))))) ?_ ?_
    · exact L _ (fun j hj => by omega) (uI_eq _ _ _ _) (fun a j q1 q2 => uI_ne (by omega))
    · intro I' g1 g2 g3
      have f2 : ∀ a j, ¬ (a = 7 ∨ a = 8 ∨ a = 11 ∨ a = 12 ∨ a = 13) → ¬ (a = 0 ∧ (j = 4 ∨ j = 9 ∨ j = 10 ∨ j = 11 ∨ j = 12 ∨ j = 16 ∨ j = 17 ∨ j = 24)) → I' a j = I a j := fun a j q1 q2 => by rw [g3 a j (by omega) (by omega), p2 a j (by omega) (by omega) (by omega) (by omega) (by omega), r3 a j (by omega)]
      have mC2 : MC I' n pc := MC_f mC (f2 _ _ (by omega) (by omega)) (fun j => f2 _ _ (by omega) (by omega))
      have mB2 : MB I' 1 b := MB_f mB (fun j => f2 _ _ (by omega) (by omega))
      have hR7 : MRl I' 7 tx := ⟨hl40, g2, fun j c hj => by rw [g1 j (List.getElem?_eq_some_iff.mp hj).1]; exact t3 j c hj, e⟩
      have e4 : I' 0 4 = nI 0 := by rw [g3 _ _ (by omega) (by omega), p2 _ _ (by omega) (by omega) (by omega) (by omega) (by omega)]; exact r2
      refine pw_iload 75 rfl dX12_law_73 rfl ?_
      refine pw_iload_n 76 rfl dX12_law_75 rfl ?_
      refine pw_icmp_ge (tgt := 99) 79 rfl dX12_law_76 rfl (fun h76 => ?_) (fun h76 => absurd (by (simp (disch := omega) only [nI_leI, nI_ltI, nI_eq, show (0 : Int32) = nI 0 from rfl, not_true_eq_false, not_false_eq_true] <;> omega)) h76)
      refine pw_aload_n 100 rfl dX12_law_99 rfl ?_
      refine pw_bipush (v := nI 20) 102 rfl dX12_law_100 rfl ?_
      refine pw_callV (as := [_]) 105 rfl dX12_law_102 mX12_276 vX12_goThen (m_goThen (d := d + 5) mC2 mB2 aW.1 (m_steps (Or.inr rfl) hR7) (show 20 ≤ 100 by decide)) (by first | rfl | assumption | exact rowS hh | exact mtS hm | exact ruS hr | exact mtA1 hm | exact mtA2 hm | exact mtA3 hm | exact mtA4 hm | exact mtA5 hm | exact mtA6 hm | exact mtA7 hm | exact ruA1 hr | exact ruA2 hr | exact ruA3 hr) rfl (by decide) ⟨rfl, by decide, by decide, show (parseMethodDescriptor yX12_goThen.desc).map (fun d => d.parameters.length) = some 1 by decide +kernel⟩ (by omega) (by decide) (Nat.le_of_ble_eq_true rfl) rfl (fun r102 I102 J102 R102 c102 => ?_)
      obtain ⟨rfl, u1, u2, u3, rfl, rd3, rfl⟩ := c102
      rotate_left
      refine pw_aload_n 106 rfl dX12_law_105 rfl ?_
      refine pw_aload 108 rfl dX12_law_106 rfl ?_
      refine pw_putR 111 rfl dX12_law_108 fX12_27 w12_14 (by first | rfl | assumption | exact rowS hh | exact mtS hm | exact ruS hr | exact mtA1 hm | exact mtA2 hm | exact mtA3 hm | exact mtA4 hm | exact mtA5 hm | exact mtA6 hm | exact mtA7 hm | exact ruA1 hr | exact ruA2 hr | exact ruA3 hr) rfl (fun _ => ⟨rfl, rfl⟩) ?_
      rotate_left
      rw [RM_rl]
      refine pw_aload_n 112 rfl dX12_law_111 rfl ?_
      refine pw_iload 114 rfl dX12_law_112 rfl ?_
      refine pw_putI 117 rfl dX12_law_114 fX12_186 w12_16 (by first | rfl | assumption | exact rowS hh | exact mtS hm | exact ruS hr | exact mtA1 hm | exact mtA2 hm | exact mtA3 hm | exact mtA4 hm | exact mtA5 hm | exact mtA6 hm | exact mtA7 hm | exact ruA1 hr | exact ruA2 hr | exact ruA3 hr) rfl rfl rfl ?_
      refine pw_aload_n 118 rfl dX12_law_117 rfl ?_
      refine pw_iconst (v := nI 0) 119 rfl dX12_law_118 rfl ?_
      refine pw_putI 122 rfl dX12_law_119 fX12_92 w12_6 (by first | rfl | assumption | exact rowS hh | exact mtS hm | exact ruS hr | exact mtA1 hm | exact mtA2 hm | exact mtA3 hm | exact mtA4 hm | exact mtA5 hm | exact mtA6 hm | exact mtA7 hm | exact ruA1 hr | exact ruA2 hr | exact ruA3 hr) rfl rfl rfl ?_
      refine pw_aload_n 123 rfl dX12_law_122 rfl ?_
      refine pw_aload_n 124 rfl dX12_law_123 rfl ?_
      refine pw_getI 127 rfl dX12_law_124 fX12_223 (by first | rfl | assumption | exact rowS hh | exact mtS hm | exact ruS hr | exact mtA1 hm | exact mtA2 hm | exact mtA3 hm | exact mtA4 hm | exact mtA5 hm | exact mtA6 hm | exact mtA7 hm | exact ruA1 hr | exact ruA2 hr | exact ruA3 hr) rfl ?_
      rotate_left
      rw [uI_ne (by omega), uI_ne (by omega), u3.1, dlA_len hn7]
      refine pw_i2l 128 rfl dX12_law_127 ?_
      refine pw_callV (as := [_]) 131 rfl dX12_law_128 mX12_236 vX12_tell (m_tell (d := d + 244) MN_0 (by decide)) (by first | rfl | assumption | exact rowS hh | exact mtS hm | exact ruS hr | exact mtA1 hm | exact mtA2 hm | exact mtA3 hm | exact mtA4 hm | exact mtA5 hm | exact mtA6 hm | exact mtA7 hm | exact ruA1 hr | exact ruA2 hr | exact ruA3 hr) rfl (by decide) ⟨rfl, by decide, by decide, show (parseMethodDescriptor yX12_tell.desc).map (fun d => d.parameters.length) = some 1 by decide +kernel⟩ (by omega) (by decide) (Nat.le_of_ble_eq_true rfl) rfl (fun r128 I128 J128 R128 c128 => ?_)
      obtain ⟨rfl, v1, v2, rfl⟩ := c128
      rotate_left
      refine pw_aload_n 132 rfl dX12_law_131 rfl ?_
      refine pw_iload_n 133 rfl dX12_law_132 rfl ?_
      refine pw_i2l 134 rfl dX12_law_133 ?_
      refine pw_callV (as := [_]) 137 rfl dX12_law_134 mX12_236 vX12_tell (m_tell (d := d + 244) v1 (by show (1 : Nat) < 12; decide)) (by first | rfl | assumption | exact rowS hh | exact mtS hm | exact ruS hr | exact mtA1 hm | exact mtA2 hm | exact mtA3 hm | exact mtA4 hm | exact mtA5 hm | exact mtA6 hm | exact mtA7 hm | exact ruA1 hr | exact ruA2 hr | exact ruA3 hr) rfl (by decide) ⟨rfl, by decide, by decide, show (parseMethodDescriptor yX12_tell.desc).map (fun d => d.parameters.length) = some 1 by decide +kernel⟩ (by omega) (by decide) (Nat.le_of_ble_eq_true rfl) rfl (fun r134 I134 J134 R134 c134 => ?_)
      obtain ⟨rfl, w1, w2, rfl⟩ := c134
      rotate_left
      have k1 : ∀ a j, ¬ (a = 0 ∧ (j = 6 ∨ j = 16)) → I134 a j = I102 a j := fun a j q => by rw [w2 a j (by omega), v2 a j (by omega), uI_ne (by omega), uI_ne (by omega)]
      refine pw_aload_n 138 rfl dX12_law_137 rfl ?_
      refine pw_aload_n 139 rfl dX12_law_138 rfl ?_
      refine pw_getR 142 rfl dX12_law_139 fX12_42 (by first | rfl | assumption | exact rowS hh | exact mtS hm | exact ruS hr | exact mtA1 hm | exact mtA2 hm | exact mtA3 hm | exact mtA4 hm | exact mtA5 hm | exact mtA6 hm | exact mtA7 hm | exact ruA1 hr | exact ruA2 hr | exact ruA3 hr) rfl (by first | rfl | assumption | exact mtR0 hm | exact mtR1 hm | exact mtR2 hm | exact mtR3 hm | exact mtR4 hm | exact mtR5 hm | exact mtR6 hm | exact ruR0 hr | exact ruR1 hr | exact ruR3 hr) ?_
      refine pw_bipush (v := nI 29) 144 rfl dX12_law_142 rfl ?_
      refine pw_ialdN 145 rfl dX12_law_144 (by first | rfl | assumption | exact rowS hh | exact mtS hm | exact ruS hr | exact mtA1 hm | exact mtA2 hm | exact mtA3 hm | exact mtA4 hm | exact mtA5 hm | exact mtA6 hm | exact mtA7 hm | exact ruA1 hr | exact ruA2 hr | exact ruA3 hr) (by omega) (by first | decide | omega) ?_
      rotate_left
      rw [k1 _ _ (by omega), u1 29 (by omega)]
      refine pw_i2l 146 rfl dX12_law_145 ?_
      refine pw_callV (as := [_]) 149 rfl dX12_law_146 mX12_236 vX12_tell (m_tell (d := d + 244) w1 (by show (2 : Nat) < 12; decide)) (by first | rfl | assumption | exact rowS hh | exact mtS hm | exact ruS hr | exact mtA1 hm | exact mtA2 hm | exact mtA3 hm | exact mtA4 hm | exact mtA5 hm | exact mtA6 hm | exact mtA7 hm | exact ruA1 hr | exact ruA2 hr | exact ruA3 hr) rfl (by decide) ⟨rfl, by decide, by decide, show (parseMethodDescriptor yX12_tell.desc).map (fun d => d.parameters.length) = some 1 by decide +kernel⟩ (by omega) (by decide) (Nat.le_of_ble_eq_true rfl) rfl (fun r146 I146 J146 R146 c146 => ?_)
      obtain ⟨rfl, x1, x2, rfl⟩ := c146
      rotate_left
      refine pw_aload_n 150 rfl dX12_law_149 rfl ?_
      refine pw_iload_n 151 rfl dX12_law_150 rfl ?_
      refine pw_i2l 152 rfl dX12_law_151 ?_
      refine pw_callV (as := [_]) 155 rfl dX12_law_152 mX12_236 vX12_tell (m_tell (d := d + 244) x1 (by show (3 : Nat) < 12; decide)) (by first | rfl | assumption | exact rowS hh | exact mtS hm | exact ruS hr | exact mtA1 hm | exact mtA2 hm | exact mtA3 hm | exact mtA4 hm | exact mtA5 hm | exact mtA6 hm | exact mtA7 hm | exact ruA1 hr | exact ruA2 hr | exact ruA3 hr) rfl (by decide) ⟨rfl, by decide, by decide, show (parseMethodDescriptor yX12_tell.desc).map (fun d => d.parameters.length) = some 1 by decide +kernel⟩ (by omega) (by decide) (Nat.le_of_ble_eq_true rfl) rfl (fun r152 I152 J152 R152 c152 => ?_)
      obtain ⟨rfl, y1, y2, rfl⟩ := c152
      rotate_left
      have k2 : ∀ a j, ¬ (a = 0 ∧ (j = 6 ∨ j = 16)) → I152 a j = I102 a j := fun a j q => by rw [y2 a j (by omega), x2 a j (by omega), k1 a j q]
      have k16 : I152 0 16 = nI rt.length := by rw [y2 _ _ (by omega), x2 _ _ (by omega), w2 _ _ (by omega), v2 _ _ (by omega), uI_ne (by omega), uI_eq]
      have k3 : ∀ a j, ¬ (a = 7 ∨ a = 8 ∨ a = 11 ∨ a = 12 ∨ a = 13) → ¬ (a = 0 ∧ (j = 4 ∨ j = 6 ∨ j = 9 ∨ j = 10 ∨ j = 11 ∨ j = 12 ∨ j = 16 ∨ j = 17 ∨ j = 24)) → I152 a j = I a j := fun a j q1 q2 => by rw [k2 a j (by omega), u2 a j (by omega) (by omega) (by omega) (by omega) (by omega), f2 a j q1 (by omega)]
      refine pw_aload_n 156 rfl dX12_law_155 rfl ?_
      refine pw_getI 159 rfl dX12_law_156 fX12_223 (by first | rfl | assumption | exact rowS hh | exact mtS hm | exact ruS hr | exact mtA1 hm | exact mtA2 hm | exact mtA3 hm | exact mtA4 hm | exact mtA5 hm | exact mtA6 hm | exact mtA7 hm | exact ruA1 hr | exact ruA2 hr | exact ruA3 hr) rfl ?_
      rotate_left
      rw [k2 _ _ (by omega), u3.1, dlA_len hn7]
      refine pw_iload_n 160 rfl dX12_law_159 rfl ?_
      refine pw_isub 161 rfl dX12_law_160 ?_
      refine pw_iret dX12_law_161 rfl ?_
      rotate_left
      have hdl := dlA_le hn7 pc (ruE tx) b (show 20 ≤ 100 by decide)
      refine moE er ⟨rfl, ?_, ⟨_, ⟨by rw [k2 _ _ (by omega)]; exact u3.1, u3.2.1, fun j x hj hx => by rw [k2 _ _ (by omega)]; exact u3.2.2 j x hj hx⟩, by omega⟩, rd3, rfl⟩
      exact ⟨MC_f mC (k3 _ _ (by omega) (by omega)) (fun j => k3 _ _ (by omega) (by omega)), MB_f mB (fun j => k3 _ _ (by omega) (by omega)), MT_0 (by rw [k2 _ _ (by omega), u2 _ _ (by omega) (by omega) (by omega) (by omega) (by omega)]; exact e4), y1, ⟨mR.1, k16, fun j c hj => by rw [k3 _ _ (by omega) (by omega)]; exact mR.2.2.1 j c hj, mR.2.2.2⟩, MU_f mU (k3 _ _ (by omega) (by omega)) (fun j => k3 _ _ (by omega) (by omega)), MK_f mK (k3 _ _ (by omega) (by omega)) (fun j => k3 _ _ (by omega) (by omega)) (fun j => k3 _ _ (by omega) (by omega)) (fun j => k3 _ _ (by omega) (by omega)), MH_f mH (k3 _ _ (by omega) (by omega)) (fun j => k3 _ _ (by omega) (by omega)) (fun j => k3 _ _ (by omega) (by omega)), MG_f mG (k3 _ _ (by omega) (by omega)) (fun j => k3 _ _ (by omega) (by omega)) (fun j => k3 _ _ (by omega) (by omega))⟩
    · intro k hk ih I' g1 g2 g3
      obtain ⟨c, hc⟩ : ∃ c, tx[k]? = some c := ⟨_, List.getElem?_eq_getElem hk⟩
      have hb := t3 k c hc
      have e3 : I' 3 k = byV c := by rw [g3 _ _ (by omega) (by omega), p2 _ _ (by omega) (by omega) (by omega) (by omega) (by omega), r3 _ _ (by omega)]; exact hb.1
      refine pw_iload 75 rfl dX12_law_73 rfl ?_
      refine pw_iload_n 76 rfl dX12_law_75 rfl ?_
      refine pw_icmp_ge (tgt := 99) 79 rfl dX12_law_76 rfl (fun h76 => absurd h76 (by (simp (disch := omega) only [nI_leI, nI_ltI, nI_eq, show (0 : Int32) = nI 0 from rfl, not_true_eq_false, not_false_eq_true] <;> omega))) (fun h76 => ?_)
      refine pw_aload_n 80 rfl dX12_law_79 rfl ?_
      refine pw_getR 83 rfl dX12_law_80 fX12_27 (by first | rfl | assumption | exact rowS hh | exact mtS hm | exact ruS hr | exact mtA1 hm | exact mtA2 hm | exact mtA3 hm | exact mtA4 hm | exact mtA5 hm | exact mtA6 hm | exact mtA7 hm | exact ruA1 hr | exact ruA2 hr | exact ruA3 hr) rfl (by first | rfl | assumption | exact mtR0 hm | exact mtR1 hm | exact mtR2 hm | exact mtR3 hm | exact mtR4 hm | exact mtR5 hm | exact mtR6 hm | exact ruR0 hr | exact ruR1 hr | exact ruR3 hr) ?_
      refine pw_iload 85 rfl dX12_law_83 rfl ?_
      refine pw_aload_n 86 rfl dX12_law_85 rfl ?_
      refine pw_getR 89 rfl dX12_law_86 fX12_16 (by first | rfl | assumption | exact rowS hh | exact mtS hm | exact ruS hr | exact mtA1 hm | exact mtA2 hm | exact mtA3 hm | exact mtA4 hm | exact mtA5 hm | exact mtA6 hm | exact mtA7 hm | exact ruA1 hr | exact ruA2 hr | exact ruA3 hr) rfl (by first | rfl | assumption | exact mtR0 hm | exact mtR1 hm | exact mtR2 hm | exact mtR3 hm | exact mtR4 hm | exact mtR5 hm | exact mtR6 hm | exact ruR0 hr | exact ruR1 hr | exact ruR3 hr) ?_
      refine pw_iload 91 rfl dX12_law_89 rfl ?_
      refine pw_baldN 92 rfl dX12_law_91 (by first | rfl | assumption | exact rowS hh | exact mtS hm | exact ruS hr | exact mtA1 hm | exact mtA2 hm | exact mtA3 hm | exact mtA4 hm | exact mtA5 hm | exact mtA6 hm | exact mtA7 hm | exact ruA1 hr | exact ruA2 hr | exact ruA3 hr) (by omega) (by first | decide | omega) ?_
      rotate_left
      rw [e3]
      refine pw_bastN 93 rfl dX12_law_92 (by first | rfl | assumption | exact rowS hh | exact mtS hm | exact ruS hr | exact mtA1 hm | exact mtA2 hm | exact mtA3 hm | exact mtA4 hm | exact mtA5 hm | exact mtA6 hm | exact mtA7 hm | exact ruA1 hr | exact ruA2 hr | exact ruA3 hr) (by omega) (by first | decide | omega) ?_
      refine pw_iincN 96 rfl dX12_law_93 (by decide) rfl ?_
      refine pw_goto (tgt := 73) dX12_law_96 rfl ?_
      rotate_left
      rw [byV_nar _ hb.2]
      refine ih _ (fun j hj => ?_) (by rw [uI_ne (by omega)]; exact g2) (fun a j q1 q2 => by rw [uI_ne (by omega)]; exact g3 a j q1 q2)
      by_cases ej : j = k
      · rw [ej, uI_eq]; exact hb.1.symm
      · rw [uI_ne (by omega)]; exact g1 j (by omega)
