/-! the reference: the polite bend -/
set_option maxRecDepth 100000 in
set_option maxHeartbeats 2000000 in
theorem m_cellOf {d x y z : Nat} {I : pI} {J : pJ} {R : pR} : PC SM (d) yX12_cellOf cX12_cellOf 3 (some .int) [.int (nI x), .int (nI y), .int (nI z)] (I) (J) (R) (pPu (.int (nI (2 * (21 * x + y) + z))) I J R) := by
  refine PC.of [some (.int (nI x)), some (.int (nI y)), some (.int (nI z))] rfl rfl (Nat.le_of_ble_eq_true rfl) ?_
  refine pw_iconst (v := nI 2) 1 rfl dX12_cellOf_0 rfl ?_
  refine pw_bipush (v := nI 21) 3 rfl dX12_cellOf_1 rfl ?_
  refine pw_iload_n 4 rfl dX12_cellOf_3 rfl ?_
  first | refine pw_imulN 5 rfl dX12_cellOf_4 ?_ | refine pw_imul 5 rfl dX12_cellOf_4 ?_
  refine pw_iload_n 6 rfl dX12_cellOf_5 rfl ?_
  first | refine pw_iaddN 7 rfl dX12_cellOf_6 ?_ | refine pw_iadd 7 rfl dX12_cellOf_6 ?_
  first | refine pw_imulN 8 rfl dX12_cellOf_7 ?_ | refine pw_imul 8 rfl dX12_cellOf_7 ?_
  refine pw_iload_n 9 rfl dX12_cellOf_8 rfl ?_
  first | refine pw_iaddN 10 rfl dX12_cellOf_9 ?_ | refine pw_iadd 10 rfl dX12_cellOf_9 ?_
  refine pw_iret dX12_cellOf_10 rfl ?_
  rotate_left
  exact ⟨rfl, rfl, rfl, rfl⟩
def gZ (z x y : Nat) : Bool := if z = 0 then gW x y else gTw x y
def wbV (m x y : Nat) : Int32 := if m = 1 ∧ gW y x = false then nI 0 else if 1 < x ∧ gW y (x - 1) = false then nI 1 else if 2 < x ∧ gTw y (x - 2) = false then nI 2 else -2
def flV (c : Bool) : Int32 := nI (if c = true then 1 else 0)
theorem gW_i {x y : Nat} (h : x + y ≤ 60) : gW x y = true ↔ (1 < x ∧ gW y (x - 1) = false) ∨ (2 < x ∧ gTw y (x - 2) = false) := by
  rw [gW_eq h]
  cases gW y (x - 1) <;> cases gTw y (x - 2) <;> simp
theorem wbV_y {m x y : Nat} (hm : m ≤ 1) (h : x + y ≤ 60) (hg : gZ m x y = true) : ¬ wbV m x y < 0 := by
  unfold wbV
  split
  · decide
  · split
    · decide
    · split
      · decide
      · rename_i c1 c2 c3
        exfalso
        have h0 : gW x y = false := by
          cases e : gW x y
          · rfl
          · rcases (gW_i h).mp e with z | z
            · exact absurd z c2
            · exact absurd z c3
        by_cases e : m = 0
        · rw [gZ, if_pos e, h0] at hg; cases hg
        · rw [gZ, if_neg e, gTw, h0, Bool.false_or] at hg
          apply c1
          refine ⟨by omega, ?_⟩
          cases e2 : gW y x
          · rfl
          · rw [e2] at hg; cases hg
theorem wbV_n {m x y : Nat} (hm : m ≤ 1) (h : x + y ≤ 60) (hg : gZ m x y = false) : wbV m x y < 0 := by
  have h0 : gW x y = false := by
    by_cases e : m = 0
    · rw [gZ, if_pos e] at hg; exact hg
    · rw [gZ, if_neg e, gTw, Bool.or_eq_false_iff] at hg; exact hg.1
  have hno : ¬ ((1 < x ∧ gW y (x - 1) = false) ∨ (2 < x ∧ gTw y (x - 2) = false)) := fun z => by rw [(gW_i h).mpr z] at h0; cases h0
  unfold wbV
  rw [if_neg, if_neg (fun z => hno (Or.inl z)), if_neg (fun z => hno (Or.inr z))]
  · decide
  · rintro ⟨e1, e2⟩
    rw [gZ, if_neg (by omega), gTw, e2] at hg
    simp at hg
set_option maxRecDepth 100000 in
set_option maxHeartbeats 2000000 in
theorem m_winsBy {d x y m : Nat} {rd rl : Option Nat} {I : pI} {J : pJ} (hx1 : 1 ≤ x) (hx : x ≤ 20) (hy1 : 1 ≤ y) (hy : y ≤ 20) (hm : m ≤ 1) (h0 : m = 1 → I 22 (2 * (21 * y + x) + 0) = flV (gW y x)) (h1 : 1 < x → I 22 (2 * (21 * y + (x - 1)) + 0) = flV (gW y (x - 1))) (h2 : 2 < x → I 22 (2 * (21 * y + (x - 2)) + 1) = flV (gTw y (x - 2))) : PC SM (d + 1) yX12_winsBy cX12_winsBy 5 (some .int) [.ref 0, .int (nI x), .int (nI y), .int (nI m)] (I) (J) (RM rd rl) (pPu (.int (wbV m x y)) I J (RM rd rl)) := by
  refine PC.of [some (.ref 0), some (.int (nI x)), some (.int (nI y)), some (.int (nI m)), none] rfl rfl (Nat.le_of_ble_eq_true rfl) ?_
  have tail : ¬ (m = 1 ∧ gW y x = false) → PW SM yX12_winsBy.cls cX12_winsBy 5 (d + 1) 21 [some (.ref 0), some (.int (nI x)), some (.int (nI y)), some (.int (nI m)), none] [] (I) (J) (RM rd rl) (rX cX12_winsBy (some .int) (pPu (.int (wbV m x y)) I J (RM rd rl))) := by
    intro hn
    rw [show wbV m x y = if 1 < x ∧ gW y (x - 1) = false then nI 1 else if 2 < x ∧ gTw y (x - 2) = false then nI 2 else -2 from if_neg hn]
    by_cases c1 : 1 < x
    · have e1 : I 22 (2 * (21 * y + (x - 1)) + (1 - 1)) = flV (gW y (x - 1)) := h1 c1
      cases b1 : gW y (x - 1)
      · rw [if_pos ⟨c1, rfl⟩]
        refine pw_iconst (v := nI 1) 22 rfl dX12_winsBy_21 rfl ?_
        refine pw_istore 24 rfl dX12_winsBy_22 (by decide) ?_
        refine pw_iload 26 rfl dX12_winsBy_24 rfl ?_
        refine pw_iconst (v := nI 2) 27 rfl dX12_winsBy_26 rfl ?_
        refine pw_icmp_gt (tgt := 65) 30 rfl dX12_winsBy_27 rfl (fun h27 => absurd h27 (by decide)) (fun h27 => ?_)
        refine pw_iload 32 rfl dX12_winsBy_30 rfl ?_
        refine pw_iload_n 33 rfl dX12_winsBy_32 rfl ?_
        refine pw_icmp_ge (tgt := 65) 36 rfl dX12_winsBy_33 rfl (fun h33 => absurd h33 (by (simp (disch := omega) only [nI_leI, nI_ltI, nI_eq, show (0 : Int32) = nI 0 from rfl, not_true_eq_false, not_false_eq_true] <;> omega))) (fun h33 => ?_)
        refine pw_aload_n 37 rfl dX12_winsBy_36 rfl ?_
        refine pw_getR 40 rfl dX12_winsBy_37 fX12_75 (by first | rfl | assumption | exact rowS hh | exact mtS hm | exact ruS hr | exact mtA1 hm | exact mtA2 hm | exact mtA3 hm | exact mtA4 hm | exact mtA5 hm | exact mtA6 hm | exact mtA7 hm | exact ruA1 hr | exact ruA2 hr | exact ruA3 hr) rfl (by first | rfl | assumption | exact mtR0 hm | exact mtR1 hm | exact mtR2 hm | exact mtR3 hm | exact mtR4 hm | exact mtR5 hm | exact mtR6 hm | exact ruR0 hr | exact ruR1 hr | exact ruR3 hr) ?_
        refine pw_iload_n 41 rfl dX12_winsBy_40 rfl ?_
        refine pw_iload_n 42 rfl dX12_winsBy_41 rfl ?_
        refine pw_iload 44 rfl dX12_winsBy_42 rfl ?_
        refine pw_isubN 45 rfl dX12_winsBy_44 (by omega) ?_
        refine pw_iload 47 rfl dX12_winsBy_45 rfl ?_
        refine pw_iconst (v := nI 1) 48 rfl dX12_winsBy_47 rfl ?_
        refine pw_isubN 49 rfl dX12_winsBy_48 (by omega) ?_
        refine pw_callSP (as := [_, _, _]) 52 rfl dX12_winsBy_49 mX12_340 sX12_cellOf (m_cellOf (d := d)) ⟨rfl, by decide, by decide, show (parseMethodDescriptor yX12_cellOf.desc).map (fun d => d.parameters.length) = some 3 by decide +kernel⟩ (by omega) (by decide) (Nat.le_of_ble_eq_true rfl) rfl ?_
        refine pw_zaldN 53 rfl dX12_winsBy_52 (by first | rfl | assumption | exact rowS hh | exact mtS hm | exact ruS hr | exact mtA1 hm | exact mtA2 hm | exact mtA3 hm | exact mtA4 hm | exact mtA5 hm | exact mtA6 hm | exact mtA7 hm | exact ruA1 hr | exact ruA2 hr | exact ruA3 hr) (by omega) (by first | decide | omega) ?_
        refine pw_if_ne (tgt := 59) 56 rfl dX12_winsBy_53 rfl (fun h53 => absurd (by rw [e1, b1]; rfl) h53) (fun h53 => ?_)
        refine pw_iload 58 rfl dX12_winsBy_56 rfl ?_
        refine pw_iret dX12_winsBy_58 rfl ?_
        rotate_left
        exact ⟨rfl, rfl, rfl, rfl⟩
      · rw [if_neg (fun z => by cases z.2)]
        refine pw_iconst (v := nI 1) 22 rfl dX12_winsBy_21 rfl ?_
        refine pw_istore 24 rfl dX12_winsBy_22 (by decide) ?_
        rotate_left
        refine pw_iload 26 rfl dX12_winsBy_24 rfl ?_
        refine pw_iconst (v := nI 2) 27 rfl dX12_winsBy_26 rfl ?_
        refine pw_icmp_gt (tgt := 65) 30 rfl dX12_winsBy_27 rfl (fun h27 => absurd h27 (by decide)) (fun h27 => ?_)
        refine pw_iload 32 rfl dX12_winsBy_30 rfl ?_
        refine pw_iload_n 33 rfl dX12_winsBy_32 rfl ?_
        refine pw_icmp_ge (tgt := 65) 36 rfl dX12_winsBy_33 rfl (fun h33 => absurd h33 (by (simp (disch := omega) only [nI_leI, nI_ltI, nI_eq, show (0 : Int32) = nI 0 from rfl, not_true_eq_false, not_false_eq_true] <;> omega))) (fun h33 => ?_)
        refine pw_aload_n 37 rfl dX12_winsBy_36 rfl ?_
        refine pw_getR 40 rfl dX12_winsBy_37 fX12_75 (by first | rfl | assumption | exact rowS hh | exact mtS hm | exact ruS hr | exact mtA1 hm | exact mtA2 hm | exact mtA3 hm | exact mtA4 hm | exact mtA5 hm | exact mtA6 hm | exact mtA7 hm | exact ruA1 hr | exact ruA2 hr | exact ruA3 hr) rfl (by first | rfl | assumption | exact mtR0 hm | exact mtR1 hm | exact mtR2 hm | exact mtR3 hm | exact mtR4 hm | exact mtR5 hm | exact mtR6 hm | exact ruR0 hr | exact ruR1 hr | exact ruR3 hr) ?_
        refine pw_iload_n 41 rfl dX12_winsBy_40 rfl ?_
        refine pw_iload_n 42 rfl dX12_winsBy_41 rfl ?_
        refine pw_iload 44 rfl dX12_winsBy_42 rfl ?_
        refine pw_isubN 45 rfl dX12_winsBy_44 (by omega) ?_
        refine pw_iload 47 rfl dX12_winsBy_45 rfl ?_
        refine pw_iconst (v := nI 1) 48 rfl dX12_winsBy_47 rfl ?_
        refine pw_isubN 49 rfl dX12_winsBy_48 (by omega) ?_
        refine pw_callSP (as := [_, _, _]) 52 rfl dX12_winsBy_49 mX12_340 sX12_cellOf (m_cellOf (d := d)) ⟨rfl, by decide, by decide, show (parseMethodDescriptor yX12_cellOf.desc).map (fun d => d.parameters.length) = some 3 by decide +kernel⟩ (by omega) (by decide) (Nat.le_of_ble_eq_true rfl) rfl ?_
        refine pw_zaldN 53 rfl dX12_winsBy_52 (by first | rfl | assumption | exact rowS hh | exact mtS hm | exact ruS hr | exact mtA1 hm | exact mtA2 hm | exact mtA3 hm | exact mtA4 hm | exact mtA5 hm | exact mtA6 hm | exact mtA7 hm | exact ruA1 hr | exact ruA2 hr | exact ruA3 hr) (by omega) (by first | decide | omega) ?_
        refine pw_if_ne (tgt := 59) 56 rfl dX12_winsBy_53 rfl (fun h53 => ?_) (fun h53 => absurd h53 (by rw [e1, b1]; decide))
        refine pw_iincN 62 rfl dX12_winsBy_59 (by decide) rfl ?_
        refine pw_goto (tgt := 24) dX12_winsBy_62 rfl ?_
        rotate_left
        by_cases c2 : 2 < x
        · have e2 : I 22 (2 * (21 * y + (x - (1 + 1))) + (1 + 1 - 1)) = flV (gTw y (x - 2)) := h2 c2
          cases b2 : gTw y (x - 2)
          · rw [if_pos ⟨c2, rfl⟩]
            refine pw_iload 26 rfl dX12_winsBy_24 rfl ?_
            refine pw_iconst (v := nI 2) 27 rfl dX12_winsBy_26 rfl ?_
            refine pw_icmp_gt (tgt := 65) 30 rfl dX12_winsBy_27 rfl (fun h27 => absurd h27 (by decide)) (fun h27 => ?_)
            refine pw_iload 32 rfl dX12_winsBy_30 rfl ?_
            refine pw_iload_n 33 rfl dX12_winsBy_32 rfl ?_
            refine pw_icmp_ge (tgt := 65) 36 rfl dX12_winsBy_33 rfl (fun h33 => absurd h33 (by (simp (disch := omega) only [nI_leI, nI_ltI, nI_eq, show (0 : Int32) = nI 0 from rfl, not_true_eq_false, not_false_eq_true] <;> omega))) (fun h33 => ?_)
            refine pw_aload_n 37 rfl dX12_winsBy_36 rfl ?_
            refine pw_getR 40 rfl dX12_winsBy_37 fX12_75 (by first | rfl | assumption | exact rowS hh | exact mtS hm | exact ruS hr | exact mtA1 hm | exact mtA2 hm | exact mtA3 hm | exact mtA4 hm | exact mtA5 hm | exact mtA6 hm | exact mtA7 hm | exact ruA1 hr | exact ruA2 hr | exact ruA3 hr) rfl (by first | rfl | assumption | exact mtR0 hm | exact mtR1 hm | exact mtR2 hm | exact mtR3 hm | exact mtR4 hm | exact mtR5 hm | exact mtR6 hm | exact ruR0 hr | exact ruR1 hr | exact ruR3 hr) ?_
            refine pw_iload_n 41 rfl dX12_winsBy_40 rfl ?_
            refine pw_iload_n 42 rfl dX12_winsBy_41 rfl ?_
            refine pw_iload 44 rfl dX12_winsBy_42 rfl ?_
            refine pw_isubN 45 rfl dX12_winsBy_44 (by omega) ?_
            refine pw_iload 47 rfl dX12_winsBy_45 rfl ?_
            refine pw_iconst (v := nI 1) 48 rfl dX12_winsBy_47 rfl ?_
            refine pw_isubN 49 rfl dX12_winsBy_48 (by omega) ?_
            refine pw_callSP (as := [_, _, _]) 52 rfl dX12_winsBy_49 mX12_340 sX12_cellOf (m_cellOf (d := d)) ⟨rfl, by decide, by decide, show (parseMethodDescriptor yX12_cellOf.desc).map (fun d => d.parameters.length) = some 3 by decide +kernel⟩ (by omega) (by decide) (Nat.le_of_ble_eq_true rfl) rfl ?_
            refine pw_zaldN 53 rfl dX12_winsBy_52 (by first | rfl | assumption | exact rowS hh | exact mtS hm | exact ruS hr | exact mtA1 hm | exact mtA2 hm | exact mtA3 hm | exact mtA4 hm | exact mtA5 hm | exact mtA6 hm | exact mtA7 hm | exact ruA1 hr | exact ruA2 hr | exact ruA3 hr) (by omega) (by first | decide | omega) ?_
            refine pw_if_ne (tgt := 59) 56 rfl dX12_winsBy_53 rfl (fun h53 => absurd (by rw [e2, b2]; rfl) h53) (fun h53 => ?_)
            refine pw_iload 58 rfl dX12_winsBy_56 rfl ?_
            refine pw_iret dX12_winsBy_58 rfl ?_
            rotate_left
            exact ⟨rfl, rfl, rfl, rfl⟩
          · rw [if_neg (fun z => by cases z.2)]
            refine pw_iload 26 rfl dX12_winsBy_24 rfl ?_
            refine pw_iconst (v := nI 2) 27 rfl dX12_winsBy_26 rfl ?_
            refine pw_icmp_gt (tgt := 65) 30 rfl dX12_winsBy_27 rfl (fun h27 => absurd h27 (by decide)) (fun h27 => ?_)
            refine pw_iload 32 rfl dX12_winsBy_30 rfl ?_
            refine pw_iload_n 33 rfl dX12_winsBy_32 rfl ?_
            refine pw_icmp_ge (tgt := 65) 36 rfl dX12_winsBy_33 rfl (fun h33 => absurd h33 (by (simp (disch := omega) only [nI_leI, nI_ltI, nI_eq, show (0 : Int32) = nI 0 from rfl, not_true_eq_false, not_false_eq_true] <;> omega))) (fun h33 => ?_)
            refine pw_aload_n 37 rfl dX12_winsBy_36 rfl ?_
            refine pw_getR 40 rfl dX12_winsBy_37 fX12_75 (by first | rfl | assumption | exact rowS hh | exact mtS hm | exact ruS hr | exact mtA1 hm | exact mtA2 hm | exact mtA3 hm | exact mtA4 hm | exact mtA5 hm | exact mtA6 hm | exact mtA7 hm | exact ruA1 hr | exact ruA2 hr | exact ruA3 hr) rfl (by first | rfl | assumption | exact mtR0 hm | exact mtR1 hm | exact mtR2 hm | exact mtR3 hm | exact mtR4 hm | exact mtR5 hm | exact mtR6 hm | exact ruR0 hr | exact ruR1 hr | exact ruR3 hr) ?_
            refine pw_iload_n 41 rfl dX12_winsBy_40 rfl ?_
            refine pw_iload_n 42 rfl dX12_winsBy_41 rfl ?_
            refine pw_iload 44 rfl dX12_winsBy_42 rfl ?_
            refine pw_isubN 45 rfl dX12_winsBy_44 (by omega) ?_
            refine pw_iload 47 rfl dX12_winsBy_45 rfl ?_
            refine pw_iconst (v := nI 1) 48 rfl dX12_winsBy_47 rfl ?_
            refine pw_isubN 49 rfl dX12_winsBy_48 (by omega) ?_
            refine pw_callSP (as := [_, _, _]) 52 rfl dX12_winsBy_49 mX12_340 sX12_cellOf (m_cellOf (d := d)) ⟨rfl, by decide, by decide, show (parseMethodDescriptor yX12_cellOf.desc).map (fun d => d.parameters.length) = some 3 by decide +kernel⟩ (by omega) (by decide) (Nat.le_of_ble_eq_true rfl) rfl ?_
            refine pw_zaldN 53 rfl dX12_winsBy_52 (by first | rfl | assumption | exact rowS hh | exact mtS hm | exact ruS hr | exact mtA1 hm | exact mtA2 hm | exact mtA3 hm | exact mtA4 hm | exact mtA5 hm | exact mtA6 hm | exact mtA7 hm | exact ruA1 hr | exact ruA2 hr | exact ruA3 hr) (by omega) (by first | decide | omega) ?_
            refine pw_if_ne (tgt := 59) 56 rfl dX12_winsBy_53 rfl (fun h53 => ?_) (fun h53 => absurd h53 (by rw [e2, b2]; decide))
            refine pw_iincN 62 rfl dX12_winsBy_59 (by decide) rfl ?_
            refine pw_goto (tgt := 24) dX12_winsBy_62 rfl ?_
            rotate_left
            refine pw_iload 26 rfl dX12_winsBy_24 rfl ?_
            refine pw_iconst (v := nI 2) 27 rfl dX12_winsBy_26 rfl ?_
            refine pw_icmp_gt (tgt := 65) 30 rfl dX12_winsBy_27 rfl (fun h27 => ?_) (fun h27 => absurd (by decide) h27)
            refine pw_bipush (v := -2) 67 rfl dX12_winsBy_65 rfl ?_
            refine pw_iret dX12_winsBy_67 rfl ?_
            rotate_left
            exact ⟨rfl, rfl, rfl, rfl⟩
        · rw [if_neg (fun z => c2 z.1)]
          refine pw_iload 26 rfl dX12_winsBy_24 rfl ?_
          refine pw_iconst (v := nI 2) 27 rfl dX12_winsBy_26 rfl ?_
          refine pw_icmp_gt (tgt := 65) 30 rfl dX12_winsBy_27 rfl (fun h27 => absurd h27 (by decide)) (fun h27 => ?_)
          refine pw_iload 32 rfl dX12_winsBy_30 rfl ?_
          refine pw_iload_n 33 rfl dX12_winsBy_32 rfl ?_
          refine pw_icmp_ge (tgt := 65) 36 rfl dX12_winsBy_33 rfl (fun h33 => ?_) (fun h33 => absurd (by (simp (disch := omega) only [nI_leI, nI_ltI, nI_eq, show (0 : Int32) = nI 0 from rfl, not_true_eq_false, not_false_eq_true] <;> omega)) h33)
          refine pw_bipush (v := -2) 67 rfl dX12_winsBy_65 rfl ?_
          refine pw_iret dX12_winsBy_67 rfl ?_
          rotate_left
          exact ⟨rfl, rfl, rfl, rfl⟩
    · rw [if_neg (fun z => c1 z.1), if_neg (fun z => c1 (by omega))]
      refine pw_iconst (v := nI 1) 22 rfl dX12_winsBy_21 rfl ?_
      refine pw_istore 24 rfl dX12_winsBy_22 (by decide) ?_
      refine pw_iload 26 rfl dX12_winsBy_24 rfl ?_
      refine pw_iconst (v := nI 2) 27 rfl dX12_winsBy_26 rfl ?_
      refine pw_icmp_gt (tgt := 65) 30 rfl dX12_winsBy_27 rfl (fun h27 => absurd h27 (by decide)) (fun h27 => ?_)
      refine pw_iload 32 rfl dX12_winsBy_30 rfl ?_
      refine pw_iload_n 33 rfl dX12_winsBy_32 rfl ?_
      refine pw_icmp_ge (tgt := 65) 36 rfl dX12_winsBy_33 rfl (fun h33 => ?_) (fun h33 => absurd (by (simp (disch := omega) only [nI_leI, nI_ltI, nI_eq, show (0 : Int32) = nI 0 from rfl, not_true_eq_false, not_false_eq_true] <;> omega)) h33)
      refine pw_bipush (v := -2) 67 rfl dX12_winsBy_65 rfl ?_
      refine pw_iret dX12_winsBy_67 rfl ?_
      rotate_left
      exact ⟨rfl, rfl, rfl, rfl⟩
  by_cases e : m = 1
  · subst e
    have e0 := h0 rfl
    cases b0 : gW y x
    · rw [show wbV 1 x y = nI 0 from if_pos ⟨rfl, b0⟩]
      refine pw_iload_n 1 rfl dX12_winsBy_0 rfl ?_
      refine pw_iconst (v := nI 1) 2 rfl dX12_winsBy_1 rfl ?_
      refine pw_icmp_ne (tgt := 21) 5 rfl dX12_winsBy_2 rfl (fun h2 => absurd (by rfl) h2) (fun h2 => ?_)
      refine pw_aload_n 6 rfl dX12_winsBy_5 rfl ?_
      refine pw_getR 9 rfl dX12_winsBy_6 fX12_75 (by first | rfl | assumption | exact rowS hh | exact mtS hm | exact ruS hr | exact mtA1 hm | exact mtA2 hm | exact mtA3 hm | exact mtA4 hm | exact mtA5 hm | exact mtA6 hm | exact mtA7 hm | exact ruA1 hr | exact ruA2 hr | exact ruA3 hr) rfl (by first | rfl | assumption | exact mtR0 hm | exact mtR1 hm | exact mtR2 hm | exact mtR3 hm | exact mtR4 hm | exact mtR5 hm | exact mtR6 hm | exact ruR0 hr | exact ruR1 hr | exact ruR3 hr) ?_
      refine pw_iload_n 10 rfl dX12_winsBy_9 rfl ?_
      refine pw_iload_n 11 rfl dX12_winsBy_10 rfl ?_
      refine pw_iconst (v := nI 0) 12 rfl dX12_winsBy_11 rfl ?_
      refine pw_callSP (as := [_, _, _]) 15 rfl dX12_winsBy_12 mX12_340 sX12_cellOf (m_cellOf (d := d)) ⟨rfl, by decide, by decide, show (parseMethodDescriptor yX12_cellOf.desc).map (fun d => d.parameters.length) = some 3 by decide +kernel⟩ (by omega) (by decide) (Nat.le_of_ble_eq_true rfl) rfl ?_
      refine pw_zaldN 16 rfl dX12_winsBy_15 (by first | rfl | assumption | exact rowS hh | exact mtS hm | exact ruS hr | exact mtA1 hm | exact mtA2 hm | exact mtA3 hm | exact mtA4 hm | exact mtA5 hm | exact mtA6 hm | exact mtA7 hm | exact ruA1 hr | exact ruA2 hr | exact ruA3 hr) (by omega) (by first | decide | omega) ?_
      refine pw_if_ne (tgt := 21) 19 rfl dX12_winsBy_16 rfl (fun h16 => absurd (by rw [e0, b0]; rfl) h16) (fun h16 => ?_)
      refine pw_iconst (v := nI 0) 20 rfl dX12_winsBy_19 rfl ?_
      refine pw_iret dX12_winsBy_20 rfl ?_
      rotate_left
      exact ⟨rfl, rfl, rfl, rfl⟩
    · refine pw_iload_n 1 rfl dX12_winsBy_0 rfl ?_
      refine pw_iconst (v := nI 1) 2 rfl dX12_winsBy_1 rfl ?_
      refine pw_icmp_ne (tgt := 21) 5 rfl dX12_winsBy_2 rfl (fun h2 => absurd (by rfl) h2) (fun h2 => ?_)
      refine pw_aload_n 6 rfl dX12_winsBy_5 rfl ?_
      refine pw_getR 9 rfl dX12_winsBy_6 fX12_75 (by first | rfl | assumption | exact rowS hh | exact mtS hm | exact ruS hr | exact mtA1 hm | exact mtA2 hm | exact mtA3 hm | exact mtA4 hm | exact mtA5 hm | exact mtA6 hm | exact mtA7 hm | exact ruA1 hr | exact ruA2 hr | exact ruA3 hr) rfl (by first | rfl | assumption | exact mtR0 hm | exact mtR1 hm | exact mtR2 hm | exact mtR3 hm | exact mtR4 hm | exact mtR5 hm | exact mtR6 hm | exact ruR0 hr | exact ruR1 hr | exact ruR3 hr) ?_
      refine pw_iload_n 10 rfl dX12_winsBy_9 rfl ?_
      refine pw_iload_n 11 rfl dX12_winsBy_10 rfl ?_
      refine pw_iconst (v := nI 0) 12 rfl dX12_winsBy_11 rfl ?_
      refine pw_callSP (as := [_, _, _]) 15 rfl dX12_winsBy_12 mX12_340 sX12_cellOf (m_cellOf (d := d)) ⟨rfl, by decide, by decide, show (parseMethodDescriptor yX12_cellOf.desc).map (fun d => d.parameters.length) = some 3 by decide +kernel⟩ (by omega) (by decide) (Nat.le_of_ble_eq_true rfl) rfl ?_
      refine pw_zaldN 16 rfl dX12_winsBy_15 (by first | rfl | assumption | exact rowS hh | exact mtS hm | exact ruS hr | exact mtA1 hm | exact mtA2 hm | exact mtA3 hm | exact mtA4 hm | exact mtA5 hm | exact mtA6 hm | exact mtA7 hm | exact ruA1 hr | exact ruA2 hr | exact ruA3 hr) (by omega) (by first | decide | omega) ?_
      refine pw_if_ne (tgt := 21) 19 rfl dX12_winsBy_16 rfl (fun h16 => ?_) (fun h16 => absurd h16 (by rw [e0, b0]; decide))
      rotate_left
      exact tail (fun z => by rw [b0] at z; cases z.2)
  · refine pw_iload_n 1 rfl dX12_winsBy_0 rfl ?_
    refine pw_iconst (v := nI 1) 2 rfl dX12_winsBy_1 rfl ?_
    refine pw_icmp_ne (tgt := 21) 5 rfl dX12_winsBy_2 rfl (fun h2 => ?_) (fun h2 => absurd h2 (by rw [nI_eq (by omega) (by decide)]; exact e))
    rotate_left
    exact tail (fun z => e z.1)
def bTb (I : pI) (S m i : Nat) : Prop := ∀ x y z, 1 ≤ x → x ≤ 20 → 1 ≤ y → y ≤ 20 → z ≤ 1 → (x + y < S ∨ (x + y = S ∧ (z < m ∨ (z = m ∧ x < i)))) → I 22 (2 * (21 * x + y) + z) = flV (gZ z x y)
theorem bTb_set {I : pI} {S m i : Nat} {v : Int32} (h : bTb I S m i) (hi1 : 1 ≤ i) (hi : i ≤ 20) (hs : i < S) (hs2 : S - i ≤ 20) (hm : m ≤ 1) (hv : v = flV (gZ m i (S - i))) : bTb (uI I 22 (2 * (21 * i + (S - i)) + m) v) S m (i + 1) := by
  intro x y z q1 q2 q3 q4 q5 q6
  by_cases e : x + y = S ∧ z = m ∧ x = i
  · obtain ⟨e1, e2, e3⟩ := e
    subst e2 e3
    rw [show y = S - x by omega, uI_eq]
    exact hv
  · rw [uI_ne (by omega)]
    exact h x y z q1 q2 q3 q4 q5 (by omega)
set_option maxRecDepth 100000 in
set_option maxHeartbeats 2000000 in
theorem mo_bend {d g : Nat} {s : aSt} {rd : Option Nat} {I : pI} {J : pJ} (hA : MA I J s) (hD : MDg g I) (hg : g ≤ 500000000) (hW : WA s) (w v : Int32) : PC SM (d + 245) yX12_bend cX12_bend 6 (some .int) [.ref 0, .int w, .int v] (I) (J) (RM rd (some 6)) (moP (g + 10000) (qOp (qBend w v) s)) := by
  refine PC.of [some (.ref 0), some (.int w), some (.int v), none, none, none] rfl rfl (Nat.le_of_ble_eq_true rfl) ?_
  obtain ⟨n, pc, b, us, kp, rw, tx, rt, hd, sw⟩ := s
  refine pw_aload_n 1 rfl dX12_bend_0 rfl ?_
  refine pw_iconst (v := nI 0) 2 rfl dX12_bend_1 rfl ?_
  refine pw_putI 5 rfl dX12_bend_2 fX12_88 w12_7 (by first | rfl | assumption | exact rowS hh | exact mtS hm | exact ruS hr | exact mtA1 hm | exact mtA2 hm | exact mtA3 hm | exact mtA4 hm | exact mtA5 hm | exact mtA6 hm | exact mtA7 hm | exact ruA1 hr | exact ruA2 hr | exact ruA3 hr) rfl rfl rfl ?_
  rotate_left
  have hA0 := MA_thr (v := nI 0) hA
  have hD0 : MDg g (uI I 0 7 (nI 0)) := MDg_f hD (uI_ne (by omega)) (fun j => uI_ne (by omega))
  clear hA hD
  generalize uI I 0 7 (nI 0) = I at hA0 hD0 ⊢
  obtain ⟨mC, mB, mT, mN, mR, mU, mK, mH, mG⟩ := id hA0
  obtain ⟨aW, aU, aK⟩ := id hW
  have hE := MSt_A hA0
  have hn7 := mC.1
  have hn := mC.2.1
  rcases inOf_cases (lo := 1) (hi := 20) (by decide) w (by decide) with ⟨a, h1, h2, rfl, hi⟩ | ⟨hi, ho⟩
  · rcases inOf_cases (lo := 1) (hi := 20) (by decide) v (by decide) with ⟨c, g1, g2, rfl, hj⟩ | ⟨hj, ho⟩
    · have eq : qBend (nI a) (nI c) n pc b (ruE rt) rw hd sw = (gGoV (gGo a c), gGoR (gGo a c)) := by unfold qBend; rw [hi]; show inM (inOf 1 20 (nI c)) rw _ = _; rw [hj]; rfl
      refine pw_iload_n 6 rfl dX12_bend_5 rfl ?_
      refine pw_iconst (v := nI 1) 7 rfl dX12_bend_6 rfl ?_
      refine pw_bipush (v := nI 20) 9 rfl dX12_bend_7 rfl ?_
      refine pw_callSP (as := [_, _, _]) 12 rfl dX12_bend_9 mX12_98 sX12_in (m_in (d := d) _ _ _) ⟨rfl, by decide, by decide, show (parseMethodDescriptor yX12_in.desc).map (fun d => d.parameters.length) = some 3 by decide +kernel⟩ (by omega) (by decide) (Nat.le_of_ble_eq_true rfl) rfl ?_
      refine pw_if_eq (tgt := 25) 15 rfl dX12_bend_12 rfl (fun h12 => absurd h12 (by rw [inV_y h1 h2 (by decide)]; decide)) (fun h12 => ?_)
      refine pw_iload_n 16 rfl dX12_bend_15 rfl ?_
      refine pw_iconst (v := nI 1) 17 rfl dX12_bend_16 rfl ?_
      refine pw_bipush (v := nI 20) 19 rfl dX12_bend_17 rfl ?_
      refine pw_callSP (as := [_, _, _]) 22 rfl dX12_bend_19 mX12_98 sX12_in (m_in (d := d) _ _ _) ⟨rfl, by decide, by decide, show (parseMethodDescriptor yX12_in.desc).map (fun d => d.parameters.length) = some 3 by decide +kernel⟩ (by omega) (by decide) (Nat.le_of_ble_eq_true rfl) rfl ?_
      refine pw_if_ne (tgt := 27) 25 rfl dX12_bend_22 rfl (fun h22 => ?_) (fun h22 => absurd h22 (by rw [inV_y g1 g2 (by decide)]; decide))
      refine pw_iconst (v := nI 2) 28 rfl dX12_bend_27 rfl ?_
      refine pw_istore_n 29 rfl dX12_bend_28 (by decide) ?_
      rotate_left
      have L := nat_from 2 (a + c + 1) (fun S => ∀ (I' : pI) (x4 x5 : Option Value), bTb I' S 0 0 → (∀ a j, a ≠ 22 → I' a j = I a j) → PW SM yX12_bend.cls cX12_bend 6 (d + 245) 29 [some (.ref 0), some (.int (nI a)), some (.int (nI c)), some (.int (nI S)), x4, x5] [] (I') (J) (RM rd (some 6)) (rX cX12_bend (some .int) (moP (g + 10000) (qOp (qBend (nI a) (nI c)) (n, pc, b, us, kp, rw, tx, rt, hd, sw))))) (by omega) ?_ ?_
      · exact L I none none (fun x y z q1 q2 q3 q4 q5 q6 => by omega) (fun _ _ _ => rfl)
      · intro I' x4 x5 m1 m2
        refine pw_iload_n 30 rfl dX12_bend_29 rfl ?_
        refine pw_iload_n 31 rfl dX12_bend_30 rfl ?_
        refine pw_iload_n 32 rfl dX12_bend_31 rfl ?_
        first | refine pw_iaddN 33 rfl dX12_bend_32 ?_ | refine pw_iadd 33 rfl dX12_bend_32 ?_
        refine pw_icmp_gt (tgt := 122) 36 rfl dX12_bend_33 rfl (fun h33 => ?_) (fun h33 => absurd (by (simp (disch := omega) only [nI_leI, nI_ltI, nI_eq, show (0 : Int32) = nI 0 from rfl, not_true_eq_false, not_false_eq_true] <;> omega)) h33)
        refine pw_aload_n 123 rfl dX12_bend_122 rfl ?_
        refine pw_iload_n 124 rfl dX12_bend_123 rfl ?_
        refine pw_iload_n 125 rfl dX12_bend_124 rfl ?_
        refine pw_iconst (v := nI 0) 126 rfl dX12_bend_125 rfl ?_
        refine pw_callVP (as := [_, _, _]) 129 rfl dX12_bend_126 mX12_343 vX12_winsBy (m_winsBy (d := d + 243) (m := 0) h1 h2 g1 g2 (by decide) (fun z => by cases z) (fun z => m1 c (a - 1) 0 (by omega) (by omega) (by omega) (by omega) (by omega) (by omega)) (fun z => m1 c (a - 2) 1 (by omega) (by omega) (by omega) (by omega) (by omega) (by omega))) (by first | rfl | assumption | exact rowS hh | exact mtS hm | exact ruS hr | exact mtA1 hm | exact mtA2 hm | exact mtA3 hm | exact mtA4 hm | exact mtA5 hm | exact mtA6 hm | exact mtA7 hm | exact ruA1 hr | exact ruA2 hr | exact ruA3 hr) rfl (by decide) ⟨rfl, by decide, by decide, show (parseMethodDescriptor yX12_winsBy.desc).map (fun d => d.parameters.length) = some 3 by decide +kernel⟩ (by omega) (by decide) (Nat.le_of_ble_eq_true rfl) rfl ?_
        refine pw_istore_n 130 rfl dX12_bend_129 (by decide) ?_
        rotate_left
        have ew : wbV 0 a c = match gGo a c with
            | none => -2
            | some k => nI k := by
          unfold wbV gGo
          rw [if_neg (fun z => by cases z.1)]
          cases gW c (a - 1) <;> cases gTw c (a - 2) <;> by_cases k1 : 1 < a <;> by_cases k2 : 2 < a <;> simp [k1, k2] <;> omega
        rw [ew]
        have hgg : ∀ k, gGo a c = some k → k ≤ 2 := fun k hk => by
          unfold gGo at hk
          split at hk
          · cases hk; decide
          · split at hk
            · cases hk; decide
            · cases hk
        generalize gGo a c = o at eq hgg
        cases o with
        | none =>
          refine pw_aload_n 131 rfl dX12_bend_130 rfl ?_
          refine pw_iconst (v := nI 0) 132 rfl dX12_bend_131 rfl ?_
          refine pw_putI 135 rfl dX12_bend_132 fX12_92 w12_6 (by first | rfl | assumption | exact rowS hh | exact mtS hm | exact ruS hr | exact mtA1 hm | exact mtA2 hm | exact mtA3 hm | exact mtA4 hm | exact mtA5 hm | exact mtA6 hm | exact mtA7 hm | exact ruA1 hr | exact ruA2 hr | exact ruA3 hr) rfl rfl rfl ?_
          refine pw_iload_n 136 rfl dX12_bend_135 rfl ?_
          refine pw_if_ge (tgt := 141) 139 rfl dX12_bend_136 rfl (fun h136 => absurd h136 (by decide)) (fun h136 => ?_)
          refine pw_iconst (v := nI 0) 140 rfl dX12_bend_139 rfl ?_
          refine pw_iret dX12_bend_140 rfl ?_
          rotate_left
          exact moQ eq rfl (MA_rw hA0 (fun a j q => by rw [uI_ne (by omega)]; exact m2 a j (by omega)) MN_0) ((MDg_f hD0 (by rw [uI_ne (by omega)]; exact m2 _ _ (by omega)) (fun j => by rw [uI_ne (by omega)]; exact m2 _ _ (by omega))).mono (by omega)) ⟨rd, rfl⟩
        | some k =>
          have hk := hgg k rfl
          refine pw_aload_n 131 rfl dX12_bend_130 rfl ?_
          refine pw_iconst (v := nI 0) 132 rfl dX12_bend_131 rfl ?_
          refine pw_putI 135 rfl dX12_bend_132 fX12_92 w12_6 (by first | rfl | assumption | exact rowS hh | exact mtS hm | exact ruS hr | exact mtA1 hm | exact mtA2 hm | exact mtA3 hm | exact mtA4 hm | exact mtA5 hm | exact mtA6 hm | exact mtA7 hm | exact ruA1 hr | exact ruA2 hr | exact ruA3 hr) rfl rfl rfl ?_
          refine pw_iload_n 136 rfl dX12_bend_135 rfl ?_
          refine pw_if_ge (tgt := 141) 139 rfl dX12_bend_136 rfl (fun h136 => ?_) (fun h136 => absurd (nI_pos' (by omega)) h136)
          refine pw_aload_n 142 rfl dX12_bend_141 rfl ?_
          refine pw_iload_n 143 rfl dX12_bend_142 rfl ?_
          refine pw_i2l 144 rfl dX12_bend_143 ?_
          refine pw_callV (as := [_]) 147 rfl dX12_bend_144 mX12_236 vX12_tell (m_tell (d := d + 244) MN_0 (by decide)) (by first | rfl | assumption | exact rowS hh | exact mtS hm | exact ruS hr | exact mtA1 hm | exact mtA2 hm | exact mtA3 hm | exact mtA4 hm | exact mtA5 hm | exact mtA6 hm | exact mtA7 hm | exact ruA1 hr | exact ruA2 hr | exact ruA3 hr) rfl (by decide) ⟨rfl, by decide, by decide, show (parseMethodDescriptor yX12_tell.desc).map (fun d => d.parameters.length) = some 1 by decide +kernel⟩ (by omega) (by decide) (Nat.le_of_ble_eq_true rfl) rfl (fun r144 I144 J144 R144 c144 => ?_)
          obtain ⟨rfl, t1, t2, rfl⟩ := c144
          rotate_left
          refine pw_iconst (v := nI 1) 148 rfl dX12_bend_147 rfl ?_
          refine pw_iret dX12_bend_148 rfl ?_
          rotate_left
          have hf1 : ∀ a j, ¬ (a = 0 ∧ j = 6) → a ≠ 22 → I144 a j = I a j := fun a j q q2 => by rw [t2 a j q, uI_ne (by omega), m2 a j q2]
          exact moQ eq rfl (MA_rw hA0 (fun a j q => hf1 a j (by omega) (by omega)) t1) ((MDg_f hD0 (hf1 _ _ (by omega) (by omega)) (fun j => hf1 _ _ (by omega) (by omega))).mono (by omega)) ⟨rd, rfl⟩
      · intro S hS1 hS2 ih I' x4 x5 m1 m2
        refine pw_iload_n 30 rfl dX12_bend_29 rfl ?_
        refine pw_iload_n 31 rfl dX12_bend_30 rfl ?_
        refine pw_iload_n 32 rfl dX12_bend_31 rfl ?_
        first | refine pw_iaddN 33 rfl dX12_bend_32 ?_ | refine pw_iadd 33 rfl dX12_bend_32 ?_
        refine pw_icmp_gt (tgt := 122) 36 rfl dX12_bend_33 rfl (fun h33 => absurd h33 (by (simp (disch := omega) only [nI_leI, nI_ltI, nI_eq, show (0 : Int32) = nI 0 from rfl, not_true_eq_false, not_false_eq_true] <;> omega))) (fun h33 => ?_)
        refine pw_iconst (v := nI 0) 37 rfl dX12_bend_36 rfl ?_
        refine pw_istore 39 rfl dX12_bend_37 (by decide) ?_
        rotate_left
        have L2 := nat_loop 2 (fun m => ∀ (I' : pI) (x5 : Option Value), bTb I' S m 0 → (∀ a j, a ≠ 22 → I' a j = I a j) → PW SM yX12_bend.cls cX12_bend 6 (d + 245) 39 [some (.ref 0), some (.int (nI a)), some (.int (nI c)), some (.int (nI S)), some (.int (nI m)), x5] [] (I') (J) (RM rd (some 6)) (rX cX12_bend (some .int) (moP (g + 10000) (qOp (qBend (nI a) (nI c)) (n, pc, b, us, kp, rw, tx, rt, hd, sw))))) ?_ ?_
        · exact L2 I' x5 m1 m2
        · intro I2 y5 n1 n2
          refine pw_iload 41 rfl dX12_bend_39 rfl ?_
          refine pw_iconst (v := nI 2) 42 rfl dX12_bend_41 rfl ?_
          refine pw_icmp_ge (tgt := 116) 45 rfl dX12_bend_42 rfl (fun h42 => ?_) (fun h42 => absurd (by (simp (disch := omega) only [nI_leI, nI_ltI, nI_eq, show (0 : Int32) = nI 0 from rfl, not_true_eq_false, not_false_eq_true] <;> omega)) h42)
          refine pw_iincN 119 rfl dX12_bend_116 (by decide) rfl ?_
          refine pw_goto (tgt := 29) dX12_bend_119 rfl ?_
          rotate_left
          exact ih I2 _ _ (fun x y z q1 q2 q3 q4 q5 q6 => n1 x y z q1 q2 q3 q4 q5 (by omega)) n2
        · intro m hm ih2 I2 y5 n1 n2
          refine pw_iload 41 rfl dX12_bend_39 rfl ?_
          refine pw_iconst (v := nI 2) 42 rfl dX12_bend_41 rfl ?_
          refine pw_icmp_ge (tgt := 116) 45 rfl dX12_bend_42 rfl (fun h42 => absurd h42 (by (simp (disch := omega) only [nI_leI, nI_ltI, nI_eq, show (0 : Int32) = nI 0 from rfl, not_true_eq_false, not_false_eq_true] <;> omega))) (fun h42 => ?_)
          refine pw_iconst (v := nI 1) 46 rfl dX12_bend_45 rfl ?_
          refine pw_iload_n 47 rfl dX12_bend_46 rfl ?_
          refine pw_bipush (v := nI 20) 49 rfl dX12_bend_47 rfl ?_
          refine pw_isub 50 rfl dX12_bend_49 ?_
          refine pw_mmax 53 rfl dX12_bend_50 mX12_195 (Nat.le_of_ble_eq_true rfl) ?_
          rotate_left
          rw [nI_sub1 (by omega) (by decide)]
          refine pw_istore 55 rfl dX12_bend_53 (by decide) ?_
          rotate_left
          have L3 := nat_from (max 1 (S - 20)) (min 21 S) (fun i => ∀ (I' : pI), bTb I' S m i → (∀ a j, a ≠ 22 → I' a j = I a j) → PW SM yX12_bend.cls cX12_bend 6 (d + 245) 55 [some (.ref 0), some (.int (nI a)), some (.int (nI c)), some (.int (nI S)), some (.int (nI m)), some (.int (nI i))] [] (I') (J) (RM rd (some 6)) (rX cX12_bend (some .int) (moP (g + 10000) (qOp (qBend (nI a) (nI c)) (n, pc, b, us, kp, rw, tx, rt, hd, sw))))) (by omega) ?_ ?_
          · exact L3 I2 (fun x y z q1 q2 q3 q4 q5 q6 => n1 x y z q1 q2 q3 q4 q5 (by omega)) n2
          · intro I3 p1 p2
            have go := ih2 I3 (some (.int (nI (min 21 S)))) (fun x y z q1 q2 q3 q4 q5 q6 => p1 x y z q1 q2 q3 q4 q5 (by omega)) p2
            by_cases cS : 21 ≤ S
            · refine pw_iload 57 rfl dX12_bend_55 rfl ?_
              refine pw_bipush (v := nI 20) 59 rfl dX12_bend_57 rfl ?_
              refine pw_icmp_gt (tgt := 110) 62 rfl dX12_bend_59 rfl (fun h59 => ?_) (fun h59 => absurd (by (simp (disch := omega) only [nI_leI, nI_ltI, nI_eq, show (0 : Int32) = nI 0 from rfl, not_true_eq_false, not_false_eq_true] <;> omega)) h59)
              refine pw_iincN 113 rfl dX12_bend_110 (by decide) rfl ?_
              refine pw_goto (tgt := 39) dX12_bend_113 rfl ?_
              rotate_left
              exact go
            · refine pw_iload 57 rfl dX12_bend_55 rfl ?_
              refine pw_bipush (v := nI 20) 59 rfl dX12_bend_57 rfl ?_
              refine pw_icmp_gt (tgt := 110) 62 rfl dX12_bend_59 rfl (fun h59 => absurd h59 (by (simp (disch := omega) only [nI_leI, nI_ltI, nI_eq, show (0 : Int32) = nI 0 from rfl, not_true_eq_false, not_false_eq_true] <;> omega))) (fun h59 => ?_)
              refine pw_iload 64 rfl dX12_bend_62 rfl ?_
              refine pw_iload_n 65 rfl dX12_bend_64 rfl ?_
              refine pw_icmp_ge (tgt := 110) 68 rfl dX12_bend_65 rfl (fun h65 => ?_) (fun h65 => absurd (by (simp (disch := omega) only [nI_leI, nI_ltI, nI_eq, show (0 : Int32) = nI 0 from rfl, not_true_eq_false, not_false_eq_true] <;> omega)) h65)
              refine pw_iincN 113 rfl dX12_bend_110 (by decide) rfl ?_
              refine pw_goto (tgt := 39) dX12_bend_113 rfl ?_
              rotate_left
              exact go
          · intro i hi1 hi2 ih3 I3 p1 p2
            have hb1 : 1 ≤ i := by omega
            have hb2 : i ≤ 20 := by omega
            have hb3 : i < S := by omega
            have hb4 : S - i ≤ 20 := by omega
            have hb5 : 1 ≤ S - i := by omega
            cases hg : gZ m i (S - i)
            · refine pw_iload 57 rfl dX12_bend_55 rfl ?_
              refine pw_bipush (v := nI 20) 59 rfl dX12_bend_57 rfl ?_
              refine pw_icmp_gt (tgt := 110) 62 rfl dX12_bend_59 rfl (fun h59 => absurd h59 (by (simp (disch := omega) only [nI_leI, nI_ltI, nI_eq, show (0 : Int32) = nI 0 from rfl, not_true_eq_false, not_false_eq_true] <;> omega))) (fun h59 => ?_)
              refine pw_iload 64 rfl dX12_bend_62 rfl ?_
              refine pw_iload_n 65 rfl dX12_bend_64 rfl ?_
              refine pw_icmp_ge (tgt := 110) 68 rfl dX12_bend_65 rfl (fun h65 => absurd h65 (by (simp (disch := omega) only [nI_leI, nI_ltI, nI_eq, show (0 : Int32) = nI 0 from rfl, not_true_eq_false, not_false_eq_true] <;> omega))) (fun h65 => ?_)
              refine pw_aload_n 69 rfl dX12_bend_68 rfl ?_
              refine pw_getR 72 rfl dX12_bend_69 fX12_75 (by first | rfl | assumption | exact rowS hh | exact mtS hm | exact ruS hr | exact mtA1 hm | exact mtA2 hm | exact mtA3 hm | exact mtA4 hm | exact mtA5 hm | exact mtA6 hm | exact mtA7 hm | exact ruA1 hr | exact ruA2 hr | exact ruA3 hr) rfl (by first | rfl | assumption | exact mtR0 hm | exact mtR1 hm | exact mtR2 hm | exact mtR3 hm | exact mtR4 hm | exact mtR5 hm | exact mtR6 hm | exact ruR0 hr | exact ruR1 hr | exact ruR3 hr) ?_
              refine pw_iload 74 rfl dX12_bend_72 rfl ?_
              refine pw_iload_n 75 rfl dX12_bend_74 rfl ?_
              refine pw_iload 77 rfl dX12_bend_75 rfl ?_
              refine pw_isubN 78 rfl dX12_bend_77 (by omega) ?_
              refine pw_iload 80 rfl dX12_bend_78 rfl ?_
              refine pw_callSP (as := [_, _, _]) 83 rfl dX12_bend_80 mX12_340 sX12_cellOf (m_cellOf (d := d + 244)) ⟨rfl, by decide, by decide, show (parseMethodDescriptor yX12_cellOf.desc).map (fun d => d.parameters.length) = some 3 by decide +kernel⟩ (by omega) (by decide) (Nat.le_of_ble_eq_true rfl) rfl ?_
              refine pw_aload_n 84 rfl dX12_bend_83 rfl ?_
              refine pw_iload 86 rfl dX12_bend_84 rfl ?_
              refine pw_iload_n 87 rfl dX12_bend_86 rfl ?_
              refine pw_iload 89 rfl dX12_bend_87 rfl ?_
              refine pw_isubN 90 rfl dX12_bend_89 (by omega) ?_
              refine pw_iload 92 rfl dX12_bend_90 rfl ?_
              refine pw_callVP (as := [_, _, _]) 95 rfl dX12_bend_92 mX12_343 vX12_winsBy (m_winsBy (d := d + 243) hb1 hb2 hb5 hb4 (show m ≤ 1 by omega) (fun z => p1 (S - i) i 0 (by omega) (by omega) (by omega) (by omega) (by omega) (by omega)) (fun z => p1 (S - i) (i - 1) 0 (by omega) (by omega) (by omega) (by omega) (by omega) (by omega)) (fun z => p1 (S - i) (i - 2) 1 (by omega) (by omega) (by omega) (by omega) (by omega) (by omega))) (by first | rfl | assumption | exact rowS hh | exact mtS hm | exact ruS hr | exact mtA1 hm | exact mtA2 hm | exact mtA3 hm | exact mtA4 hm | exact mtA5 hm | exact mtA6 hm | exact mtA7 hm | exact ruA1 hr | exact ruA2 hr | exact ruA3 hr) rfl (by decide) ⟨rfl, by decide, by decide, show (parseMethodDescriptor yX12_winsBy.desc).map (fun d => d.parameters.length) = some 3 by decide +kernel⟩ (by omega) (by decide) (Nat.le_of_ble_eq_true rfl) rfl ?_
              refine pw_if_lt (tgt := 102) 98 rfl dX12_bend_95 rfl (fun h95 => ?_) (fun h95 => absurd (wbV_n (by omega) (by omega) hg) h95)
              refine pw_iconst (v := nI 0) 103 rfl dX12_bend_102 rfl ?_
              refine pw_zastN 104 rfl dX12_bend_103 (by first | rfl | assumption | exact rowS hh | exact mtS hm | exact ruS hr | exact mtA1 hm | exact mtA2 hm | exact mtA3 hm | exact mtA4 hm | exact mtA5 hm | exact mtA6 hm | exact mtA7 hm | exact ruA1 hr | exact ruA2 hr | exact ruA3 hr) (by omega) (by first | decide | omega) ?_
              refine pw_iincN 107 rfl dX12_bend_104 (by decide) rfl ?_
              refine pw_goto (tgt := 55) dX12_bend_107 rfl ?_
              rotate_left
              exact ih3 _ (bTb_set p1 hb1 hb2 hb3 hb4 (by omega) (by rw [hg]; rfl)) (fun a j q => by rw [uI_ne (by omega)]; exact p2 a j q)
            · refine pw_iload 57 rfl dX12_bend_55 rfl ?_
              refine pw_bipush (v := nI 20) 59 rfl dX12_bend_57 rfl ?_
              refine pw_icmp_gt (tgt := 110) 62 rfl dX12_bend_59 rfl (fun h59 => absurd h59 (by (simp (disch := omega) only [nI_leI, nI_ltI, nI_eq, show (0 : Int32) = nI 0 from rfl, not_true_eq_false, not_false_eq_true] <;> omega))) (fun h59 => ?_)
              refine pw_iload 64 rfl dX12_bend_62 rfl ?_
              refine pw_iload_n 65 rfl dX12_bend_64 rfl ?_
              refine pw_icmp_ge (tgt := 110) 68 rfl dX12_bend_65 rfl (fun h65 => absurd h65 (by (simp (disch := omega) only [nI_leI, nI_ltI, nI_eq, show (0 : Int32) = nI 0 from rfl, not_true_eq_false, not_false_eq_true] <;> omega))) (fun h65 => ?_)
              refine pw_aload_n 69 rfl dX12_bend_68 rfl ?_
              refine pw_getR 72 rfl dX12_bend_69 fX12_75 (by first | rfl | assumption | exact rowS hh | exact mtS hm | exact ruS hr | exact mtA1 hm | exact mtA2 hm | exact mtA3 hm | exact mtA4 hm | exact mtA5 hm | exact mtA6 hm | exact mtA7 hm | exact ruA1 hr | exact ruA2 hr | exact ruA3 hr) rfl (by first | rfl | assumption | exact mtR0 hm | exact mtR1 hm | exact mtR2 hm | exact mtR3 hm | exact mtR4 hm | exact mtR5 hm | exact mtR6 hm | exact ruR0 hr | exact ruR1 hr | exact ruR3 hr) ?_
              refine pw_iload 74 rfl dX12_bend_72 rfl ?_
              refine pw_iload_n 75 rfl dX12_bend_74 rfl ?_
              refine pw_iload 77 rfl dX12_bend_75 rfl ?_
              refine pw_isubN 78 rfl dX12_bend_77 (by omega) ?_
              refine pw_iload 80 rfl dX12_bend_78 rfl ?_
              refine pw_callSP (as := [_, _, _]) 83 rfl dX12_bend_80 mX12_340 sX12_cellOf (m_cellOf (d := d + 244)) ⟨rfl, by decide, by decide, show (parseMethodDescriptor yX12_cellOf.desc).map (fun d => d.parameters.length) = some 3 by decide +kernel⟩ (by omega) (by decide) (Nat.le_of_ble_eq_true rfl) rfl ?_
              refine pw_aload_n 84 rfl dX12_bend_83 rfl ?_
              refine pw_iload 86 rfl dX12_bend_84 rfl ?_
              refine pw_iload_n 87 rfl dX12_bend_86 rfl ?_
              refine pw_iload 89 rfl dX12_bend_87 rfl ?_
              refine pw_isubN 90 rfl dX12_bend_89 (by omega) ?_
              refine pw_iload 92 rfl dX12_bend_90 rfl ?_
              refine pw_callVP (as := [_, _, _]) 95 rfl dX12_bend_92 mX12_343 vX12_winsBy (m_winsBy (d := d + 243) hb1 hb2 hb5 hb4 (show m ≤ 1 by omega) (fun z => p1 (S - i) i 0 (by omega) (by omega) (by omega) (by omega) (by omega) (by omega)) (fun z => p1 (S - i) (i - 1) 0 (by omega) (by omega) (by omega) (by omega) (by omega) (by omega)) (fun z => p1 (S - i) (i - 2) 1 (by omega) (by omega) (by omega) (by omega) (by omega) (by omega))) (by first | rfl | assumption | exact rowS hh | exact mtS hm | exact ruS hr | exact mtA1 hm | exact mtA2 hm | exact mtA3 hm | exact mtA4 hm | exact mtA5 hm | exact mtA6 hm | exact mtA7 hm | exact ruA1 hr | exact ruA2 hr | exact ruA3 hr) rfl (by decide) ⟨rfl, by decide, by decide, show (parseMethodDescriptor yX12_winsBy.desc).map (fun d => d.parameters.length) = some 3 by decide +kernel⟩ (by omega) (by decide) (Nat.le_of_ble_eq_true rfl) rfl ?_
              refine pw_if_lt (tgt := 102) 98 rfl dX12_bend_95 rfl (fun h95 => absurd h95 (wbV_y (by omega) (by omega) hg)) (fun h95 => ?_)
              refine pw_iconst (v := nI 1) 99 rfl dX12_bend_98 rfl ?_
              refine pw_goto (tgt := 103) dX12_bend_99 rfl ?_
              refine pw_zastN 104 rfl dX12_bend_103 (by first | rfl | assumption | exact rowS hh | exact mtS hm | exact ruS hr | exact mtA1 hm | exact mtA2 hm | exact mtA3 hm | exact mtA4 hm | exact mtA5 hm | exact mtA6 hm | exact mtA7 hm | exact ruA1 hr | exact ruA2 hr | exact ruA3 hr) (by omega) (by first | decide | omega) ?_
              refine pw_iincN 107 rfl dX12_bend_104 (by decide) rfl ?_
              refine pw_goto (tgt := 55) dX12_bend_107 rfl ?_
              rotate_left
              exact ih3 _ (bTb_set p1 hb1 hb2 hb3 hb4 (by omega) (by rw [hg]; rfl)) (fun a j q => by rw [uI_ne (by omega)]; exact p2 a j q)
    · refine pw_iload_n 6 rfl dX12_bend_5 rfl ?_
      refine pw_iconst (v := nI 1) 7 rfl dX12_bend_6 rfl ?_
      refine pw_bipush (v := nI 20) 9 rfl dX12_bend_7 rfl ?_
      refine pw_callSP (as := [_, _, _]) 12 rfl dX12_bend_9 mX12_98 sX12_in (m_in (d := d) _ _ _) ⟨rfl, by decide, by decide, show (parseMethodDescriptor yX12_in.desc).map (fun d => d.parameters.length) = some 3 by decide +kernel⟩ (by omega) (by decide) (Nat.le_of_ble_eq_true rfl) rfl ?_
      refine pw_if_eq (tgt := 25) 15 rfl dX12_bend_12 rfl (fun h12 => absurd h12 (by rw [inV_y h1 h2 (by decide)]; decide)) (fun h12 => ?_)
      refine pw_iload_n 16 rfl dX12_bend_15 rfl ?_
      refine pw_iconst (v := nI 1) 17 rfl dX12_bend_16 rfl ?_
      refine pw_bipush (v := nI 20) 19 rfl dX12_bend_17 rfl ?_
      refine pw_callSP (as := [_, _, _]) 22 rfl dX12_bend_19 mX12_98 sX12_in (m_in (d := d) _ _ _) ⟨rfl, by decide, by decide, show (parseMethodDescriptor yX12_in.desc).map (fun d => d.parameters.length) = some 3 by decide +kernel⟩ (by omega) (by decide) (Nat.le_of_ble_eq_true rfl) rfl ?_
      refine pw_if_ne (tgt := 27) 25 rfl dX12_bend_22 rfl (fun h22 => absurd (by rw [inV_n ho]; rfl) h22) (fun h22 => ?_)
      refine pw_iconst (v := -1) 26 rfl dX12_bend_25 rfl ?_
      refine pw_iret dX12_bend_26 rfl ?_
      rotate_left
      exact moQ (by unfold qBend; rw [hi]; show inM (inOf 1 20 v) rw _ = _; rw [hj]; rfl) rfl hA0 (hD0.mono (by omega)) ⟨rd, rfl⟩
  · refine pw_iload_n 6 rfl dX12_bend_5 rfl ?_
    refine pw_iconst (v := nI 1) 7 rfl dX12_bend_6 rfl ?_
    refine pw_bipush (v := nI 20) 9 rfl dX12_bend_7 rfl ?_
    refine pw_callSP (as := [_, _, _]) 12 rfl dX12_bend_9 mX12_98 sX12_in (m_in (d := d) _ _ _) ⟨rfl, by decide, by decide, show (parseMethodDescriptor yX12_in.desc).map (fun d => d.parameters.length) = some 3 by decide +kernel⟩ (by omega) (by decide) (Nat.le_of_ble_eq_true rfl) rfl ?_
    refine pw_if_eq (tgt := 25) 15 rfl dX12_bend_12 rfl (fun h12 => ?_) (fun h12 => absurd (by rw [inV_n ho]; rfl) h12)
    refine pw_iconst (v := -1) 26 rfl dX12_bend_25 rfl ?_
    refine pw_iret dX12_bend_26 rfl ?_
    rotate_left
    exact moQ (by unfold qBend; rw [hi]; rfl) rfl hA0 (hD0.mono (by omega)) ⟨rd, rfl⟩
