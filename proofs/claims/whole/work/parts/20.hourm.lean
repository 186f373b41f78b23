/-! the reference: n climbers, paces, a row at h -/
def MB (I : pI) (h : Nat) (b : Nat → Nat) : Prop := ∀ k, k < 32 → I h k = nI (b k)
def MC (I : pI) (n : Nat) (pc : Nat → Nat) : Prop := n ≤ 7 ∧ I 0 1 = nI n ∧ ∀ k, k < 7 → I 2 k = nI (pc k)
/-- who came down, in their order -/
def MD (I : pI) (dl : List Nat) : Prop := I 0 24 = nI dl.length ∧ dl.length ≤ 1000000000 ∧ ∀ j x, j < 12 → dl[j]? = some x → I 13 j = nI x
def inV (v a b : Int32) : Int32 := if a ≤ v ∧ v ≤ b then nI 1 else nI 0
set_option maxRecDepth 100000 in
set_option maxHeartbeats 2000000 in
theorem m_in {d : Nat} (v a b : Int32) {I : pI} {J : pJ} {R : pR} : PC SM (d) yX12_in cX12_in 3 (some .boolean) [.int v, .int a, .int b] (I) (J) (R) (pPu (.int (inV v a b)) I J R) := by
  refine PC.of [some (.int v), some (.int a), some (.int b)] rfl rfl (Nat.le_of_ble_eq_true rfl) ?_
  refine pw_iload_n 1 rfl dX12_in_0 rfl ?_
  refine pw_iload_n 2 rfl dX12_in_1 rfl ?_
  refine pw_icmp_lt (tgt := 14) 5 rfl dX12_in_2 rfl (fun h2 => ?_) (fun h2 => ?_)
  refine pw_iconst (v := nI 0) 15 rfl dX12_in_14 rfl ?_
  refine pw_iret dX12_in_15 rfl ?_
  rotate_left
  refine pw_iload_n 6 rfl dX12_in_5 rfl ?_
  refine pw_iload_n 7 rfl dX12_in_6 rfl ?_
  refine pw_icmp_gt (tgt := 14) 10 rfl dX12_in_7 rfl (fun h7 => ?_) (fun h7 => ?_)
  refine pw_iconst (v := nI 0) 15 rfl dX12_in_14 rfl ?_
  refine pw_iret dX12_in_15 rfl ?_
  rotate_left
  refine pw_iconst (v := nI 1) 11 rfl dX12_in_10 rfl ?_
  refine pw_goto (tgt := 15) dX12_in_11 rfl ?_
  refine pw_iret dX12_in_15 rfl ?_
  rotate_left
  · rw [inV, if_neg (fun h => by rw [Int32.lt_iff_toInt_lt] at h2; rw [Int32.le_iff_toInt_le] at h; omega)]; exact ⟨rfl, rfl, rfl, rfl⟩
  · rw [inV, if_neg (fun h => by rw [Int32.lt_iff_toInt_lt] at h7; rw [Int32.le_iff_toInt_le, Int32.le_iff_toInt_le] at h; omega)]; exact ⟨rfl, rfl, rfl, rfl⟩
  · rw [inV, if_pos (by rw [Int32.lt_iff_toInt_lt] at h2 h7; rw [Int32.le_iff_toInt_le, Int32.le_iff_toInt_le]; omega)]; exact ⟨rfl, rfl, rfl, rfl⟩
set_option maxRecDepth 100000 in
set_option maxHeartbeats 2000000 in
theorem m_comeDown {h d q e : Nat} {dl : List Nat} {rd rl : Option Nat} (hh : h = 1 ∨ h = 11) {I : pI} {J : pJ} (hq : q < 7) (i31 : I h 31 = nI e) (he : e ≤ 9999) (hD : MD I dl) (hl : dl.length < 1000000000) : PC SM (d + 1) yX12_comeDown cX12_comeDown 3 none [.ref 0, .ref h, .int (nI q)] (I) (J) (RM rd rl) (fun r' I' J' R' => r' = none ∧ (∀ a j, ¬ (a = h ∧ (j = 7 + q ∨ j = 29 ∨ j = 31)) → a ≠ 13 → ¬ (a = 0 ∧ j = 24) → I' a j = I a j) ∧ I' h (7 + q) = nI 0 ∧ I' h 29 = nI q ∧ I' h 31 = nI (min 9999 (e + 1)) ∧ MD I' (dl ++ [q]) ∧ J = J' ∧ R' = RM rd rl) := by
  refine PC.of [some (.ref 0), some (.ref h), some (.int (nI q))] rfl rfl (Nat.le_of_ble_eq_true rfl) ?_
  obtain ⟨d1, d2, d3⟩ := hD
  refine pw_aload_n 1 rfl dX12_comeDown_0 rfl ?_
  refine pw_bipush (v := nI 7) 3 rfl dX12_comeDown_1 rfl ?_
  refine pw_iload_n 4 rfl dX12_comeDown_3 rfl ?_
  first | refine pw_iaddN 5 rfl dX12_comeDown_4 ?_ | refine pw_iadd 5 rfl dX12_comeDown_4 ?_
  refine pw_iconst (v := nI 0) 6 rfl dX12_comeDown_5 rfl ?_
  refine pw_iastN 7 rfl dX12_comeDown_6 (by first | rfl | assumption | exact rowS hh | exact mtS hm | exact ruS hr | exact mtA1 hm | exact mtA2 hm | exact mtA3 hm | exact mtA4 hm | exact mtA5 hm | exact mtA6 hm | exact mtA7 hm | exact ruA1 hr | exact ruA2 hr | exact ruA3 hr) (by omega) (by first | decide | omega) ?_
  refine pw_aload_n 8 rfl dX12_comeDown_7 rfl ?_
  refine pw_bipush (v := nI 29) 10 rfl dX12_comeDown_8 rfl ?_
  refine pw_iload_n 11 rfl dX12_comeDown_10 rfl ?_
  refine pw_iastN 12 rfl dX12_comeDown_11 (by first | rfl | assumption | exact rowS hh | exact mtS hm | exact ruS hr | exact mtA1 hm | exact mtA2 hm | exact mtA3 hm | exact mtA4 hm | exact mtA5 hm | exact mtA6 hm | exact mtA7 hm | exact ruA1 hr | exact ruA2 hr | exact ruA3 hr) (by omega) (by first | decide | omega) ?_
  refine pw_aload_n 13 rfl dX12_comeDown_12 rfl ?_
  refine pw_bipush (v := nI 31) 15 rfl dX12_comeDown_13 rfl ?_
  refine pw_sipush (v := nI 9999) 18 rfl dX12_comeDown_15 rfl ?_
  refine pw_aload_n 19 rfl dX12_comeDown_18 rfl ?_
  refine pw_bipush (v := nI 31) 21 rfl dX12_comeDown_19 rfl ?_
  refine pw_ialdN 22 rfl dX12_comeDown_21 (by first | rfl | assumption | exact rowS hh | exact mtS hm | exact ruS hr | exact mtA1 hm | exact mtA2 hm | exact mtA3 hm | exact mtA4 hm | exact mtA5 hm | exact mtA6 hm | exact mtA7 hm | exact ruA1 hr | exact ruA2 hr | exact ruA3 hr) (by omega) (by first | decide | omega) ?_
  refine pw_iconst (v := nI 1) 23 rfl dX12_comeDown_22 rfl ?_
  rotate_left
  rw [uI_ne (by omega), uI_ne (by omega), i31]
  first | refine pw_iaddN 24 rfl dX12_comeDown_23 ?_ | refine pw_iadd 24 rfl dX12_comeDown_23 ?_
  refine pw_mmin 27 rfl dX12_comeDown_24 mX12_189 (Nat.le_of_ble_eq_true rfl) ?_
  rotate_left
  rw [nI_min (by omega) (by omega)]
  refine pw_iastN 28 rfl dX12_comeDown_27 (by first | rfl | assumption | exact rowS hh | exact mtS hm | exact ruS hr | exact mtA1 hm | exact mtA2 hm | exact mtA3 hm | exact mtA4 hm | exact mtA5 hm | exact mtA6 hm | exact mtA7 hm | exact ruA1 hr | exact ruA2 hr | exact ruA3 hr) (by omega) (by first | decide | omega) ?_
  refine pw_aload_n 29 rfl dX12_comeDown_28 rfl ?_
  refine pw_getI 32 rfl dX12_comeDown_29 fX12_223 (by first | rfl | assumption | exact rowS hh | exact mtS hm | exact ruS hr | exact mtA1 hm | exact mtA2 hm | exact mtA3 hm | exact mtA4 hm | exact mtA5 hm | exact mtA6 hm | exact mtA7 hm | exact ruA1 hr | exact ruA2 hr | exact ruA3 hr) rfl ?_
  refine pw_bipush (v := nI 12) 34 rfl dX12_comeDown_32 rfl ?_
  rotate_left
  rw [uI_ne (by omega), uI_ne (by omega), uI_ne (by omega), d1]
  by_cases h12 : dl.length < 12
  · refine pw_icmp_ge (tgt := 47) 37 rfl dX12_comeDown_34 rfl (fun h34 => absurd h34 (by (simp (disch := omega) only [nI_leI, nI_ltI, nI_eq, show (0 : Int32) = nI 0 from rfl, not_true_eq_false, not_false_eq_true] <;> omega))) (fun h34 => ?_)
    refine pw_aload_n 38 rfl dX12_comeDown_37 rfl ?_
    refine pw_getR 41 rfl dX12_comeDown_38 fX12_48 (by first | rfl | assumption | exact rowS hh | exact mtS hm | exact ruS hr | exact mtA1 hm | exact mtA2 hm | exact mtA3 hm | exact mtA4 hm | exact mtA5 hm | exact mtA6 hm | exact mtA7 hm | exact ruA1 hr | exact ruA2 hr | exact ruA3 hr) rfl (by first | rfl | assumption | exact mtR0 hm | exact mtR1 hm | exact mtR2 hm | exact mtR3 hm | exact mtR4 hm | exact mtR5 hm | exact mtR6 hm | exact ruR0 hr | exact ruR1 hr | exact ruR3 hr) ?_
    refine pw_aload_n 42 rfl dX12_comeDown_41 rfl ?_
    refine pw_getI 45 rfl dX12_comeDown_42 fX12_223 (by first | rfl | assumption | exact rowS hh | exact mtS hm | exact ruS hr | exact mtA1 hm | exact mtA2 hm | exact mtA3 hm | exact mtA4 hm | exact mtA5 hm | exact mtA6 hm | exact mtA7 hm | exact ruA1 hr | exact ruA2 hr | exact ruA3 hr) rfl ?_
    rotate_left
    rw [uI_ne (by omega), uI_ne (by omega), uI_ne (by omega), d1]
    refine pw_iload_n 46 rfl dX12_comeDown_45 rfl ?_
    refine pw_iastN 47 rfl dX12_comeDown_46 (by first | rfl | assumption | exact rowS hh | exact mtS hm | exact ruS hr | exact mtA1 hm | exact mtA2 hm | exact mtA3 hm | exact mtA4 hm | exact mtA5 hm | exact mtA6 hm | exact mtA7 hm | exact ruA1 hr | exact ruA2 hr | exact ruA3 hr) (by omega) (by first | decide | omega) ?_
    refine pw_aload_n 48 rfl dX12_comeDown_47 rfl ?_
    refine pw_dup 49 rfl dX12_comeDown_48 rfl ?_
    refine pw_getI 52 rfl dX12_comeDown_49 fX12_223 (by first | rfl | assumption | exact rowS hh | exact mtS hm | exact ruS hr | exact mtA1 hm | exact mtA2 hm | exact mtA3 hm | exact mtA4 hm | exact mtA5 hm | exact mtA6 hm | exact mtA7 hm | exact ruA1 hr | exact ruA2 hr | exact ruA3 hr) rfl ?_
    refine pw_iconst (v := nI 1) 53 rfl dX12_comeDown_52 rfl ?_
    rotate_left
    rw [uI_ne (by omega), uI_ne (by omega), uI_ne (by omega), uI_ne (by omega), d1]
    first | refine pw_iaddN 54 rfl dX12_comeDown_53 ?_ | refine pw_iadd 54 rfl dX12_comeDown_53 ?_
    refine pw_putI 57 rfl dX12_comeDown_54 fX12_223 w12_24 (by first | rfl | assumption | exact rowS hh | exact mtS hm | exact ruS hr | exact mtA1 hm | exact mtA2 hm | exact mtA3 hm | exact mtA4 hm | exact mtA5 hm | exact mtA6 hm | exact mtA7 hm | exact ruA1 hr | exact ruA2 hr | exact ruA3 hr) rfl rfl rfl ?_
    refine pw_vret dX12_comeDown_57 ?_
    rotate_left
    refine ⟨rfl, fun a j h1 h2 h3 => ?_, ?_, ?_, ?_, ⟨?_, ?_, fun j x hj hx => ?_⟩, rfl, rfl⟩
    · rw [uI_ne (by omega), uI_ne (by omega), uI_ne (by omega), uI_ne (by omega), uI_ne (by omega)]
    · rw [uI_ne (by omega), uI_ne (by omega), uI_ne (by omega), uI_ne (by omega), uI_eq]
    · rw [uI_ne (by omega), uI_ne (by omega), uI_ne (by omega), uI_eq]
    · rw [uI_ne (by omega), uI_ne (by omega), uI_eq]
    · rw [uI_eq, List.length_append]; rfl
    · rw [List.length_append]; show dl.length + 1 ≤ _; omega
    · by_cases e : j = dl.length
      · subst e
        rw [uI_ne (by omega), uI_eq]
        simp at hx
        rw [hx]
      · have hlt : j < dl.length := by
          have := (List.getElem?_eq_some_iff.mp hx).1
          rw [List.length_append] at this
          have : j < dl.length + 1 := this
          omega
        rw [List.getElem?_append_left hlt] at hx
        rw [uI_ne (by omega), uI_ne (by omega), uI_ne (by omega), uI_ne (by omega), uI_ne (by omega)]
        exact d3 j x hj hx
  · refine pw_icmp_ge (tgt := 47) 37 rfl dX12_comeDown_34 rfl (fun h34 => ?_) (fun h34 => absurd (by (simp (disch := omega) only [nI_leI, nI_ltI, nI_eq, show (0 : Int32) = nI 0 from rfl, not_true_eq_false, not_false_eq_true] <;> omega)) h34)
    refine pw_aload_n 48 rfl dX12_comeDown_47 rfl ?_
    refine pw_dup 49 rfl dX12_comeDown_48 rfl ?_
    refine pw_getI 52 rfl dX12_comeDown_49 fX12_223 (by first | rfl | assumption | exact rowS hh | exact mtS hm | exact ruS hr | exact mtA1 hm | exact mtA2 hm | exact mtA3 hm | exact mtA4 hm | exact mtA5 hm | exact mtA6 hm | exact mtA7 hm | exact ruA1 hr | exact ruA2 hr | exact ruA3 hr) rfl ?_
    refine pw_iconst (v := nI 1) 53 rfl dX12_comeDown_52 rfl ?_
    rotate_left
    rw [uI_ne (by omega), uI_ne (by omega), uI_ne (by omega), d1]
    first | refine pw_iaddN 54 rfl dX12_comeDown_53 ?_ | refine pw_iadd 54 rfl dX12_comeDown_53 ?_
    refine pw_putI 57 rfl dX12_comeDown_54 fX12_223 w12_24 (by first | rfl | assumption | exact rowS hh | exact mtS hm | exact ruS hr | exact mtA1 hm | exact mtA2 hm | exact mtA3 hm | exact mtA4 hm | exact mtA5 hm | exact mtA6 hm | exact mtA7 hm | exact ruA1 hr | exact ruA2 hr | exact ruA3 hr) rfl rfl rfl ?_
    refine pw_vret dX12_comeDown_57 ?_
    rotate_left
    refine ⟨rfl, fun a j h1 h2 h3 => ?_, ?_, ?_, ?_, ⟨?_, ?_, fun j x hj hx => ?_⟩, rfl, rfl⟩
    · rw [uI_ne (by omega), uI_ne (by omega), uI_ne (by omega), uI_ne (by omega)]
    · rw [uI_ne (by omega), uI_ne (by omega), uI_ne (by omega), uI_eq]
    · rw [uI_ne (by omega), uI_ne (by omega), uI_eq]
    · rw [uI_ne (by omega), uI_eq]
    · rw [uI_eq, List.length_append]; rfl
    · rw [List.length_append]; show dl.length + 1 ≤ _; omega
    · rw [List.getElem?_append_left (by omega)] at hx
      rw [uI_ne (by omega), uI_ne (by omega), uI_ne (by omega), uI_ne (by omega)]
      exact d3 j x hj hx
