/-! the class's Text -/
def XT (I : pI) (tx : List Nat) : Prop := I 17 1 = nI tx.length ∧ tx.length ≤ 80 ∧ ∀ j c, tx[j]? = some c → I 18 j = nI c ∧ c < 256
theorem XT_fr {I I' : pI} {tx : List Nat} (h : XT I tx) (h1 : I' 17 = I 17) (h2 : I' 18 = I 18) : XT I' tx := by
  unfold XT at *
  rw [h1, h2]
  exact h
def by4 (v : Int32) (i : Nat) : Nat := v.toBitVec.toNat / 2 ^ (24 - 8 * i) % 256
theorem by4_lt (v : Int32) (i : Nat) : by4 v i < 256 := Nat.mod_lt _ (by decide)
theorem by4_V (v : Int32) : ∀ i, i < 4 → (v.toUInt32 >>> ((nI (24 - 8 * i)).toUInt32 &&& Int32.toUInt32 31)).toInt32 &&& nI 255 = nI (by4 v i) := by
  have key : ∀ (n : Nat) (m : UInt32), (m.toBitVec % 32#32).toNat = n → (v.toUInt32 >>> m).toInt32 &&& nI 255 = nI (v.toBitVec.toNat / 2 ^ n % 256) := by
    intro n m hm
    apply Int32.toBitVec_inj.mp
    apply BitVec.eq_of_toNat_eq
    have e1 : ((v.toUInt32 >>> m).toInt32).toBitVec.toNat = v.toBitVec.toNat / 2 ^ n := by
      show ((v.toUInt32 >>> m).toBitVec).toNat = _
      rw [UInt32.toBitVec_shiftRight, BitVec.ushiftRight_eq', BitVec.toNat_ushiftRight, Nat.shiftRight_eq_div_pow, show ((m.toBitVec % 32).toNat) = n from hm]
      rfl
    rw [Int32.toBitVec_and, BitVec.toNat_and, e1, show (nI 255).toBitVec.toNat = 2 ^ 8 - 1 from by decide, Nat.and_two_pow_sub_one_eq_mod]
    have hlt : v.toBitVec.toNat / 2 ^ n % 2 ^ 8 < 2 ^ 32 := Nat.lt_of_lt_of_le (Nat.mod_lt _ (by decide)) (by decide)
    show _ = (BitVec.ofNat 32 _).toNat
    rw [BitVec.toNat_ofNat]
    exact (Nat.mod_eq_of_lt hlt).symm
  intro i hi
  refine key (24 - 8 * i) _ ?_
  rcases (show i = 0 ∨ i = 1 ∨ i = 2 ∨ i = 3 by omega) with rfl | rfl | rfl | rfl <;> decide
def tx4 (v : Int32) : List Nat := [by4 v 0, by4 v 1, by4 v 2, by4 v 3]
def aSign (tx : List Nat) (v : Int32) : Int32 × List Nat := if tx.length + 4 ≤ 80 then (nI (tx.length + 4), tx ++ tx4 v) else (-1, tx)
theorem tx4_get (v : Int32) : ∀ i, i < 4 → (tx4 v)[i]? = some (by4 v i) := by
  intro i hi
  rcases (show i = 0 ∨ i = 1 ∨ i = 2 ∨ i = 3 by omega) with rfl | rfl | rfl | rfl <;> rfl
set_option maxRecDepth 100000 in
set_option maxHeartbeats 2000000 in
theorem x_addFour {d : Nat} {I : pI} {J : pJ} {tx : List Nat} (hT : XT I tx) (v : Int32) : PC SX (d) yX10_addFour cX10_addFour 3 (some .int) [.ref 17, .int v] (I) (J) (RX) (fun r' I' J' R' => r' = some (.int (aSign tx v).1) ∧ XT I' (aSign tx v).2 ∧ (∀ a, a ≠ 17 → a ≠ 18 → I' a = I a) ∧ J = J' ∧ R' = RX) := by
  refine PC.of [some (.ref 17), some (.int v), none] rfl rfl (Nat.le_of_ble_eq_true rfl) ?_
  obtain ⟨n1, n2, n3⟩ := id hT
  by_cases h : tx.length + 4 ≤ 80
  · have ea : aSign tx v = (nI (tx.length + 4), tx ++ tx4 v) := if_pos h
    refine pw_aload_n 1 rfl dX10_addFour_0 rfl ?_
    refine pw_getI 4 rfl dX10_addFour_1 fX10_15 (by first | rfl | assumption | exact rowS hh | exact mtS hm | exact ruS hr | exact mtA1 hm | exact mtA2 hm | exact mtA3 hm | exact mtA4 hm | exact mtA5 hm | exact mtA6 hm | exact mtA7 hm | exact ruA1 hr | exact ruA2 hr | exact ruA3 hr) rfl ?_
    refine pw_if_lt (tgt := 18) 7 rfl dX10_addFour_4 rfl (fun h4 => absurd h4 (by rw [n1]; exact nI_pos (by omega))) (fun h4 => ?_)
    refine pw_aload_n 8 rfl dX10_addFour_7 rfl ?_
    refine pw_getI 11 rfl dX10_addFour_8 fX10_15 (by first | rfl | assumption | exact rowS hh | exact mtS hm | exact ruS hr | exact mtA1 hm | exact mtA2 hm | exact mtA3 hm | exact mtA4 hm | exact mtA5 hm | exact mtA6 hm | exact mtA7 hm | exact ruA1 hr | exact ruA2 hr | exact ruA3 hr) rfl ?_
    rotate_left
    rw [n1]
    refine pw_iconst (v := nI 4) 12 rfl dX10_addFour_11 rfl ?_
    first | refine pw_iaddN 13 rfl dX10_addFour_12 ?_ | refine pw_iadd 13 rfl dX10_addFour_12 ?_
    refine pw_bipush (v := nI 80) 15 rfl dX10_addFour_13 rfl ?_
    refine pw_icmp_le (tgt := 20) 18 rfl dX10_addFour_15 rfl (fun h15 => ?_) (fun h15 => absurd (by (simp (disch := omega) only [nI_leI, nI_ltI, nI_eq, show (0 : Int32) = nI 0 from rfl, not_true_eq_false, not_false_eq_true] <;> omega)) h15)
    refine pw_iconst (v := nI 0) 21 rfl dX10_addFour_20 rfl ?_
    refine pw_istore_n 22 rfl dX10_addFour_21 (by decide) ?_
    rotate_left
    have L := nat_loop 4 (fun k => ∀ (I' : pI), I' 17 = I 17 → (∀ j c, (tx ++ (tx4 v).take k)[j]? = some c → I' 18 j = nI c ∧ c < 256) → (∀ a, a ≠ 17 → a ≠ 18 → I' a = I a) → PW SX yX10_addFour.cls cX10_addFour 3 (d) 22 [some (.ref 17), some (.int v), some (.int (nI k))] [] (I') (J) (RX) (rX cX10_addFour (some .int) (fun r' I' J' R' => r' = some (.int (aSign tx v).1) ∧ XT I' (aSign tx v).2 ∧ (∀ a, a ≠ 17 → a ≠ 18 → I' a = I a) ∧ J = J' ∧ R' = RX))) ?_ ?_
    · exact L I rfl (by rw [List.take_zero, List.append_nil]; exact n3) (fun _ _ _ => rfl)
    · intro I' g1 g2 g3
      refine pw_iload_n 23 rfl dX10_addFour_22 rfl ?_
      refine pw_iconst (v := nI 4) 24 rfl dX10_addFour_23 rfl ?_
      refine pw_icmp_ge (tgt := 57) 27 rfl dX10_addFour_24 rfl (fun h24 => ?_) (fun h24 => absurd (by decide) h24)
      refine pw_aload_n 58 rfl dX10_addFour_57 rfl ?_
      refine pw_dup 59 rfl dX10_addFour_58 rfl ?_
      refine pw_getI 62 rfl dX10_addFour_59 fX10_15 (by first | rfl | assumption | exact rowS hh | exact mtS hm | exact ruS hr | exact mtA1 hm | exact mtA2 hm | exact mtA3 hm | exact mtA4 hm | exact mtA5 hm | exact mtA6 hm | exact mtA7 hm | exact ruA1 hr | exact ruA2 hr | exact ruA3 hr) rfl ?_
      rotate_left
      rw [g1, n1]
      refine pw_iconst (v := nI 4) 63 rfl dX10_addFour_62 rfl ?_
      first | refine pw_iaddN 64 rfl dX10_addFour_63 ?_ | refine pw_iadd 64 rfl dX10_addFour_63 ?_
      refine pw_putI 67 rfl dX10_addFour_64 fX10_15 w10_1 (by first | rfl | assumption | exact rowS hh | exact mtS hm | exact ruS hr | exact mtA1 hm | exact mtA2 hm | exact mtA3 hm | exact mtA4 hm | exact mtA5 hm | exact mtA6 hm | exact mtA7 hm | exact ruA1 hr | exact ruA2 hr | exact ruA3 hr) rfl rfl rfl ?_
      refine pw_aload_n 68 rfl dX10_addFour_67 rfl ?_
      refine pw_getI 71 rfl dX10_addFour_68 fX10_15 (by first | rfl | assumption | exact rowS hh | exact mtS hm | exact ruS hr | exact mtA1 hm | exact mtA2 hm | exact mtA3 hm | exact mtA4 hm | exact mtA5 hm | exact mtA6 hm | exact mtA7 hm | exact ruA1 hr | exact ruA2 hr | exact ruA3 hr) rfl ?_
      rotate_left
      rw [uI_eq]
      refine pw_iret dX10_addFour_71 rfl ?_
      rotate_left
      rw [ea]
      refine ⟨rfl, ⟨?_, ?_, fun j c hj => ?_⟩, fun a h1 h2 => by rw [uI, if_neg h1]; exact g3 a h1 h2, rfl, rfl⟩
      · rw [uI_eq, List.length_append]; rfl
      · rw [List.length_append]; exact h
      · rw [uI_ne (by omega)]; exact g2 j c hj
    · intro k hk ih I' g1 g2 g3
      refine pw_iload_n 23 rfl dX10_addFour_22 rfl ?_
      refine pw_iconst (v := nI 4) 24 rfl dX10_addFour_23 rfl ?_
      refine pw_icmp_ge (tgt := 57) 27 rfl dX10_addFour_24 rfl (fun h24 => absurd h24 (by (simp (disch := omega) only [nI_leI, nI_ltI, nI_eq, show (0 : Int32) = nI 0 from rfl, not_true_eq_false, not_false_eq_true] <;> omega))) (fun h24 => ?_)
      refine pw_aload_n 28 rfl dX10_addFour_27 rfl ?_
      refine pw_getR 31 rfl dX10_addFour_28 fX10_11 (by first | rfl | assumption | exact rowS hh | exact mtS hm | exact ruS hr | exact mtA1 hm | exact mtA2 hm | exact mtA3 hm | exact mtA4 hm | exact mtA5 hm | exact mtA6 hm | exact mtA7 hm | exact ruA1 hr | exact ruA2 hr | exact ruA3 hr) rfl (by first | rfl | assumption | exact mtR0 hm | exact mtR1 hm | exact mtR2 hm | exact mtR3 hm | exact mtR4 hm | exact mtR5 hm | exact mtR6 hm | exact ruR0 hr | exact ruR1 hr | exact ruR3 hr) ?_
      refine pw_aload_n 32 rfl dX10_addFour_31 rfl ?_
      refine pw_getI 35 rfl dX10_addFour_32 fX10_15 (by first | rfl | assumption | exact rowS hh | exact mtS hm | exact ruS hr | exact mtA1 hm | exact mtA2 hm | exact mtA3 hm | exact mtA4 hm | exact mtA5 hm | exact mtA6 hm | exact mtA7 hm | exact ruA1 hr | exact ruA2 hr | exact ruA3 hr) rfl ?_
      rotate_left
      rw [g1, n1]
      refine pw_iload_n 36 rfl dX10_addFour_35 rfl ?_
      first | refine pw_iaddN 37 rfl dX10_addFour_36 ?_ | refine pw_iadd 37 rfl dX10_addFour_36 ?_
      refine pw_iload_n 38 rfl dX10_addFour_37 rfl ?_
      refine pw_bipush (v := nI 24) 40 rfl dX10_addFour_38 rfl ?_
      refine pw_bipush (v := nI 8) 42 rfl dX10_addFour_40 rfl ?_
      refine pw_iload_n 43 rfl dX10_addFour_42 rfl ?_
      first | refine pw_imulN 44 rfl dX10_addFour_43 ?_ | refine pw_imul 44 rfl dX10_addFour_43 ?_
      refine pw_isubN 45 rfl dX10_addFour_44 (by omega) ?_
      refine pw_iushr 46 rfl dX10_addFour_45 rfl ?_
      refine pw_sipush (v := nI 255) 49 rfl dX10_addFour_46 rfl ?_
      refine pw_iand 50 rfl dX10_addFour_49 ?_
      rotate_left
      rw [by4_V v k hk]
      refine pw_iastN 51 rfl dX10_addFour_50 (by first | rfl | assumption | exact rowS hh | exact mtS hm | exact ruS hr | exact mtA1 hm | exact mtA2 hm | exact mtA3 hm | exact mtA4 hm | exact mtA5 hm | exact mtA6 hm | exact mtA7 hm | exact ruA1 hr | exact ruA2 hr | exact ruA3 hr) (by omega) (by decide) ?_
      refine pw_iincN 54 rfl dX10_addFour_51 (by decide) rfl ?_
      refine pw_goto (tgt := 22) dX10_addFour_54 rfl ?_
      rotate_left
      refine ih _ (by rw [uI, if_neg (by omega)]; exact g1) (fun j c hj => ?_) (fun a h1 h2 => by rw [uI, if_neg h2]; exact g3 a h1 h2)
      rw [List.take_succ, tx4_get v k hk, ← List.append_assoc] at hj
      have hlen : (tx ++ (tx4 v).take k).length = tx.length + k := by
        rw [List.length_append, List.length_take]
        show tx.length + min k 4 = _
        omega
      by_cases e : j = tx.length + k
      · subst e
        rw [uI_eq]
        rw [← hlen, List.getElem?_append_right (Nat.le_refl _), Nat.sub_self] at hj
        cases hj
        exact ⟨rfl, by4_lt v k⟩
      · rw [uI_ne (by omega)]
        have hl := (List.getElem?_eq_some_iff.mp hj).1
        rw [List.length_append, hlen] at hl
        have hl' : j < tx.length + k + 1 := hl
        rw [List.getElem?_append_left (by rw [hlen]; omega)] at hj
        exact g2 j c hj
  · rw [aSign, if_neg h]
    refine pw_aload_n 1 rfl dX10_addFour_0 rfl ?_
    refine pw_getI 4 rfl dX10_addFour_1 fX10_15 (by first | rfl | assumption | exact rowS hh | exact mtS hm | exact ruS hr | exact mtA1 hm | exact mtA2 hm | exact mtA3 hm | exact mtA4 hm | exact mtA5 hm | exact mtA6 hm | exact mtA7 hm | exact ruA1 hr | exact ruA2 hr | exact ruA3 hr) rfl ?_
    refine pw_if_lt (tgt := 18) 7 rfl dX10_addFour_4 rfl (fun h4 => absurd h4 (by rw [n1]; exact nI_pos (by omega))) (fun h4 => ?_)
    refine pw_aload_n 8 rfl dX10_addFour_7 rfl ?_
    refine pw_getI 11 rfl dX10_addFour_8 fX10_15 (by first | rfl | assumption | exact rowS hh | exact mtS hm | exact ruS hr | exact mtA1 hm | exact mtA2 hm | exact mtA3 hm | exact mtA4 hm | exact mtA5 hm | exact mtA6 hm | exact mtA7 hm | exact ruA1 hr | exact ruA2 hr | exact ruA3 hr) rfl ?_
    rotate_left
    rw [n1]
    refine pw_iconst (v := nI 4) 12 rfl dX10_addFour_11 rfl ?_
    first | refine pw_iaddN 13 rfl dX10_addFour_12 ?_ | refine pw_iadd 13 rfl dX10_addFour_12 ?_
    refine pw_bipush (v := nI 80) 15 rfl dX10_addFour_13 rfl ?_
    refine pw_icmp_le (tgt := 20) 18 rfl dX10_addFour_15 rfl (fun h15 => absurd h15 (by (simp (disch := omega) only [nI_leI, nI_ltI, nI_eq, show (0 : Int32) = nI 0 from rfl, not_true_eq_false, not_false_eq_true] <;> omega))) (fun h15 => ?_)
    refine pw_iconst (v := -1) 19 rfl dX10_addFour_18 rfl ?_
    refine pw_iret dX10_addFour_19 rfl ?_
    rotate_left
    exact ⟨rfl, hT, fun _ _ _ => rfl, rfl, rfl⟩
def aEnd (tx : List Nat) (v : Int32) : Int32 × List Nat := match inOf 0 tx.length v with
  | none => (nI 0, tx)
  | some k => (nI 1, tx.take k)
theorem aEnd_n {tx : List Nat} {v : Int32} (h : inOf 0 tx.length v = none) : aEnd tx v = (nI 0, tx) := by unfold aEnd; rw [h]
theorem aEnd_s {tx : List Nat} {v : Int32} {k : Nat} (h : inOf 0 tx.length v = some k) : aEnd tx v = (nI 1, tx.take k) := by unfold aEnd; rw [h]
set_option maxRecDepth 100000 in
set_option maxHeartbeats 2000000 in
theorem x_cutTo {d : Nat} {I : pI} {J : pJ} {tx : List Nat} (hT : XT I tx) (v : Int32) : PC SX (d) yX10_cutTo cX10_cutTo 2 (some .boolean) [.ref 17, .int v] (I) (J) (RX) (fun r' I' J' R' => r' = some (.int (aEnd tx v).1) ∧ XT I' (aEnd tx v).2 ∧ (∀ a, a ≠ 17 → I' a = I a) ∧ J = J' ∧ R' = RX) := by
  refine PC.of [some (.ref 17), some (.int v)] rfl rfl (Nat.le_of_ble_eq_true rfl) ?_
  obtain ⟨n1, n2, n3⟩ := id hT
  rcases inOf_cases (lo := 0) (hi := tx.length) (by omega) v (Nat.zero_le _) with ⟨k, k0, k4, rfl, hk⟩ | ⟨hk, ho⟩
  · rw [aEnd_s hk]
    refine pw_iload_n 1 rfl dX10_cutTo_0 rfl ?_
    refine pw_if_lt (tgt := 12) 4 rfl dX10_cutTo_1 rfl (fun h1 => absurd h1 (nI_pos (by omega))) (fun h1 => ?_)
    refine pw_iload_n 5 rfl dX10_cutTo_4 rfl ?_
    refine pw_aload_n 6 rfl dX10_cutTo_5 rfl ?_
    refine pw_getI 9 rfl dX10_cutTo_6 fX10_15 (by first | rfl | assumption | exact rowS hh | exact mtS hm | exact ruS hr | exact mtA1 hm | exact mtA2 hm | exact mtA3 hm | exact mtA4 hm | exact mtA5 hm | exact mtA6 hm | exact mtA7 hm | exact ruA1 hr | exact ruA2 hr | exact ruA3 hr) rfl ?_
    refine pw_icmp_le (tgt := 14) 12 rfl dX10_cutTo_9 rfl (fun h9 => ?_) (fun h9 => absurd (by rw [n1]; (simp (disch := omega) only [nI_leI, nI_ltI, nI_eq, show (0 : Int32) = nI 0 from rfl, not_true_eq_false, not_false_eq_true] <;> omega)) h9)
    refine pw_aload_n 15 rfl dX10_cutTo_14 rfl ?_
    refine pw_iload_n 16 rfl dX10_cutTo_15 rfl ?_
    refine pw_putI 19 rfl dX10_cutTo_16 fX10_15 w10_1 (by first | rfl | assumption | exact rowS hh | exact mtS hm | exact ruS hr | exact mtA1 hm | exact mtA2 hm | exact mtA3 hm | exact mtA4 hm | exact mtA5 hm | exact mtA6 hm | exact mtA7 hm | exact ruA1 hr | exact ruA2 hr | exact ruA3 hr) rfl rfl rfl ?_
    refine pw_iconst (v := nI 1) 20 rfl dX10_cutTo_19 rfl ?_
    refine pw_iret dX10_cutTo_20 rfl ?_
    rotate_left
    refine ⟨rfl, ⟨?_, ?_, fun j c hj => ?_⟩, fun a h1 => by rw [uI, if_neg h1], rfl, rfl⟩
    · rw [uI_eq, List.length_take, Nat.min_eq_left k4]
    · rw [List.length_take]; omega
    · rw [uI_ne (by omega)]
      rw [List.getElem?_take] at hj
      by_cases e : j < k
      · rw [if_pos e] at hj; exact n3 j c hj
      · rw [if_neg e] at hj; cases hj
  · rw [aEnd_n hk]
    by_cases h0 : v < 0
    · refine pw_iload_n 1 rfl dX10_cutTo_0 rfl ?_
      refine pw_if_lt (tgt := 12) 4 rfl dX10_cutTo_1 rfl (fun h1 => ?_) (fun h1 => absurd h0 h1)
      refine pw_iconst (v := nI 0) 13 rfl dX10_cutTo_12 rfl ?_
      refine pw_iret dX10_cutTo_13 rfl ?_
      rotate_left
      exact ⟨rfl, hT, fun _ _ => rfl, rfl, rfl⟩
    · have q1 : nI tx.length < v := by
        rcases ho with z | z
        · exact absurd z h0
        · exact z
      refine pw_iload_n 1 rfl dX10_cutTo_0 rfl ?_
      refine pw_if_lt (tgt := 12) 4 rfl dX10_cutTo_1 rfl (fun h1 => absurd h1 h0) (fun h1 => ?_)
      refine pw_iload_n 5 rfl dX10_cutTo_4 rfl ?_
      refine pw_aload_n 6 rfl dX10_cutTo_5 rfl ?_
      refine pw_getI 9 rfl dX10_cutTo_6 fX10_15 (by first | rfl | assumption | exact rowS hh | exact mtS hm | exact ruS hr | exact mtA1 hm | exact mtA2 hm | exact mtA3 hm | exact mtA4 hm | exact mtA5 hm | exact mtA6 hm | exact mtA7 hm | exact ruA1 hr | exact ruA2 hr | exact ruA3 hr) rfl ?_
      refine pw_icmp_le (tgt := 14) 12 rfl dX10_cutTo_9 rfl (fun h9 => absurd h9 (by rw [n1]; rw [Int32.le_iff_toInt_le]; rw [Int32.lt_iff_toInt_lt] at q1; omega)) (fun h9 => ?_)
      refine pw_iconst (v := nI 0) 13 rfl dX10_cutTo_12 rfl ?_
      refine pw_iret dX10_cutTo_13 rfl ?_
      rotate_left
      exact ⟨rfl, hT, fun _ _ => rfl, rfl, rfl⟩
set_option maxRecDepth 100000 in
set_option maxHeartbeats 2000000 in
theorem x_clearT {d : Nat} {I : pI} {J : pJ} : PC SX (d) yX10_clear cX10_clear 1 none [.ref 17] (I) (J) (RX) (fun r' I' J' R' => r' = none ∧ XT I' [] ∧ (∀ a, a ≠ 17 → I' a = I a) ∧ J = J' ∧ R' = RX) := by
  refine PC.of [some (.ref 17)] rfl rfl (Nat.le_of_ble_eq_true rfl) ?_
  refine pw_aload_n 1 rfl dX10_clear_0 rfl ?_
  refine pw_iconst (v := nI 0) 2 rfl dX10_clear_1 rfl ?_
  refine pw_putI 5 rfl dX10_clear_2 fX10_15 w10_1 (by first | rfl | assumption | exact rowS hh | exact mtS hm | exact ruS hr | exact mtA1 hm | exact mtA2 hm | exact mtA3 hm | exact mtA4 hm | exact mtA5 hm | exact mtA6 hm | exact mtA7 hm | exact ruA1 hr | exact ruA2 hr | exact ruA3 hr) rfl rfl rfl ?_
  refine pw_vret dX10_clear_5 ?_
  rotate_left
  exact ⟨rfl, ⟨uI_eq _ _ _ _, Nat.zero_le _, fun j x h => by cases h⟩, fun a h => by rw [uI, if_neg h], rfl, rfl⟩
def tAt (tx : List Nat) (p : Nat) : Int32 := match tx[p]? with
  | none => -1
  | some c => nI c
theorem tAt_s {tx : List Nat} {p c : Nat} (h : tx[p]? = some c) : tAt tx p = nI c := by unfold tAt; rw [h]
theorem tAt_n {tx : List Nat} {p : Nat} (h : tx.length ≤ p) : tAt tx p = -1 := by unfold tAt; rw [List.getElem?_eq_none h]
set_option maxRecDepth 100000 in
set_option maxHeartbeats 2000000 in
theorem x_at {d p : Nat} {I : pI} {J : pJ} {tx : List Nat} (hT : XT I tx) (hp : p ≤ 100) : PC SX (d) yX10_at cX10_at 2 (some .int) [.ref 17, .int (nI p)] (I) (J) (RX) (pPu (.int (tAt tx p)) I J RX) := by
  refine PC.of [some (.ref 17), some (.int (nI p))] rfl rfl (Nat.le_of_ble_eq_true rfl) ?_
  obtain ⟨n1, n2, n3⟩ := id hT
  by_cases h : p < tx.length
  · obtain ⟨c, hc⟩ : ∃ c, tx[p]? = some c := ⟨_, List.getElem?_eq_getElem h⟩
    rw [tAt_s hc]
    refine pw_iload_n 1 rfl dX10_at_0 rfl ?_
    refine pw_if_lt (tgt := 27) 4 rfl dX10_at_1 rfl (fun h1 => absurd h1 (nI_pos (by omega))) (fun h1 => ?_)
    refine pw_iload_n 5 rfl dX10_at_4 rfl ?_
    refine pw_aload_n 6 rfl dX10_at_5 rfl ?_
    refine pw_getI 9 rfl dX10_at_6 fX10_15 (by first | rfl | assumption | exact rowS hh | exact mtS hm | exact ruS hr | exact mtA1 hm | exact mtA2 hm | exact mtA3 hm | exact mtA4 hm | exact mtA5 hm | exact mtA6 hm | exact mtA7 hm | exact ruA1 hr | exact ruA2 hr | exact ruA3 hr) rfl ?_
    refine pw_icmp_ge (tgt := 27) 12 rfl dX10_at_9 rfl (fun h9 => absurd h9 (by rw [n1]; (simp (disch := omega) only [nI_leI, nI_ltI, nI_eq, show (0 : Int32) = nI 0 from rfl, not_true_eq_false, not_false_eq_true] <;> omega))) (fun h9 => ?_)
    refine pw_iload_n 13 rfl dX10_at_12 rfl ?_
    refine pw_bipush (v := nI 80) 15 rfl dX10_at_13 rfl ?_
    refine pw_icmp_ge (tgt := 27) 18 rfl dX10_at_15 rfl (fun h15 => absurd h15 (by (simp (disch := omega) only [nI_leI, nI_ltI, nI_eq, show (0 : Int32) = nI 0 from rfl, not_true_eq_false, not_false_eq_true] <;> omega))) (fun h15 => ?_)
    refine pw_aload_n 19 rfl dX10_at_18 rfl ?_
    refine pw_getR 22 rfl dX10_at_19 fX10_11 (by first | rfl | assumption | exact rowS hh | exact mtS hm | exact ruS hr | exact mtA1 hm | exact mtA2 hm | exact mtA3 hm | exact mtA4 hm | exact mtA5 hm | exact mtA6 hm | exact mtA7 hm | exact ruA1 hr | exact ruA2 hr | exact ruA3 hr) rfl (by first | rfl | assumption | exact mtR0 hm | exact mtR1 hm | exact mtR2 hm | exact mtR3 hm | exact mtR4 hm | exact mtR5 hm | exact mtR6 hm | exact ruR0 hr | exact ruR1 hr | exact ruR3 hr) ?_
    refine pw_iload_n 23 rfl dX10_at_22 rfl ?_
    refine pw_ialdN 24 rfl dX10_at_23 (by first | rfl | assumption | exact rowS hh | exact mtS hm | exact ruS hr | exact mtA1 hm | exact mtA2 hm | exact mtA3 hm | exact mtA4 hm | exact mtA5 hm | exact mtA6 hm | exact mtA7 hm | exact ruA1 hr | exact ruA2 hr | exact ruA3 hr) (by omega) (by decide) ?_
    rotate_left
    rw [(n3 p c hc).1]
    refine pw_goto (tgt := 28) dX10_at_24 rfl ?_
    refine pw_iret dX10_at_28 rfl ?_
    rotate_left
    exact ⟨rfl, rfl, rfl, rfl⟩
  · rw [tAt_n (by omega)]
    refine pw_iload_n 1 rfl dX10_at_0 rfl ?_
    refine pw_if_lt (tgt := 27) 4 rfl dX10_at_1 rfl (fun h1 => absurd h1 (nI_pos (by omega))) (fun h1 => ?_)
    refine pw_iload_n 5 rfl dX10_at_4 rfl ?_
    refine pw_aload_n 6 rfl dX10_at_5 rfl ?_
    refine pw_getI 9 rfl dX10_at_6 fX10_15 (by first | rfl | assumption | exact rowS hh | exact mtS hm | exact ruS hr | exact mtA1 hm | exact mtA2 hm | exact mtA3 hm | exact mtA4 hm | exact mtA5 hm | exact mtA6 hm | exact mtA7 hm | exact ruA1 hr | exact ruA2 hr | exact ruA3 hr) rfl ?_
    refine pw_icmp_ge (tgt := 27) 12 rfl dX10_at_9 rfl (fun h9 => ?_) (fun h9 => absurd (by rw [n1]; (simp (disch := omega) only [nI_leI, nI_ltI, nI_eq, show (0 : Int32) = nI 0 from rfl, not_true_eq_false, not_false_eq_true] <;> omega)) h9)
    refine pw_iconst (v := -1) 28 rfl dX10_at_27 rfl ?_
    refine pw_iret dX10_at_28 rfl ?_
    rotate_left
    exact ⟨rfl, rfl, rfl, rfl⟩
set_option maxRecDepth 100000 in
set_option maxHeartbeats 2000000 in
theorem x_digitAt {d p c : Nat} {I : pI} {J : pJ} {tx : List Nat} (hT : XT I tx) (hp : p ≤ 100) (hc : tx[p]? = some c) (h48 : 48 ≤ c) : PC SX (d + 1) yX10_digitAt cX10_digitAt 2 (some .int) [.ref 17, .int (nI p)] (I) (J) (RX) (pPu (.int (nI (c - 48))) I J RX) := by
  refine PC.of [some (.ref 17), some (.int (nI p))] rfl rfl (Nat.le_of_ble_eq_true rfl) ?_
  refine pw_aload_n 1 rfl dX10_digitAt_0 rfl ?_
  refine pw_iload_n 2 rfl dX10_digitAt_1 rfl ?_
  refine pw_callVP (as := [_]) 5 rfl dX10_digitAt_2 mX10_19 vX10_at (x_at (d := d) hT hp) (by first | rfl | assumption | exact rowS hh | exact mtS hm | exact ruS hr | exact mtA1 hm | exact mtA2 hm | exact mtA3 hm | exact mtA4 hm | exact mtA5 hm | exact mtA6 hm | exact mtA7 hm | exact ruA1 hr | exact ruA2 hr | exact ruA3 hr) rfl (by decide) ⟨rfl, by decide, by decide, show (parseMethodDescriptor yX10_at.desc).map (fun d => d.parameters.length) = some 1 by decide +kernel⟩ (by omega) (by decide) (Nat.le_of_ble_eq_true rfl) rfl ?_
  rotate_left
  rw [tAt_s hc]
  refine pw_bipush (v := nI 48) 7 rfl dX10_digitAt_5 rfl ?_
  refine pw_isubN 8 rfl dX10_digitAt_7 (by omega) ?_
  refine pw_iret dX10_digitAt_8 rfl ?_
  rotate_left
  exact ⟨rfl, rfl, rfl, rfl⟩
def isDg (c : Nat) : Bool := decide (48 ≤ c) && decide (c ≤ 57)
set_option maxRecDepth 100000 in
set_option maxHeartbeats 2000000 in
theorem x_isDigit {d c : Nat} {I : pI} {J : pJ} {R : pR} (hc : c < 65536) : PC SX (d) yX10_isDigit cX10_isDigit 1 (some .boolean) [.int (nI c)] (I) (J) (R) (pPu (.int (nI (if isDg c then 1 else 0))) I J R) := by
  refine PC.of [some (.int (nI c))] rfl rfl (Nat.le_of_ble_eq_true rfl) ?_
  by_cases h1 : 48 ≤ c
  · by_cases h2 : c ≤ 57
    · rw [show isDg c = true from by rw [isDg, decide_eq_true h1, decide_eq_true h2]; rfl]
      refine pw_iload_n 1 rfl dX10_isDigit_0 rfl ?_
      refine pw_bipush (v := nI 48) 3 rfl dX10_isDigit_1 rfl ?_
      refine pw_icmp_lt (tgt := 16) 6 rfl dX10_isDigit_3 rfl (fun h3 => absurd h3 (by (simp (disch := omega) only [nI_leI, nI_ltI, nI_eq, show (0 : Int32) = nI 0 from rfl, not_true_eq_false, not_false_eq_true] <;> omega))) (fun h3 => ?_)
      refine pw_iload_n 7 rfl dX10_isDigit_6 rfl ?_
      refine pw_bipush (v := nI 57) 9 rfl dX10_isDigit_7 rfl ?_
      refine pw_icmp_gt (tgt := 16) 12 rfl dX10_isDigit_9 rfl (fun h9 => absurd h9 (by (simp (disch := omega) only [nI_leI, nI_ltI, nI_eq, show (0 : Int32) = nI 0 from rfl, not_true_eq_false, not_false_eq_true] <;> omega))) (fun h9 => ?_)
      refine pw_iconst (v := nI 1) 13 rfl dX10_isDigit_12 rfl ?_
      refine pw_goto (tgt := 17) dX10_isDigit_13 rfl ?_
      refine pw_iret dX10_isDigit_17 rfl ?_
      rotate_left
      exact ⟨rfl, rfl, rfl, rfl⟩
    · rw [show isDg c = false from by rw [isDg, decide_eq_true h1, decide_eq_false h2]; rfl]
      refine pw_iload_n 1 rfl dX10_isDigit_0 rfl ?_
      refine pw_bipush (v := nI 48) 3 rfl dX10_isDigit_1 rfl ?_
      refine pw_icmp_lt (tgt := 16) 6 rfl dX10_isDigit_3 rfl (fun h3 => absurd h3 (by (simp (disch := omega) only [nI_leI, nI_ltI, nI_eq, show (0 : Int32) = nI 0 from rfl, not_true_eq_false, not_false_eq_true] <;> omega))) (fun h3 => ?_)
      refine pw_iload_n 7 rfl dX10_isDigit_6 rfl ?_
      refine pw_bipush (v := nI 57) 9 rfl dX10_isDigit_7 rfl ?_
      refine pw_icmp_gt (tgt := 16) 12 rfl dX10_isDigit_9 rfl (fun h9 => ?_) (fun h9 => absurd (by (simp (disch := omega) only [nI_leI, nI_ltI, nI_eq, show (0 : Int32) = nI 0 from rfl, not_true_eq_false, not_false_eq_true] <;> omega)) h9)
      refine pw_iconst (v := nI 0) 17 rfl dX10_isDigit_16 rfl ?_
      refine pw_iret dX10_isDigit_17 rfl ?_
      rotate_left
      exact ⟨rfl, rfl, rfl, rfl⟩
  · rw [show isDg c = false from by rw [isDg, decide_eq_false h1]; rfl]
    refine pw_iload_n 1 rfl dX10_isDigit_0 rfl ?_
    refine pw_bipush (v := nI 48) 3 rfl dX10_isDigit_1 rfl ?_
    refine pw_icmp_lt (tgt := 16) 6 rfl dX10_isDigit_3 rfl (fun h3 => ?_) (fun h3 => absurd (by (simp (disch := omega) only [nI_leI, nI_ltI, nI_eq, show (0 : Int32) = nI 0 from rfl, not_true_eq_false, not_false_eq_true] <;> omega)) h3)
    refine pw_iconst (v := nI 0) 17 rfl dX10_isDigit_16 rfl ?_
    refine pw_iret dX10_isDigit_17 rfl ?_
    rotate_left
    exact ⟨rfl, rfl, rfl, rfl⟩
