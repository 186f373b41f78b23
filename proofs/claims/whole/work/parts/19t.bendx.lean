/-! the polite bend -/
def gP : Nat → Nat → Nat → Bool
  | 0, _, _ => false
  | f + 1, x, y => (decide (1 < x) && !(gP f y (x - 1))) || (decide (2 < x) && !(gP f y (x - 2) || !(gP f (x - 2) y)))
theorem gP_st : ∀ f x y, x + y ≤ f → gP (f + 1) x y = gP f x y
  | 0, x, y, h => by
    rw [gP, gP, decide_eq_false (by omega), decide_eq_false (by omega)]
    rfl
  | f + 1, x, y, h => by
    rw [gP]
    conv => rhs; rw [gP]
    by_cases h1 : 1 < x
    · rw [gP_st f y (x - 1) (by omega), gP_st f y (x - 2) (by omega), gP_st f (x - 2) y (by omega)]
    · rw [decide_eq_false h1, decide_eq_false (show ¬ 2 < x by omega)]
      simp
def gW (x y : Nat) : Bool := gP 64 x y
def gTw (x y : Nat) : Bool := gW x y || !(gW y x)
theorem gW_eq {x y : Nat} (h : x + y ≤ 60) : gW x y = ((decide (1 < x) && !(gW y (x - 1))) || (decide (2 < x) && !(gTw y (x - 2)))) := by
  have e1 : gW y (x - 1) = gP 63 y (x - 1) := gP_st 63 _ _ (by omega)
  have e2 : gW y (x - 2) = gP 63 y (x - 2) := gP_st 63 _ _ (by omega)
  have e3 : gW (x - 2) y = gP 63 (x - 2) y := gP_st 63 _ _ (by omega)
  rw [gTw, e1, e2, e3]
  rfl
/-- what x wins against, below B -/
def wd (f : Nat → Nat → Bool) (x B : Nat) : Nat := bts (fun y => decide (1 ≤ y) && f x y) B
theorem wd_bit {f : Nat → Nat → Bool} {x B y : Nat} (h1 : 1 ≤ y) (h2 : y < B) : (wd f x B).testBit y = f x y := by
  rw [wd, bts_bit, decide_eq_true h2, decide_eq_true h1, Bool.true_and, Bool.true_and]
theorem wd_lt {f : Nat → Nat → Bool} {x B : Nat} (h : B ≤ 21) : wd f x B < 2147483648 := Nat.lt_of_lt_of_le (bts_lt _ B) (Nat.le_trans (Nat.pow_le_pow_right (by decide) h) (by decide))
theorem wd_1 (f : Nat → Nat → Bool) (x : Nat) : wd f x 1 = wd f x 0 := by
  show 0 + (if (decide (1 ≤ 0) && f x 0) = true then 2 ^ 0 else 0) = 0
  rw [decide_eq_false (by decide)]
  rfl
theorem wd_y {f : Nat → Nat → Bool} {x y : Nat} (h1 : 1 ≤ y) (h : f x y = true) : wd f x (y + 1) = wd f x y + 2 ^ y := by
  show wd f x y + (if (decide (1 ≤ y) && f x y) = true then 2 ^ y else 0) = _
  rw [decide_eq_true h1, h]
  rfl
theorem wd_n {f : Nat → Nat → Bool} {x y : Nat} (h : f x y = false) : wd f x (y + 1) = wd f x y := by
  show wd f x y + (if (decide (1 ≤ y) && f x y) = true then 2 ^ y else 0) = _
  rw [h, Bool.and_false]
  rfl
set_option maxRecDepth 100000 in
set_option maxHeartbeats 2000000 in
theorem x_isWin {d h x y s : Nat} {I : pI} {J : pJ} (hh : SX[h]? = some (100, 21)) (hx : x < 21) (hy : y < 31) (hs : s < 2147483648) (hI : I h x = nI s) : PC SX (d) yX0_isWin cX0_isWin 3 (some .boolean) [.ref h, .int (nI x), .int (nI y)] (I) (J) (RX) (pPu (.int (nI (if s.testBit y then 1 else 0))) I J RX) := by
  refine PC.of [some (.ref h), some (.int (nI x)), some (.int (nI y))] rfl rfl (Nat.le_of_ble_eq_true rfl) ?_
  refine pw_iload_n 1 rfl dX0_isWin_0 rfl ?_
  refine pw_if_lt (tgt := 25) 4 rfl dX0_isWin_1 rfl (fun h1 => absurd h1 (nI_pos (by omega))) (fun h1 => ?_)
  refine pw_iload_n 5 rfl dX0_isWin_4 rfl ?_
  refine pw_aload_n 6 rfl dX0_isWin_5 rfl ?_
  refine pw_alen 7 rfl dX0_isWin_6 (by first | rfl | assumption | exact rowS hh | exact mtS hm | exact ruS hr | exact mtA1 hm | exact mtA2 hm | exact mtA3 hm | exact mtA4 hm | exact mtA5 hm | exact mtA6 hm | exact mtA7 hm | exact ruA1 hr | exact ruA2 hr | exact ruA3 hr) rfl (by decide) rfl ?_
  refine pw_icmp_ge (tgt := 25) 10 rfl dX0_isWin_7 rfl (fun h7 => absurd h7 (by show ¬ nI 21 ≤ nI _; (simp (disch := omega) only [nI_leI, nI_ltI, nI_eq, show (0 : Int32) = nI 0 from rfl, not_true_eq_false, not_false_eq_true] <;> omega))) (fun h7 => ?_)
  refine pw_aload_n 11 rfl dX0_isWin_10 rfl ?_
  refine pw_iload_n 12 rfl dX0_isWin_11 rfl ?_
  refine pw_ialdN 13 rfl dX0_isWin_12 (by first | rfl | assumption | exact rowS hh | exact mtS hm | exact ruS hr | exact mtA1 hm | exact mtA2 hm | exact mtA3 hm | exact mtA4 hm | exact mtA5 hm | exact mtA6 hm | exact mtA7 hm | exact ruA1 hr | exact ruA2 hr | exact ruA3 hr) (by omega) (by decide) ?_
  rotate_left
  rw [hI]
  cases hb : s.testBit y with
  | true =>
    refine pw_iload_n 14 rfl dX0_isWin_13 rfl ?_
    refine pw_ishr 15 rfl dX0_isWin_14 ?_
    refine pw_iconst (v := nI 1) 16 rfl dX0_isWin_15 rfl ?_
    refine pw_iand 17 rfl dX0_isWin_16 ?_
    refine pw_iconst (v := nI 1) 18 rfl dX0_isWin_17 rfl ?_
    refine pw_icmp_ne (tgt := 25) 21 rfl dX0_isWin_18 rfl (fun h18 => absurd (bit_y hs hy hb) h18) (fun h18 => ?_)
    refine pw_iconst (v := nI 1) 22 rfl dX0_isWin_21 rfl ?_
    refine pw_goto (tgt := 26) dX0_isWin_22 rfl ?_
    refine pw_iret dX0_isWin_26 rfl ?_
    rotate_left
    exact ⟨rfl, rfl, rfl, rfl⟩
  | false =>
    refine pw_iload_n 14 rfl dX0_isWin_13 rfl ?_
    refine pw_ishr 15 rfl dX0_isWin_14 ?_
    refine pw_iconst (v := nI 1) 16 rfl dX0_isWin_15 rfl ?_
    refine pw_iand 17 rfl dX0_isWin_16 ?_
    refine pw_iconst (v := nI 1) 18 rfl dX0_isWin_17 rfl ?_
    refine pw_icmp_ne (tgt := 25) 21 rfl dX0_isWin_18 rfl (fun h18 => ?_) (fun h18 => absurd h18 (bit_n hs hy hb))
    refine pw_iconst (v := nI 0) 26 rfl dX0_isWin_25 rfl ?_
    refine pw_iret dX0_isWin_26 rfl ?_
    rotate_left
    exact ⟨rfl, rfl, rfl, rfl⟩
theorem nI_sub_le {a b : Nat} (ha : a < 1073741824) (hb : b < 1073741824) (h : a ≤ b) : nI a - nI b ≤ 0 := by
  rw [Int32.le_iff_toInt_le, Int32.toInt_sub, nI_toInt (by omega), nI_toInt (by omega), show (0 : Int32).toInt = 0 from by decide, Int.bmod_eq_of_le (by omega) (by omega)]
  omega
set_option maxRecDepth 100000 in
set_option maxHeartbeats 2000000 in
theorem x_wins1 {d x y s : Nat} {I : pI} {J : pJ} (hx : x < 21) (hy : y < 21) (hs : s < 2147483648) (hI : I 68 y = nI s) : PC SX (d + 1) yX0_winsByGoing cX0_winsByGoing 4 (some .boolean) [.ref 67, .int (nI x), .int (nI y), .int (nI 1)] (I) (J) (RX) (pPu (.int (nI (if (decide (1 < x) && !(s.testBit (x - 1))) = true then 1 else 0))) I J RX) := by
  refine PC.of [some (.ref 67), some (.int (nI x)), some (.int (nI y)), some (.int (nI 1))] rfl rfl (Nat.le_of_ble_eq_true rfl) ?_
  by_cases h1 : 1 < x
  · rw [decide_eq_true h1, Bool.true_and]
    cases hb : s.testBit (x - 1) with
    | true =>
      refine pw_iload_n 1 rfl dX0_winsByGoing_0 rfl ?_
      refine pw_iload_n 2 rfl dX0_winsByGoing_1 rfl ?_
      refine pw_isubN 3 rfl dX0_winsByGoing_2 (by omega) ?_
      refine pw_if_le (tgt := 36) 6 rfl dX0_winsByGoing_3 rfl (fun h3 => absurd h3 (nI_nle (by omega) (by omega))) (fun h3 => ?_)
      refine pw_iload_n 7 rfl dX0_winsByGoing_6 rfl ?_
      refine pw_iconst (v := nI 2) 8 rfl dX0_winsByGoing_7 rfl ?_
      refine pw_icmp_ne (tgt := 18) 11 rfl dX0_winsByGoing_8 rfl (fun h8 => ?_) (fun h8 => absurd h8 (by decide))
      refine pw_aload_n 19 rfl dX0_winsByGoing_18 rfl ?_
      refine pw_getR 22 rfl dX0_winsByGoing_19 fX0_9 (by first | rfl | assumption | exact rowS hh | exact mtS hm | exact ruS hr | exact mtA1 hm | exact mtA2 hm | exact mtA3 hm | exact mtA4 hm | exact mtA5 hm | exact mtA6 hm | exact mtA7 hm | exact ruA1 hr | exact ruA2 hr | exact ruA3 hr) rfl (by first | rfl | assumption | exact mtR0 hm | exact mtR1 hm | exact mtR2 hm | exact mtR3 hm | exact mtR4 hm | exact mtR5 hm | exact mtR6 hm | exact ruR0 hr | exact ruR1 hr | exact ruR3 hr) ?_
      refine pw_iload_n 23 rfl dX0_winsByGoing_22 rfl ?_
      refine pw_iload_n 24 rfl dX0_winsByGoing_23 rfl ?_
      refine pw_iload_n 25 rfl dX0_winsByGoing_24 rfl ?_
      refine pw_isubN 26 rfl dX0_winsByGoing_25 (by omega) ?_
      refine pw_callSP (as := [_, _, _]) 29 rfl dX0_winsByGoing_26 mX0_58 sX0_isWin (x_isWin (d := d) (h := 68) rfl hy (by omega) hs hI) ⟨rfl, by decide, by decide, show (parseMethodDescriptor yX0_isWin.desc).map (fun d => d.parameters.length) = some 3 by decide +kernel⟩ (by omega) (by decide) (Nat.le_of_ble_eq_true rfl) rfl ?_
      refine pw_if_ne (tgt := 36) 32 rfl dX0_winsByGoing_29 rfl (fun h29 => ?_) (fun h29 => absurd h29 (by rw [hb]; decide))
      refine pw_iconst (v := nI 0) 37 rfl dX0_winsByGoing_36 rfl ?_
      refine pw_iret dX0_winsByGoing_37 rfl ?_
      rotate_left
      exact ⟨rfl, rfl, rfl, rfl⟩
    | false =>
      refine pw_iload_n 1 rfl dX0_winsByGoing_0 rfl ?_
      refine pw_iload_n 2 rfl dX0_winsByGoing_1 rfl ?_
      refine pw_isubN 3 rfl dX0_winsByGoing_2 (by omega) ?_
      refine pw_if_le (tgt := 36) 6 rfl dX0_winsByGoing_3 rfl (fun h3 => absurd h3 (nI_nle (by omega) (by omega))) (fun h3 => ?_)
      refine pw_iload_n 7 rfl dX0_winsByGoing_6 rfl ?_
      refine pw_iconst (v := nI 2) 8 rfl dX0_winsByGoing_7 rfl ?_
      refine pw_icmp_ne (tgt := 18) 11 rfl dX0_winsByGoing_8 rfl (fun h8 => ?_) (fun h8 => absurd h8 (by decide))
      refine pw_aload_n 19 rfl dX0_winsByGoing_18 rfl ?_
      refine pw_getR 22 rfl dX0_winsByGoing_19 fX0_9 (by first | rfl | assumption | exact rowS hh | exact mtS hm | exact ruS hr | exact mtA1 hm | exact mtA2 hm | exact mtA3 hm | exact mtA4 hm | exact mtA5 hm | exact mtA6 hm | exact mtA7 hm | exact ruA1 hr | exact ruA2 hr | exact ruA3 hr) rfl (by first | rfl | assumption | exact mtR0 hm | exact mtR1 hm | exact mtR2 hm | exact mtR3 hm | exact mtR4 hm | exact mtR5 hm | exact mtR6 hm | exact ruR0 hr | exact ruR1 hr | exact ruR3 hr) ?_
      refine pw_iload_n 23 rfl dX0_winsByGoing_22 rfl ?_
      refine pw_iload_n 24 rfl dX0_winsByGoing_23 rfl ?_
      refine pw_iload_n 25 rfl dX0_winsByGoing_24 rfl ?_
      refine pw_isubN 26 rfl dX0_winsByGoing_25 (by omega) ?_
      refine pw_callSP (as := [_, _, _]) 29 rfl dX0_winsByGoing_26 mX0_58 sX0_isWin (x_isWin (d := d) (h := 68) rfl hy (by omega) hs hI) ⟨rfl, by decide, by decide, show (parseMethodDescriptor yX0_isWin.desc).map (fun d => d.parameters.length) = some 3 by decide +kernel⟩ (by omega) (by decide) (Nat.le_of_ble_eq_true rfl) rfl ?_
      refine pw_if_ne (tgt := 36) 32 rfl dX0_winsByGoing_29 rfl (fun h29 => absurd (by rw [hb]; rfl) h29) (fun h29 => ?_)
      refine pw_iconst (v := nI 1) 33 rfl dX0_winsByGoing_32 rfl ?_
      refine pw_goto (tgt := 37) dX0_winsByGoing_33 rfl ?_
      refine pw_iret dX0_winsByGoing_37 rfl ?_
      rotate_left
      exact ⟨rfl, rfl, rfl, rfl⟩
  · rw [decide_eq_false h1, Bool.false_and]
    refine pw_iload_n 1 rfl dX0_winsByGoing_0 rfl ?_
    refine pw_iload_n 2 rfl dX0_winsByGoing_1 rfl ?_
    refine pw_isub 3 rfl dX0_winsByGoing_2 ?_
    refine pw_if_le (tgt := 36) 6 rfl dX0_winsByGoing_3 rfl (fun h3 => ?_) (fun h3 => absurd (nI_sub_le (by omega) (by omega) (by omega)) h3)
    refine pw_iconst (v := nI 0) 37 rfl dX0_winsByGoing_36 rfl ?_
    refine pw_iret dX0_winsByGoing_37 rfl ?_
    rotate_left
    exact ⟨rfl, rfl, rfl, rfl⟩
set_option maxRecDepth 100000 in
set_option maxHeartbeats 2000000 in
theorem x_wins2 {d x y s : Nat} {I : pI} {J : pJ} (hx : x < 21) (hy : y < 21) (hs : s < 2147483648) (hI : I 69 y = nI s) : PC SX (d + 1) yX0_winsByGoing cX0_winsByGoing 4 (some .boolean) [.ref 67, .int (nI x), .int (nI y), .int (nI 2)] (I) (J) (RX) (pPu (.int (nI (if (decide (2 < x) && !(s.testBit (x - 2))) = true then 1 else 0))) I J RX) := by
  refine PC.of [some (.ref 67), some (.int (nI x)), some (.int (nI y)), some (.int (nI 2))] rfl rfl (Nat.le_of_ble_eq_true rfl) ?_
  by_cases h1 : 2 < x
  · rw [decide_eq_true h1, Bool.true_and]
    cases hb : s.testBit (x - 2) with
    | true =>
      refine pw_iload_n 1 rfl dX0_winsByGoing_0 rfl ?_
      refine pw_iload_n 2 rfl dX0_winsByGoing_1 rfl ?_
      refine pw_isubN 3 rfl dX0_winsByGoing_2 (by omega) ?_
      refine pw_if_le (tgt := 36) 6 rfl dX0_winsByGoing_3 rfl (fun h3 => absurd h3 (nI_nle (by omega) (by omega))) (fun h3 => ?_)
      refine pw_iload_n 7 rfl dX0_winsByGoing_6 rfl ?_
      refine pw_iconst (v := nI 2) 8 rfl dX0_winsByGoing_7 rfl ?_
      refine pw_icmp_ne (tgt := 18) 11 rfl dX0_winsByGoing_8 rfl (fun h8 => absurd rfl h8) (fun h8 => ?_)
      refine pw_aload_n 12 rfl dX0_winsByGoing_11 rfl ?_
      refine pw_getR 15 rfl dX0_winsByGoing_12 fX0_13 (by first | rfl | assumption | exact rowS hh | exact mtS hm | exact ruS hr | exact mtA1 hm | exact mtA2 hm | exact mtA3 hm | exact mtA4 hm | exact mtA5 hm | exact mtA6 hm | exact mtA7 hm | exact ruA1 hr | exact ruA2 hr | exact ruA3 hr) rfl (by first | rfl | assumption | exact mtR0 hm | exact mtR1 hm | exact mtR2 hm | exact mtR3 hm | exact mtR4 hm | exact mtR5 hm | exact mtR6 hm | exact ruR0 hr | exact ruR1 hr | exact ruR3 hr) ?_
      refine pw_goto (tgt := 22) dX0_winsByGoing_15 rfl ?_
      refine pw_iload_n 23 rfl dX0_winsByGoing_22 rfl ?_
      refine pw_iload_n 24 rfl dX0_winsByGoing_23 rfl ?_
      refine pw_iload_n 25 rfl dX0_winsByGoing_24 rfl ?_
      refine pw_isubN 26 rfl dX0_winsByGoing_25 (by omega) ?_
      refine pw_callSP (as := [_, _, _]) 29 rfl dX0_winsByGoing_26 mX0_58 sX0_isWin (x_isWin (d := d) (h := 69) rfl hy (by omega) hs hI) ⟨rfl, by decide, by decide, show (parseMethodDescriptor yX0_isWin.desc).map (fun d => d.parameters.length) = some 3 by decide +kernel⟩ (by omega) (by decide) (Nat.le_of_ble_eq_true rfl) rfl ?_
      refine pw_if_ne (tgt := 36) 32 rfl dX0_winsByGoing_29 rfl (fun h29 => ?_) (fun h29 => absurd h29 (by rw [hb]; decide))
      refine pw_iconst (v := nI 0) 37 rfl dX0_winsByGoing_36 rfl ?_
      refine pw_iret dX0_winsByGoing_37 rfl ?_
      rotate_left
      exact ⟨rfl, rfl, rfl, rfl⟩
    | false =>
      refine pw_iload_n 1 rfl dX0_winsByGoing_0 rfl ?_
      refine pw_iload_n 2 rfl dX0_winsByGoing_1 rfl ?_
      refine pw_isubN 3 rfl dX0_winsByGoing_2 (by omega) ?_
      refine pw_if_le (tgt := 36) 6 rfl dX0_winsByGoing_3 rfl (fun h3 => absurd h3 (nI_nle (by omega) (by omega))) (fun h3 => ?_)
      refine pw_iload_n 7 rfl dX0_winsByGoing_6 rfl ?_
      refine pw_iconst (v := nI 2) 8 rfl dX0_winsByGoing_7 rfl ?_
      refine pw_icmp_ne (tgt := 18) 11 rfl dX0_winsByGoing_8 rfl (fun h8 => absurd rfl h8) (fun h8 => ?_)
      refine pw_aload_n 12 rfl dX0_winsByGoing_11 rfl ?_
      refine pw_getR 15 rfl dX0_winsByGoing_12 fX0_13 (by first | rfl | assumption | exact rowS hh | exact mtS hm | exact ruS hr | exact mtA1 hm | exact mtA2 hm | exact mtA3 hm | exact mtA4 hm | exact mtA5 hm | exact mtA6 hm | exact mtA7 hm | exact ruA1 hr | exact ruA2 hr | exact ruA3 hr) rfl (by first | rfl | assumption | exact mtR0 hm | exact mtR1 hm | exact mtR2 hm | exact mtR3 hm | exact mtR4 hm | exact mtR5 hm | exact mtR6 hm | exact ruR0 hr | exact ruR1 hr | exact ruR3 hr) ?_
      refine pw_goto (tgt := 22) dX0_winsByGoing_15 rfl ?_
      refine pw_iload_n 23 rfl dX0_winsByGoing_22 rfl ?_
      refine pw_iload_n 24 rfl dX0_winsByGoing_23 rfl ?_
      refine pw_iload_n 25 rfl dX0_winsByGoing_24 rfl ?_
      refine pw_isubN 26 rfl dX0_winsByGoing_25 (by omega) ?_
      refine pw_callSP (as := [_, _, _]) 29 rfl dX0_winsByGoing_26 mX0_58 sX0_isWin (x_isWin (d := d) (h := 69) rfl hy (by omega) hs hI) ⟨rfl, by decide, by decide, show (parseMethodDescriptor yX0_isWin.desc).map (fun d => d.parameters.length) = some 3 by decide +kernel⟩ (by omega) (by decide) (Nat.le_of_ble_eq_true rfl) rfl ?_
      refine pw_if_ne (tgt := 36) 32 rfl dX0_winsByGoing_29 rfl (fun h29 => absurd (by rw [hb]; rfl) h29) (fun h29 => ?_)
      refine pw_iconst (v := nI 1) 33 rfl dX0_winsByGoing_32 rfl ?_
      refine pw_goto (tgt := 37) dX0_winsByGoing_33 rfl ?_
      refine pw_iret dX0_winsByGoing_37 rfl ?_
      rotate_left
      exact ⟨rfl, rfl, rfl, rfl⟩
  · rw [decide_eq_false h1, Bool.false_and]
    refine pw_iload_n 1 rfl dX0_winsByGoing_0 rfl ?_
    refine pw_iload_n 2 rfl dX0_winsByGoing_1 rfl ?_
    refine pw_isub 3 rfl dX0_winsByGoing_2 ?_
    refine pw_if_le (tgt := 36) 6 rfl dX0_winsByGoing_3 rfl (fun h3 => ?_) (fun h3 => absurd (nI_sub_le (by omega) (by omega) (by omega)) h3)
    refine pw_iconst (v := nI 0) 37 rfl dX0_winsByGoing_36 rfl ?_
    refine pw_iret dX0_winsByGoing_37 rfl ?_
    rotate_left
    exact ⟨rfl, rfl, rfl, rfl⟩
theorem nI_sub1 {a s : Nat} (ha : a < 1073741824) (hs : s < 1073741824) : (if nI 1 < nI a - nI s then nI a - nI s else nI 1) = nI (max 1 (a - s)) := by
  by_cases h : s ≤ a
  · rw [pk_sub h, nI_max (by omega) (by omega)]
  · have h0 : nI a - nI s ≤ 0 := nI_sub_le ha hs (by omega)
    rw [if_neg (fun z => by
      rw [Int32.lt_iff_toInt_lt] at z
      rw [Int32.le_iff_toInt_le] at h0
      rw [show (nI 1).toInt = 1 from by decide] at z
      rw [show (0 : Int32).toInt = 0 from by decide] at h0
      omega), show max 1 (a - s) = 1 by omega]
def wI (I : pI) (h A : Nat) (f : Nat → Nat → Bool) (bd : Nat → Nat) : Prop := ∀ x, 1 ≤ x → x ≤ A → I h x = nI (wd f x (min (bd x - x) (A + 1)))
theorem wI_to {I : pI} {h A B : Nat} {f : Nat → Nat → Bool} (H : wI I h A f (fun x => if x < min A (B - 1) + 1 then B + 1 else B)) (hB : 1 ≤ B) : wI I h A f (fun _ => B + 1) := by
  intro x h1 h2
  rw [H x h1 h2]
  show nI (wd f x (min ((if x < min A (B - 1) + 1 then B + 1 else B) - x) (A + 1))) = _
  by_cases e : x < min A (B - 1) + 1
  · rw [if_pos e]
  · rw [if_neg e]
    by_cases e2 : x = B
    · rw [e2, Nat.sub_self, show B + 1 - B = 1 by omega, Nat.zero_min, show min 1 (A + 1) = 1 by omega, wd_1]
    · rw [show B - x = 0 by omega, show B + 1 - x = 0 by omega]
theorem wI_from {I : pI} {h A B : Nat} {f : Nat → Nat → Bool} (H : wI I h A f (fun _ => B)) : wI I h A f (fun x => if x < max 1 (B - A) then B + 1 else B) := by
  intro x h1 h2
  rw [H x h1 h2]
  show _ = nI (wd f x (min ((if x < max 1 (B - A) then B + 1 else B) - x) (A + 1)))
  by_cases e : x < max 1 (B - A)
  · rw [if_pos e, show min (B - x) (A + 1) = A + 1 by omega, show min (B + 1 - x) (A + 1) = A + 1 by omega]
  · rw [if_neg e]
theorem wI_set {I : pI} {h A B i : Nat} {f : Nat → Nat → Bool} (H : wI I h A f (fun x => if x < i then B + 1 else B)) (v : Nat) (hv : v = wd f i (min (B + 1 - i) (A + 1))) : wI (uI I h i (nI v)) h A f (fun x => if x < i + 1 then B + 1 else B) := by
  intro x h1 h2
  show _ = nI (wd f x (min ((if x < i + 1 then B + 1 else B) - x) (A + 1)))
  by_cases e : x = i
  · rw [e, uI_eq, if_pos (by omega), hv]
  · rw [uI_ne (by omega), H x h1 h2]
    show nI (wd f x (min ((if x < i then B + 1 else B) - x) (A + 1))) = _
    by_cases e2 : x < i
    · rw [if_pos e2, if_pos (by omega)]
    · rw [if_neg e2, if_neg (by omega)]
theorem wI_other {I : pI} {h h' A i : Nat} {v : Int32} {f : Nat → Nat → Bool} {bd : Nat → Nat} (H : wI I h A f bd) (hn : h ≠ h') : wI (uI I h' i v) h A f bd := fun x h1 h2 => by rw [uI_ne (by omega)]; exact H x h1 h2
theorem or_nI0 (a : Nat) : nI a ||| nI 0 = nI a := by rw [nI_or, Nat.or_zero]
set_option maxRecDepth 100000 in
set_option maxHeartbeats 2000000 in
theorem x_playBend {d A : Nat} {I : pI} {J : pJ} (h1 : 1 ≤ A) (h20 : A ≤ 20) : PC SX (d + 2) yX0_playBend cX0_playBend 8 none [.ref 67, .int (nI A)] (I) (J) (RX) (fun r' I' J' R' => r' = none ∧ wI I' 68 A gW (fun _ => 2 * A + 1) ∧ wI I' 69 A gTw (fun _ => 2 * A + 1) ∧ (∀ a, a ≠ 68 → a ≠ 69 → I' a = I a) ∧ J = J' ∧ R' = RX) := by
  refine PC.of [some (.ref 67), some (.int (nI A)), none, none, none, none, none, none] rfl rfl (Nat.le_of_ble_eq_true rfl) ?_
  have main : ∀ (I1 : pI) (x2 : Option Value), wI I1 68 A gW (fun _ => 2) → wI I1 69 A gTw (fun _ => 2) → (∀ a, a ≠ 68 → a ≠ 69 → I1 a = I a) → PW SX yX0_playBend.cls cX0_playBend 8 (d + 2) 28 [some (.ref 67), some (.int (nI A)), x2, none, none, none, none, none] [] (I1) (J) (RX) (rX cX0_playBend none (fun r' I' J' R' => r' = none ∧ wI I' 68 A gW (fun _ => 2 * A + 1) ∧ wI I' 69 A gTw (fun _ => 2 * A + 1) ∧ (∀ a, a ≠ 68 → a ≠ 69 → I' a = I a) ∧ J = J' ∧ R' = RX)) := by
    intro I1 x2 q1 q2 q3
    refine pw_iconst (v := nI 2) 29 rfl dX0_playBend_28 rfl ?_
    refine pw_istore_n 30 rfl dX0_playBend_29 (by decide) ?_
    rotate_left
    have L := nat_from 2 (2 * A + 1) (fun B => ∀ (I' : pI) (x3 x4 x5 x6 x7 : Option Value), wI I' 68 A gW (fun _ => B) → wI I' 69 A gTw (fun _ => B) → (∀ a, a ≠ 68 → a ≠ 69 → I' a = I a) → PW SX yX0_playBend.cls cX0_playBend 8 (d + 2) 30 [some (.ref 67), some (.int (nI A)), some (.int (nI B)), x3, x4, x5, x6, x7] [] (I') (J) (RX) (rX cX0_playBend none (fun r' I' J' R' => r' = none ∧ wI I' 68 A gW (fun _ => 2 * A + 1) ∧ wI I' 69 A gTw (fun _ => 2 * A + 1) ∧ (∀ a, a ≠ 68 → a ≠ 69 → I' a = I a) ∧ J = J' ∧ R' = RX))) (by omega) ?_ ?_
    · exact L I1 _ _ _ _ _ q1 q2 q3
    · intro I' x3 x4 x5 x6 x7 r1 r2 r3
      refine pw_iload_n 31 rfl dX0_playBend_30 rfl ?_
      refine pw_iconst (v := nI 2) 32 rfl dX0_playBend_31 rfl ?_
      refine pw_iload_n 33 rfl dX0_playBend_32 rfl ?_
      first | refine pw_imulN 34 rfl dX0_playBend_33 ?_ | refine pw_imul 34 rfl dX0_playBend_33 ?_
      refine pw_icmp_gt (tgt := 230) 37 rfl dX0_playBend_34 rfl (fun h34 => ?_) (fun h34 => absurd (by (simp (disch := omega) only [nI_leI, nI_ltI, nI_eq, show (0 : Int32) = nI 0 from rfl, not_true_eq_false, not_false_eq_true] <;> omega)) h34)
      refine pw_vret dX0_playBend_230 ?_
      rotate_left
      exact ⟨rfl, r1, r2, r3, rfl, rfl⟩
    · intro B hB2 hB ih I' x3 x4 x5 x6 x7 r1 r2 r3
      refine pw_iload_n 31 rfl dX0_playBend_30 rfl ?_
      refine pw_iconst (v := nI 2) 32 rfl dX0_playBend_31 rfl ?_
      refine pw_iload_n 33 rfl dX0_playBend_32 rfl ?_
      first | refine pw_imulN 34 rfl dX0_playBend_33 ?_ | refine pw_imul 34 rfl dX0_playBend_33 ?_
      refine pw_icmp_gt (tgt := 230) 37 rfl dX0_playBend_34 rfl (fun h34 => absurd h34 (by (simp (disch := omega) only [nI_leI, nI_ltI, nI_eq, show (0 : Int32) = nI 0 from rfl, not_true_eq_false, not_false_eq_true] <;> omega))) (fun h34 => ?_)
      refine pw_iconst (v := nI 1) 38 rfl dX0_playBend_37 rfl ?_
      refine pw_iload_n 39 rfl dX0_playBend_38 rfl ?_
      refine pw_iload_n 40 rfl dX0_playBend_39 rfl ?_
      refine pw_isub 41 rfl dX0_playBend_40 ?_
      refine pw_mmax 44 rfl dX0_playBend_41 mX0_34 (Nat.le_of_ble_eq_true rfl) ?_
      rotate_left
      rw [nI_sub1 (by omega) (by omega)]
      refine pw_istore_n 45 rfl dX0_playBend_44 (by decide) ?_
      refine pw_iload_n 46 rfl dX0_playBend_45 rfl ?_
      refine pw_iload_n 47 rfl dX0_playBend_46 rfl ?_
      refine pw_iconst (v := nI 1) 48 rfl dX0_playBend_47 rfl ?_
      refine pw_isubN 49 rfl dX0_playBend_48 (by omega) ?_
      refine pw_mmin 52 rfl dX0_playBend_49 mX0_55 (Nat.le_of_ble_eq_true rfl) ?_
      rotate_left
      rw [nI_min (by omega) (by omega)]
      refine pw_istore 54 rfl dX0_playBend_52 (by decide) ?_
      refine pw_iload_n 55 rfl dX0_playBend_54 rfl ?_
      refine pw_istore 57 rfl dX0_playBend_55 (by decide) ?_
      rotate_left
      have hft : max 1 (B - A) ≤ min A (B - 1) + 1 := by omega
      have hto : min A (B - 1) ≤ 20 := by omega
      have hto2 : min A (B - 1) ≤ A := by omega
      have hto3 : min A (B - 1) ≤ B - 1 := by omega
      have hfr1 : 1 ≤ max 1 (B - A) := by omega
      have hfr2 : B - A ≤ max 1 (B - A) := by omega
      have r1' := wI_from r1
      have hF := fun (I : pI) (h : Nat) (f : Nat → Nat → Bool) (H : wI I h A f (fun _ => B)) => wI_from H
      have hT := fun (I : pI) (h : Nat) (f : Nat → Nat → Bool) (H : wI I h A f (fun x => if x < min A (B - 1) + 1 then B + 1 else B)) => wI_to H (show 1 ≤ B by omega)
      generalize max 1 (B - A) = fr at hft hfr1 hfr2 r1' hF ⊢
      generalize min A (B - 1) = to at hft hto hto2 hto3 hT ⊢
      have L1 := nat_from fr (to + 1) (fun i => ∀ (I' : pI) (x6 x7 : Option Value), wI I' 68 A gW (fun x => if x < i then B + 1 else B) → wI I' 69 A gTw (fun _ => B) → (∀ a, a ≠ 68 → a ≠ 69 → I' a = I a) → PW SX yX0_playBend.cls cX0_playBend 8 (d + 2) 57 [some (.ref 67), some (.int (nI A)), some (.int (nI B)), some (.int (nI fr)), some (.int (nI to)), some (.int (nI i)), x6, x7] [] (I') (J) (RX) (rX cX0_playBend none (fun r' I' J' R' => r' = none ∧ wI I' 68 A gW (fun _ => 2 * A + 1) ∧ wI I' 69 A gTw (fun _ => 2 * A + 1) ∧ (∀ a, a ≠ 68 → a ≠ 69 → I' a = I a) ∧ J = J' ∧ R' = RX))) hft ?_ ?_
      · exact L1 I' _ _ r1' r2 r3
      · intro I' x6 x7 s1 s2 s3
        have s1' := hT I' 68 gW s1
        refine pw_iload 59 rfl dX0_playBend_57 rfl ?_
        refine pw_iload 61 rfl dX0_playBend_59 rfl ?_
        refine pw_icmp_gt (tgt := 137) 64 rfl dX0_playBend_61 rfl (fun h61 => ?_) (fun h61 => absurd (by (simp (disch := omega) only [nI_leI, nI_ltI, nI_eq, show (0 : Int32) = nI 0 from rfl, not_true_eq_false, not_false_eq_true] <;> omega)) h61)
        refine pw_iload_n 138 rfl dX0_playBend_137 rfl ?_
        refine pw_istore 140 rfl dX0_playBend_138 (by decide) ?_
        rotate_left
        have L2 := nat_from fr (to + 1) (fun i => ∀ (I' : pI) (x6 x7 : Option Value), wI I' 68 A gW (fun _ => B + 1) → wI I' 69 A gTw (fun x => if x < i then B + 1 else B) → (∀ a, a ≠ 68 → a ≠ 69 → I' a = I a) → PW SX yX0_playBend.cls cX0_playBend 8 (d + 2) 140 [some (.ref 67), some (.int (nI A)), some (.int (nI B)), some (.int (nI fr)), some (.int (nI to)), some (.int (nI i)), x6, x7] [] (I') (J) (RX) (rX cX0_playBend none (fun r' I' J' R' => r' = none ∧ wI I' 68 A gW (fun _ => 2 * A + 1) ∧ wI I' 69 A gTw (fun _ => 2 * A + 1) ∧ (∀ a, a ≠ 68 → a ≠ 69 → I' a = I a) ∧ J = J' ∧ R' = RX))) hft ?_ ?_
        · exact L2 I' _ _ s1' (hF I' 69 gTw s2) s3
        · intro I' x6 x7 t1 t2 t3
          refine pw_iload 142 rfl dX0_playBend_140 rfl ?_
          refine pw_iload 144 rfl dX0_playBend_142 rfl ?_
          refine pw_icmp_gt (tgt := 224) 147 rfl dX0_playBend_144 rfl (fun h144 => ?_) (fun h144 => absurd (by (simp (disch := omega) only [nI_leI, nI_ltI, nI_eq, show (0 : Int32) = nI 0 from rfl, not_true_eq_false, not_false_eq_true] <;> omega)) h144)
          refine pw_iincN 227 rfl dX0_playBend_224 (by decide) rfl ?_
          refine pw_goto (tgt := 30) dX0_playBend_227 rfl ?_
          rotate_left
          exact ih I' _ _ _ _ _ t1 (hT I' 69 gTw t2) t3
        · intro i hi hit ih2 I' x6 x7 t1 t2 t3
          have hw : I' 69 i = nI (wd gTw i (B - i)) := by
            rw [t2 i (by omega) (by omega)]
            show nI (wd gTw i (min ((if i < i then B + 1 else B) - i) (A + 1))) = _
            rw [if_neg (by omega), show min (B - i) (A + 1) = B - i by omega]
          have hp1 : I' 68 i = nI (wd gW i (B + 1 - i)) := by rw [t1 i (by omega) (by omega), show min (B + 1 - i) (A + 1) = B + 1 - i by omega]
          have hp2 : I' 68 (B - i) = nI (wd gW (B - i) (i + 1)) := by rw [t1 (B - i) (by omega) (by omega), show min (B + 1 - (B - i)) (A + 1) = i + 1 by omega]
          have b1 : (wd gW i (B + 1 - i)).testBit (B - i) = gW i (B - i) := wd_bit (by omega) (by omega)
          have b2 : (wd gW (B - i) (i + 1)).testBit i = gW (B - i) i := wd_bit (by omega) (by omega)
          have hwl : wd gTw i (B - i) < 2 ^ (B - i) := bts_lt _ _
          have hy1 : 1 ≤ B - i := by omega
          have hwl1 : wd gW i (B + 1 - i) < 2147483648 := wd_lt (by omega)
          have hwl2 : wd gW (B - i) (i + 1) < 2147483648 := wd_lt (by omega)
          have e1 : min (B + 1 - i) (A + 1) = B - i + 1 := by omega
          have yes : gTw i (B - i) = true → PW SX yX0_playBend.cls cX0_playBend 8 (d + 2) 188 [some (.ref 67), some (.int (nI A)), some (.int (nI B)), some (.int (nI fr)), some (.int (nI to)), some (.int (nI i)), some (.int (nI (B - i))), x7] [] (I') (J) (RX) (rX cX0_playBend none (fun r' I' J' R' => r' = none ∧ wI I' 68 A gW (fun _ => 2 * A + 1) ∧ wI I' 69 A gTw (fun _ => 2 * A + 1) ∧ (∀ a, a ≠ 68 → a ≠ 69 → I' a = I a) ∧ J = J' ∧ R' = RX)) := by
            intro hg
            refine pw_iconst (v := nI 1) 189 rfl dX0_playBend_188 rfl ?_
            refine pw_goto (tgt := 193) dX0_playBend_189 rfl ?_
            refine pw_istore 195 rfl dX0_playBend_193 (by decide) ?_
            refine pw_aload_n 196 rfl dX0_playBend_195 rfl ?_
            refine pw_getR 199 rfl dX0_playBend_196 fX0_13 (by first | rfl | assumption | exact rowS hh | exact mtS hm | exact ruS hr | exact mtA1 hm | exact mtA2 hm | exact mtA3 hm | exact mtA4 hm | exact mtA5 hm | exact mtA6 hm | exact mtA7 hm | exact ruA1 hr | exact ruA2 hr | exact ruA3 hr) rfl (by first | rfl | assumption | exact mtR0 hm | exact mtR1 hm | exact mtR2 hm | exact mtR3 hm | exact mtR4 hm | exact mtR5 hm | exact mtR6 hm | exact ruR0 hr | exact ruR1 hr | exact ruR3 hr) ?_
            refine pw_iload 201 rfl dX0_playBend_199 rfl ?_
            refine pw_dup2 202 rfl dX0_playBend_201 rfl rfl ?_
            refine pw_ialdN 203 rfl dX0_playBend_202 (by first | rfl | assumption | exact rowS hh | exact mtS hm | exact ruS hr | exact mtA1 hm | exact mtA2 hm | exact mtA3 hm | exact mtA4 hm | exact mtA5 hm | exact mtA6 hm | exact mtA7 hm | exact ruA1 hr | exact ruA2 hr | exact ruA3 hr) (show i < 21 by omega) (by decide) ?_
            rotate_left
            rw [hw]
            refine pw_iload 205 rfl dX0_playBend_203 rfl ?_
            refine pw_if_eq (tgt := 215) 208 rfl dX0_playBend_205 rfl (fun h205 => absurd h205 (by decide)) (fun h205 => ?_)
            refine pw_iconst (v := nI 1) 209 rfl dX0_playBend_208 rfl ?_
            refine pw_iload 211 rfl dX0_playBend_209 rfl ?_
            refine pw_ishl 212 rfl dX0_playBend_211 ?_
            refine pw_goto (tgt := 216) dX0_playBend_212 rfl ?_
            rotate_left
            rw [show nI 1 <<< (nI (B - i) &&& 31) = nI (2 ^ (B - i)) from nI_shl (by omega)]
            refine pw_ior 217 rfl dX0_playBend_216 ?_
            rotate_left
            rw [nI_or, or_bit hwl]
            refine pw_iastN 218 rfl dX0_playBend_217 (by first | rfl | assumption | exact rowS hh | exact mtS hm | exact ruS hr | exact mtA1 hm | exact mtA2 hm | exact mtA3 hm | exact mtA4 hm | exact mtA5 hm | exact mtA6 hm | exact mtA7 hm | exact ruA1 hr | exact ruA2 hr | exact ruA3 hr) (show i < 21 by omega) (by decide) ?_
            refine pw_iincN 221 rfl dX0_playBend_218 (by decide) rfl ?_
            refine pw_goto (tgt := 140) dX0_playBend_221 rfl ?_
            rotate_left
            exact ih2 _ _ _ (wI_other t1 (by decide)) (wI_set t2 _ (by rw [e1, wd_y hy1 hg])) (fun a h1 h2 => by rw [uI, if_neg h2]; exact t3 a h1 h2)
          have no : gTw i (B - i) = false → PW SX yX0_playBend.cls cX0_playBend 8 (d + 2) 192 [some (.ref 67), some (.int (nI A)), some (.int (nI B)), some (.int (nI fr)), some (.int (nI to)), some (.int (nI i)), some (.int (nI (B - i))), x7] [] (I') (J) (RX) (rX cX0_playBend none (fun r' I' J' R' => r' = none ∧ wI I' 68 A gW (fun _ => 2 * A + 1) ∧ wI I' 69 A gTw (fun _ => 2 * A + 1) ∧ (∀ a, a ≠ 68 → a ≠ 69 → I' a = I a) ∧ J = J' ∧ R' = RX)) := by
            intro hg
            refine pw_iconst (v := nI 0) 193 rfl dX0_playBend_192 rfl ?_
            refine pw_istore 195 rfl dX0_playBend_193 (by decide) ?_
            refine pw_aload_n 196 rfl dX0_playBend_195 rfl ?_
            refine pw_getR 199 rfl dX0_playBend_196 fX0_13 (by first | rfl | assumption | exact rowS hh | exact mtS hm | exact ruS hr | exact mtA1 hm | exact mtA2 hm | exact mtA3 hm | exact mtA4 hm | exact mtA5 hm | exact mtA6 hm | exact mtA7 hm | exact ruA1 hr | exact ruA2 hr | exact ruA3 hr) rfl (by first | rfl | assumption | exact mtR0 hm | exact mtR1 hm | exact mtR2 hm | exact mtR3 hm | exact mtR4 hm | exact mtR5 hm | exact mtR6 hm | exact ruR0 hr | exact ruR1 hr | exact ruR3 hr) ?_
            refine pw_iload 201 rfl dX0_playBend_199 rfl ?_
            refine pw_dup2 202 rfl dX0_playBend_201 rfl rfl ?_
            refine pw_ialdN 203 rfl dX0_playBend_202 (by first | rfl | assumption | exact rowS hh | exact mtS hm | exact ruS hr | exact mtA1 hm | exact mtA2 hm | exact mtA3 hm | exact mtA4 hm | exact mtA5 hm | exact mtA6 hm | exact mtA7 hm | exact ruA1 hr | exact ruA2 hr | exact ruA3 hr) (show i < 21 by omega) (by decide) ?_
            rotate_left
            rw [hw]
            refine pw_iload 205 rfl dX0_playBend_203 rfl ?_
            refine pw_if_eq (tgt := 215) 208 rfl dX0_playBend_205 rfl (fun h205 => ?_) (fun h205 => absurd rfl h205)
            refine pw_iconst (v := nI 0) 216 rfl dX0_playBend_215 rfl ?_
            refine pw_ior 217 rfl dX0_playBend_216 ?_
            rotate_left
            rw [or_nI0]
            refine pw_iastN 218 rfl dX0_playBend_217 (by first | rfl | assumption | exact rowS hh | exact mtS hm | exact ruS hr | exact mtA1 hm | exact mtA2 hm | exact mtA3 hm | exact mtA4 hm | exact mtA5 hm | exact mtA6 hm | exact mtA7 hm | exact ruA1 hr | exact ruA2 hr | exact ruA3 hr) (show i < 21 by omega) (by decide) ?_
            refine pw_iincN 221 rfl dX0_playBend_218 (by decide) rfl ?_
            refine pw_goto (tgt := 140) dX0_playBend_221 rfl ?_
            rotate_left
            exact ih2 _ _ _ (wI_other t1 (by decide)) (wI_set t2 _ (by rw [e1, wd_n hg])) (fun a h1 h2 => by rw [uI, if_neg h2]; exact t3 a h1 h2)
          cases g1 : gW i (B - i) with
          | true =>
            refine pw_iload 142 rfl dX0_playBend_140 rfl ?_
            refine pw_iload 144 rfl dX0_playBend_142 rfl ?_
            refine pw_icmp_gt (tgt := 224) 147 rfl dX0_playBend_144 rfl (fun h144 => absurd h144 (by (simp (disch := omega) only [nI_leI, nI_ltI, nI_eq, show (0 : Int32) = nI 0 from rfl, not_true_eq_false, not_false_eq_true] <;> omega))) (fun h144 => ?_)
            refine pw_iload 149 rfl dX0_playBend_147 rfl ?_
            refine pw_bipush (v := nI 20) 151 rfl dX0_playBend_149 rfl ?_
            refine pw_icmp_gt (tgt := 224) 154 rfl dX0_playBend_151 rfl (fun h151 => absurd h151 (by (simp (disch := omega) only [nI_leI, nI_ltI, nI_eq, show (0 : Int32) = nI 0 from rfl, not_true_eq_false, not_false_eq_true] <;> omega))) (fun h151 => ?_)
            refine pw_iload_n 155 rfl dX0_playBend_154 rfl ?_
            refine pw_iload 157 rfl dX0_playBend_155 rfl ?_
            refine pw_isubN 158 rfl dX0_playBend_157 (by omega) ?_
            refine pw_istore 160 rfl dX0_playBend_158 (by decide) ?_
            refine pw_aload_n 161 rfl dX0_playBend_160 rfl ?_
            refine pw_getR 164 rfl dX0_playBend_161 fX0_9 (by first | rfl | assumption | exact rowS hh | exact mtS hm | exact ruS hr | exact mtA1 hm | exact mtA2 hm | exact mtA3 hm | exact mtA4 hm | exact mtA5 hm | exact mtA6 hm | exact mtA7 hm | exact ruA1 hr | exact ruA2 hr | exact ruA3 hr) rfl (by first | rfl | assumption | exact mtR0 hm | exact mtR1 hm | exact mtR2 hm | exact mtR3 hm | exact mtR4 hm | exact mtR5 hm | exact mtR6 hm | exact ruR0 hr | exact ruR1 hr | exact ruR3 hr) ?_
            refine pw_iload 166 rfl dX0_playBend_164 rfl ?_
            refine pw_iload 168 rfl dX0_playBend_166 rfl ?_
            refine pw_callSP (as := [_, _, _]) 171 rfl dX0_playBend_168 mX0_58 sX0_isWin (x_isWin (d := d + 1) (h := 68) rfl (show i < 21 by omega) (show B - i < 31 by omega) hwl1 hp1) ⟨rfl, by decide, by decide, show (parseMethodDescriptor yX0_isWin.desc).map (fun d => d.parameters.length) = some 3 by decide +kernel⟩ (by omega) (by decide) (Nat.le_of_ble_eq_true rfl) rfl ?_
            refine pw_if_ne (tgt := 188) 174 rfl dX0_playBend_171 rfl (fun h171 => ?_) (fun h171 => absurd h171 (by rw [b1, g1]; decide))
            rotate_left
            exact yes (by rw [gTw, g1]; rfl)
          | false =>
            cases g2 : gW (B - i) i with
            | true =>
              refine pw_iload 142 rfl dX0_playBend_140 rfl ?_
              refine pw_iload 144 rfl dX0_playBend_142 rfl ?_
              refine pw_icmp_gt (tgt := 224) 147 rfl dX0_playBend_144 rfl (fun h144 => absurd h144 (by (simp (disch := omega) only [nI_leI, nI_ltI, nI_eq, show (0 : Int32) = nI 0 from rfl, not_true_eq_false, not_false_eq_true] <;> omega))) (fun h144 => ?_)
              refine pw_iload 149 rfl dX0_playBend_147 rfl ?_
              refine pw_bipush (v := nI 20) 151 rfl dX0_playBend_149 rfl ?_
              refine pw_icmp_gt (tgt := 224) 154 rfl dX0_playBend_151 rfl (fun h151 => absurd h151 (by (simp (disch := omega) only [nI_leI, nI_ltI, nI_eq, show (0 : Int32) = nI 0 from rfl, not_true_eq_false, not_false_eq_true] <;> omega))) (fun h151 => ?_)
              refine pw_iload_n 155 rfl dX0_playBend_154 rfl ?_
              refine pw_iload 157 rfl dX0_playBend_155 rfl ?_
              refine pw_isubN 158 rfl dX0_playBend_157 (by omega) ?_
              refine pw_istore 160 rfl dX0_playBend_158 (by decide) ?_
              refine pw_aload_n 161 rfl dX0_playBend_160 rfl ?_
              refine pw_getR 164 rfl dX0_playBend_161 fX0_9 (by first | rfl | assumption | exact rowS hh | exact mtS hm | exact ruS hr | exact mtA1 hm | exact mtA2 hm | exact mtA3 hm | exact mtA4 hm | exact mtA5 hm | exact mtA6 hm | exact mtA7 hm | exact ruA1 hr | exact ruA2 hr | exact ruA3 hr) rfl (by first | rfl | assumption | exact mtR0 hm | exact mtR1 hm | exact mtR2 hm | exact mtR3 hm | exact mtR4 hm | exact mtR5 hm | exact mtR6 hm | exact ruR0 hr | exact ruR1 hr | exact ruR3 hr) ?_
              refine pw_iload 166 rfl dX0_playBend_164 rfl ?_
              refine pw_iload 168 rfl dX0_playBend_166 rfl ?_
              refine pw_callSP (as := [_, _, _]) 171 rfl dX0_playBend_168 mX0_58 sX0_isWin (x_isWin (d := d + 1) (h := 68) rfl (show i < 21 by omega) (show B - i < 31 by omega) hwl1 hp1) ⟨rfl, by decide, by decide, show (parseMethodDescriptor yX0_isWin.desc).map (fun d => d.parameters.length) = some 3 by decide +kernel⟩ (by omega) (by decide) (Nat.le_of_ble_eq_true rfl) rfl ?_
              refine pw_if_ne (tgt := 188) 174 rfl dX0_playBend_171 rfl (fun h171 => absurd (by rw [b1, g1]; rfl) h171) (fun h171 => ?_)
              refine pw_aload_n 175 rfl dX0_playBend_174 rfl ?_
              refine pw_getR 178 rfl dX0_playBend_175 fX0_9 (by first | rfl | assumption | exact rowS hh | exact mtS hm | exact ruS hr | exact mtA1 hm | exact mtA2 hm | exact mtA3 hm | exact mtA4 hm | exact mtA5 hm | exact mtA6 hm | exact mtA7 hm | exact ruA1 hr | exact ruA2 hr | exact ruA3 hr) rfl (by first | rfl | assumption | exact mtR0 hm | exact mtR1 hm | exact mtR2 hm | exact mtR3 hm | exact mtR4 hm | exact mtR5 hm | exact mtR6 hm | exact ruR0 hr | exact ruR1 hr | exact ruR3 hr) ?_
              refine pw_iload 180 rfl dX0_playBend_178 rfl ?_
              refine pw_iload 182 rfl dX0_playBend_180 rfl ?_
              refine pw_callSP (as := [_, _, _]) 185 rfl dX0_playBend_182 mX0_58 sX0_isWin (x_isWin (d := d + 1) (h := 68) rfl (show B - i < 21 by omega) (show i < 31 by omega) hwl2 hp2) ⟨rfl, by decide, by decide, show (parseMethodDescriptor yX0_isWin.desc).map (fun d => d.parameters.length) = some 3 by decide +kernel⟩ (by omega) (by decide) (Nat.le_of_ble_eq_true rfl) rfl ?_
              refine pw_if_ne (tgt := 192) 188 rfl dX0_playBend_185 rfl (fun h185 => ?_) (fun h185 => absurd h185 (by rw [b2, g2]; decide))
              rotate_left
              exact no (by rw [gTw, g1, g2]; rfl)
            | false =>
              refine pw_iload 142 rfl dX0_playBend_140 rfl ?_
              refine pw_iload 144 rfl dX0_playBend_142 rfl ?_
              refine pw_icmp_gt (tgt := 224) 147 rfl dX0_playBend_144 rfl (fun h144 => absurd h144 (by (simp (disch := omega) only [nI_leI, nI_ltI, nI_eq, show (0 : Int32) = nI 0 from rfl, not_true_eq_false, not_false_eq_true] <;> omega))) (fun h144 => ?_)
              refine pw_iload 149 rfl dX0_playBend_147 rfl ?_
              refine pw_bipush (v := nI 20) 151 rfl dX0_playBend_149 rfl ?_
              refine pw_icmp_gt (tgt := 224) 154 rfl dX0_playBend_151 rfl (fun h151 => absurd h151 (by (simp (disch := omega) only [nI_leI, nI_ltI, nI_eq, show (0 : Int32) = nI 0 from rfl, not_true_eq_false, not_false_eq_true] <;> omega))) (fun h151 => ?_)
              refine pw_iload_n 155 rfl dX0_playBend_154 rfl ?_
              refine pw_iload 157 rfl dX0_playBend_155 rfl ?_
              refine pw_isubN 158 rfl dX0_playBend_157 (by omega) ?_
              refine pw_istore 160 rfl dX0_playBend_158 (by decide) ?_
              refine pw_aload_n 161 rfl dX0_playBend_160 rfl ?_
              refine pw_getR 164 rfl dX0_playBend_161 fX0_9 (by first | rfl | assumption | exact rowS hh | exact mtS hm | exact ruS hr | exact mtA1 hm | exact mtA2 hm | exact mtA3 hm | exact mtA4 hm | exact mtA5 hm | exact mtA6 hm | exact mtA7 hm | exact ruA1 hr | exact ruA2 hr | exact ruA3 hr) rfl (by first | rfl | assumption | exact mtR0 hm | exact mtR1 hm | exact mtR2 hm | exact mtR3 hm | exact mtR4 hm | exact mtR5 hm | exact mtR6 hm | exact ruR0 hr | exact ruR1 hr | exact ruR3 hr) ?_
              refine pw_iload 166 rfl dX0_playBend_164 rfl ?_
              refine pw_iload 168 rfl dX0_playBend_166 rfl ?_
              refine pw_callSP (as := [_, _, _]) 171 rfl dX0_playBend_168 mX0_58 sX0_isWin (x_isWin (d := d + 1) (h := 68) rfl (show i < 21 by omega) (show B - i < 31 by omega) hwl1 hp1) ⟨rfl, by decide, by decide, show (parseMethodDescriptor yX0_isWin.desc).map (fun d => d.parameters.length) = some 3 by decide +kernel⟩ (by omega) (by decide) (Nat.le_of_ble_eq_true rfl) rfl ?_
              refine pw_if_ne (tgt := 188) 174 rfl dX0_playBend_171 rfl (fun h171 => absurd (by rw [b1, g1]; rfl) h171) (fun h171 => ?_)
              refine pw_aload_n 175 rfl dX0_playBend_174 rfl ?_
              refine pw_getR 178 rfl dX0_playBend_175 fX0_9 (by first | rfl | assumption | exact rowS hh | exact mtS hm | exact ruS hr | exact mtA1 hm | exact mtA2 hm | exact mtA3 hm | exact mtA4 hm | exact mtA5 hm | exact mtA6 hm | exact mtA7 hm | exact ruA1 hr | exact ruA2 hr | exact ruA3 hr) rfl (by first | rfl | assumption | exact mtR0 hm | exact mtR1 hm | exact mtR2 hm | exact mtR3 hm | exact mtR4 hm | exact mtR5 hm | exact mtR6 hm | exact ruR0 hr | exact ruR1 hr | exact ruR3 hr) ?_
              refine pw_iload 180 rfl dX0_playBend_178 rfl ?_
              refine pw_iload 182 rfl dX0_playBend_180 rfl ?_
              refine pw_callSP (as := [_, _, _]) 185 rfl dX0_playBend_182 mX0_58 sX0_isWin (x_isWin (d := d + 1) (h := 68) rfl (show B - i < 21 by omega) (show i < 31 by omega) hwl2 hp2) ⟨rfl, by decide, by decide, show (parseMethodDescriptor yX0_isWin.desc).map (fun d => d.parameters.length) = some 3 by decide +kernel⟩ (by omega) (by decide) (Nat.le_of_ble_eq_true rfl) rfl ?_
              refine pw_if_ne (tgt := 192) 188 rfl dX0_playBend_185 rfl (fun h185 => absurd (by rw [b2, g2]; rfl) h185) (fun h185 => ?_)
              rotate_left
              exact yes (by rw [gTw, g1, g2]; rfl)
      · intro i hi hit ih1 I' x6 x7 s1 s2 s3
        have hw : I' 68 i = nI (wd gW i (B - i)) := by
          rw [s1 i (by omega) (by omega)]
          show nI (wd gW i (min ((if i < i then B + 1 else B) - i) (A + 1))) = _
          rw [if_neg (by omega), show min (B - i) (A + 1) = B - i by omega]
        have hy1 : 1 ≤ B - i := by omega
        have hwl : wd gW i (B - i) < 2 ^ (B - i) := bts_lt _ _
        have e1 : min (B + 1 - i) (A + 1) = B - i + 1 := by omega
        have gq := gW_eq (x := i) (y := B - i) (by omega)
        obtain ⟨P, hP, hPl, hPb⟩ : ∃ P, I' 68 (B - i) = nI P ∧ P < 2147483648 ∧ (1 < i → P.testBit (i - 1) = gW (B - i) (i - 1)) := by
          refine ⟨_, s1 (B - i) (by omega) (by omega), wd_lt (by omega), fun h => wd_bit (by omega) ?_⟩
          show i - 1 < min ((if B - i < i then B + 1 else B) - (B - i)) (A + 1)
          split <;> omega
        obtain ⟨Q, hQ, hQl, hQb⟩ : ∃ P, I' 69 (B - i) = nI P ∧ P < 2147483648 ∧ (2 < i → P.testBit (i - 2) = gTw (B - i) (i - 2)) := by
          refine ⟨_, s2 (B - i) (by omega) (by omega), wd_lt (by omega), fun h => wd_bit (by omega) ?_⟩
          show i - 2 < min (B - (B - i)) (A + 1)
          omega
        have eP : (decide (1 < i) && !(P.testBit (i - 1))) = (decide (1 < i) && !(gW (B - i) (i - 1))) := by
          by_cases h : 1 < i
          · rw [hPb h]
          · rw [decide_eq_false h]; rfl
        have eQ : (decide (2 < i) && !(Q.testBit (i - 2))) = (decide (2 < i) && !(gTw (B - i) (i - 2))) := by
          by_cases h : 2 < i
          · rw [hQb h]
          · rw [decide_eq_false h]; rfl
        have yes : gW i (B - i) = true → PW SX yX0_playBend.cls cX0_playBend 8 (d + 2) 101 [some (.ref 67), some (.int (nI A)), some (.int (nI B)), some (.int (nI fr)), some (.int (nI to)), some (.int (nI i)), some (.int (nI (B - i))), x7] [] (I') (J) (RX) (rX cX0_playBend none (fun r' I' J' R' => r' = none ∧ wI I' 68 A gW (fun _ => 2 * A + 1) ∧ wI I' 69 A gTw (fun _ => 2 * A + 1) ∧ (∀ a, a ≠ 68 → a ≠ 69 → I' a = I a) ∧ J = J' ∧ R' = RX)) := by
          intro hg
          refine pw_iconst (v := nI 1) 102 rfl dX0_playBend_101 rfl ?_
          refine pw_goto (tgt := 106) dX0_playBend_102 rfl ?_
          refine pw_istore 108 rfl dX0_playBend_106 (by decide) ?_
          refine pw_aload_n 109 rfl dX0_playBend_108 rfl ?_
          refine pw_getR 112 rfl dX0_playBend_109 fX0_9 (by first | rfl | assumption | exact rowS hh | exact mtS hm | exact ruS hr | exact mtA1 hm | exact mtA2 hm | exact mtA3 hm | exact mtA4 hm | exact mtA5 hm | exact mtA6 hm | exact mtA7 hm | exact ruA1 hr | exact ruA2 hr | exact ruA3 hr) rfl (by first | rfl | assumption | exact mtR0 hm | exact mtR1 hm | exact mtR2 hm | exact mtR3 hm | exact mtR4 hm | exact mtR5 hm | exact mtR6 hm | exact ruR0 hr | exact ruR1 hr | exact ruR3 hr) ?_
          refine pw_iload 114 rfl dX0_playBend_112 rfl ?_
          refine pw_dup2 115 rfl dX0_playBend_114 rfl rfl ?_
          refine pw_ialdN 116 rfl dX0_playBend_115 (by first | rfl | assumption | exact rowS hh | exact mtS hm | exact ruS hr | exact mtA1 hm | exact mtA2 hm | exact mtA3 hm | exact mtA4 hm | exact mtA5 hm | exact mtA6 hm | exact mtA7 hm | exact ruA1 hr | exact ruA2 hr | exact ruA3 hr) (show i < 21 by omega) (by decide) ?_
          rotate_left
          rw [hw]
          refine pw_iload 118 rfl dX0_playBend_116 rfl ?_
          refine pw_if_eq (tgt := 128) 121 rfl dX0_playBend_118 rfl (fun h118 => absurd h118 (by decide)) (fun h118 => ?_)
          refine pw_iconst (v := nI 1) 122 rfl dX0_playBend_121 rfl ?_
          refine pw_iload 124 rfl dX0_playBend_122 rfl ?_
          refine pw_ishl 125 rfl dX0_playBend_124 ?_
          refine pw_goto (tgt := 129) dX0_playBend_125 rfl ?_
          rotate_left
          rw [show nI 1 <<< (nI (B - i) &&& 31) = nI (2 ^ (B - i)) from nI_shl (by omega)]
          refine pw_ior 130 rfl dX0_playBend_129 ?_
          rotate_left
          rw [nI_or, or_bit hwl]
          refine pw_iastN 131 rfl dX0_playBend_130 (by first | rfl | assumption | exact rowS hh | exact mtS hm | exact ruS hr | exact mtA1 hm | exact mtA2 hm | exact mtA3 hm | exact mtA4 hm | exact mtA5 hm | exact mtA6 hm | exact mtA7 hm | exact ruA1 hr | exact ruA2 hr | exact ruA3 hr) (show i < 21 by omega) (by decide) ?_
          refine pw_iincN 134 rfl dX0_playBend_131 (by decide) rfl ?_
          refine pw_goto (tgt := 57) dX0_playBend_134 rfl ?_
          rotate_left
          exact ih1 _ _ _ (wI_set s1 _ (by rw [e1, wd_y hy1 hg])) (wI_other s2 (by decide)) (fun a h1 h2 => by rw [uI, if_neg h1]; exact s3 a h1 h2)
        have no : gW i (B - i) = false → PW SX yX0_playBend.cls cX0_playBend 8 (d + 2) 105 [some (.ref 67), some (.int (nI A)), some (.int (nI B)), some (.int (nI fr)), some (.int (nI to)), some (.int (nI i)), some (.int (nI (B - i))), x7] [] (I') (J) (RX) (rX cX0_playBend none (fun r' I' J' R' => r' = none ∧ wI I' 68 A gW (fun _ => 2 * A + 1) ∧ wI I' 69 A gTw (fun _ => 2 * A + 1) ∧ (∀ a, a ≠ 68 → a ≠ 69 → I' a = I a) ∧ J = J' ∧ R' = RX)) := by
          intro hg
          refine pw_iconst (v := nI 0) 106 rfl dX0_playBend_105 rfl ?_
          refine pw_istore 108 rfl dX0_playBend_106 (by decide) ?_
          refine pw_aload_n 109 rfl dX0_playBend_108 rfl ?_
          refine pw_getR 112 rfl dX0_playBend_109 fX0_9 (by first | rfl | assumption | exact rowS hh | exact mtS hm | exact ruS hr | exact mtA1 hm | exact mtA2 hm | exact mtA3 hm | exact mtA4 hm | exact mtA5 hm | exact mtA6 hm | exact mtA7 hm | exact ruA1 hr | exact ruA2 hr | exact ruA3 hr) rfl (by first | rfl | assumption | exact mtR0 hm | exact mtR1 hm | exact mtR2 hm | exact mtR3 hm | exact mtR4 hm | exact mtR5 hm | exact mtR6 hm | exact ruR0 hr | exact ruR1 hr | exact ruR3 hr) ?_
          refine pw_iload 114 rfl dX0_playBend_112 rfl ?_
          refine pw_dup2 115 rfl dX0_playBend_114 rfl rfl ?_
          refine pw_ialdN 116 rfl dX0_playBend_115 (by first | rfl | assumption | exact rowS hh | exact mtS hm | exact ruS hr | exact mtA1 hm | exact mtA2 hm | exact mtA3 hm | exact mtA4 hm | exact mtA5 hm | exact mtA6 hm | exact mtA7 hm | exact ruA1 hr | exact ruA2 hr | exact ruA3 hr) (show i < 21 by omega) (by decide) ?_
          rotate_left
          rw [hw]
          refine pw_iload 118 rfl dX0_playBend_116 rfl ?_
          refine pw_if_eq (tgt := 128) 121 rfl dX0_playBend_118 rfl (fun h118 => ?_) (fun h118 => absurd rfl h118)
          refine pw_iconst (v := nI 0) 129 rfl dX0_playBend_128 rfl ?_
          refine pw_ior 130 rfl dX0_playBend_129 ?_
          rotate_left
          rw [or_nI0]
          refine pw_iastN 131 rfl dX0_playBend_130 (by first | rfl | assumption | exact rowS hh | exact mtS hm | exact ruS hr | exact mtA1 hm | exact mtA2 hm | exact mtA3 hm | exact mtA4 hm | exact mtA5 hm | exact mtA6 hm | exact mtA7 hm | exact ruA1 hr | exact ruA2 hr | exact ruA3 hr) (show i < 21 by omega) (by decide) ?_
          refine pw_iincN 134 rfl dX0_playBend_131 (by decide) rfl ?_
          refine pw_goto (tgt := 57) dX0_playBend_134 rfl ?_
          rotate_left
          exact ih1 _ _ _ (wI_set s1 _ (by rw [e1, wd_n hg])) (wI_other s2 (by decide)) (fun a h1 h2 => by rw [uI, if_neg h1]; exact s3 a h1 h2)
        cases g1 : (decide (1 < i) && !(P.testBit (i - 1))) with
        | true =>
          refine pw_iload 59 rfl dX0_playBend_57 rfl ?_
          refine pw_iload 61 rfl dX0_playBend_59 rfl ?_
          refine pw_icmp_gt (tgt := 137) 64 rfl dX0_playBend_61 rfl (fun h61 => absurd h61 (by (simp (disch := omega) only [nI_leI, nI_ltI, nI_eq, show (0 : Int32) = nI 0 from rfl, not_true_eq_false, not_false_eq_true] <;> omega))) (fun h61 => ?_)
          refine pw_iload 66 rfl dX0_playBend_64 rfl ?_
          refine pw_bipush (v := nI 20) 68 rfl dX0_playBend_66 rfl ?_
          refine pw_icmp_gt (tgt := 137) 71 rfl dX0_playBend_68 rfl (fun h68 => absurd h68 (by (simp (disch := omega) only [nI_leI, nI_ltI, nI_eq, show (0 : Int32) = nI 0 from rfl, not_true_eq_false, not_false_eq_true] <;> omega))) (fun h68 => ?_)
          refine pw_iload_n 72 rfl dX0_playBend_71 rfl ?_
          refine pw_iload 74 rfl dX0_playBend_72 rfl ?_
          refine pw_isubN 75 rfl dX0_playBend_74 (by omega) ?_
          refine pw_istore 77 rfl dX0_playBend_75 (by decide) ?_
          refine pw_aload_n 78 rfl dX0_playBend_77 rfl ?_
          refine pw_iload 80 rfl dX0_playBend_78 rfl ?_
          refine pw_iload 82 rfl dX0_playBend_80 rfl ?_
          refine pw_iconst (v := nI 1) 83 rfl dX0_playBend_82 rfl ?_
          refine pw_callVP (as := [_, _, _]) 86 rfl dX0_playBend_83 mX0_47 vX0_winsByGoing (x_wins1 (d := d) (show i < 21 by omega) (show B - i < 21 by omega) hPl hP) (by first | rfl | assumption | exact rowS hh | exact mtS hm | exact ruS hr | exact mtA1 hm | exact mtA2 hm | exact mtA3 hm | exact mtA4 hm | exact mtA5 hm | exact mtA6 hm | exact mtA7 hm | exact ruA1 hr | exact ruA2 hr | exact ruA3 hr) rfl (by decide) ⟨rfl, by decide, by decide, show (parseMethodDescriptor yX0_winsByGoing.desc).map (fun d => d.parameters.length) = some 3 by decide +kernel⟩ (by omega) (by decide) (Nat.le_of_ble_eq_true rfl) rfl ?_
          refine pw_if_ne (tgt := 101) 89 rfl dX0_playBend_86 rfl (fun h86 => ?_) (fun h86 => absurd h86 (by rw [g1]; decide))
          rotate_left
          exact yes (by rw [gq, ← eP, g1]; rfl)
        | false =>
          cases g2 : (decide (2 < i) && !(Q.testBit (i - 2))) with
          | true =>
            refine pw_iload 59 rfl dX0_playBend_57 rfl ?_
            refine pw_iload 61 rfl dX0_playBend_59 rfl ?_
            refine pw_icmp_gt (tgt := 137) 64 rfl dX0_playBend_61 rfl (fun h61 => absurd h61 (by (simp (disch := omega) only [nI_leI, nI_ltI, nI_eq, show (0 : Int32) = nI 0 from rfl, not_true_eq_false, not_false_eq_true] <;> omega))) (fun h61 => ?_)
            refine pw_iload 66 rfl dX0_playBend_64 rfl ?_
            refine pw_bipush (v := nI 20) 68 rfl dX0_playBend_66 rfl ?_
            refine pw_icmp_gt (tgt := 137) 71 rfl dX0_playBend_68 rfl (fun h68 => absurd h68 (by (simp (disch := omega) only [nI_leI, nI_ltI, nI_eq, show (0 : Int32) = nI 0 from rfl, not_true_eq_false, not_false_eq_true] <;> omega))) (fun h68 => ?_)
            refine pw_iload_n 72 rfl dX0_playBend_71 rfl ?_
            refine pw_iload 74 rfl dX0_playBend_72 rfl ?_
            refine pw_isubN 75 rfl dX0_playBend_74 (by omega) ?_
            refine pw_istore 77 rfl dX0_playBend_75 (by decide) ?_
            refine pw_aload_n 78 rfl dX0_playBend_77 rfl ?_
            refine pw_iload 80 rfl dX0_playBend_78 rfl ?_
            refine pw_iload 82 rfl dX0_playBend_80 rfl ?_
            refine pw_iconst (v := nI 1) 83 rfl dX0_playBend_82 rfl ?_
            refine pw_callVP (as := [_, _, _]) 86 rfl dX0_playBend_83 mX0_47 vX0_winsByGoing (x_wins1 (d := d) (show i < 21 by omega) (show B - i < 21 by omega) hPl hP) (by first | rfl | assumption | exact rowS hh | exact mtS hm | exact ruS hr | exact mtA1 hm | exact mtA2 hm | exact mtA3 hm | exact mtA4 hm | exact mtA5 hm | exact mtA6 hm | exact mtA7 hm | exact ruA1 hr | exact ruA2 hr | exact ruA3 hr) rfl (by decide) ⟨rfl, by decide, by decide, show (parseMethodDescriptor yX0_winsByGoing.desc).map (fun d => d.parameters.length) = some 3 by decide +kernel⟩ (by omega) (by decide) (Nat.le_of_ble_eq_true rfl) rfl ?_
            refine pw_if_ne (tgt := 101) 89 rfl dX0_playBend_86 rfl (fun h86 => absurd (by rw [g1]; rfl) h86) (fun h86 => ?_)
            refine pw_aload_n 90 rfl dX0_playBend_89 rfl ?_
            refine pw_iload 92 rfl dX0_playBend_90 rfl ?_
            refine pw_iload 94 rfl dX0_playBend_92 rfl ?_
            refine pw_iconst (v := nI 2) 95 rfl dX0_playBend_94 rfl ?_
            refine pw_callVP (as := [_, _, _]) 98 rfl dX0_playBend_95 mX0_47 vX0_winsByGoing (x_wins2 (d := d) (show i < 21 by omega) (show B - i < 21 by omega) hQl hQ) (by first | rfl | assumption | exact rowS hh | exact mtS hm | exact ruS hr | exact mtA1 hm | exact mtA2 hm | exact mtA3 hm | exact mtA4 hm | exact mtA5 hm | exact mtA6 hm | exact mtA7 hm | exact ruA1 hr | exact ruA2 hr | exact ruA3 hr) rfl (by decide) ⟨rfl, by decide, by decide, show (parseMethodDescriptor yX0_winsByGoing.desc).map (fun d => d.parameters.length) = some 3 by decide +kernel⟩ (by omega) (by decide) (Nat.le_of_ble_eq_true rfl) rfl ?_
            refine pw_if_eq (tgt := 105) 101 rfl dX0_playBend_98 rfl (fun h98 => absurd h98 (by rw [g2]; decide)) (fun h98 => ?_)
            rotate_left
            exact yes (by rw [gq, ← eP, ← eQ, g1, g2]; rfl)
          | false =>
            refine pw_iload 59 rfl dX0_playBend_57 rfl ?_
            refine pw_iload 61 rfl dX0_playBend_59 rfl ?_
            refine pw_icmp_gt (tgt := 137) 64 rfl dX0_playBend_61 rfl (fun h61 => absurd h61 (by (simp (disch := omega) only [nI_leI, nI_ltI, nI_eq, show (0 : Int32) = nI 0 from rfl, not_true_eq_false, not_false_eq_true] <;> omega))) (fun h61 => ?_)
            refine pw_iload 66 rfl dX0_playBend_64 rfl ?_
            refine pw_bipush (v := nI 20) 68 rfl dX0_playBend_66 rfl ?_
            refine pw_icmp_gt (tgt := 137) 71 rfl dX0_playBend_68 rfl (fun h68 => absurd h68 (by (simp (disch := omega) only [nI_leI, nI_ltI, nI_eq, show (0 : Int32) = nI 0 from rfl, not_true_eq_false, not_false_eq_true] <;> omega))) (fun h68 => ?_)
            refine pw_iload_n 72 rfl dX0_playBend_71 rfl ?_
            refine pw_iload 74 rfl dX0_playBend_72 rfl ?_
            refine pw_isubN 75 rfl dX0_playBend_74 (by omega) ?_
            refine pw_istore 77 rfl dX0_playBend_75 (by decide) ?_
            refine pw_aload_n 78 rfl dX0_playBend_77 rfl ?_
            refine pw_iload 80 rfl dX0_playBend_78 rfl ?_
            refine pw_iload 82 rfl dX0_playBend_80 rfl ?_
            refine pw_iconst (v := nI 1) 83 rfl dX0_playBend_82 rfl ?_
            refine pw_callVP (as := [_, _, _]) 86 rfl dX0_playBend_83 mX0_47 vX0_winsByGoing (x_wins1 (d := d) (show i < 21 by omega) (show B - i < 21 by omega) hPl hP) (by first | rfl | assumption | exact rowS hh | exact mtS hm | exact ruS hr | exact mtA1 hm | exact mtA2 hm | exact mtA3 hm | exact mtA4 hm | exact mtA5 hm | exact mtA6 hm | exact mtA7 hm | exact ruA1 hr | exact ruA2 hr | exact ruA3 hr) rfl (by decide) ⟨rfl, by decide, by decide, show (parseMethodDescriptor yX0_winsByGoing.desc).map (fun d => d.parameters.length) = some 3 by decide +kernel⟩ (by omega) (by decide) (Nat.le_of_ble_eq_true rfl) rfl ?_
            refine pw_if_ne (tgt := 101) 89 rfl dX0_playBend_86 rfl (fun h86 => absurd (by rw [g1]; rfl) h86) (fun h86 => ?_)
            refine pw_aload_n 90 rfl dX0_playBend_89 rfl ?_
            refine pw_iload 92 rfl dX0_playBend_90 rfl ?_
            refine pw_iload 94 rfl dX0_playBend_92 rfl ?_
            refine pw_iconst (v := nI 2) 95 rfl dX0_playBend_94 rfl ?_
            refine pw_callVP (as := [_, _, _]) 98 rfl dX0_playBend_95 mX0_47 vX0_winsByGoing (x_wins2 (d := d) (show i < 21 by omega) (show B - i < 21 by omega) hQl hQ) (by first | rfl | assumption | exact rowS hh | exact mtS hm | exact ruS hr | exact mtA1 hm | exact mtA2 hm | exact mtA3 hm | exact mtA4 hm | exact mtA5 hm | exact mtA6 hm | exact mtA7 hm | exact ruA1 hr | exact ruA2 hr | exact ruA3 hr) rfl (by decide) ⟨rfl, by decide, by decide, show (parseMethodDescriptor yX0_winsByGoing.desc).map (fun d => d.parameters.length) = some 3 by decide +kernel⟩ (by omega) (by decide) (Nat.le_of_ble_eq_true rfl) rfl ?_
            refine pw_if_eq (tgt := 105) 101 rfl dX0_playBend_98 rfl (fun h98 => ?_) (fun h98 => absurd (by rw [g2]; rfl) h98)
            rotate_left
            exact no (by rw [gq, ← eP, ← eQ, g1, g2]; rfl)
  refine pw_iconst (v := nI 0) 1 rfl dX0_playBend_0 rfl ?_
  refine pw_istore_n 2 rfl dX0_playBend_1 (by decide) ?_
  rotate_left
  have L := nat_loop 21 (fun k => ∀ (I' : pI), (∀ j, j < k → I' 68 j = nI 0 ∧ I' 69 j = nI 0) → (∀ a, a ≠ 68 → a ≠ 69 → I' a = I a) → PW SX yX0_playBend.cls cX0_playBend 8 (d + 2) 2 [some (.ref 67), some (.int (nI A)), some (.int (nI k)), none, none, none, none, none] [] (I') (J) (RX) (rX cX0_playBend none (fun r' I' J' R' => r' = none ∧ wI I' 68 A gW (fun _ => 2 * A + 1) ∧ wI I' 69 A gTw (fun _ => 2 * A + 1) ∧ (∀ a, a ≠ 68 → a ≠ 69 → I' a = I a) ∧ J = J' ∧ R' = RX))) ?_ ?_
  · exact L _ (fun j hj => by omega) (fun _ _ _ => rfl)
  · intro I' g1 g2
    refine pw_iload_n 3 rfl dX0_playBend_2 rfl ?_
    refine pw_bipush (v := nI 20) 5 rfl dX0_playBend_3 rfl ?_
    refine pw_icmp_gt (tgt := 28) 8 rfl dX0_playBend_5 rfl (fun h5 => ?_) (fun h5 => absurd (by (simp (disch := omega) only [nI_leI, nI_ltI, nI_eq, show (0 : Int32) = nI 0 from rfl, not_true_eq_false, not_false_eq_true] <;> omega)) h5)
    rotate_left
    have z : ∀ (f : Nat → Nat → Bool) (x : Nat), 1 ≤ x → nI (wd f x (min (2 - x) (A + 1))) = nI 0 := by
      intro f x hx
      by_cases e : x = 1
      · rw [e, show min (2 - 1) (A + 1) = 1 by omega, wd_1]; rfl
      · rw [show min (2 - x) (A + 1) = 0 by omega]; rfl
    exact main I' _ (fun x h1 h2 => by rw [z gW x h1]; exact (g1 x (by omega)).1) (fun x h1 h2 => by rw [z gTw x h1]; exact (g1 x (by omega)).2) g2
  · intro k hk ih I' g1 g2
    refine pw_iload_n 3 rfl dX0_playBend_2 rfl ?_
    refine pw_bipush (v := nI 20) 5 rfl dX0_playBend_3 rfl ?_
    refine pw_icmp_gt (tgt := 28) 8 rfl dX0_playBend_5 rfl (fun h5 => absurd h5 (by (simp (disch := omega) only [nI_leI, nI_ltI, nI_eq, show (0 : Int32) = nI 0 from rfl, not_true_eq_false, not_false_eq_true] <;> omega))) (fun h5 => ?_)
    refine pw_aload_n 9 rfl dX0_playBend_8 rfl ?_
    refine pw_getR 12 rfl dX0_playBend_9 fX0_9 (by first | rfl | assumption | exact rowS hh | exact mtS hm | exact ruS hr | exact mtA1 hm | exact mtA2 hm | exact mtA3 hm | exact mtA4 hm | exact mtA5 hm | exact mtA6 hm | exact mtA7 hm | exact ruA1 hr | exact ruA2 hr | exact ruA3 hr) rfl (by first | rfl | assumption | exact mtR0 hm | exact mtR1 hm | exact mtR2 hm | exact mtR3 hm | exact mtR4 hm | exact mtR5 hm | exact mtR6 hm | exact ruR0 hr | exact ruR1 hr | exact ruR3 hr) ?_
    refine pw_iload_n 13 rfl dX0_playBend_12 rfl ?_
    refine pw_iconst (v := nI 0) 14 rfl dX0_playBend_13 rfl ?_
    refine pw_iastN 15 rfl dX0_playBend_14 (by first | rfl | assumption | exact rowS hh | exact mtS hm | exact ruS hr | exact mtA1 hm | exact mtA2 hm | exact mtA3 hm | exact mtA4 hm | exact mtA5 hm | exact mtA6 hm | exact mtA7 hm | exact ruA1 hr | exact ruA2 hr | exact ruA3 hr) (by omega) (by decide) ?_
    refine pw_aload_n 16 rfl dX0_playBend_15 rfl ?_
    refine pw_getR 19 rfl dX0_playBend_16 fX0_13 (by first | rfl | assumption | exact rowS hh | exact mtS hm | exact ruS hr | exact mtA1 hm | exact mtA2 hm | exact mtA3 hm | exact mtA4 hm | exact mtA5 hm | exact mtA6 hm | exact mtA7 hm | exact ruA1 hr | exact ruA2 hr | exact ruA3 hr) rfl (by first | rfl | assumption | exact mtR0 hm | exact mtR1 hm | exact mtR2 hm | exact mtR3 hm | exact mtR4 hm | exact mtR5 hm | exact mtR6 hm | exact ruR0 hr | exact ruR1 hr | exact ruR3 hr) ?_
    refine pw_iload_n 20 rfl dX0_playBend_19 rfl ?_
    refine pw_iconst (v := nI 0) 21 rfl dX0_playBend_20 rfl ?_
    refine pw_iastN 22 rfl dX0_playBend_21 (by first | rfl | assumption | exact rowS hh | exact mtS hm | exact ruS hr | exact mtA1 hm | exact mtA2 hm | exact mtA3 hm | exact mtA4 hm | exact mtA5 hm | exact mtA6 hm | exact mtA7 hm | exact ruA1 hr | exact ruA2 hr | exact ruA3 hr) (by omega) (by decide) ?_
    refine pw_iincN 25 rfl dX0_playBend_22 (by decide) rfl ?_
    refine pw_goto (tgt := 2) dX0_playBend_25 rfl ?_
    rotate_left
    refine ih _ (fun j hj => ?_) (fun a h1 h2 => by rw [uI, if_neg h2, uI, if_neg h1]; exact g2 a h1 h2)
    by_cases e : j = k
    · rw [e]
      exact ⟨by rw [uI_ne (by omega), uI_eq], uI_eq _ _ _ _⟩
    · have := g1 j (by omega)
      exact ⟨by rw [uI_ne (by omega), uI_ne (by omega)]; exact this.1, by rw [uI_ne (by omega), uI_ne (by omega)]; exact this.2⟩
def gGo (a b : Nat) : Option Nat := if (decide (1 < a) && !(gW b (a - 1))) = true then some 1 else if (decide (2 < a) && !(gTw b (a - 2))) = true then some 2 else none
def gGoV (o : Option Nat) : Int32 := match o with
  | none => nI 0
  | some _ => nI 1
def gGoR (o : Option Nat) : List Int64 := match o with
  | none => []
  | some g => [lI g]
set_option maxRecDepth 100000 in
set_option maxHeartbeats 2000000 in
theorem x_bestAtBend {d a b : Nat} {I : pI} {J : pJ} (ha : 1 ≤ a) (ha2 : a ≤ 20) (hb : 1 ≤ b) (hb2 : b ≤ 20) : PC SX (d + 3) yX0_bestAtBend cX0_bestAtBend 4 (some .int) [.ref 67, .int (nI a), .int (nI b)] (I) (J) (RX) (fun r' I' J' R' => r' = some (.int (gGoV (gGo a b))) ∧ XN I' J' (gGoR (gGo a b)) ∧ (∀ a, a ≠ 19 → a ≠ 68 → a ≠ 69 → I' a = I a) ∧ R' = RX) := by
  refine PC.of [some (.ref 67), some (.int (nI a)), some (.int (nI b)), none] rfl rfl (Nat.le_of_ble_eq_true rfl) ?_
  refine pw_aload_n 1 rfl dX0_bestAtBend_0 rfl ?_
  refine pw_iload_n 2 rfl dX0_bestAtBend_1 rfl ?_
  refine pw_iload_n 3 rfl dX0_bestAtBend_2 rfl ?_
  refine pw_mmax 6 rfl dX0_bestAtBend_3 mX0_34 (Nat.le_of_ble_eq_true rfl) ?_
  rotate_left
  rw [nI_max (by omega) (by omega)]
  have hA1 : a ≤ max a b := Nat.le_max_left _ _
  have hA2 : b ≤ max a b := Nat.le_max_right _ _
  have hA3 : max a b ≤ 20 := by omega
  generalize max a b = A at hA1 hA2 hA3 ⊢
  refine pw_callV (as := [_]) 9 rfl dX0_bestAtBend_6 mX0_40 vX0_playBend (x_playBend (d := d) (A := A) (by omega) hA3) (by first | rfl | assumption | exact rowS hh | exact mtS hm | exact ruS hr | exact mtA1 hm | exact mtA2 hm | exact mtA3 hm | exact mtA4 hm | exact mtA5 hm | exact mtA6 hm | exact mtA7 hm | exact ruA1 hr | exact ruA2 hr | exact ruA3 hr) rfl (by decide) ⟨rfl, by decide, by decide, show (parseMethodDescriptor yX0_playBend.desc).map (fun d => d.parameters.length) = some 1 by decide +kernel⟩ (by omega) (by decide) (Nat.le_of_ble_eq_true rfl) rfl (fun r6 I6 J6 R6 c6 => ?_)
  obtain ⟨rfl, q1, q2, q3, rfl, rfl⟩ := c6
  refine pw_aload_n 10 rfl dX0_bestAtBend_9 rfl ?_
  refine pw_getR 13 rfl dX0_bestAtBend_10 fX0_16 (by first | rfl | assumption | exact rowS hh | exact mtS hm | exact ruS hr | exact mtA1 hm | exact mtA2 hm | exact mtA3 hm | exact mtA4 hm | exact mtA5 hm | exact mtA6 hm | exact mtA7 hm | exact ruA1 hr | exact ruA2 hr | exact ruA3 hr) rfl (by first | rfl | assumption | exact mtR0 hm | exact mtR1 hm | exact mtR2 hm | exact mtR3 hm | exact mtR4 hm | exact mtR5 hm | exact mtR6 hm | exact ruR0 hr | exact ruR1 hr | exact ruR3 hr) ?_
  refine pw_callV (as := []) 16 rfl dX0_bestAtBend_13 mX0_44 vX2_clear (x_clear (d := d + 2)) (by first | rfl | assumption | exact rowS hh | exact mtS hm | exact ruS hr | exact mtA1 hm | exact mtA2 hm | exact mtA3 hm | exact mtA4 hm | exact mtA5 hm | exact mtA6 hm | exact mtA7 hm | exact ruA1 hr | exact ruA2 hr | exact ruA3 hr) rfl (by decide) ⟨rfl, by decide, by decide, show (parseMethodDescriptor yX2_clear.desc).map (fun d => d.parameters.length) = some 0 by decide +kernel⟩ (by omega) (by decide) (Nat.le_of_ble_eq_true rfl) rfl (fun r13 I13 J13 R13 c13 => ?_)
  obtain ⟨rfl, a1, a2, rfl⟩ := c13
  refine pw_iconst (v := nI 1) 17 rfl dX0_bestAtBend_16 rfl ?_
  refine pw_istore_n 18 rfl dX0_bestAtBend_17 (by decide) ?_
  rotate_left
  have hP : I13 68 b = nI (wd gW b (A + 1)) := by rw [a2 68 (by omega), q1 b hb hA2, show min (2 * A + 1 - b) (A + 1) = A + 1 by omega]
  have hQ : I13 69 b = nI (wd gTw b (A + 1)) := by rw [a2 69 (by omega), q2 b hb hA2, show min (2 * A + 1 - b) (A + 1) = A + 1 by omega]
  have hPl : wd gW b (A + 1) < 2147483648 := wd_lt (by omega)
  have hQl : wd gTw b (A + 1) < 2147483648 := wd_lt (by omega)
  have eP : (decide (1 < a) && !((wd gW b (A + 1)).testBit (a - 1))) = (decide (1 < a) && !(gW b (a - 1))) := by
    by_cases h : 1 < a
    · rw [wd_bit (by omega) (by omega)]
    · rw [decide_eq_false h]; rfl
  have eQ : (decide (2 < a) && !((wd gTw b (A + 1)).testBit (a - 2))) = (decide (2 < a) && !(gTw b (a - 2))) := by
    by_cases h : 2 < a
    · rw [wd_bit (by omega) (by omega)]
    · rw [decide_eq_false h]; rfl
  cases g1 : (decide (1 < a) && !(gW b (a - 1))) with
  | true =>
    rw [show gGo a b = some 1 from by rw [gGo, g1]; rfl]
    refine pw_iload_n 19 rfl dX0_bestAtBend_18 rfl ?_
    refine pw_iconst (v := nI 2) 20 rfl dX0_bestAtBend_19 rfl ?_
    refine pw_icmp_gt (tgt := 50) 23 rfl dX0_bestAtBend_20 rfl (fun h20 => absurd h20 (by decide)) (fun h20 => ?_)
    refine pw_aload_n 24 rfl dX0_bestAtBend_23 rfl ?_
    refine pw_iload_n 25 rfl dX0_bestAtBend_24 rfl ?_
    refine pw_iload_n 26 rfl dX0_bestAtBend_25 rfl ?_
    refine pw_iload_n 27 rfl dX0_bestAtBend_26 rfl ?_
    refine pw_callVP (as := [_, _, _]) 30 rfl dX0_bestAtBend_27 mX0_47 vX0_winsByGoing (x_wins1 (d := d + 1) (show a < 21 by omega) (show b < 21 by omega) hPl hP) (by first | rfl | assumption | exact rowS hh | exact mtS hm | exact ruS hr | exact mtA1 hm | exact mtA2 hm | exact mtA3 hm | exact mtA4 hm | exact mtA5 hm | exact mtA6 hm | exact mtA7 hm | exact ruA1 hr | exact ruA2 hr | exact ruA3 hr) rfl (by decide) ⟨rfl, by decide, by decide, show (parseMethodDescriptor yX0_winsByGoing.desc).map (fun d => d.parameters.length) = some 3 by decide +kernel⟩ (by omega) (by decide) (Nat.le_of_ble_eq_true rfl) rfl ?_
    refine pw_if_eq (tgt := 44) 33 rfl dX0_bestAtBend_30 rfl (fun h30 => absurd h30 (by rw [eP, g1]; decide)) (fun h30 => ?_)
    refine pw_aload_n 34 rfl dX0_bestAtBend_33 rfl ?_
    refine pw_getR 37 rfl dX0_bestAtBend_34 fX0_16 (by first | rfl | assumption | exact rowS hh | exact mtS hm | exact ruS hr | exact mtA1 hm | exact mtA2 hm | exact mtA3 hm | exact mtA4 hm | exact mtA5 hm | exact mtA6 hm | exact mtA7 hm | exact ruA1 hr | exact ruA2 hr | exact ruA3 hr) rfl (by first | rfl | assumption | exact mtR0 hm | exact mtR1 hm | exact mtR2 hm | exact mtR3 hm | exact mtR4 hm | exact mtR5 hm | exact mtR6 hm | exact ruR0 hr | exact ruR1 hr | exact ruR3 hr) ?_
    refine pw_iload_n 38 rfl dX0_bestAtBend_37 rfl ?_
    refine pw_i2l 39 rfl dX0_bestAtBend_38 ?_
    refine pw_callV (as := [_]) 42 rfl dX0_bestAtBend_39 mX0_51 vX2_add (x_add (d := d + 2) _ a1) (by first | rfl | assumption | exact rowS hh | exact mtS hm | exact ruS hr | exact mtA1 hm | exact mtA2 hm | exact mtA3 hm | exact mtA4 hm | exact mtA5 hm | exact mtA6 hm | exact mtA7 hm | exact ruA1 hr | exact ruA2 hr | exact ruA3 hr) rfl (by decide) ⟨rfl, by decide, by decide, show (parseMethodDescriptor yX2_add.desc).map (fun d => d.parameters.length) = some 1 by decide +kernel⟩ (by omega) (by decide) (Nat.le_of_ble_eq_true rfl) rfl (fun r39 I39 J39 R39 c39 => ?_)
    obtain ⟨rfl, e1, e2, rfl⟩ := c39
    rotate_left
    refine pw_iconst (v := nI 1) 43 rfl dX0_bestAtBend_42 rfl ?_
    refine pw_iret dX0_bestAtBend_43 rfl ?_
    rotate_left
    exact ⟨rfl, e1, fun a h1 h2 h3 => by rw [e2 a h1, a2 a h1, q3 a h2 h3], rfl⟩
  | false =>
    cases g2 : (decide (2 < a) && !(gTw b (a - 2))) with
    | true =>
      rw [show gGo a b = some 2 from by rw [gGo, g1, g2]; rfl]
      refine pw_iload_n 19 rfl dX0_bestAtBend_18 rfl ?_
      refine pw_iconst (v := nI 2) 20 rfl dX0_bestAtBend_19 rfl ?_
      refine pw_icmp_gt (tgt := 50) 23 rfl dX0_bestAtBend_20 rfl (fun h20 => absurd h20 (by decide)) (fun h20 => ?_)
      refine pw_aload_n 24 rfl dX0_bestAtBend_23 rfl ?_
      refine pw_iload_n 25 rfl dX0_bestAtBend_24 rfl ?_
      refine pw_iload_n 26 rfl dX0_bestAtBend_25 rfl ?_
      refine pw_iload_n 27 rfl dX0_bestAtBend_26 rfl ?_
      refine pw_callVP (as := [_, _, _]) 30 rfl dX0_bestAtBend_27 mX0_47 vX0_winsByGoing (x_wins1 (d := d + 1) (show a < 21 by omega) (show b < 21 by omega) hPl hP) (by first | rfl | assumption | exact rowS hh | exact mtS hm | exact ruS hr | exact mtA1 hm | exact mtA2 hm | exact mtA3 hm | exact mtA4 hm | exact mtA5 hm | exact mtA6 hm | exact mtA7 hm | exact ruA1 hr | exact ruA2 hr | exact ruA3 hr) rfl (by decide) ⟨rfl, by decide, by decide, show (parseMethodDescriptor yX0_winsByGoing.desc).map (fun d => d.parameters.length) = some 3 by decide +kernel⟩ (by omega) (by decide) (Nat.le_of_ble_eq_true rfl) rfl ?_
      refine pw_if_eq (tgt := 44) 33 rfl dX0_bestAtBend_30 rfl (fun h30 => ?_) (fun h30 => absurd (by rw [eP, g1]; rfl) h30)
      refine pw_iincN 47 rfl dX0_bestAtBend_44 (by decide) rfl ?_
      refine pw_goto (tgt := 18) dX0_bestAtBend_47 rfl ?_
      rotate_left
      refine pw_iload_n 19 rfl dX0_bestAtBend_18 rfl ?_
      refine pw_iconst (v := nI 2) 20 rfl dX0_bestAtBend_19 rfl ?_
      refine pw_icmp_gt (tgt := 50) 23 rfl dX0_bestAtBend_20 rfl (fun h20 => absurd h20 (by decide)) (fun h20 => ?_)
      refine pw_aload_n 24 rfl dX0_bestAtBend_23 rfl ?_
      refine pw_iload_n 25 rfl dX0_bestAtBend_24 rfl ?_
      refine pw_iload_n 26 rfl dX0_bestAtBend_25 rfl ?_
      refine pw_iload_n 27 rfl dX0_bestAtBend_26 rfl ?_
      refine pw_callVP (as := [_, _, _]) 30 rfl dX0_bestAtBend_27 mX0_47 vX0_winsByGoing (x_wins2 (d := d + 1) (show a < 21 by omega) (show b < 21 by omega) hQl hQ) (by first | rfl | assumption | exact rowS hh | exact mtS hm | exact ruS hr | exact mtA1 hm | exact mtA2 hm | exact mtA3 hm | exact mtA4 hm | exact mtA5 hm | exact mtA6 hm | exact mtA7 hm | exact ruA1 hr | exact ruA2 hr | exact ruA3 hr) rfl (by decide) ⟨rfl, by decide, by decide, show (parseMethodDescriptor yX0_winsByGoing.desc).map (fun d => d.parameters.length) = some 3 by decide +kernel⟩ (by omega) (by decide) (Nat.le_of_ble_eq_true rfl) rfl ?_
      refine pw_if_eq (tgt := 44) 33 rfl dX0_bestAtBend_30 rfl (fun h30 => absurd h30 (by rw [eQ, g2]; decide)) (fun h30 => ?_)
      refine pw_aload_n 34 rfl dX0_bestAtBend_33 rfl ?_
      refine pw_getR 37 rfl dX0_bestAtBend_34 fX0_16 (by first | rfl | assumption | exact rowS hh | exact mtS hm | exact ruS hr | exact mtA1 hm | exact mtA2 hm | exact mtA3 hm | exact mtA4 hm | exact mtA5 hm | exact mtA6 hm | exact mtA7 hm | exact ruA1 hr | exact ruA2 hr | exact ruA3 hr) rfl (by first | rfl | assumption | exact mtR0 hm | exact mtR1 hm | exact mtR2 hm | exact mtR3 hm | exact mtR4 hm | exact mtR5 hm | exact mtR6 hm | exact ruR0 hr | exact ruR1 hr | exact ruR3 hr) ?_
      refine pw_iload_n 38 rfl dX0_bestAtBend_37 rfl ?_
      refine pw_i2l 39 rfl dX0_bestAtBend_38 ?_
      refine pw_callV (as := [_]) 42 rfl dX0_bestAtBend_39 mX0_51 vX2_add (x_add (d := d + 2) _ a1) (by first | rfl | assumption | exact rowS hh | exact mtS hm | exact ruS hr | exact mtA1 hm | exact mtA2 hm | exact mtA3 hm | exact mtA4 hm | exact mtA5 hm | exact mtA6 hm | exact mtA7 hm | exact ruA1 hr | exact ruA2 hr | exact ruA3 hr) rfl (by decide) ⟨rfl, by decide, by decide, show (parseMethodDescriptor yX2_add.desc).map (fun d => d.parameters.length) = some 1 by decide +kernel⟩ (by omega) (by decide) (Nat.le_of_ble_eq_true rfl) rfl (fun r39 I39 J39 R39 c39 => ?_)
      obtain ⟨rfl, e1, e2, rfl⟩ := c39
      rotate_left
      refine pw_iconst (v := nI 1) 43 rfl dX0_bestAtBend_42 rfl ?_
      refine pw_iret dX0_bestAtBend_43 rfl ?_
      rotate_left
      exact ⟨rfl, e1, fun a h1 h2 h3 => by rw [e2 a h1, a2 a h1, q3 a h2 h3], rfl⟩
    | false =>
      rw [show gGo a b = none from by rw [gGo, g1, g2]; rfl]
      refine pw_iload_n 19 rfl dX0_bestAtBend_18 rfl ?_
      refine pw_iconst (v := nI 2) 20 rfl dX0_bestAtBend_19 rfl ?_
      refine pw_icmp_gt (tgt := 50) 23 rfl dX0_bestAtBend_20 rfl (fun h20 => absurd h20 (by decide)) (fun h20 => ?_)
      refine pw_aload_n 24 rfl dX0_bestAtBend_23 rfl ?_
      refine pw_iload_n 25 rfl dX0_bestAtBend_24 rfl ?_
      refine pw_iload_n 26 rfl dX0_bestAtBend_25 rfl ?_
      refine pw_iload_n 27 rfl dX0_bestAtBend_26 rfl ?_
      refine pw_callVP (as := [_, _, _]) 30 rfl dX0_bestAtBend_27 mX0_47 vX0_winsByGoing (x_wins1 (d := d + 1) (show a < 21 by omega) (show b < 21 by omega) hPl hP) (by first | rfl | assumption | exact rowS hh | exact mtS hm | exact ruS hr | exact mtA1 hm | exact mtA2 hm | exact mtA3 hm | exact mtA4 hm | exact mtA5 hm | exact mtA6 hm | exact mtA7 hm | exact ruA1 hr | exact ruA2 hr | exact ruA3 hr) rfl (by decide) ⟨rfl, by decide, by decide, show (parseMethodDescriptor yX0_winsByGoing.desc).map (fun d => d.parameters.length) = some 3 by decide +kernel⟩ (by omega) (by decide) (Nat.le_of_ble_eq_true rfl) rfl ?_
      refine pw_if_eq (tgt := 44) 33 rfl dX0_bestAtBend_30 rfl (fun h30 => ?_) (fun h30 => absurd (by rw [eP, g1]; rfl) h30)
      refine pw_iincN 47 rfl dX0_bestAtBend_44 (by decide) rfl ?_
      refine pw_goto (tgt := 18) dX0_bestAtBend_47 rfl ?_
      rotate_left
      refine pw_iload_n 19 rfl dX0_bestAtBend_18 rfl ?_
      refine pw_iconst (v := nI 2) 20 rfl dX0_bestAtBend_19 rfl ?_
      refine pw_icmp_gt (tgt := 50) 23 rfl dX0_bestAtBend_20 rfl (fun h20 => absurd h20 (by decide)) (fun h20 => ?_)
      refine pw_aload_n 24 rfl dX0_bestAtBend_23 rfl ?_
      refine pw_iload_n 25 rfl dX0_bestAtBend_24 rfl ?_
      refine pw_iload_n 26 rfl dX0_bestAtBend_25 rfl ?_
      refine pw_iload_n 27 rfl dX0_bestAtBend_26 rfl ?_
      refine pw_callVP (as := [_, _, _]) 30 rfl dX0_bestAtBend_27 mX0_47 vX0_winsByGoing (x_wins2 (d := d + 1) (show a < 21 by omega) (show b < 21 by omega) hQl hQ) (by first | rfl | assumption | exact rowS hh | exact mtS hm | exact ruS hr | exact mtA1 hm | exact mtA2 hm | exact mtA3 hm | exact mtA4 hm | exact mtA5 hm | exact mtA6 hm | exact mtA7 hm | exact ruA1 hr | exact ruA2 hr | exact ruA3 hr) rfl (by decide) ⟨rfl, by decide, by decide, show (parseMethodDescriptor yX0_winsByGoing.desc).map (fun d => d.parameters.length) = some 3 by decide +kernel⟩ (by omega) (by decide) (Nat.le_of_ble_eq_true rfl) rfl ?_
      refine pw_if_eq (tgt := 44) 33 rfl dX0_bestAtBend_30 rfl (fun h30 => ?_) (fun h30 => absurd (by rw [eQ, g2]; rfl) h30)
      refine pw_iincN 47 rfl dX0_bestAtBend_44 (by decide) rfl ?_
      refine pw_goto (tgt := 18) dX0_bestAtBend_47 rfl ?_
      rotate_left
      refine pw_iload_n 19 rfl dX0_bestAtBend_18 rfl ?_
      refine pw_iconst (v := nI 2) 20 rfl dX0_bestAtBend_19 rfl ?_
      refine pw_icmp_gt (tgt := 50) 23 rfl dX0_bestAtBend_20 rfl (fun h20 => ?_) (fun h20 => absurd (by decide) h20)
      refine pw_iconst (v := nI 0) 51 rfl dX0_bestAtBend_50 rfl ?_
      refine pw_iret dX0_bestAtBend_51 rfl ?_
      rotate_left
      exact ⟨rfl, a1, fun a h1 h2 h3 => by rw [a2 a h1, q3 a h2 h3], rfl⟩
