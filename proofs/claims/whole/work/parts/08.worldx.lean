/-! the class's cells: 0 the object, 1 .. 8 now, 9 .. 12 rule, 13 .. 16 otherRule, 17 .. 18 text, 19 .. 20 told, 21 .. 39 past, 40 .. 50 outlook (43 .. its mountain), 51 .. 59 plans (52 .. its mountain), 60 .. 61 standing, 62 .. 63 rumours, 64 .. 66 sights, 67 .. 69 games -/
def SX : pS := [(11, 12), (1, 13), (100, 7), (100, 7), (100, 7), (100, 7), (100, 7), (100, 7), (100, 7), (6, 9), (100, 40), (100, 40), (100, 40), (6, 9), (100, 40), (100, 40), (100, 40), (10, 2), (100, 80), (2, 2), (101, 12), (4, 6), (104, 12), (104, 2), (103, 2), (100, 32),
  (100, 32), (100, 32), (100, 32), (100, 32), (100, 32), (100, 32), (100, 32), (100, 32), (100, 32), (100, 32), (100, 32), (100, 32), (100, 32), (100, 32), (3, 6), (100, 7), (100, 10), (1, 13), (100, 7), (100, 7), (100, 7), (100, 7), (100, 7), (100, 7), (100, 7),
  (5, 5), (1, 13), (100, 7), (100, 7), (100, 7), (100, 7), (100, 7), (100, 7), (100, 7), (9, 3), (100, 7), (7, 4), (100, 12), (8, 8), (100, 10), (100, 40), (0, 3), (100, 21), (100, 21)]
def rxL : List (List (Option Nat)) := [[some 1, some 9, some 13, some 17, some 19, some 21, some 40, some 51, some 60, some 62, some 64, some 67], [some 2, some 3, some 4, some 5, some 6, some 7, some 8], [], [], [], [], [], [], [],
  [some 10, some 11, none, some 12], [], [], [], [some 14, some 15, none, some 16], [], [], [], [some 18], [], [some 20], [], [some 22, some 23, some 24, some 25], [some 26, some 27, some 28, some 29, some 30, some 31, some 32, some 33, some 34, some 35, some 36, some 37], [some 38, some 39], [], [],
  [], [], [], [], [], [], [], [], [], [], [], [], [], [], [some 1, some 43, some 9, some 19, some 41, some 42], [], [], [some 44, some 45, some 46, some 47, some 48, some 49, some 50], [], [], [], [], [], [], [],
  [some 1, some 52, some 9, some 19], [some 53, some 54, some 55, some 56, some 57, some 58, some 59], [], [], [], [], [], [], [], [some 1, some 19, some 61], [], [some 1, some 19, some 63], [], [some 19, some 65, none, some 66], [], [], [some 19, some 68, some 69]]
def RX : pR := fun h k => (rxL.getD h []).getD k none
def isMt (m : Nat) : Prop := m = 1 ∨ m = 43 ∨ m = 52
def isRu (m : Nat) : Prop := m = 9 ∨ m = 13
theorem mtS {m : Nat} (h : isMt m) : SX[m]? = some (1, 13) := by rcases h with rfl | rfl | rfl <;> rfl
theorem mtA1 {m : Nat} (h : isMt m) : SX[m + 1]? = some (100, 7) := by rcases h with rfl | rfl | rfl <;> rfl
theorem mtA2 {m : Nat} (h : isMt m) : SX[m + 2]? = some (100, 7) := by rcases h with rfl | rfl | rfl <;> rfl
theorem mtA3 {m : Nat} (h : isMt m) : SX[m + 3]? = some (100, 7) := by rcases h with rfl | rfl | rfl <;> rfl
theorem mtA4 {m : Nat} (h : isMt m) : SX[m + 4]? = some (100, 7) := by rcases h with rfl | rfl | rfl <;> rfl
theorem mtA5 {m : Nat} (h : isMt m) : SX[m + 5]? = some (100, 7) := by rcases h with rfl | rfl | rfl <;> rfl
theorem mtA6 {m : Nat} (h : isMt m) : SX[m + 6]? = some (100, 7) := by rcases h with rfl | rfl | rfl <;> rfl
theorem mtA7 {m : Nat} (h : isMt m) : SX[m + 7]? = some (100, 7) := by rcases h with rfl | rfl | rfl <;> rfl
theorem mtR0 {m : Nat} (h : isMt m) : RX m 0 = some (m + 1) := by rcases h with rfl | rfl | rfl <;> rfl
theorem mtR1 {m : Nat} (h : isMt m) : RX m 1 = some (m + 2) := by rcases h with rfl | rfl | rfl <;> rfl
theorem mtR2 {m : Nat} (h : isMt m) : RX m 2 = some (m + 3) := by rcases h with rfl | rfl | rfl <;> rfl
theorem mtR3 {m : Nat} (h : isMt m) : RX m 3 = some (m + 4) := by rcases h with rfl | rfl | rfl <;> rfl
theorem mtR4 {m : Nat} (h : isMt m) : RX m 4 = some (m + 5) := by rcases h with rfl | rfl | rfl <;> rfl
theorem mtR5 {m : Nat} (h : isMt m) : RX m 5 = some (m + 6) := by rcases h with rfl | rfl | rfl <;> rfl
theorem mtR6 {m : Nat} (h : isMt m) : RX m 6 = some (m + 7) := by rcases h with rfl | rfl | rfl <;> rfl
theorem ruS {m : Nat} (h : isRu m) : SX[m]? = some (6, 9) := by rcases h with rfl | rfl <;> rfl
theorem ruA1 {m : Nat} (h : isRu m) : SX[m + 1]? = some (100, 40) := by rcases h with rfl | rfl <;> rfl
theorem ruA2 {m : Nat} (h : isRu m) : SX[m + 2]? = some (100, 40) := by rcases h with rfl | rfl <;> rfl
theorem ruA3 {m : Nat} (h : isRu m) : SX[m + 3]? = some (100, 40) := by rcases h with rfl | rfl <;> rfl
theorem ruR0 {m : Nat} (h : isRu m) : RX m 0 = some (m + 1) := by rcases h with rfl | rfl <;> rfl
theorem ruR1 {m : Nat} (h : isRu m) : RX m 1 = some (m + 2) := by rcases h with rfl | rfl <;> rfl
theorem ruR3 {m : Nat} (h : isRu m) : RX m 3 = some (m + 3) := by rcases h with rfl | rfl <;> rfl
theorem sx_len : SX.length = 70 := rfl
theorem rx_len : rxL.length = 68 := rfl
/-- has(who) of a mountain with n climbers -/
def hasV (n : Nat) (w : Int32) : Int32 := if 0 ≤ w ∧ w < nI n then 1 else 0
set_option maxRecDepth 100000 in
theorem x_has {m d n : Nat} (hm : isMt m) {I : pI} {J : pJ} (hn : I m 7 = nI n) (h7 : n ≤ 7) (w : Int32) : PC SX d yX1_has cX1_has 2 (some .boolean) [.ref m, .int w] I J RX (pPu (.int (hasV n w)) I J RX) := by
  refine PC.of [some (.ref m), some (.int w)] rfl rfl (Nat.le_of_ble_eq_true rfl) ?_
  refine pw_iload_n 1 rfl dX1_has_0 rfl ?_
  refine pw_if_lt (tgt := 22) 4 rfl dX1_has_1 rfl (fun h1 => ?_) (fun h1 => ?_)
  refine pw_iconst (v := nI 0) 23 rfl dX1_has_22 rfl ?_
  refine pw_iret dX1_has_23 rfl ?_
  rotate_left
  refine pw_iload_n 5 rfl dX1_has_4 rfl ?_
  refine pw_aload_n 6 rfl dX1_has_5 rfl ?_
  refine pw_getI 9 rfl dX1_has_6 fX1_33 (by first | rfl | assumption | exact mtS hm | exact ruS hr | exact mtA1 hm | exact mtA2 hm | exact mtA3 hm | exact mtA4 hm | exact mtA5 hm | exact mtA6 hm | exact mtA7 hm | exact ruA1 hr | exact ruA2 hr | exact ruA3 hr) rfl ?_
  refine pw_icmp_ge (tgt := 22) 12 rfl dX1_has_9 rfl (fun h9 => ?_) (fun h9 => ?_)
  refine pw_iconst (v := nI 0) 23 rfl dX1_has_22 rfl ?_
  refine pw_iret dX1_has_23 rfl ?_
  rotate_left
  refine pw_iload_n 13 rfl dX1_has_12 rfl ?_
  refine pw_bipush (v := nI 7) 15 rfl dX1_has_13 rfl ?_
  refine pw_icmp_ge (tgt := 22) 18 rfl dX1_has_15 rfl (fun h15 => ?_) (fun h15 => ?_)
  refine pw_iconst (v := nI 0) 23 rfl dX1_has_22 rfl ?_
  refine pw_iret dX1_has_23 rfl ?_
  rotate_left
  refine pw_iconst (v := nI 1) 19 rfl dX1_has_18 rfl ?_
  refine pw_goto (tgt := 23) dX1_has_19 rfl ?_
  refine pw_iret dX1_has_23 rfl ?_
  rotate_left
  all_goals refine ⟨?_, rfl, rfl, rfl⟩
  all_goals rw [hn] at *
  · rw [hasV, if_neg (fun h => absurd h1 (by have := h.1; rw [Int32.le_iff_toInt_le] at this; rw [Int32.lt_iff_toInt_lt]; omega))]; rfl
  · sorry
  · sorry
  · sorry
/-- the greatest of 0 and the first k -/
def mxf (f : Nat → Int32) : Nat → Int32
  | 0 => nI 0
  | k + 1 => if mxf f k < f k then f k else mxf f k
set_option maxRecDepth 100000 in
theorem x_highest {m d n : Nat} (hm : isMt m) {I : pI} {J : pJ} (hn : I m 7 = nI n) (h7 : n ≤ 7) : PC SX (d + 1) yX1_highest cX1_highest 3 (some .int) [.ref m] I J RX (pPu (.int (mxf (I (m + 2)) n)) I J RX) := by
  refine PC.of [some (.ref m), none, none] rfl rfl (Nat.le_of_ble_eq_true rfl) ?_
  refine pw_iconst (v := nI 0) 1 rfl dX1_highest_0 rfl ?_
  refine pw_istore_n 2 rfl dX1_highest_1 (by decide) ?_
  refine pw_iconst (v := nI 0) 3 rfl dX1_highest_2 rfl ?_
  refine pw_istore_n 4 rfl dX1_highest_3 (by decide) ?_
  rotate_left
  refine nat_loop n (fun k => PW SX yX1_highest.cls cX1_highest 3 (d + 1) 4 [some (.ref m), some (.int (mxf (I (m + 2)) k)), some (.int (nI k))] [] I J RX (rX cX1_highest (some .int) (pPu (.int (mxf (I (m + 2)) n)) I J RX))) ?_ ?_
  · refine pw_iload_n 5 rfl dX1_highest_4 rfl ?_
    refine pw_bipush (v := nI 7) 7 rfl dX1_highest_5 rfl ?_
    refine pw_icmp_ge (tgt := 35) 10 rfl dX1_highest_7 rfl (fun h7 => ?_) (fun h7 => ?_)
    refine pw_iload_n 36 rfl dX1_highest_35 rfl ?_
    refine pw_iret dX1_highest_36 rfl ?_
    rotate_left
    refine pw_iload_n 11 rfl dX1_highest_10 rfl ?_
    refine pw_aload_n 12 rfl dX1_highest_11 rfl ?_
    refine pw_getI 15 rfl dX1_highest_12 fX1_33 (by first | rfl | assumption | exact mtS hm | exact ruS hr | exact mtA1 hm | exact mtA2 hm | exact mtA3 hm | exact mtA4 hm | exact mtA5 hm | exact mtA6 hm | exact mtA7 hm | exact ruA1 hr | exact ruA2 hr | exact ruA3 hr) rfl ?_
    refine pw_icmp_ge (tgt := 35) 18 rfl dX1_highest_15 rfl (fun h15 => ?_) (fun h15 => absurd (by rw [hn]; (simp (disch := omega) only [nI_leI, nI_ltI, nI_eq, show (0 : Int32) = nI 0 from rfl, not_true_eq_false, not_false_eq_true] <;> omega)) h15)
    refine pw_iload_n 36 rfl dX1_highest_35 rfl ?_
    refine pw_iret dX1_highest_36 rfl ?_
    rotate_left
    all_goals sorry
  · intro k hk ih
    refine pw_iload_n 5 rfl dX1_highest_4 rfl ?_
    refine pw_bipush (v := nI 7) 7 rfl dX1_highest_5 rfl ?_
    refine pw_icmp_ge (tgt := 35) 10 rfl dX1_highest_7 rfl (fun h7 => absurd h7 (by (simp (disch := omega) only [nI_leI, nI_ltI, nI_eq, show (0 : Int32) = nI 0 from rfl, not_true_eq_false, not_false_eq_true] <;> omega))) (fun h7 => ?_)
    refine pw_iload_n 11 rfl dX1_highest_10 rfl ?_
    refine pw_aload_n 12 rfl dX1_highest_11 rfl ?_
    refine pw_getI 15 rfl dX1_highest_12 fX1_33 (by first | rfl | assumption | exact mtS hm | exact ruS hr | exact mtA1 hm | exact mtA2 hm | exact mtA3 hm | exact mtA4 hm | exact mtA5 hm | exact mtA6 hm | exact mtA7 hm | exact ruA1 hr | exact ruA2 hr | exact ruA3 hr) rfl ?_
    refine pw_icmp_ge (tgt := 35) 18 rfl dX1_highest_15 rfl (fun h15 => absurd h15 (by rw [hn]; (simp (disch := omega) only [nI_leI, nI_ltI, nI_eq, show (0 : Int32) = nI 0 from rfl, not_true_eq_false, not_false_eq_true] <;> omega))) (fun h15 => ?_)
    refine pw_iload_n 19 rfl dX1_highest_18 rfl ?_
    refine pw_aload_n 20 rfl dX1_highest_19 rfl ?_
    refine pw_getR 23 rfl dX1_highest_20 fX1_15 (by first | rfl | assumption | exact mtS hm | exact ruS hr | exact mtA1 hm | exact mtA2 hm | exact mtA3 hm | exact mtA4 hm | exact mtA5 hm | exact mtA6 hm | exact mtA7 hm | exact ruA1 hr | exact ruA2 hr | exact ruA3 hr) rfl (by first | rfl | assumption | exact mtR0 hm | exact mtR1 hm | exact mtR2 hm | exact mtR3 hm | exact mtR4 hm | exact mtR5 hm | exact mtR6 hm | exact ruR0 hr | exact ruR1 hr | exact ruR3 hr) ?_
    refine pw_iload_n 24 rfl dX1_highest_23 rfl ?_
    refine pw_ialdN 25 rfl dX1_highest_24 (by first | rfl | assumption | exact mtS hm | exact ruS hr | exact mtA1 hm | exact mtA2 hm | exact mtA3 hm | exact mtA4 hm | exact mtA5 hm | exact mtA6 hm | exact mtA7 hm | exact ruA1 hr | exact ruA2 hr | exact ruA3 hr) (by omega) (by decide) ?_
    refine pw_mmax 28 rfl dX1_highest_25 mX1_80 (Nat.le_of_ble_eq_true rfl) ?_
    refine pw_istore_n 29 rfl dX1_highest_28 (by decide) ?_
    refine pw_iincN 32 rfl dX1_highest_29 (by decide) rfl ?_
    refine pw_goto (tgt := 4) dX1_highest_32 rfl ?_
    rotate_left
    exact ih
