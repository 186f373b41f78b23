/-! the class's Games: strays, rests -/
def lpw (x : Int64) : Nat → Int64
  | 0 => 1
  | k + 1 => lpw x k * x
def stPt (p T i : Nat) : Int64 := lpw (nI p).toInt64 i * lpw (nI (10 - p)).toInt64 (T - 1 - i)
def stL (p T : Nat) : Nat → Int64
  | 0 => 0
  | i + 1 => stL p T i + stPt p T i
def stU (p T h : Nat) : Nat → Int64
  | 0 => 0
  | i + 1 => stU p T h i + if h ≤ i then stPt p T i else 0
def euc : Nat → Int64 → Int64 → Option Int64
  | 0, x, y => if y = 0 then some x else none
  | f + 1, x, y => if y = 0 then some x else euc f y (x - x / y * y)
def eucOk (o : Option Int64) : Bool := match o with
  | none => false
  | some g => decide (0 < g)
set_option maxRecDepth 100000 in
theorem st_euc : ∀ T, T < 10 → ∀ h, h < 10 → ∀ p, p < 11 → 2 ≤ T → eucOk (euc 40 (stU p T h T) (stL p T T)) = true := by decide +kernel
set_option maxRecDepth 100000 in
set_option maxHeartbeats 2000000 in
theorem x_power {d k : Nat} {x : Int32} {I : pI} {J : pJ} (hk : k ≤ 100) : PC SX (d) yX0_power cX0_power 5 (some .long) [.int x, .int (nI k)] (I) (J) (RX) (pPu (.long (lpw x.toInt64 k)) I J RX) := by
  refine PC.of [some (.int x), some (.int (nI k)), none, none, none] rfl rfl (Nat.le_of_ble_eq_true rfl) ?_
  refine pw_lconst 1 rfl dX0_power_0 rfl ?_
  refine pw_lstore_n 2 rfl dX0_power_1 (by decide) ?_
  refine pw_iconst (v := nI 0) 3 rfl dX0_power_2 rfl ?_
  refine pw_istore 5 rfl dX0_power_3 (by decide) ?_
  rotate_left
  have L := nat_loop k (fun j => PW SX yX0_power.cls cX0_power 5 (d) 5 [some (.int x), some (.int (nI k)), some (.long (lpw x.toInt64 j)), none, some (.int (nI j))] [] (I) (J) (RX) (rX cX0_power (some .long) (pPu (.long (lpw x.toInt64 k)) I J RX))) ?_ ?_
  · exact L
  · refine pw_iload 7 rfl dX0_power_5 rfl ?_
    refine pw_iload_n 8 rfl dX0_power_7 rfl ?_
    refine pw_icmp_ge (tgt := 22) 11 rfl dX0_power_8 rfl (fun h8 => ?_) (fun h8 => absurd (by (simp (disch := omega) only [nI_leI, nI_ltI, nI_eq, show (0 : Int32) = nI 0 from rfl, not_true_eq_false, not_false_eq_true] <;> omega)) h8)
    refine pw_lload_n 23 rfl dX0_power_22 rfl ?_
    refine pw_lret dX0_power_23 ?_
    rotate_left
    exact ⟨rfl, rfl, rfl, rfl⟩
  · intro j hj ih
    refine pw_iload 7 rfl dX0_power_5 rfl ?_
    refine pw_iload_n 8 rfl dX0_power_7 rfl ?_
    refine pw_icmp_ge (tgt := 22) 11 rfl dX0_power_8 rfl (fun h8 => absurd h8 (by (simp (disch := omega) only [nI_leI, nI_ltI, nI_eq, show (0 : Int32) = nI 0 from rfl, not_true_eq_false, not_false_eq_true] <;> omega))) (fun h8 => ?_)
    refine pw_lload_n 12 rfl dX0_power_11 rfl ?_
    refine pw_iload_n 13 rfl dX0_power_12 rfl ?_
    refine pw_i2l 14 rfl dX0_power_13 ?_
    refine pw_lmul 15 rfl dX0_power_14 ?_
    refine pw_lstore_n 16 rfl dX0_power_15 (by decide) ?_
    refine pw_iincN 19 rfl dX0_power_16 (by decide) rfl ?_
    refine pw_goto (tgt := 5) dX0_power_19 rfl ?_
    rotate_left
    exact ih
set_option maxRecDepth 100000 in
set_option maxHeartbeats 2000000 in
theorem x_divisor {d : Nat} {x y g : Int64} {I : pI} {J : pJ} (hg : euc 40 x y = some g) : PC SX (d) yX0_divisorOfBoth cX0_divisorOfBoth 11 (some .long) [.long x, .long y] (I) (J) (RX) (pPu (.long g) I J RX) := by
  refine PC.of [some (.long x), none, some (.long y), none, none, none, none, none, none, none, none] rfl rfl (Nat.le_of_ble_eq_true rfl) ?_
  refine pw_lload_n 1 rfl dX0_divisorOfBoth_0 rfl ?_
  refine pw_lstore 3 rfl dX0_divisorOfBoth_1 (by decide) ?_
  refine pw_lload_n 4 rfl dX0_divisorOfBoth_3 rfl ?_
  refine pw_lstore 6 rfl dX0_divisorOfBoth_4 (by decide) ?_
  refine pw_iconst (v := nI 0) 7 rfl dX0_divisorOfBoth_6 rfl ?_
  refine pw_istore 9 rfl dX0_divisorOfBoth_7 (by decide) ?_
  rotate_left
  have L : ∀ (f i : Nat) (a b : Int64) (x9 x10 : Option Value), i + f = 40 → euc f a b = some g → PW SX yX0_divisorOfBoth.cls cX0_divisorOfBoth 11 (d) 9 [some (.long x), none, some (.long y), none, some (.long a), none, some (.long b), none, some (.int (nI i)), x9, x10] [] (I) (J) (RX) (rX cX0_divisorOfBoth (some .long) (pPu (.long g) I J RX)) := by
    intro f
    induction f with
    | zero =>
      intro i a b x9 x10 hi he
      have hb : b = 0 := by
        rw [euc] at he
        by_cases z : b = 0
        · exact z
        · rw [if_neg z] at he; cases he
      rw [euc, if_pos hb] at he
      cases he
      refine pw_iload 11 rfl dX0_divisorOfBoth_9 rfl ?_
      refine pw_sipush (v := nI 200) 14 rfl dX0_divisorOfBoth_11 rfl ?_
      refine pw_icmp_ge (tgt := 45) 17 rfl dX0_divisorOfBoth_14 rfl (fun h14 => absurd h14 (by (simp (disch := omega) only [nI_leI, nI_ltI, nI_eq, show (0 : Int32) = nI 0 from rfl, not_true_eq_false, not_false_eq_true] <;> omega))) (fun h14 => ?_)
      refine pw_lload 19 rfl dX0_divisorOfBoth_17 rfl ?_
      refine pw_lconst 20 rfl dX0_divisorOfBoth_19 rfl ?_
      refine pw_lcmp 21 rfl dX0_divisorOfBoth_20 ?_
      refine pw_if_eq (tgt := 45) 24 rfl dX0_divisorOfBoth_21 rfl (fun h21 => ?_) (fun h21 => absurd ((lg_cmp_eq _ _).mpr hb) h21)
      refine pw_lload 47 rfl dX0_divisorOfBoth_45 rfl ?_
      refine pw_lret dX0_divisorOfBoth_47 ?_
      rotate_left
      exact ⟨rfl, rfl, rfl, rfl⟩
    | succ f ih =>
      intro i a b x9 x10 hi he
      rw [euc] at he
      by_cases hb : b = 0
      · rw [if_pos hb] at he
        cases he
        refine pw_iload 11 rfl dX0_divisorOfBoth_9 rfl ?_
        refine pw_sipush (v := nI 200) 14 rfl dX0_divisorOfBoth_11 rfl ?_
        refine pw_icmp_ge (tgt := 45) 17 rfl dX0_divisorOfBoth_14 rfl (fun h14 => absurd h14 (by (simp (disch := omega) only [nI_leI, nI_ltI, nI_eq, show (0 : Int32) = nI 0 from rfl, not_true_eq_false, not_false_eq_true] <;> omega))) (fun h14 => ?_)
        refine pw_lload 19 rfl dX0_divisorOfBoth_17 rfl ?_
        refine pw_lconst 20 rfl dX0_divisorOfBoth_19 rfl ?_
        refine pw_lcmp 21 rfl dX0_divisorOfBoth_20 ?_
        refine pw_if_eq (tgt := 45) 24 rfl dX0_divisorOfBoth_21 rfl (fun h21 => ?_) (fun h21 => absurd ((lg_cmp_eq _ _).mpr hb) h21)
        refine pw_lload 47 rfl dX0_divisorOfBoth_45 rfl ?_
        refine pw_lret dX0_divisorOfBoth_47 ?_
        rotate_left
        exact ⟨rfl, rfl, rfl, rfl⟩
      · rw [if_neg hb] at he
        refine pw_iload 11 rfl dX0_divisorOfBoth_9 rfl ?_
        refine pw_sipush (v := nI 200) 14 rfl dX0_divisorOfBoth_11 rfl ?_
        refine pw_icmp_ge (tgt := 45) 17 rfl dX0_divisorOfBoth_14 rfl (fun h14 => absurd h14 (by (simp (disch := omega) only [nI_leI, nI_ltI, nI_eq, show (0 : Int32) = nI 0 from rfl, not_true_eq_false, not_false_eq_true] <;> omega))) (fun h14 => ?_)
        refine pw_lload 19 rfl dX0_divisorOfBoth_17 rfl ?_
        refine pw_lconst 20 rfl dX0_divisorOfBoth_19 rfl ?_
        refine pw_lcmp 21 rfl dX0_divisorOfBoth_20 ?_
        refine pw_if_eq (tgt := 45) 24 rfl dX0_divisorOfBoth_21 rfl (fun h21 => absurd h21 (fun z => hb ((lg_cmp_eq _ _).mp z))) (fun h21 => ?_)
        refine pw_lload 26 rfl dX0_divisorOfBoth_24 rfl ?_
        refine pw_lload 28 rfl dX0_divisorOfBoth_26 rfl ?_
        refine pw_lrem 29 rfl dX0_divisorOfBoth_28 hb ?_
        refine pw_lstore 31 rfl dX0_divisorOfBoth_29 (by decide) ?_
        refine pw_lload 33 rfl dX0_divisorOfBoth_31 rfl ?_
        refine pw_lstore 35 rfl dX0_divisorOfBoth_33 (by decide) ?_
        refine pw_lload 37 rfl dX0_divisorOfBoth_35 rfl ?_
        refine pw_lstore 39 rfl dX0_divisorOfBoth_37 (by decide) ?_
        refine pw_iincN 42 rfl dX0_divisorOfBoth_39 (by decide) rfl ?_
        refine pw_goto (tgt := 9) dX0_divisorOfBoth_42 rfl ?_
        rotate_left
        exact ih (i + 1) _ _ _ _ (by omega) he
  exact L 40 0 x y none none rfl hg
theorem eucOk_g {o : Option Int64} (h : eucOk o = true) : ∃ g, o = some g ∧ 0 < g := by
  cases o with
  | none => cases h
  | some g => exact ⟨g, rfl, of_decide_eq_true h⟩
def stO (o : Option Int64) (u l : Int64) : List Int64 := match o with
  | none => []
  | some g => [u / g, l / g]
set_option maxRecDepth 100000 in
set_option maxHeartbeats 2000000 in
theorem x_chance {d h p T : Nat} {I : pI} {J : pJ} (hT : T < 10) (hT2 : 2 ≤ T) (hh : h < 10) (hp : p < 11) : PC SX (d + 3) yX0_chanceOfStile cX0_chanceOfStile 12 (some .int) [.ref 67, .int (nI h), .int (nI p), .int (nI T)] (I) (J) (RX) (fun r' I' J' R' => r' = some (.int (nI 0)) ∧ XN I' J' (stO (euc 40 (stU p T h T) (stL p T T)) (stU p T h T) (stL p T T)) ∧ (∀ a, a ≠ 19 → I' a = I a) ∧ R' = RX) := by
  refine PC.of [some (.ref 67), some (.int (nI h)), some (.int (nI p)), some (.int (nI T)), none, none, none, none, none, none, none, none] rfl rfl (Nat.le_of_ble_eq_true rfl) ?_
  obtain ⟨g, ho, hg0⟩ := eucOk_g (st_euc T hT h hh p hp hT2)
  have hgn : ¬ g = 0 := fun z => by rw [z] at hg0; exact absurd hg0 (by decide)
  refine pw_bipush (v := nI 10) 2 rfl dX0_chanceOfStile_0 rfl ?_
  refine pw_iload_n 3 rfl dX0_chanceOfStile_2 rfl ?_
  refine pw_isubN 4 rfl dX0_chanceOfStile_3 (by omega) ?_
  refine pw_istore 6 rfl dX0_chanceOfStile_4 (by decide) ?_
  refine pw_lconst 7 rfl dX0_chanceOfStile_6 rfl ?_
  refine pw_lstore 9 rfl dX0_chanceOfStile_7 (by decide) ?_
  refine pw_lconst 10 rfl dX0_chanceOfStile_9 rfl ?_
  refine pw_lstore 12 rfl dX0_chanceOfStile_10 (by decide) ?_
  refine pw_iconst (v := nI 0) 13 rfl dX0_chanceOfStile_12 rfl ?_
  refine pw_istore 15 rfl dX0_chanceOfStile_13 (by decide) ?_
  rotate_left
  have L := nat_loop T (fun i => ∀ (x10 x11 : Option Value), PW SX yX0_chanceOfStile.cls cX0_chanceOfStile 12 (d + 3) 15 [some (.ref 67), some (.int (nI h)), some (.int (nI p)), some (.int (nI T)), some (.int (nI (10 - p))), some (.long (stU p T h i)), none, some (.long (stL p T i)), none, some (.int (nI i)), x10, x11] [] (I) (J) (RX) (rX cX0_chanceOfStile (some .int) (fun r' I' J' R' => r' = some (.int (nI 0)) ∧ XN I' J' (stO (euc 40 (stU p T h T) (stL p T T)) (stU p T h T) (stL p T T)) ∧ (∀ a, a ≠ 19 → I' a = I a) ∧ R' = RX))) ?_ ?_
  · exact L _ _
  · intro x10 x11
    refine pw_iload 17 rfl dX0_chanceOfStile_15 rfl ?_
    refine pw_iload_n 18 rfl dX0_chanceOfStile_17 rfl ?_
    refine pw_icmp_ge (tgt := 71) 21 rfl dX0_chanceOfStile_18 rfl (fun h18 => ?_) (fun h18 => absurd (by (simp (disch := omega) only [nI_leI, nI_ltI, nI_eq, show (0 : Int32) = nI 0 from rfl, not_true_eq_false, not_false_eq_true] <;> omega)) h18)
    refine pw_lload 73 rfl dX0_chanceOfStile_71 rfl ?_
    refine pw_lload 75 rfl dX0_chanceOfStile_73 rfl ?_
    refine pw_callSP (as := [_, _]) 78 rfl dX0_chanceOfStile_75 mX0_24 sX0_divisorOfBoth (x_divisor (d := d + 2) ho) ⟨rfl, by decide, by decide, show (parseMethodDescriptor yX0_divisorOfBoth.desc).map (fun d => d.parameters.length) = some 2 by decide +kernel⟩ (by omega) (by decide) (Nat.le_of_ble_eq_true rfl) rfl ?_
    refine pw_lstore 80 rfl dX0_chanceOfStile_78 (by decide) ?_
    refine pw_lload 82 rfl dX0_chanceOfStile_80 rfl ?_
    refine pw_lconst 83 rfl dX0_chanceOfStile_82 rfl ?_
    refine pw_lcmp 84 rfl dX0_chanceOfStile_83 ?_
    refine pw_if_le (tgt := 104) 87 rfl dX0_chanceOfStile_84 rfl (fun h84 => absurd h84 (fun z => absurd ((lg_cmp_le _ _).mp z) (lg_lt_not_le hg0))) (fun h84 => ?_)
    refine pw_aload_n 88 rfl dX0_chanceOfStile_87 rfl ?_
    refine pw_getR 91 rfl dX0_chanceOfStile_88 fX0_16 (by first | rfl | assumption | exact rowS hh | exact mtS hm | exact ruS hr | exact mtA1 hm | exact mtA2 hm | exact mtA3 hm | exact mtA4 hm | exact mtA5 hm | exact mtA6 hm | exact mtA7 hm | exact ruA1 hr | exact ruA2 hr | exact ruA3 hr) rfl (by first | rfl | assumption | exact mtR0 hm | exact mtR1 hm | exact mtR2 hm | exact mtR3 hm | exact mtR4 hm | exact mtR5 hm | exact mtR6 hm | exact ruR0 hr | exact ruR1 hr | exact ruR3 hr) ?_
    refine pw_lload 93 rfl dX0_chanceOfStile_91 rfl ?_
    refine pw_lload 95 rfl dX0_chanceOfStile_93 rfl ?_
    refine pw_ldiv 96 rfl dX0_chanceOfStile_95 hgn ?_
    refine pw_lload 98 rfl dX0_chanceOfStile_96 rfl ?_
    refine pw_lload 100 rfl dX0_chanceOfStile_98 rfl ?_
    refine pw_ldiv 101 rfl dX0_chanceOfStile_100 hgn ?_
    refine pw_callV (as := [_, _]) 104 rfl dX0_chanceOfStile_101 mX0_28 vX2_tellTwo (x_tellTwo (d := d) _ _) (by first | rfl | assumption | exact rowS hh | exact mtS hm | exact ruS hr | exact mtA1 hm | exact mtA2 hm | exact mtA3 hm | exact mtA4 hm | exact mtA5 hm | exact mtA6 hm | exact mtA7 hm | exact ruA1 hr | exact ruA2 hr | exact ruA3 hr) rfl (by decide) ⟨rfl, by decide, by decide, show (parseMethodDescriptor yX2_tellTwo.desc).map (fun d => d.parameters.length) = some 2 by decide +kernel⟩ (by omega) (by decide) (Nat.le_of_ble_eq_true rfl) rfl (fun r101 I101 J101 R101 c101 => ?_)
    obtain ⟨rfl, b1, b2, rfl⟩ := c101
    rotate_left
    refine pw_iconst (v := nI 0) 105 rfl dX0_chanceOfStile_104 rfl ?_
    refine pw_iret dX0_chanceOfStile_105 rfl ?_
    rotate_left
    refine ⟨rfl, ?_, b2, rfl⟩
    rw [ho]
    exact b1
  · intro i hi ih x10 x11
    by_cases hc : h ≤ i
    · have e1 : stU p T h (i + 1) = stU p T h i + stPt p T i := by rw [stU, if_pos hc]
      rw [e1] at ih
      refine pw_iload 17 rfl dX0_chanceOfStile_15 rfl ?_
      refine pw_iload_n 18 rfl dX0_chanceOfStile_17 rfl ?_
      refine pw_icmp_ge (tgt := 71) 21 rfl dX0_chanceOfStile_18 rfl (fun h18 => absurd h18 (by (simp (disch := omega) only [nI_leI, nI_ltI, nI_eq, show (0 : Int32) = nI 0 from rfl, not_true_eq_false, not_false_eq_true] <;> omega))) (fun h18 => ?_)
      refine pw_iload_n 22 rfl dX0_chanceOfStile_21 rfl ?_
      refine pw_iload 24 rfl dX0_chanceOfStile_22 rfl ?_
      refine pw_callSP (as := [_, _]) 27 rfl dX0_chanceOfStile_24 mX0_20 sX0_power (x_power (d := d + 2) (show i ≤ 100 by omega)) ⟨rfl, by decide, by decide, show (parseMethodDescriptor yX0_power.desc).map (fun d => d.parameters.length) = some 2 by decide +kernel⟩ (by omega) (by decide) (Nat.le_of_ble_eq_true rfl) rfl ?_
      refine pw_iload 29 rfl dX0_chanceOfStile_27 rfl ?_
      refine pw_iload_n 30 rfl dX0_chanceOfStile_29 rfl ?_
      refine pw_iconst (v := nI 1) 31 rfl dX0_chanceOfStile_30 rfl ?_
      refine pw_isubN 32 rfl dX0_chanceOfStile_31 (by omega) ?_
      refine pw_iload 34 rfl dX0_chanceOfStile_32 rfl ?_
      refine pw_isubN 35 rfl dX0_chanceOfStile_34 (by omega) ?_
      refine pw_callSP (as := [_, _]) 38 rfl dX0_chanceOfStile_35 mX0_20 sX0_power (x_power (d := d + 2) (show T - 1 - i ≤ 100 by omega)) ⟨rfl, by decide, by decide, show (parseMethodDescriptor yX0_power.desc).map (fun d => d.parameters.length) = some 2 by decide +kernel⟩ (by omega) (by decide) (Nat.le_of_ble_eq_true rfl) rfl ?_
      refine pw_lmul 39 rfl dX0_chanceOfStile_38 ?_
      refine pw_lstore 41 rfl dX0_chanceOfStile_39 (by decide) ?_
      refine pw_lload 43 rfl dX0_chanceOfStile_41 rfl ?_
      refine pw_lload 45 rfl dX0_chanceOfStile_43 rfl ?_
      refine pw_ladd 46 rfl dX0_chanceOfStile_45 ?_
      refine pw_lstore 48 rfl dX0_chanceOfStile_46 (by decide) ?_
      refine pw_lload 50 rfl dX0_chanceOfStile_48 rfl ?_
      refine pw_iload 52 rfl dX0_chanceOfStile_50 rfl ?_
      refine pw_iload_n 53 rfl dX0_chanceOfStile_52 rfl ?_
      refine pw_icmp_lt (tgt := 61) 56 rfl dX0_chanceOfStile_53 rfl (fun h53 => absurd h53 (by (simp (disch := omega) only [nI_leI, nI_ltI, nI_eq, show (0 : Int32) = nI 0 from rfl, not_true_eq_false, not_false_eq_true] <;> omega))) (fun h53 => ?_)
      refine pw_lload 58 rfl dX0_chanceOfStile_56 rfl ?_
      refine pw_goto (tgt := 62) dX0_chanceOfStile_58 rfl ?_
      refine pw_ladd 63 rfl dX0_chanceOfStile_62 ?_
      refine pw_lstore 65 rfl dX0_chanceOfStile_63 (by decide) ?_
      refine pw_iincN 68 rfl dX0_chanceOfStile_65 (by decide) rfl ?_
      refine pw_goto (tgt := 15) dX0_chanceOfStile_68 rfl ?_
      rotate_left
      exact ih _ _
    · have e1 : stU p T h (i + 1) = stU p T h i + 0 := by rw [stU, if_neg hc]
      rw [e1] at ih
      refine pw_iload 17 rfl dX0_chanceOfStile_15 rfl ?_
      refine pw_iload_n 18 rfl dX0_chanceOfStile_17 rfl ?_
      refine pw_icmp_ge (tgt := 71) 21 rfl dX0_chanceOfStile_18 rfl (fun h18 => absurd h18 (by (simp (disch := omega) only [nI_leI, nI_ltI, nI_eq, show (0 : Int32) = nI 0 from rfl, not_true_eq_false, not_false_eq_true] <;> omega))) (fun h18 => ?_)
      refine pw_iload_n 22 rfl dX0_chanceOfStile_21 rfl ?_
      refine pw_iload 24 rfl dX0_chanceOfStile_22 rfl ?_
      refine pw_callSP (as := [_, _]) 27 rfl dX0_chanceOfStile_24 mX0_20 sX0_power (x_power (d := d + 2) (show i ≤ 100 by omega)) ⟨rfl, by decide, by decide, show (parseMethodDescriptor yX0_power.desc).map (fun d => d.parameters.length) = some 2 by decide +kernel⟩ (by omega) (by decide) (Nat.le_of_ble_eq_true rfl) rfl ?_
      refine pw_iload 29 rfl dX0_chanceOfStile_27 rfl ?_
      refine pw_iload_n 30 rfl dX0_chanceOfStile_29 rfl ?_
      refine pw_iconst (v := nI 1) 31 rfl dX0_chanceOfStile_30 rfl ?_
      refine pw_isubN 32 rfl dX0_chanceOfStile_31 (by omega) ?_
      refine pw_iload 34 rfl dX0_chanceOfStile_32 rfl ?_
      refine pw_isubN 35 rfl dX0_chanceOfStile_34 (by omega) ?_
      refine pw_callSP (as := [_, _]) 38 rfl dX0_chanceOfStile_35 mX0_20 sX0_power (x_power (d := d + 2) (show T - 1 - i ≤ 100 by omega)) ⟨rfl, by decide, by decide, show (parseMethodDescriptor yX0_power.desc).map (fun d => d.parameters.length) = some 2 by decide +kernel⟩ (by omega) (by decide) (Nat.le_of_ble_eq_true rfl) rfl ?_
      refine pw_lmul 39 rfl dX0_chanceOfStile_38 ?_
      refine pw_lstore 41 rfl dX0_chanceOfStile_39 (by decide) ?_
      refine pw_lload 43 rfl dX0_chanceOfStile_41 rfl ?_
      refine pw_lload 45 rfl dX0_chanceOfStile_43 rfl ?_
      refine pw_ladd 46 rfl dX0_chanceOfStile_45 ?_
      refine pw_lstore 48 rfl dX0_chanceOfStile_46 (by decide) ?_
      refine pw_lload 50 rfl dX0_chanceOfStile_48 rfl ?_
      refine pw_iload 52 rfl dX0_chanceOfStile_50 rfl ?_
      refine pw_iload_n 53 rfl dX0_chanceOfStile_52 rfl ?_
      refine pw_icmp_lt (tgt := 61) 56 rfl dX0_chanceOfStile_53 rfl (fun h53 => ?_) (fun h53 => absurd (by (simp (disch := omega) only [nI_leI, nI_ltI, nI_eq, show (0 : Int32) = nI 0 from rfl, not_true_eq_false, not_false_eq_true] <;> omega)) h53)
      refine pw_lconst 62 rfl dX0_chanceOfStile_61 rfl ?_
      refine pw_ladd 63 rfl dX0_chanceOfStile_62 ?_
      refine pw_lstore 65 rfl dX0_chanceOfStile_63 (by decide) ?_
      refine pw_iincN 68 rfl dX0_chanceOfStile_65 (by decide) rfl ?_
      refine pw_goto (tgt := 15) dX0_chanceOfStile_68 rfl ?_
      rotate_left
      exact ih _ _
def wth (x y v : Nat) : Int32 := nI ((x + y) / 2) + nI (if y < x then v else 0) - nI (x + (x - 4))
def bstA (x y v : Nat) : Nat → Bool
  | 0 => true
  | z + 1 => bstA x y v z && decide (wth z y v ≤ wth x y v)
set_option maxRecDepth 100000 in
set_option maxHeartbeats 2000000 in
theorem x_worth {d x y v : Nat} {I : pI} {J : pJ} (hx : x < 10) (hy : y < 10) : PC SX (d + 1) yX0_worth cX0_worth 4 (some .int) [.int (nI x), .int (nI y), .int (nI v)] (I) (J) (RX) (pPu (.int (wth x y v)) I J RX) := by
  refine PC.of [some (.int (nI x)), some (.int (nI y)), some (.int (nI v)), none] rfl rfl (Nat.le_of_ble_eq_true rfl) ?_
  refine pw_iload_n 1 rfl dX0_worth_0 rfl ?_
  refine pw_iconst (v := nI 0) 2 rfl dX0_worth_1 rfl ?_
  refine pw_iload_n 3 rfl dX0_worth_2 rfl ?_
  refine pw_iconst (v := nI 4) 4 rfl dX0_worth_3 rfl ?_
  refine pw_isub 5 rfl dX0_worth_4 ?_
  refine pw_mmax 8 rfl dX0_worth_5 mX0_34 (Nat.le_of_ble_eq_true rfl) ?_
  rotate_left
  rw [nI_subm (by omega) (by omega)]
  by_cases hc : y < x
  · rw [wth, if_pos hc]
    first | refine pw_iaddN 9 rfl dX0_worth_8 ?_ | refine pw_iadd 9 rfl dX0_worth_8 ?_
    refine pw_istore_n 10 rfl dX0_worth_9 (by decide) ?_
    refine pw_iload_n 11 rfl dX0_worth_10 rfl ?_
    refine pw_iload_n 12 rfl dX0_worth_11 rfl ?_
    first | refine pw_iaddN 13 rfl dX0_worth_12 ?_ | refine pw_iadd 13 rfl dX0_worth_12 ?_
    refine pw_iconst (v := nI 2) 14 rfl dX0_worth_13 rfl ?_
    refine pw_idivN 15 rfl dX0_worth_14 (by omega) (by omega) (by omega) ?_
    refine pw_iload_n 16 rfl dX0_worth_15 rfl ?_
    refine pw_iload_n 17 rfl dX0_worth_16 rfl ?_
    refine pw_icmp_le (tgt := 24) 20 rfl dX0_worth_17 rfl (fun h17 => absurd h17 (by (simp (disch := omega) only [nI_leI, nI_ltI, nI_eq, show (0 : Int32) = nI 0 from rfl, not_true_eq_false, not_false_eq_true] <;> omega))) (fun h17 => ?_)
    refine pw_iload_n 21 rfl dX0_worth_20 rfl ?_
    refine pw_goto (tgt := 25) dX0_worth_21 rfl ?_
    refine pw_iadd 26 rfl dX0_worth_25 ?_
    refine pw_iload_n 27 rfl dX0_worth_26 rfl ?_
    refine pw_isub 28 rfl dX0_worth_27 ?_
    refine pw_iret dX0_worth_28 rfl ?_
    rotate_left
    exact ⟨rfl, rfl, rfl, rfl⟩
  · rw [wth, if_neg hc]
    first | refine pw_iaddN 9 rfl dX0_worth_8 ?_ | refine pw_iadd 9 rfl dX0_worth_8 ?_
    refine pw_istore_n 10 rfl dX0_worth_9 (by decide) ?_
    refine pw_iload_n 11 rfl dX0_worth_10 rfl ?_
    refine pw_iload_n 12 rfl dX0_worth_11 rfl ?_
    first | refine pw_iaddN 13 rfl dX0_worth_12 ?_ | refine pw_iadd 13 rfl dX0_worth_12 ?_
    refine pw_iconst (v := nI 2) 14 rfl dX0_worth_13 rfl ?_
    refine pw_idivN 15 rfl dX0_worth_14 (by omega) (by omega) (by omega) ?_
    refine pw_iload_n 16 rfl dX0_worth_15 rfl ?_
    refine pw_iload_n 17 rfl dX0_worth_16 rfl ?_
    refine pw_icmp_le (tgt := 24) 20 rfl dX0_worth_17 rfl (fun h17 => ?_) (fun h17 => absurd (by (simp (disch := omega) only [nI_leI, nI_ltI, nI_eq, show (0 : Int32) = nI 0 from rfl, not_true_eq_false, not_false_eq_true] <;> omega)) h17)
    refine pw_iconst (v := nI 0) 25 rfl dX0_worth_24 rfl ?_
    refine pw_iadd 26 rfl dX0_worth_25 ?_
    refine pw_iload_n 27 rfl dX0_worth_26 rfl ?_
    refine pw_isub 28 rfl dX0_worth_27 ?_
    refine pw_iret dX0_worth_28 rfl ?_
    rotate_left
    exact ⟨rfl, rfl, rfl, rfl⟩
theorem bst_false {x y v z : Nat} (h : ¬ wth z y v ≤ wth x y v) : ∀ k, z < k → bstA x y v k = false
  | 0, hk => by omega
  | k + 1, hk => by
    rw [bstA]
    by_cases e : z = k
    · subst e; rw [decide_eq_false h, Bool.and_false]
    · rw [bst_false h k (by omega), Bool.false_and]
set_option maxRecDepth 100000 in
set_option maxHeartbeats 2000000 in
theorem x_bestAgainst {d x y v : Nat} {I : pI} {J : pJ} (hx : x < 10) (hy : y < 10) : PC SX (d + 2) yX0_bestAgainst cX0_bestAgainst 5 (some .boolean) [.int (nI x), .int (nI y), .int (nI v)] (I) (J) (RX) (pPu (.int (nI (if bstA x y v 10 then 1 else 0))) I J RX) := by
  refine PC.of [some (.int (nI x)), some (.int (nI y)), some (.int (nI v)), none, none] rfl rfl (Nat.le_of_ble_eq_true rfl) ?_
  refine pw_iload_n 1 rfl dX0_bestAgainst_0 rfl ?_
  refine pw_iload_n 2 rfl dX0_bestAgainst_1 rfl ?_
  refine pw_iload_n 3 rfl dX0_bestAgainst_2 rfl ?_
  refine pw_callSP (as := [_, _, _]) 6 rfl dX0_bestAgainst_3 mX0_65 sX0_worth (x_worth (d := d) hx hy) ⟨rfl, by decide, by decide, show (parseMethodDescriptor yX0_worth.desc).map (fun d => d.parameters.length) = some 3 by decide +kernel⟩ (by omega) (by decide) (Nat.le_of_ble_eq_true rfl) rfl ?_
  refine pw_istore_n 7 rfl dX0_bestAgainst_6 (by decide) ?_
  refine pw_iconst (v := nI 0) 8 rfl dX0_bestAgainst_7 rfl ?_
  refine pw_istore 10 rfl dX0_bestAgainst_8 (by decide) ?_
  rotate_left
  have L := nat_loop 10 (fun z => bstA x y v z = true → PW SX yX0_bestAgainst.cls cX0_bestAgainst 5 (d + 2) 10 [some (.int (nI x)), some (.int (nI y)), some (.int (nI v)), some (.int (wth x y v)), some (.int (nI z))] [] (I) (J) (RX) (rX cX0_bestAgainst (some .boolean) (pPu (.int (nI (if bstA x y v 10 then 1 else 0))) I J RX))) ?_ ?_
  · exact L rfl
  · intro hb
    rw [hb, if_pos rfl]
    refine pw_iload 12 rfl dX0_bestAgainst_10 rfl ?_
    refine pw_bipush (v := nI 9) 14 rfl dX0_bestAgainst_12 rfl ?_
    refine pw_icmp_gt (tgt := 36) 17 rfl dX0_bestAgainst_14 rfl (fun h14 => ?_) (fun h14 => absurd (by (simp (disch := omega) only [nI_leI, nI_ltI, nI_eq, show (0 : Int32) = nI 0 from rfl, not_true_eq_false, not_false_eq_true] <;> omega)) h14)
    refine pw_iconst (v := nI 1) 37 rfl dX0_bestAgainst_36 rfl ?_
    refine pw_iret dX0_bestAgainst_37 rfl ?_
    rotate_left
    exact ⟨rfl, rfl, rfl, rfl⟩
  · intro z hz ih hb
    by_cases hc : wth z y v ≤ wth x y v
    · refine pw_iload 12 rfl dX0_bestAgainst_10 rfl ?_
      refine pw_bipush (v := nI 9) 14 rfl dX0_bestAgainst_12 rfl ?_
      refine pw_icmp_gt (tgt := 36) 17 rfl dX0_bestAgainst_14 rfl (fun h14 => absurd h14 (by (simp (disch := omega) only [nI_leI, nI_ltI, nI_eq, show (0 : Int32) = nI 0 from rfl, not_true_eq_false, not_false_eq_true] <;> omega))) (fun h14 => ?_)
      refine pw_iload 19 rfl dX0_bestAgainst_17 rfl ?_
      refine pw_iload_n 20 rfl dX0_bestAgainst_19 rfl ?_
      refine pw_iload_n 21 rfl dX0_bestAgainst_20 rfl ?_
      refine pw_callSP (as := [_, _, _]) 24 rfl dX0_bestAgainst_21 mX0_65 sX0_worth (x_worth (d := d) hz hy) ⟨rfl, by decide, by decide, show (parseMethodDescriptor yX0_worth.desc).map (fun d => d.parameters.length) = some 3 by decide +kernel⟩ (by omega) (by decide) (Nat.le_of_ble_eq_true rfl) rfl ?_
      refine pw_iload_n 25 rfl dX0_bestAgainst_24 rfl ?_
      refine pw_icmp_le (tgt := 30) 28 rfl dX0_bestAgainst_25 rfl (fun h25 => ?_) (fun h25 => absurd hc h25)
      refine pw_iincN 33 rfl dX0_bestAgainst_30 (by decide) rfl ?_
      refine pw_goto (tgt := 10) dX0_bestAgainst_33 rfl ?_
      rotate_left
      exact ih (by rw [bstA, hb, decide_eq_true hc]; rfl)
    · rw [bst_false hc 10 hz]
      refine pw_iload 12 rfl dX0_bestAgainst_10 rfl ?_
      refine pw_bipush (v := nI 9) 14 rfl dX0_bestAgainst_12 rfl ?_
      refine pw_icmp_gt (tgt := 36) 17 rfl dX0_bestAgainst_14 rfl (fun h14 => absurd h14 (by (simp (disch := omega) only [nI_leI, nI_ltI, nI_eq, show (0 : Int32) = nI 0 from rfl, not_true_eq_false, not_false_eq_true] <;> omega))) (fun h14 => ?_)
      refine pw_iload 19 rfl dX0_bestAgainst_17 rfl ?_
      refine pw_iload_n 20 rfl dX0_bestAgainst_19 rfl ?_
      refine pw_iload_n 21 rfl dX0_bestAgainst_20 rfl ?_
      refine pw_callSP (as := [_, _, _]) 24 rfl dX0_bestAgainst_21 mX0_65 sX0_worth (x_worth (d := d) hz hy) ⟨rfl, by decide, by decide, show (parseMethodDescriptor yX0_worth.desc).map (fun d => d.parameters.length) = some 3 by decide +kernel⟩ (by omega) (by decide) (Nat.le_of_ble_eq_true rfl) rfl ?_
      refine pw_iload_n 25 rfl dX0_bestAgainst_24 rfl ?_
      refine pw_icmp_le (tgt := 30) 28 rfl dX0_bestAgainst_25 rfl (fun h25 => absurd h25 hc) (fun h25 => ?_)
      refine pw_iconst (v := nI 0) 29 rfl dX0_bestAgainst_28 rfl ?_
      refine pw_iret dX0_bestAgainst_29 rfl ?_
      rotate_left
      exact ⟨rfl, rfl, rfl, rfl⟩
def rsP (v k : Nat) : Bool := bstA (k / 10) (k % 10) v 10 && bstA (k % 10) (k / 10) v 10
def rsO (o : Option Nat) : List Int64 := match o with
  | none => []
  | some f => [lI (f / 10), lI (f % 10)]
theorem rsP_at {v x y : Nat} (hy : y < 10) : rsP v (10 * x + y) = (bstA x y v 10 && bstA y x v 10) := by
  rw [rsP, show (10 * x + y) / 10 = x by omega, show (10 * x + y) % 10 = y by omega]
set_option maxRecDepth 100000 in
set_option maxHeartbeats 2000000 in
theorem x_restingPairs {d v : Nat} {I : pI} {J : pJ} : PC SX (d + 3) yX0_restingPairs cX0_restingPairs 5 (some .int) [.ref 67, .int (nI v)] (I) (J) (RX) (fun r' I' J' R' => r' = some (.int (nI (cntP (rsP v) 100))) ∧ XN I' J' (rsO (fstL (rsP v) 100)) ∧ (∀ a, a ≠ 19 → I' a = I a) ∧ R' = RX) := by
  refine PC.of [some (.ref 67), some (.int (nI v)), none, none, none] rfl rfl (Nat.le_of_ble_eq_true rfl) ?_
  generalize hM : 100 = M
  have hrs : ∀ x y, y < 10 → rsP v (10 * x + y) = (bstA x y v 10 && bstA y x v 10) := fun x y hy => rsP_at hy
  have hcl := cntP_le (rsP v)
  have hfc := fstL_cnt (rsP v)
  have hfy := @fstL_y (rsP v)
  have hfs := @fstL_s (rsP v)
  have hfn := @fstL_n (rsP v)
  have hcy := @cntP_y (rsP v)
  have hcn := @cntP_n (rsP v)
  generalize rsP v = P at hrs hcl hfc hfy hfs hfn hcy hcn ⊢
  refine pw_iconst (v := nI 0) 1 rfl dX0_restingPairs_0 rfl ?_
  refine pw_istore_n 2 rfl dX0_restingPairs_1 (by decide) ?_
  refine pw_aload_n 3 rfl dX0_restingPairs_2 rfl ?_
  refine pw_getR 6 rfl dX0_restingPairs_3 fX0_16 (by first | rfl | assumption | exact rowS hh | exact mtS hm | exact ruS hr | exact mtA1 hm | exact mtA2 hm | exact mtA3 hm | exact mtA4 hm | exact mtA5 hm | exact mtA6 hm | exact mtA7 hm | exact ruA1 hr | exact ruA2 hr | exact ruA3 hr) rfl (by first | rfl | assumption | exact mtR0 hm | exact mtR1 hm | exact mtR2 hm | exact mtR3 hm | exact mtR4 hm | exact mtR5 hm | exact mtR6 hm | exact ruR0 hr | exact ruR1 hr | exact ruR3 hr) ?_
  refine pw_callV (as := []) 9 rfl dX0_restingPairs_6 mX0_44 vX2_clear (x_clear (d := d + 2)) (by first | rfl | assumption | exact rowS hh | exact mtS hm | exact ruS hr | exact mtA1 hm | exact mtA2 hm | exact mtA3 hm | exact mtA4 hm | exact mtA5 hm | exact mtA6 hm | exact mtA7 hm | exact ruA1 hr | exact ruA2 hr | exact ruA3 hr) rfl (by decide) ⟨rfl, by decide, by decide, show (parseMethodDescriptor yX2_clear.desc).map (fun d => d.parameters.length) = some 0 by decide +kernel⟩ (by omega) (by decide) (Nat.le_of_ble_eq_true rfl) rfl (fun r6 I6 J6 R6 c6 => ?_)
  obtain ⟨rfl, a1, a2, rfl⟩ := c6
  refine pw_iconst (v := nI 0) 10 rfl dX0_restingPairs_9 rfl ?_
  refine pw_istore_n 11 rfl dX0_restingPairs_10 (by decide) ?_
  rotate_left
  have L := nat_loop 10 (fun x => ∀ (I' : pI) (J' : pJ) (x4 : Option Value), XN I' J' (rsO (fstL P (10 * x))) → (∀ a, a ≠ 19 → I' a = I a) → PW SX yX0_restingPairs.cls cX0_restingPairs 5 (d + 3) 11 [some (.ref 67), some (.int (nI v)), some (.int (nI (cntP P (10 * x)))), some (.int (nI x)), x4] [] I' J' RX (rX cX0_restingPairs (some .int) (fun r' I' J' R' => r' = some (.int (nI (cntP P M))) ∧ XN I' J' (rsO (fstL P M)) ∧ (∀ a, a ≠ 19 → I' a = I a) ∧ R' = RX))) ?_ ?_
  · exact L _ _ _ a1 a2
  · intro I' J' x4 g1 g2
    refine pw_iload_n 12 rfl dX0_restingPairs_11 rfl ?_
    refine pw_bipush (v := nI 9) 14 rfl dX0_restingPairs_12 rfl ?_
    refine pw_icmp_gt (tgt := 81) 17 rfl dX0_restingPairs_14 rfl (fun h14 => ?_) (fun h14 => absurd (by (simp (disch := omega) only [nI_leI, nI_ltI, nI_eq, show (0 : Int32) = nI 0 from rfl, not_true_eq_false, not_false_eq_true] <;> omega)) h14)
    refine pw_iload_n 82 rfl dX0_restingPairs_81 rfl ?_
    refine pw_iret dX0_restingPairs_82 rfl ?_
    rotate_left
    rw [← hM]
    exact ⟨rfl, g1, g2, rfl⟩
  · intro x hx ih I' J' x4 g1 g2
    refine pw_iload_n 12 rfl dX0_restingPairs_11 rfl ?_
    refine pw_bipush (v := nI 9) 14 rfl dX0_restingPairs_12 rfl ?_
    refine pw_icmp_gt (tgt := 81) 17 rfl dX0_restingPairs_14 rfl (fun h14 => absurd h14 (by (simp (disch := omega) only [nI_leI, nI_ltI, nI_eq, show (0 : Int32) = nI 0 from rfl, not_true_eq_false, not_false_eq_true] <;> omega))) (fun h14 => ?_)
    refine pw_iconst (v := nI 0) 18 rfl dX0_restingPairs_17 rfl ?_
    refine pw_istore 20 rfl dX0_restingPairs_18 (by decide) ?_
    rotate_left
    have L2 := nat_loop 10 (fun y => ∀ (I' : pI) (J' : pJ), XN I' J' (rsO (fstL P (10 * x + y))) → (∀ a, a ≠ 19 → I' a = I a) → PW SX yX0_restingPairs.cls cX0_restingPairs 5 (d + 3) 20 [some (.ref 67), some (.int (nI v)), some (.int (nI (cntP P (10 * x + y)))), some (.int (nI x)), some (.int (nI y))] [] I' J' RX (rX cX0_restingPairs (some .int) (fun r' I' J' R' => r' = some (.int (nI (cntP P M))) ∧ XN I' J' (rsO (fstL P M)) ∧ (∀ a, a ≠ 19 → I' a = I a) ∧ R' = RX))) ?_ ?_
    · exact L2 _ _ g1 g2
    · intro I' J' g1 g2
      refine pw_iload 22 rfl dX0_restingPairs_20 rfl ?_
      refine pw_bipush (v := nI 9) 24 rfl dX0_restingPairs_22 rfl ?_
      refine pw_icmp_gt (tgt := 75) 27 rfl dX0_restingPairs_24 rfl (fun h24 => ?_) (fun h24 => absurd (by (simp (disch := omega) only [nI_leI, nI_ltI, nI_eq, show (0 : Int32) = nI 0 from rfl, not_true_eq_false, not_false_eq_true] <;> omega)) h24)
      refine pw_iincN 78 rfl dX0_restingPairs_75 (by decide) rfl ?_
      refine pw_goto (tgt := 11) dX0_restingPairs_78 rfl ?_
      rotate_left
      exact ih I' J' _ (by rw [show 10 * (x + 1) = 10 * x + 10 by omega]; exact g1) g2
    · intro y hy ih2 I' J' g1 g2
      have he := hrs x y hy
      have hle := hcl (10 * x + y)
      rw [← Nat.add_assoc] at ih2
      cases h1 : bstA x y v 10 with
      | false =>
        rw [h1, Bool.false_and] at he
        rw [hcn he, hfn he] at ih2
        refine pw_iload 22 rfl dX0_restingPairs_20 rfl ?_
        refine pw_bipush (v := nI 9) 24 rfl dX0_restingPairs_22 rfl ?_
        refine pw_icmp_gt (tgt := 75) 27 rfl dX0_restingPairs_24 rfl (fun h24 => absurd h24 (by (simp (disch := omega) only [nI_leI, nI_ltI, nI_eq, show (0 : Int32) = nI 0 from rfl, not_true_eq_false, not_false_eq_true] <;> omega))) (fun h24 => ?_)
        refine pw_iload_n 28 rfl dX0_restingPairs_27 rfl ?_
        refine pw_iload 30 rfl dX0_restingPairs_28 rfl ?_
        refine pw_iload_n 31 rfl dX0_restingPairs_30 rfl ?_
        refine pw_callSP (as := [_, _, _]) 34 rfl dX0_restingPairs_31 mX0_62 sX0_bestAgainst (x_bestAgainst (d := d) hx hy) ⟨rfl, by decide, by decide, show (parseMethodDescriptor yX0_bestAgainst.desc).map (fun d => d.parameters.length) = some 3 by decide +kernel⟩ (by omega) (by decide) (Nat.le_of_ble_eq_true rfl) rfl ?_
        refine pw_if_eq (tgt := 69) 37 rfl dX0_restingPairs_34 rfl (fun h34 => ?_) (fun h34 => absurd (by rw [h1]; rfl) h34)
        refine pw_iincN 72 rfl dX0_restingPairs_69 (by decide) rfl ?_
        refine pw_goto (tgt := 20) dX0_restingPairs_72 rfl ?_
        rotate_left
        exact ih2 _ _ g1 g2
      | true =>
        cases h2 : bstA y x v 10 with
        | false =>
          rw [h1, h2] at he
          rw [hcn he, hfn he] at ih2
          refine pw_iload 22 rfl dX0_restingPairs_20 rfl ?_
          refine pw_bipush (v := nI 9) 24 rfl dX0_restingPairs_22 rfl ?_
          refine pw_icmp_gt (tgt := 75) 27 rfl dX0_restingPairs_24 rfl (fun h24 => absurd h24 (by (simp (disch := omega) only [nI_leI, nI_ltI, nI_eq, show (0 : Int32) = nI 0 from rfl, not_true_eq_false, not_false_eq_true] <;> omega))) (fun h24 => ?_)
          refine pw_iload_n 28 rfl dX0_restingPairs_27 rfl ?_
          refine pw_iload 30 rfl dX0_restingPairs_28 rfl ?_
          refine pw_iload_n 31 rfl dX0_restingPairs_30 rfl ?_
          refine pw_callSP (as := [_, _, _]) 34 rfl dX0_restingPairs_31 mX0_62 sX0_bestAgainst (x_bestAgainst (d := d) hx hy) ⟨rfl, by decide, by decide, show (parseMethodDescriptor yX0_bestAgainst.desc).map (fun d => d.parameters.length) = some 3 by decide +kernel⟩ (by omega) (by decide) (Nat.le_of_ble_eq_true rfl) rfl ?_
          refine pw_if_eq (tgt := 69) 37 rfl dX0_restingPairs_34 rfl (fun h34 => absurd h34 (by rw [h1]; decide)) (fun h34 => ?_)
          refine pw_iload 39 rfl dX0_restingPairs_37 rfl ?_
          refine pw_iload_n 40 rfl dX0_restingPairs_39 rfl ?_
          refine pw_iload_n 41 rfl dX0_restingPairs_40 rfl ?_
          refine pw_callSP (as := [_, _, _]) 44 rfl dX0_restingPairs_41 mX0_62 sX0_bestAgainst (x_bestAgainst (d := d) hy hx) ⟨rfl, by decide, by decide, show (parseMethodDescriptor yX0_bestAgainst.desc).map (fun d => d.parameters.length) = some 3 by decide +kernel⟩ (by omega) (by decide) (Nat.le_of_ble_eq_true rfl) rfl ?_
          refine pw_if_ne (tgt := 50) 47 rfl dX0_restingPairs_44 rfl (fun h44 => absurd (by rw [h2]; rfl) h44) (fun h44 => ?_)
          refine pw_goto (tgt := 69) dX0_restingPairs_47 rfl ?_
          refine pw_iincN 72 rfl dX0_restingPairs_69 (by decide) rfl ?_
          refine pw_goto (tgt := 20) dX0_restingPairs_72 rfl ?_
          rotate_left
          exact ih2 _ _ g1 g2
        | true =>
          rw [h1, h2] at he
          rw [hcy he] at ih2
          by_cases h0 : cntP P (10 * x + y) = 0
          · rw [hfy h0 he] at ih2
            refine pw_iload 22 rfl dX0_restingPairs_20 rfl ?_
            refine pw_bipush (v := nI 9) 24 rfl dX0_restingPairs_22 rfl ?_
            refine pw_icmp_gt (tgt := 75) 27 rfl dX0_restingPairs_24 rfl (fun h24 => absurd h24 (by (simp (disch := omega) only [nI_leI, nI_ltI, nI_eq, show (0 : Int32) = nI 0 from rfl, not_true_eq_false, not_false_eq_true] <;> omega))) (fun h24 => ?_)
            refine pw_iload_n 28 rfl dX0_restingPairs_27 rfl ?_
            refine pw_iload 30 rfl dX0_restingPairs_28 rfl ?_
            refine pw_iload_n 31 rfl dX0_restingPairs_30 rfl ?_
            refine pw_callSP (as := [_, _, _]) 34 rfl dX0_restingPairs_31 mX0_62 sX0_bestAgainst (x_bestAgainst (d := d) hx hy) ⟨rfl, by decide, by decide, show (parseMethodDescriptor yX0_bestAgainst.desc).map (fun d => d.parameters.length) = some 3 by decide +kernel⟩ (by omega) (by decide) (Nat.le_of_ble_eq_true rfl) rfl ?_
            refine pw_if_eq (tgt := 69) 37 rfl dX0_restingPairs_34 rfl (fun h34 => absurd h34 (by rw [h1]; decide)) (fun h34 => ?_)
            refine pw_iload 39 rfl dX0_restingPairs_37 rfl ?_
            refine pw_iload_n 40 rfl dX0_restingPairs_39 rfl ?_
            refine pw_iload_n 41 rfl dX0_restingPairs_40 rfl ?_
            refine pw_callSP (as := [_, _, _]) 44 rfl dX0_restingPairs_41 mX0_62 sX0_bestAgainst (x_bestAgainst (d := d) hy hx) ⟨rfl, by decide, by decide, show (parseMethodDescriptor yX0_bestAgainst.desc).map (fun d => d.parameters.length) = some 3 by decide +kernel⟩ (by omega) (by decide) (Nat.le_of_ble_eq_true rfl) rfl ?_
            refine pw_if_ne (tgt := 50) 47 rfl dX0_restingPairs_44 rfl (fun h44 => ?_) (fun h44 => absurd h44 (by rw [h2]; decide))
            refine pw_iload_n 51 rfl dX0_restingPairs_50 rfl ?_
            refine pw_if_ne (tgt := 66) 54 rfl dX0_restingPairs_51 rfl (fun h51 => absurd (by rw [h0]; rfl) h51) (fun h51 => ?_)
            refine pw_aload_n 55 rfl dX0_restingPairs_54 rfl ?_
            refine pw_getR 58 rfl dX0_restingPairs_55 fX0_16 (by first | rfl | assumption | exact rowS hh | exact mtS hm | exact ruS hr | exact mtA1 hm | exact mtA2 hm | exact mtA3 hm | exact mtA4 hm | exact mtA5 hm | exact mtA6 hm | exact mtA7 hm | exact ruA1 hr | exact ruA2 hr | exact ruA3 hr) rfl (by first | rfl | assumption | exact mtR0 hm | exact mtR1 hm | exact mtR2 hm | exact mtR3 hm | exact mtR4 hm | exact mtR5 hm | exact mtR6 hm | exact ruR0 hr | exact ruR1 hr | exact ruR3 hr) ?_
            refine pw_iload_n 59 rfl dX0_restingPairs_58 rfl ?_
            refine pw_i2l 60 rfl dX0_restingPairs_59 ?_
            refine pw_iload 62 rfl dX0_restingPairs_60 rfl ?_
            refine pw_i2l 63 rfl dX0_restingPairs_62 ?_
            refine pw_callV (as := [_, _]) 66 rfl dX0_restingPairs_63 mX0_28 vX2_tellTwo (x_tellTwo (d := d) _ _) (by first | rfl | assumption | exact rowS hh | exact mtS hm | exact ruS hr | exact mtA1 hm | exact mtA2 hm | exact mtA3 hm | exact mtA4 hm | exact mtA5 hm | exact mtA6 hm | exact mtA7 hm | exact ruA1 hr | exact ruA2 hr | exact ruA3 hr) rfl (by decide) ⟨rfl, by decide, by decide, show (parseMethodDescriptor yX2_tellTwo.desc).map (fun d => d.parameters.length) = some 2 by decide +kernel⟩ (by omega) (by decide) (Nat.le_of_ble_eq_true rfl) rfl (fun r63 I63 J63 R63 c63 => ?_)
            obtain ⟨rfl, b1, b2, rfl⟩ := c63
            rotate_left
            refine pw_iincN 69 rfl dX0_restingPairs_66 (by decide) rfl ?_
            refine pw_iincN 72 rfl dX0_restingPairs_69 (by decide) rfl ?_
            refine pw_goto (tgt := 20) dX0_restingPairs_72 rfl ?_
            rotate_left
            exact ih2 _ _ (by rw [rsO, show (10 * x + y) / 10 = x by omega, show (10 * x + y) % 10 = y by omega]; exact b1) (fun a h => by rw [b2 a h, g2 a h])
          · cases hf : fstL P (10 * x + y) with
            | none => exact absurd ((hfc _).mp hf) h0
            | some f =>
              rw [hfs hf] at ih2
              rw [hf] at g1
              refine pw_iload 22 rfl dX0_restingPairs_20 rfl ?_
              refine pw_bipush (v := nI 9) 24 rfl dX0_restingPairs_22 rfl ?_
              refine pw_icmp_gt (tgt := 75) 27 rfl dX0_restingPairs_24 rfl (fun h24 => absurd h24 (by (simp (disch := omega) only [nI_leI, nI_ltI, nI_eq, show (0 : Int32) = nI 0 from rfl, not_true_eq_false, not_false_eq_true] <;> omega))) (fun h24 => ?_)
              refine pw_iload_n 28 rfl dX0_restingPairs_27 rfl ?_
              refine pw_iload 30 rfl dX0_restingPairs_28 rfl ?_
              refine pw_iload_n 31 rfl dX0_restingPairs_30 rfl ?_
              refine pw_callSP (as := [_, _, _]) 34 rfl dX0_restingPairs_31 mX0_62 sX0_bestAgainst (x_bestAgainst (d := d) hx hy) ⟨rfl, by decide, by decide, show (parseMethodDescriptor yX0_bestAgainst.desc).map (fun d => d.parameters.length) = some 3 by decide +kernel⟩ (by omega) (by decide) (Nat.le_of_ble_eq_true rfl) rfl ?_
              refine pw_if_eq (tgt := 69) 37 rfl dX0_restingPairs_34 rfl (fun h34 => absurd h34 (by rw [h1]; decide)) (fun h34 => ?_)
              refine pw_iload 39 rfl dX0_restingPairs_37 rfl ?_
              refine pw_iload_n 40 rfl dX0_restingPairs_39 rfl ?_
              refine pw_iload_n 41 rfl dX0_restingPairs_40 rfl ?_
              refine pw_callSP (as := [_, _, _]) 44 rfl dX0_restingPairs_41 mX0_62 sX0_bestAgainst (x_bestAgainst (d := d) hy hx) ⟨rfl, by decide, by decide, show (parseMethodDescriptor yX0_bestAgainst.desc).map (fun d => d.parameters.length) = some 3 by decide +kernel⟩ (by omega) (by decide) (Nat.le_of_ble_eq_true rfl) rfl ?_
              refine pw_if_ne (tgt := 50) 47 rfl dX0_restingPairs_44 rfl (fun h44 => ?_) (fun h44 => absurd h44 (by rw [h2]; decide))
              refine pw_iload_n 51 rfl dX0_restingPairs_50 rfl ?_
              refine pw_if_ne (tgt := 66) 54 rfl dX0_restingPairs_51 rfl (fun h51 => ?_) (fun h51 => absurd h51 (nI_ne0 (by omega) (by omega)))
              refine pw_iincN 69 rfl dX0_restingPairs_66 (by decide) rfl ?_
              refine pw_iincN 72 rfl dX0_restingPairs_69 (by decide) rfl ?_
              refine pw_goto (tgt := 20) dX0_restingPairs_72 rfl ?_
              rotate_left
              exact ih2 _ _ g1 g2
