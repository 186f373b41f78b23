/-- the nearest two: how far, who -/
def nst (b : Nat → Nat) (i j : Nat) (c : Option (Nat × Nat × Nat)) : Option (Nat × Nat × Nat) := match c with
  | none => some (dist (b i) (b j), i, j)
  | some x => if dist (b i) (b j) < x.1 then some (dist (b i) (b j), i, j) else some x
def nin (b : Nat → Nat) (i : Nat) (c : Option (Nat × Nat × Nat)) : Nat → Option (Nat × Nat × Nat)
  | 0 => c
  | k + 1 => nst b i (i + 1 + k) (nin b i c k)
def nout (b : Nat → Nat) (n : Nat) : Nat → Option (Nat × Nat × Nat)
  | 0 => none
  | i + 1 => nin b i (nout b n i) (n - (i + 1))
def nrV (c : Option (Nat × Nat × Nat)) : Int32 := match c with
  | none => -2
  | some x => nI x.1
def nrW (c : Option (Nat × Nat × Nat)) (rw : List Int64) : List Int64 := match c with
  | none => rw
  | some x => [lI x.2.1, lI x.2.2]
theorem nin_le {b : Nat → Nat} {i n M : Nat} (hb : ∀ y, y < n → dist (b i) (b y) ≤ M) {c : Option (Nat × Nat × Nat)} (hc : ∀ x, c = some x → x.1 ≤ M) : ∀ k, i + 1 + k ≤ n → ∀ x, nin b i c k = some x → x.1 ≤ M
  | 0, _, x, h => hc x h
  | k + 1, hk, x, h => by
    have h1 : nst b i (i + 1 + k) (nin b i c k) = some x := h
    cases e : nin b i c k with
    | none => rw [e] at h1; cases h1; exact hb _ (by omega)
    | some y =>
      rw [e] at h1
      have h' : (if dist (b i) (b (i + 1 + k)) < y.1 then some (dist (b i) (b (i + 1 + k)), i, i + 1 + k) else some y) = some x := h1
      split at h'
      · cases h'; exact hb _ (by omega)
      · cases h'; exact nin_le hb hc k (by omega) x e
theorem nout_le {b : Nat → Nat} {n M : Nat} (hb : ∀ x y, x < n → y < n → dist (b x) (b y) ≤ M) : ∀ i, i ≤ n → ∀ x, nout b n i = some x → x.1 ≤ M
  | 0, _, x, h => by cases h
  | i + 1, hi, x, h => nin_le (n := n) (fun y hy => hb i y (by omega) hy) (fun y hy => nout_le hb i (by omega) y hy) (n - (i + 1)) (by omega) x h
set_option maxRecDepth 100000 in
set_option maxHeartbeats 2000000 in
theorem x_nearestTwo {d n : Nat} {pc b : Nat → Nat} {I : pI} {J : pJ} {rw : List Int64} (hM : XM I 1 n pc b) (hW : WF n pc b) (hR : XN I J rw) : PC SX (d + 3) yX9_nearestTwo cX9_nearestTwo 5 (some .int) [.ref 60] (I) (J) (RX) (fun r' I' J' R' => r' = some (.int (nrV (nout b n n))) ∧ XN I' J' (nrW (nout b n n) rw) ∧ fS I I' ∧ R' = RX) := by
  refine PC.of [some (.ref 60), none, none, none, none] rfl rfl (Nat.le_of_ble_eq_true rfl) ?_
  have h7 := hW.1
  have hdm : ∀ x y, x < n → y < n → dist (b x) (b y) ≤ 9 := fun x y hx hy => by have := hW.2.2.2.2 x (by omega); have := hW.2.2.2.2 y (by omega); have := hW.2.1; unfold dist; split <;> omega
  have last : ∀ (I' : pI) (J' : pJ) (x2 x3 x4 : Option Value), XN I' J' (nrW (nout b n n) rw) → (∀ a, a ≠ 19 → I' a = I a) → PW SX yX9_nearestTwo.cls cX9_nearestTwo 5 (d + 3) 103 [some (.ref 60), some (.int (nrV (nout b n n))), x2, x3, x4] [] (I') (J') (RX) (rX cX9_nearestTwo (some .int) (fun r' I' J' R' => r' = some (.int (nrV (nout b n n))) ∧ XN I' J' (nrW (nout b n n) rw) ∧ fS I I' ∧ R' = RX)) := by
    intro I' J' x2 x3 x4 g1 g2
    refine pw_iload_n 104 rfl dX9_nearestTwo_103 rfl ?_
    refine pw_iret dX9_nearestTwo_104 rfl ?_
    rotate_left
    exact ⟨rfl, g1, fun a h1 h2 => g2 a h1, rfl⟩
  refine pw_bipush (v := -2) 2 rfl dX9_nearestTwo_0 rfl ?_
  refine pw_istore_n 3 rfl dX9_nearestTwo_2 (by decide) ?_
  refine pw_iconst (v := nI 0) 4 rfl dX9_nearestTwo_3 rfl ?_
  refine pw_istore_n 5 rfl dX9_nearestTwo_4 (by decide) ?_
  rotate_left
  have L := nat_loop n (fun i => ∀ (I' : pI) (J' : pJ) (x3 x4 : Option Value), XN I' J' (nrW (nout b n i) rw) → (∀ a, a ≠ 19 → I' a = I a) → PW SX yX9_nearestTwo.cls cX9_nearestTwo 5 (d + 3) 5 [some (.ref 60), some (.int (nrV (nout b n i))), some (.int (nI i)), x3, x4] [] (I') (J') (RX) (rX cX9_nearestTwo (some .int) (fun r' I' J' R' => r' = some (.int (nrV (nout b n n))) ∧ XN I' J' (nrW (nout b n n) rw) ∧ fS I I' ∧ R' = RX))) ?_ ?_
  · exact L I J none none hR (fun _ _ => rfl)
  · intro I' J' x3 x4 g1 g2
    refine pw_iload_n 6 rfl dX9_nearestTwo_5 rfl ?_
    refine pw_bipush (v := nI 7) 8 rfl dX9_nearestTwo_6 rfl ?_
    refine pw_icmp_ge (tgt := 103) 11 rfl dX9_nearestTwo_8 rfl (fun h8 => ?_) (fun h8 => ?_)
    rotate_left
    refine pw_iload_n 12 rfl dX9_nearestTwo_11 rfl ?_
    refine pw_aload_n 13 rfl dX9_nearestTwo_12 rfl ?_
    refine pw_getR 16 rfl dX9_nearestTwo_13 fX9_15 (by first | rfl | assumption | exact rowS hh | exact mtS hm | exact ruS hr | exact mtA1 hm | exact mtA2 hm | exact mtA3 hm | exact mtA4 hm | exact mtA5 hm | exact mtA6 hm | exact mtA7 hm | exact ruA1 hr | exact ruA2 hr | exact ruA3 hr) rfl (by first | rfl | assumption | exact mtR0 hm | exact mtR1 hm | exact mtR2 hm | exact mtR3 hm | exact mtR4 hm | exact mtR5 hm | exact mtR6 hm | exact ruR0 hr | exact ruR1 hr | exact ruR3 hr) ?_
    refine pw_getI 19 rfl dX9_nearestTwo_16 fX9_23 (by first | rfl | assumption | exact rowS hh | exact mtS hm | exact ruS hr | exact mtA1 hm | exact mtA2 hm | exact mtA3 hm | exact mtA4 hm | exact mtA5 hm | exact mtA6 hm | exact mtA7 hm | exact ruA1 hr | exact ruA2 hr | exact ruA3 hr) rfl ?_
    refine pw_icmp_ge (tgt := 103) 22 rfl dX9_nearestTwo_19 rfl (fun h19 => ?_) (fun h19 => absurd (by rw [g2 1 (by omega), hM.2.1]; (simp (disch := omega) only [nI_leI, nI_ltI, nI_eq, show (0 : Int32) = nI 0 from rfl, not_true_eq_false, not_false_eq_true] <;> omega)) h19)
    rotate_left
    · exact last I' J' _ _ _ g1 g2
    · exact last I' J' _ _ _ g1 g2
  · intro i hi ih I' J' x3 x4 g1 g2
    have hin : i < 7 := by omega
    refine pw_iload_n 6 rfl dX9_nearestTwo_5 rfl ?_
    refine pw_bipush (v := nI 7) 8 rfl dX9_nearestTwo_6 rfl ?_
    refine pw_icmp_ge (tgt := 103) 11 rfl dX9_nearestTwo_8 rfl (fun h8 => absurd h8 (by (simp (disch := omega) only [nI_leI, nI_ltI, nI_eq, show (0 : Int32) = nI 0 from rfl, not_true_eq_false, not_false_eq_true] <;> omega))) (fun h8 => ?_)
    refine pw_iload_n 12 rfl dX9_nearestTwo_11 rfl ?_
    refine pw_aload_n 13 rfl dX9_nearestTwo_12 rfl ?_
    refine pw_getR 16 rfl dX9_nearestTwo_13 fX9_15 (by first | rfl | assumption | exact rowS hh | exact mtS hm | exact ruS hr | exact mtA1 hm | exact mtA2 hm | exact mtA3 hm | exact mtA4 hm | exact mtA5 hm | exact mtA6 hm | exact mtA7 hm | exact ruA1 hr | exact ruA2 hr | exact ruA3 hr) rfl (by first | rfl | assumption | exact mtR0 hm | exact mtR1 hm | exact mtR2 hm | exact mtR3 hm | exact mtR4 hm | exact mtR5 hm | exact mtR6 hm | exact ruR0 hr | exact ruR1 hr | exact ruR3 hr) ?_
    refine pw_getI 19 rfl dX9_nearestTwo_16 fX9_23 (by first | rfl | assumption | exact rowS hh | exact mtS hm | exact ruS hr | exact mtA1 hm | exact mtA2 hm | exact mtA3 hm | exact mtA4 hm | exact mtA5 hm | exact mtA6 hm | exact mtA7 hm | exact ruA1 hr | exact ruA2 hr | exact ruA3 hr) rfl ?_
    refine pw_icmp_ge (tgt := 103) 22 rfl dX9_nearestTwo_19 rfl (fun h19 => absurd h19 (by rw [g2 1 (by omega), hM.2.1]; (simp (disch := omega) only [nI_leI, nI_ltI, nI_eq, show (0 : Int32) = nI 0 from rfl, not_true_eq_false, not_false_eq_true] <;> omega))) (fun h19 => ?_)
    refine pw_iload_n 23 rfl dX9_nearestTwo_22 rfl ?_
    refine pw_iconst (v := nI 1) 24 rfl dX9_nearestTwo_23 rfl ?_
    first | refine pw_iaddN 25 rfl dX9_nearestTwo_24 ?_ | refine pw_iadd 25 rfl dX9_nearestTwo_24 ?_
    refine pw_istore_n 26 rfl dX9_nearestTwo_25 (by decide) ?_
    rotate_left
    have L2 := nat_loop (n - (i + 1)) (fun k => ∀ (I' : pI) (J' : pJ) (x4 : Option Value), XN I' J' (nrW (nin b i (nout b n i) k) rw) → (∀ a, a ≠ 19 → I' a = I a) → PW SX yX9_nearestTwo.cls cX9_nearestTwo 5 (d + 3) 26 [some (.ref 60), some (.int (nrV (nin b i (nout b n i) k))), some (.int (nI i)), some (.int (nI (i + 1 + k))), x4] [] (I') (J') (RX) (rX cX9_nearestTwo (some .int) (fun r' I' J' R' => r' = some (.int (nrV (nout b n n))) ∧ XN I' J' (nrW (nout b n n) rw) ∧ fS I I' ∧ R' = RX))) ?_ ?_
    · exact L2 I' J' x4 g1 g2
    · intro I2 J2 x4 p1 p2
      have fin : ∀ x3, PW SX yX9_nearestTwo.cls cX9_nearestTwo 5 (d + 3) 5 [some (.ref 60), some (.int (nrV (nin b i (nout b n i) (n - (i + 1))))), some (.int (nI (i + 1))), x3, x4] [] (I2) (J2) (RX) (rX cX9_nearestTwo (some .int) (fun r' I' J' R' => r' = some (.int (nrV (nout b n n))) ∧ XN I' J' (nrW (nout b n n) rw) ∧ fS I I' ∧ R' = RX)) := fun x3 => ih I2 J2 x3 x4 p1 p2
      refine pw_iload_n 27 rfl dX9_nearestTwo_26 rfl ?_
      refine pw_bipush (v := nI 7) 29 rfl dX9_nearestTwo_27 rfl ?_
      refine pw_icmp_ge (tgt := 97) 32 rfl dX9_nearestTwo_29 rfl (fun h29 => ?_) (fun h29 => ?_)
      refine pw_iincN 100 rfl dX9_nearestTwo_97 (by decide) rfl ?_
      refine pw_goto (tgt := 5) dX9_nearestTwo_100 rfl ?_
      rotate_left
      refine pw_iload_n 33 rfl dX9_nearestTwo_32 rfl ?_
      refine pw_aload_n 34 rfl dX9_nearestTwo_33 rfl ?_
      refine pw_getR 37 rfl dX9_nearestTwo_34 fX9_15 (by first | rfl | assumption | exact rowS hh | exact mtS hm | exact ruS hr | exact mtA1 hm | exact mtA2 hm | exact mtA3 hm | exact mtA4 hm | exact mtA5 hm | exact mtA6 hm | exact mtA7 hm | exact ruA1 hr | exact ruA2 hr | exact ruA3 hr) rfl (by first | rfl | assumption | exact mtR0 hm | exact mtR1 hm | exact mtR2 hm | exact mtR3 hm | exact mtR4 hm | exact mtR5 hm | exact mtR6 hm | exact ruR0 hr | exact ruR1 hr | exact ruR3 hr) ?_
      refine pw_getI 40 rfl dX9_nearestTwo_37 fX9_23 (by first | rfl | assumption | exact rowS hh | exact mtS hm | exact ruS hr | exact mtA1 hm | exact mtA2 hm | exact mtA3 hm | exact mtA4 hm | exact mtA5 hm | exact mtA6 hm | exact mtA7 hm | exact ruA1 hr | exact ruA2 hr | exact ruA3 hr) rfl ?_
      refine pw_icmp_ge (tgt := 97) 43 rfl dX9_nearestTwo_40 rfl (fun h40 => ?_) (fun h40 => absurd (by rw [p2 1 (by omega), hM.2.1]; (simp (disch := omega) only [nI_leI, nI_ltI, nI_eq, show (0 : Int32) = nI 0 from rfl, not_true_eq_false, not_false_eq_true] <;> omega)) h40)
      refine pw_iincN 100 rfl dX9_nearestTwo_97 (by decide) rfl ?_
      refine pw_goto (tgt := 5) dX9_nearestTwo_100 rfl ?_
      rotate_left
      · exact fin _
      · exact fin _
    · intro k hk ih2 I2 J2 x4 p1 p2
      have hb1 := hW.2.2.2.2 i (by omega)
      have hb2 := hW.2.2.2.2 (i + 1 + k) (by omega)
      have ht := hW.2.1
      have hd0 := hdm i (i + 1 + k) (by omega) (by omega)
      have e1 : I2 3 i = nI (b i) := by rw [p2 3 (by omega)]; exact (hM.2.2.2.2.2.2 i (by omega)).2.1
      have e2 : I2 3 (i + 1 + k) = nI (b (i + 1 + k)) := by rw [p2 3 (by omega)]; exact (hM.2.2.2.2.2.2 (i + 1 + k) (by omega)).2.1
      refine pw_iload_n 27 rfl dX9_nearestTwo_26 rfl ?_
      refine pw_bipush (v := nI 7) 29 rfl dX9_nearestTwo_27 rfl ?_
      refine pw_icmp_ge (tgt := 97) 32 rfl dX9_nearestTwo_29 rfl (fun h29 => absurd h29 (by (simp (disch := omega) only [nI_leI, nI_ltI, nI_eq, show (0 : Int32) = nI 0 from rfl, not_true_eq_false, not_false_eq_true] <;> omega))) (fun h29 => ?_)
      refine pw_iload_n 33 rfl dX9_nearestTwo_32 rfl ?_
      refine pw_aload_n 34 rfl dX9_nearestTwo_33 rfl ?_
      refine pw_getR 37 rfl dX9_nearestTwo_34 fX9_15 (by first | rfl | assumption | exact rowS hh | exact mtS hm | exact ruS hr | exact mtA1 hm | exact mtA2 hm | exact mtA3 hm | exact mtA4 hm | exact mtA5 hm | exact mtA6 hm | exact mtA7 hm | exact ruA1 hr | exact ruA2 hr | exact ruA3 hr) rfl (by first | rfl | assumption | exact mtR0 hm | exact mtR1 hm | exact mtR2 hm | exact mtR3 hm | exact mtR4 hm | exact mtR5 hm | exact mtR6 hm | exact ruR0 hr | exact ruR1 hr | exact ruR3 hr) ?_
      refine pw_getI 40 rfl dX9_nearestTwo_37 fX9_23 (by first | rfl | assumption | exact rowS hh | exact mtS hm | exact ruS hr | exact mtA1 hm | exact mtA2 hm | exact mtA3 hm | exact mtA4 hm | exact mtA5 hm | exact mtA6 hm | exact mtA7 hm | exact ruA1 hr | exact ruA2 hr | exact ruA3 hr) rfl ?_
      refine pw_icmp_ge (tgt := 97) 43 rfl dX9_nearestTwo_40 rfl (fun h40 => absurd h40 (by rw [p2 1 (by omega), hM.2.1]; (simp (disch := omega) only [nI_leI, nI_ltI, nI_eq, show (0 : Int32) = nI 0 from rfl, not_true_eq_false, not_false_eq_true] <;> omega))) (fun h40 => ?_)
      refine pw_aload_n 44 rfl dX9_nearestTwo_43 rfl ?_
      refine pw_getR 47 rfl dX9_nearestTwo_44 fX9_15 (by first | rfl | assumption | exact rowS hh | exact mtS hm | exact ruS hr | exact mtA1 hm | exact mtA2 hm | exact mtA3 hm | exact mtA4 hm | exact mtA5 hm | exact mtA6 hm | exact mtA7 hm | exact ruA1 hr | exact ruA2 hr | exact ruA3 hr) rfl (by first | rfl | assumption | exact mtR0 hm | exact mtR1 hm | exact mtR2 hm | exact mtR3 hm | exact mtR4 hm | exact mtR5 hm | exact mtR6 hm | exact ruR0 hr | exact ruR1 hr | exact ruR3 hr) ?_
      refine pw_getR 50 rfl dX9_nearestTwo_47 fX9_29 (by first | rfl | assumption | exact rowS hh | exact mtS hm | exact ruS hr | exact mtA1 hm | exact mtA2 hm | exact mtA3 hm | exact mtA4 hm | exact mtA5 hm | exact mtA6 hm | exact mtA7 hm | exact ruA1 hr | exact ruA2 hr | exact ruA3 hr) rfl (by first | rfl | assumption | exact mtR0 hm | exact mtR1 hm | exact mtR2 hm | exact mtR3 hm | exact mtR4 hm | exact mtR5 hm | exact mtR6 hm | exact ruR0 hr | exact ruR1 hr | exact ruR3 hr) ?_
      refine pw_iload_n 51 rfl dX9_nearestTwo_50 rfl ?_
      refine pw_ialdN 52 rfl dX9_nearestTwo_51 (by first | rfl | assumption | exact rowS hh | exact mtS hm | exact ruS hr | exact mtA1 hm | exact mtA2 hm | exact mtA3 hm | exact mtA4 hm | exact mtA5 hm | exact mtA6 hm | exact mtA7 hm | exact ruA1 hr | exact ruA2 hr | exact ruA3 hr) (by omega) (by decide) ?_
      refine pw_aload_n 53 rfl dX9_nearestTwo_52 rfl ?_
      refine pw_getR 56 rfl dX9_nearestTwo_53 fX9_15 (by first | rfl | assumption | exact rowS hh | exact mtS hm | exact ruS hr | exact mtA1 hm | exact mtA2 hm | exact mtA3 hm | exact mtA4 hm | exact mtA5 hm | exact mtA6 hm | exact mtA7 hm | exact ruA1 hr | exact ruA2 hr | exact ruA3 hr) rfl (by first | rfl | assumption | exact mtR0 hm | exact mtR1 hm | exact mtR2 hm | exact mtR3 hm | exact mtR4 hm | exact mtR5 hm | exact mtR6 hm | exact ruR0 hr | exact ruR1 hr | exact ruR3 hr) ?_
      refine pw_getR 59 rfl dX9_nearestTwo_56 fX9_29 (by first | rfl | assumption | exact rowS hh | exact mtS hm | exact ruS hr | exact mtA1 hm | exact mtA2 hm | exact mtA3 hm | exact mtA4 hm | exact mtA5 hm | exact mtA6 hm | exact mtA7 hm | exact ruA1 hr | exact ruA2 hr | exact ruA3 hr) rfl (by first | rfl | assumption | exact mtR0 hm | exact mtR1 hm | exact mtR2 hm | exact mtR3 hm | exact mtR4 hm | exact mtR5 hm | exact mtR6 hm | exact ruR0 hr | exact ruR1 hr | exact ruR3 hr) ?_
      refine pw_iload_n 60 rfl dX9_nearestTwo_59 rfl ?_
      refine pw_ialdN 61 rfl dX9_nearestTwo_60 (by first | rfl | assumption | exact rowS hh | exact mtS hm | exact ruS hr | exact mtA1 hm | exact mtA2 hm | exact mtA3 hm | exact mtA4 hm | exact mtA5 hm | exact mtA6 hm | exact mtA7 hm | exact ruA1 hr | exact ruA2 hr | exact ruA3 hr) (by omega) (by decide) ?_
      rotate_left
      rw [e1, e2]
      refine pw_isub 62 rfl dX9_nearestTwo_61 ?_
      refine pw_mabs 65 rfl dX9_nearestTwo_62 mX9_59 (Nat.le_of_ble_eq_true rfl) ?_
      rotate_left
      rw [nI_dist (by omega) (by omega)]
      rw [nin] at ih2
      have lem := nin_le (n := n) (fun y hy => hdm i y hi hy) (c := nout b n i) (fun x hx => nout_le hdm i (by omega) x hx) k (by omega)
      cases hc : nin b i (nout b n i) k with
      | none =>
        rw [hc] at ih2
        show PW _ _ _ _ _ _ [_, some (.int (-2)), _, _, _] _ _ _ _ _
        refine pw_istore 67 rfl dX9_nearestTwo_65 (by decide) ?_
        refine pw_iload_n 68 rfl dX9_nearestTwo_67 rfl ?_
        refine pw_if_lt (tgt := 77) 71 rfl dX9_nearestTwo_68 rfl (fun h68 => ?_) (fun h68 => absurd (by decide) h68)
        refine pw_iload 79 rfl dX9_nearestTwo_77 rfl ?_
        refine pw_istore_n 80 rfl dX9_nearestTwo_79 (by decide) ?_
        refine pw_aload_n 81 rfl dX9_nearestTwo_80 rfl ?_
        refine pw_getR 84 rfl dX9_nearestTwo_81 fX9_19 (by first | rfl | assumption | exact rowS hh | exact mtS hm | exact ruS hr | exact mtA1 hm | exact mtA2 hm | exact mtA3 hm | exact mtA4 hm | exact mtA5 hm | exact mtA6 hm | exact mtA7 hm | exact ruA1 hr | exact ruA2 hr | exact ruA3 hr) rfl (by first | rfl | assumption | exact mtR0 hm | exact mtR1 hm | exact mtR2 hm | exact mtR3 hm | exact mtR4 hm | exact mtR5 hm | exact mtR6 hm | exact ruR0 hr | exact ruR1 hr | exact ruR3 hr) ?_
        refine pw_iload_n 85 rfl dX9_nearestTwo_84 rfl ?_
        refine pw_i2l 86 rfl dX9_nearestTwo_85 ?_
        refine pw_iload_n 87 rfl dX9_nearestTwo_86 rfl ?_
        refine pw_i2l 88 rfl dX9_nearestTwo_87 ?_
        refine pw_callV (as := [_, _]) 91 rfl dX9_nearestTwo_88 mX9_82 vX2_tellTwo (x_tellTwo (d := d) _ _) (by first | rfl | assumption | exact rowS hh | exact mtS hm | exact ruS hr | exact mtA1 hm | exact mtA2 hm | exact mtA3 hm | exact mtA4 hm | exact mtA5 hm | exact mtA6 hm | exact mtA7 hm | exact ruA1 hr | exact ruA2 hr | exact ruA3 hr) rfl (by decide) ⟨rfl, by decide, by decide, show (parseMethodDescriptor yX2_tellTwo.desc).map (fun d => d.parameters.length) = some 2 by decide +kernel⟩ (by omega) (by decide) (Nat.le_of_ble_eq_true rfl) rfl (fun r88 I88 J88 R88 c88 => ?_)
        obtain ⟨rfl, n1, n2, rfl⟩ := c88
        refine pw_iincN 94 rfl dX9_nearestTwo_91 (by decide) rfl ?_
        refine pw_goto (tgt := 26) dX9_nearestTwo_94 rfl ?_
        rotate_left
        exact ih2 _ _ _ n1 (fun a h => by rw [n2 a h, p2 a h])
      | some x =>
        rw [hc] at ih2 p1
        have hx := lem x hc
        show PW _ _ _ _ _ _ [_, some (.int (nI x.1)), _, _, _] _ _ _ _ _
        by_cases hlt : dist (b i) (b (i + 1 + k)) < x.1
        · rw [show nst b i (i + 1 + k) (some x) = some (dist (b i) (b (i + 1 + k)), i, i + 1 + k) from if_pos hlt] at ih2
          refine pw_istore 67 rfl dX9_nearestTwo_65 (by decide) ?_
          refine pw_iload_n 68 rfl dX9_nearestTwo_67 rfl ?_
          refine pw_if_lt (tgt := 77) 71 rfl dX9_nearestTwo_68 rfl (fun h68 => absurd h68 (nI_pos (by omega))) (fun h68 => ?_)
          refine pw_iload 73 rfl dX9_nearestTwo_71 rfl ?_
          refine pw_iload_n 74 rfl dX9_nearestTwo_73 rfl ?_
          refine pw_icmp_ge (tgt := 91) 77 rfl dX9_nearestTwo_74 rfl (fun h74 => absurd h74 (by (simp (disch := omega) only [nI_leI, nI_ltI, nI_eq, show (0 : Int32) = nI 0 from rfl, not_true_eq_false, not_false_eq_true] <;> omega))) (fun h74 => ?_)
          refine pw_iload 79 rfl dX9_nearestTwo_77 rfl ?_
          refine pw_istore_n 80 rfl dX9_nearestTwo_79 (by decide) ?_
          refine pw_aload_n 81 rfl dX9_nearestTwo_80 rfl ?_
          refine pw_getR 84 rfl dX9_nearestTwo_81 fX9_19 (by first | rfl | assumption | exact rowS hh | exact mtS hm | exact ruS hr | exact mtA1 hm | exact mtA2 hm | exact mtA3 hm | exact mtA4 hm | exact mtA5 hm | exact mtA6 hm | exact mtA7 hm | exact ruA1 hr | exact ruA2 hr | exact ruA3 hr) rfl (by first | rfl | assumption | exact mtR0 hm | exact mtR1 hm | exact mtR2 hm | exact mtR3 hm | exact mtR4 hm | exact mtR5 hm | exact mtR6 hm | exact ruR0 hr | exact ruR1 hr | exact ruR3 hr) ?_
          refine pw_iload_n 85 rfl dX9_nearestTwo_84 rfl ?_
          refine pw_i2l 86 rfl dX9_nearestTwo_85 ?_
          refine pw_iload_n 87 rfl dX9_nearestTwo_86 rfl ?_
          refine pw_i2l 88 rfl dX9_nearestTwo_87 ?_
          refine pw_callV (as := [_, _]) 91 rfl dX9_nearestTwo_88 mX9_82 vX2_tellTwo (x_tellTwo (d := d) _ _) (by first | rfl | assumption | exact rowS hh | exact mtS hm | exact ruS hr | exact mtA1 hm | exact mtA2 hm | exact mtA3 hm | exact mtA4 hm | exact mtA5 hm | exact mtA6 hm | exact mtA7 hm | exact ruA1 hr | exact ruA2 hr | exact ruA3 hr) rfl (by decide) ⟨rfl, by decide, by decide, show (parseMethodDescriptor yX2_tellTwo.desc).map (fun d => d.parameters.length) = some 2 by decide +kernel⟩ (by omega) (by decide) (Nat.le_of_ble_eq_true rfl) rfl (fun r88 I88 J88 R88 c88 => ?_)
          obtain ⟨rfl, n1, n2, rfl⟩ := c88
          refine pw_iincN 94 rfl dX9_nearestTwo_91 (by decide) rfl ?_
          refine pw_goto (tgt := 26) dX9_nearestTwo_94 rfl ?_
          rotate_left
          exact ih2 _ _ _ n1 (fun a h => by rw [n2 a h, p2 a h])
        · rw [show nst b i (i + 1 + k) (some x) = some x from if_neg hlt] at ih2
          refine pw_istore 67 rfl dX9_nearestTwo_65 (by decide) ?_
          refine pw_iload_n 68 rfl dX9_nearestTwo_67 rfl ?_
          refine pw_if_lt (tgt := 77) 71 rfl dX9_nearestTwo_68 rfl (fun h68 => absurd h68 (nI_pos (by omega))) (fun h68 => ?_)
          refine pw_iload 73 rfl dX9_nearestTwo_71 rfl ?_
          refine pw_iload_n 74 rfl dX9_nearestTwo_73 rfl ?_
          refine pw_icmp_ge (tgt := 91) 77 rfl dX9_nearestTwo_74 rfl (fun h74 => ?_) (fun h74 => absurd (by (simp (disch := omega) only [nI_leI, nI_ltI, nI_eq, show (0 : Int32) = nI 0 from rfl, not_true_eq_false, not_false_eq_true] <;> omega)) h74)
          refine pw_iincN 94 rfl dX9_nearestTwo_91 (by decide) rfl ?_
          refine pw_goto (tgt := 26) dX9_nearestTwo_94 rfl ?_
          rotate_left
          exact ih2 I2 J2 _ p1 p2
/-- those by their heights, the highest first -/
def lnO (b : Nat → Nat) (n : Nat) : Nat → List Int64
  | 0 => []
  | k + 1 => badd (fun i => decide (b i = 9 - k)) n (lnO b n k)
set_option maxRecDepth 100000 in
set_option maxHeartbeats 2000000 in
theorem x_fromTheHighest {d n : Nat} {pc b : Nat → Nat} {I : pI} {J : pJ} (hM : XM I 1 n pc b) (hW : WF n pc b) : PC SX (d + 1) yX9_fromTheHighest cX9_fromTheHighest 3 (some .int) [.ref 60] (I) (J) (RX) (fun r' I' J' R' => r' = some (.int (nI n)) ∧ XN I' J' (lnO b n 10) ∧ fS I I' ∧ R' = RX) := by
  refine PC.of [some (.ref 60), none, none] rfl rfl (Nat.le_of_ble_eq_true rfl) ?_
  have h7 := hW.1
  refine pw_aload_n 1 rfl dX9_fromTheHighest_0 rfl ?_
  refine pw_getR 4 rfl dX9_fromTheHighest_1 fX9_19 (by first | rfl | assumption | exact rowS hh | exact mtS hm | exact ruS hr | exact mtA1 hm | exact mtA2 hm | exact mtA3 hm | exact mtA4 hm | exact mtA5 hm | exact mtA6 hm | exact mtA7 hm | exact ruA1 hr | exact ruA2 hr | exact ruA3 hr) rfl (by first | rfl | assumption | exact mtR0 hm | exact mtR1 hm | exact mtR2 hm | exact mtR3 hm | exact mtR4 hm | exact mtR5 hm | exact mtR6 hm | exact ruR0 hr | exact ruR1 hr | exact ruR3 hr) ?_
  refine pw_callV (as := []) 7 rfl dX9_fromTheHighest_4 mX9_73 vX2_clear (x_clear (d := d)) (by first | rfl | assumption | exact rowS hh | exact mtS hm | exact ruS hr | exact mtA1 hm | exact mtA2 hm | exact mtA3 hm | exact mtA4 hm | exact mtA5 hm | exact mtA6 hm | exact mtA7 hm | exact ruA1 hr | exact ruA2 hr | exact ruA3 hr) rfl (by decide) ⟨rfl, by decide, by decide, show (parseMethodDescriptor yX2_clear.desc).map (fun d => d.parameters.length) = some 0 by decide +kernel⟩ (by omega) (by decide) (Nat.le_of_ble_eq_true rfl) rfl (fun r4 I4 J4 R4 c4 => ?_)
  obtain ⟨rfl, k1, k2, rfl⟩ := c4
  refine pw_bipush (v := nI 9) 9 rfl dX9_fromTheHighest_7 rfl ?_
  refine pw_istore_n 10 rfl dX9_fromTheHighest_9 (by decide) ?_
  rotate_left
  have L := nat_loop 10 (fun k => ∀ (I' : pI) (J' : pJ) (x2 : Option Value), XN I' J' (lnO b n k) → (∀ a, a ≠ 19 → I' a = I a) → PW SX yX9_fromTheHighest.cls cX9_fromTheHighest 3 (d + 1) 10 [some (.ref 60), some (.int (nI (10 - k) + Int32.ofInt (-1))), x2] [] (I') (J') (RX) (rX cX9_fromTheHighest (some .int) (fun r' I' J' R' => r' = some (.int (nI n)) ∧ XN I' J' (lnO b n 10) ∧ fS I I' ∧ R' = RX))) ?_ ?_
  · exact L _ _ _ k1 k2
  · intro I' J' x2 g1 g2
    refine pw_iload_n 11 rfl dX9_fromTheHighest_10 rfl ?_
    refine pw_if_lt (tgt := 67) 14 rfl dX9_fromTheHighest_11 rfl (fun h11 => ?_) (fun h11 => absurd (by decide) h11)
    refine pw_aload_n 68 rfl dX9_fromTheHighest_67 rfl ?_
    refine pw_getR 71 rfl dX9_fromTheHighest_68 fX9_15 (by first | rfl | assumption | exact rowS hh | exact mtS hm | exact ruS hr | exact mtA1 hm | exact mtA2 hm | exact mtA3 hm | exact mtA4 hm | exact mtA5 hm | exact mtA6 hm | exact mtA7 hm | exact ruA1 hr | exact ruA2 hr | exact ruA3 hr) rfl (by first | rfl | assumption | exact mtR0 hm | exact mtR1 hm | exact mtR2 hm | exact mtR3 hm | exact mtR4 hm | exact mtR5 hm | exact mtR6 hm | exact ruR0 hr | exact ruR1 hr | exact ruR3 hr) ?_
    refine pw_getI 74 rfl dX9_fromTheHighest_71 fX9_23 (by first | rfl | assumption | exact rowS hh | exact mtS hm | exact ruS hr | exact mtA1 hm | exact mtA2 hm | exact mtA3 hm | exact mtA4 hm | exact mtA5 hm | exact mtA6 hm | exact mtA7 hm | exact ruA1 hr | exact ruA2 hr | exact ruA3 hr) rfl ?_
    rotate_left
    rw [g2 1 (by omega), hM.2.1]
    refine pw_iret dX9_fromTheHighest_74 rfl ?_
    rotate_left
    exact ⟨rfl, g1, fun a h1 h2 => g2 a h1, rfl⟩
  · intro k hk ih I' J' x2 g1 g2
    rw [show nI (10 - k) + Int32.ofInt (-1) = nI (9 - k) from by rw [show 10 - k = (9 - k) + 1 by omega]; exact pk_m1 (9 - k)]
    rw [show 10 - (k + 1) = 9 - k by omega] at ih
    refine pw_iload_n 11 rfl dX9_fromTheHighest_10 rfl ?_
    refine pw_if_lt (tgt := 67) 14 rfl dX9_fromTheHighest_11 rfl (fun h11 => absurd h11 (nI_pos (by omega))) (fun h11 => ?_)
    refine pw_iconst (v := nI 0) 15 rfl dX9_fromTheHighest_14 rfl ?_
    refine pw_istore_n 16 rfl dX9_fromTheHighest_15 (by decide) ?_
    rotate_left
    have L2 := nat_loop n (fun i => ∀ (I' : pI) (J' : pJ), XN I' J' (badd (fun i => decide (b i = 9 - k)) i (lnO b n k)) → (∀ a, a ≠ 19 → I' a = I a) → PW SX yX9_fromTheHighest.cls cX9_fromTheHighest 3 (d + 1) 16 [some (.ref 60), some (.int (nI (9 - k))), some (.int (nI i))] [] (I') (J') (RX) (rX cX9_fromTheHighest (some .int) (fun r' I' J' R' => r' = some (.int (nI n)) ∧ XN I' J' (lnO b n 10) ∧ fS I I' ∧ R' = RX))) ?_ ?_
    · exact L2 I' J' g1 g2
    · intro I2 J2 p1 p2
      refine pw_iload_n 17 rfl dX9_fromTheHighest_16 rfl ?_
      refine pw_bipush (v := nI 7) 19 rfl dX9_fromTheHighest_17 rfl ?_
      refine pw_icmp_ge (tgt := 61) 22 rfl dX9_fromTheHighest_19 rfl (fun h19 => ?_) (fun h19 => ?_)
      refine pw_iinc 64 rfl dX9_fromTheHighest_61 (by decide) rfl ?_
      refine pw_goto (tgt := 10) dX9_fromTheHighest_64 rfl ?_
      rotate_left
      refine pw_iload_n 23 rfl dX9_fromTheHighest_22 rfl ?_
      refine pw_aload_n 24 rfl dX9_fromTheHighest_23 rfl ?_
      refine pw_getR 27 rfl dX9_fromTheHighest_24 fX9_15 (by first | rfl | assumption | exact rowS hh | exact mtS hm | exact ruS hr | exact mtA1 hm | exact mtA2 hm | exact mtA3 hm | exact mtA4 hm | exact mtA5 hm | exact mtA6 hm | exact mtA7 hm | exact ruA1 hr | exact ruA2 hr | exact ruA3 hr) rfl (by first | rfl | assumption | exact mtR0 hm | exact mtR1 hm | exact mtR2 hm | exact mtR3 hm | exact mtR4 hm | exact mtR5 hm | exact mtR6 hm | exact ruR0 hr | exact ruR1 hr | exact ruR3 hr) ?_
      refine pw_getI 30 rfl dX9_fromTheHighest_27 fX9_23 (by first | rfl | assumption | exact rowS hh | exact mtS hm | exact ruS hr | exact mtA1 hm | exact mtA2 hm | exact mtA3 hm | exact mtA4 hm | exact mtA5 hm | exact mtA6 hm | exact mtA7 hm | exact ruA1 hr | exact ruA2 hr | exact ruA3 hr) rfl ?_
      refine pw_icmp_ge (tgt := 61) 33 rfl dX9_fromTheHighest_30 rfl (fun h30 => ?_) (fun h30 => absurd (by rw [p2 1 (by omega), hM.2.1]; (simp (disch := omega) only [nI_leI, nI_ltI, nI_eq, show (0 : Int32) = nI 0 from rfl, not_true_eq_false, not_false_eq_true] <;> omega)) h30)
      refine pw_iinc 64 rfl dX9_fromTheHighest_61 (by decide) rfl ?_
      refine pw_goto (tgt := 10) dX9_fromTheHighest_64 rfl ?_
      rotate_left
      · exact ih I2 J2 _ p1 p2
      · exact ih I2 J2 _ p1 p2
    · intro i hi ih2 I2 J2 p1 p2
      have hb := hW.2.2.2.2 i (by omega)
      have ht := hW.2.1
      have e1 : I2 3 i = nI (b i) := by rw [p2 3 (by omega)]; exact (hM.2.2.2.2.2.2 i (by omega)).2.1
      by_cases hp : b i = 9 - k
      · refine pw_iload_n 17 rfl dX9_fromTheHighest_16 rfl ?_
        refine pw_bipush (v := nI 7) 19 rfl dX9_fromTheHighest_17 rfl ?_
        refine pw_icmp_ge (tgt := 61) 22 rfl dX9_fromTheHighest_19 rfl (fun h19 => absurd h19 (by (simp (disch := omega) only [nI_leI, nI_ltI, nI_eq, show (0 : Int32) = nI 0 from rfl, not_true_eq_false, not_false_eq_true] <;> omega))) (fun h19 => ?_)
        refine pw_iload_n 23 rfl dX9_fromTheHighest_22 rfl ?_
        refine pw_aload_n 24 rfl dX9_fromTheHighest_23 rfl ?_
        refine pw_getR 27 rfl dX9_fromTheHighest_24 fX9_15 (by first | rfl | assumption | exact rowS hh | exact mtS hm | exact ruS hr | exact mtA1 hm | exact mtA2 hm | exact mtA3 hm | exact mtA4 hm | exact mtA5 hm | exact mtA6 hm | exact mtA7 hm | exact ruA1 hr | exact ruA2 hr | exact ruA3 hr) rfl (by first | rfl | assumption | exact mtR0 hm | exact mtR1 hm | exact mtR2 hm | exact mtR3 hm | exact mtR4 hm | exact mtR5 hm | exact mtR6 hm | exact ruR0 hr | exact ruR1 hr | exact ruR3 hr) ?_
        refine pw_getI 30 rfl dX9_fromTheHighest_27 fX9_23 (by first | rfl | assumption | exact rowS hh | exact mtS hm | exact ruS hr | exact mtA1 hm | exact mtA2 hm | exact mtA3 hm | exact mtA4 hm | exact mtA5 hm | exact mtA6 hm | exact mtA7 hm | exact ruA1 hr | exact ruA2 hr | exact ruA3 hr) rfl ?_
        refine pw_icmp_ge (tgt := 61) 33 rfl dX9_fromTheHighest_30 rfl (fun h30 => absurd h30 (by rw [p2 1 (by omega), hM.2.1]; (simp (disch := omega) only [nI_leI, nI_ltI, nI_eq, show (0 : Int32) = nI 0 from rfl, not_true_eq_false, not_false_eq_true] <;> omega))) (fun h30 => ?_)
        refine pw_aload_n 34 rfl dX9_fromTheHighest_33 rfl ?_
        refine pw_getR 37 rfl dX9_fromTheHighest_34 fX9_15 (by first | rfl | assumption | exact rowS hh | exact mtS hm | exact ruS hr | exact mtA1 hm | exact mtA2 hm | exact mtA3 hm | exact mtA4 hm | exact mtA5 hm | exact mtA6 hm | exact mtA7 hm | exact ruA1 hr | exact ruA2 hr | exact ruA3 hr) rfl (by first | rfl | assumption | exact mtR0 hm | exact mtR1 hm | exact mtR2 hm | exact mtR3 hm | exact mtR4 hm | exact mtR5 hm | exact mtR6 hm | exact ruR0 hr | exact ruR1 hr | exact ruR3 hr) ?_
        refine pw_getR 40 rfl dX9_fromTheHighest_37 fX9_29 (by first | rfl | assumption | exact rowS hh | exact mtS hm | exact ruS hr | exact mtA1 hm | exact mtA2 hm | exact mtA3 hm | exact mtA4 hm | exact mtA5 hm | exact mtA6 hm | exact mtA7 hm | exact ruA1 hr | exact ruA2 hr | exact ruA3 hr) rfl (by first | rfl | assumption | exact mtR0 hm | exact mtR1 hm | exact mtR2 hm | exact mtR3 hm | exact mtR4 hm | exact mtR5 hm | exact mtR6 hm | exact ruR0 hr | exact ruR1 hr | exact ruR3 hr) ?_
        refine pw_iload_n 41 rfl dX9_fromTheHighest_40 rfl ?_
        refine pw_ialdN 42 rfl dX9_fromTheHighest_41 (by first | rfl | assumption | exact rowS hh | exact mtS hm | exact ruS hr | exact mtA1 hm | exact mtA2 hm | exact mtA3 hm | exact mtA4 hm | exact mtA5 hm | exact mtA6 hm | exact mtA7 hm | exact ruA1 hr | exact ruA2 hr | exact ruA3 hr) (by omega) (by decide) ?_
        refine pw_iload_n 43 rfl dX9_fromTheHighest_42 rfl ?_
        refine pw_icmp_ne (tgt := 55) 46 rfl dX9_fromTheHighest_43 rfl (fun h43 => absurd (by rw [e1, hp]) h43) (fun h43 => ?_)
        refine pw_aload_n 47 rfl dX9_fromTheHighest_46 rfl ?_
        refine pw_getR 50 rfl dX9_fromTheHighest_47 fX9_19 (by first | rfl | assumption | exact rowS hh | exact mtS hm | exact ruS hr | exact mtA1 hm | exact mtA2 hm | exact mtA3 hm | exact mtA4 hm | exact mtA5 hm | exact mtA6 hm | exact mtA7 hm | exact ruA1 hr | exact ruA2 hr | exact ruA3 hr) rfl (by first | rfl | assumption | exact mtR0 hm | exact mtR1 hm | exact mtR2 hm | exact mtR3 hm | exact mtR4 hm | exact mtR5 hm | exact mtR6 hm | exact ruR0 hr | exact ruR1 hr | exact ruR3 hr) ?_
        refine pw_iload_n 51 rfl dX9_fromTheHighest_50 rfl ?_
        refine pw_i2l 52 rfl dX9_fromTheHighest_51 ?_
        refine pw_callV (as := [_]) 55 rfl dX9_fromTheHighest_52 mX9_76 vX2_add (x_add (d := d) _ p1) (by first | rfl | assumption | exact rowS hh | exact mtS hm | exact ruS hr | exact mtA1 hm | exact mtA2 hm | exact mtA3 hm | exact mtA4 hm | exact mtA5 hm | exact mtA6 hm | exact mtA7 hm | exact ruA1 hr | exact ruA2 hr | exact ruA3 hr) rfl (by decide) ⟨rfl, by decide, by decide, show (parseMethodDescriptor yX2_add.desc).map (fun d => d.parameters.length) = some 1 by decide +kernel⟩ (by omega) (by decide) (Nat.le_of_ble_eq_true rfl) rfl (fun r52 I52 J52 R52 c52 => ?_)
        obtain ⟨rfl, n1, n2, rfl⟩ := c52
        refine pw_iincN 58 rfl dX9_fromTheHighest_55 (by decide) rfl ?_
        refine pw_goto (tgt := 16) dX9_fromTheHighest_58 rfl ?_
        rotate_left
        exact ih2 I52 J52 (by rw [badd, if_pos (decide_eq_true hp)]; exact n1) (fun a h => by rw [n2 a h, p2 a h])
      · refine pw_iload_n 17 rfl dX9_fromTheHighest_16 rfl ?_
        refine pw_bipush (v := nI 7) 19 rfl dX9_fromTheHighest_17 rfl ?_
        refine pw_icmp_ge (tgt := 61) 22 rfl dX9_fromTheHighest_19 rfl (fun h19 => absurd h19 (by (simp (disch := omega) only [nI_leI, nI_ltI, nI_eq, show (0 : Int32) = nI 0 from rfl, not_true_eq_false, not_false_eq_true] <;> omega))) (fun h19 => ?_)
        refine pw_iload_n 23 rfl dX9_fromTheHighest_22 rfl ?_
        refine pw_aload_n 24 rfl dX9_fromTheHighest_23 rfl ?_
        refine pw_getR 27 rfl dX9_fromTheHighest_24 fX9_15 (by first | rfl | assumption | exact rowS hh | exact mtS hm | exact ruS hr | exact mtA1 hm | exact mtA2 hm | exact mtA3 hm | exact mtA4 hm | exact mtA5 hm | exact mtA6 hm | exact mtA7 hm | exact ruA1 hr | exact ruA2 hr | exact ruA3 hr) rfl (by first | rfl | assumption | exact mtR0 hm | exact mtR1 hm | exact mtR2 hm | exact mtR3 hm | exact mtR4 hm | exact mtR5 hm | exact mtR6 hm | exact ruR0 hr | exact ruR1 hr | exact ruR3 hr) ?_
        refine pw_getI 30 rfl dX9_fromTheHighest_27 fX9_23 (by first | rfl | assumption | exact rowS hh | exact mtS hm | exact ruS hr | exact mtA1 hm | exact mtA2 hm | exact mtA3 hm | exact mtA4 hm | exact mtA5 hm | exact mtA6 hm | exact mtA7 hm | exact ruA1 hr | exact ruA2 hr | exact ruA3 hr) rfl ?_
        refine pw_icmp_ge (tgt := 61) 33 rfl dX9_fromTheHighest_30 rfl (fun h30 => absurd h30 (by rw [p2 1 (by omega), hM.2.1]; (simp (disch := omega) only [nI_leI, nI_ltI, nI_eq, show (0 : Int32) = nI 0 from rfl, not_true_eq_false, not_false_eq_true] <;> omega))) (fun h30 => ?_)
        refine pw_aload_n 34 rfl dX9_fromTheHighest_33 rfl ?_
        refine pw_getR 37 rfl dX9_fromTheHighest_34 fX9_15 (by first | rfl | assumption | exact rowS hh | exact mtS hm | exact ruS hr | exact mtA1 hm | exact mtA2 hm | exact mtA3 hm | exact mtA4 hm | exact mtA5 hm | exact mtA6 hm | exact mtA7 hm | exact ruA1 hr | exact ruA2 hr | exact ruA3 hr) rfl (by first | rfl | assumption | exact mtR0 hm | exact mtR1 hm | exact mtR2 hm | exact mtR3 hm | exact mtR4 hm | exact mtR5 hm | exact mtR6 hm | exact ruR0 hr | exact ruR1 hr | exact ruR3 hr) ?_
        refine pw_getR 40 rfl dX9_fromTheHighest_37 fX9_29 (by first | rfl | assumption | exact rowS hh | exact mtS hm | exact ruS hr | exact mtA1 hm | exact mtA2 hm | exact mtA3 hm | exact mtA4 hm | exact mtA5 hm | exact mtA6 hm | exact mtA7 hm | exact ruA1 hr | exact ruA2 hr | exact ruA3 hr) rfl (by first | rfl | assumption | exact mtR0 hm | exact mtR1 hm | exact mtR2 hm | exact mtR3 hm | exact mtR4 hm | exact mtR5 hm | exact mtR6 hm | exact ruR0 hr | exact ruR1 hr | exact ruR3 hr) ?_
        refine pw_iload_n 41 rfl dX9_fromTheHighest_40 rfl ?_
        refine pw_ialdN 42 rfl dX9_fromTheHighest_41 (by first | rfl | assumption | exact rowS hh | exact mtS hm | exact ruS hr | exact mtA1 hm | exact mtA2 hm | exact mtA3 hm | exact mtA4 hm | exact mtA5 hm | exact mtA6 hm | exact mtA7 hm | exact ruA1 hr | exact ruA2 hr | exact ruA3 hr) (by omega) (by decide) ?_
        refine pw_iload_n 43 rfl dX9_fromTheHighest_42 rfl ?_
        refine pw_icmp_ne (tgt := 55) 46 rfl dX9_fromTheHighest_43 rfl (fun h43 => ?_) (fun h43 => absurd h43 (by rw [e1, nI_eq (by omega) (by omega)]; exact hp))
        refine pw_iincN 58 rfl dX9_fromTheHighest_55 (by decide) rfl ?_
        refine pw_goto (tgt := 16) dX9_fromTheHighest_58 rfl ?_
        rotate_left
        exact ih2 I2 J2 (by rw [badd, if_neg (fun z => hp (of_decide_eq_true z))]; exact p1) p2
