/-! the class's Standing -/
def fS (I I' : pI) : Prop := ∀ a, a ≠ 19 → a ≠ 61 → I' a = I a
def allP (P : Nat → Bool) : Nat → Bool
  | 0 => true
  | k + 1 => allP P k && P k
/-- heights not farther than V from h, as bits -/
def nr (V h : Nat) : Nat := bts (fun x => decide (dist x h ≤ V)) 10
theorem nr_lt (V h : Nat) : nr V h < 1024 := bts_lt _ 10
set_option maxRecDepth 100000 in
set_option maxHeartbeats 2000000 in
theorem x_heightsNear {d h V : Nat} {I : pI} {J : pJ} (hh : h ≤ 9) (hV : V ≤ 9) : PC SX (d + 1) yX9_heightsNear cX9_heightsNear 5 (some .int) [.ref 60, .int (nI h), .int (nI V)] (I) (J) (RX) (pPu (.int (nI (nr V h))) I J RX) := by
  refine PC.of [some (.ref 60), some (.int (nI h)), some (.int (nI V)), none, none] rfl rfl (Nat.le_of_ble_eq_true rfl) ?_
  refine pw_iconst (v := nI 0) 1 rfl dX9_heightsNear_0 rfl ?_
  refine pw_istore_n 2 rfl dX9_heightsNear_1 (by decide) ?_
  refine pw_iconst (v := nI 0) 3 rfl dX9_heightsNear_2 rfl ?_
  refine pw_istore 5 rfl dX9_heightsNear_3 (by decide) ?_
  rotate_left
  refine nat_loop 10 (fun k => PW SX yX9_heightsNear.cls cX9_heightsNear 5 (d + 1) 5 [some (.ref 60), some (.int (nI h)), some (.int (nI V)), some (.int (nI (bts (fun x => decide (dist x h ≤ V)) k))), some (.int (nI k))] [] (I) (J) (RX) (rX cX9_heightsNear (some .int) (pPu (.int (nI (nr V h))) I J RX))) ?_ ?_
  · refine pw_iload 7 rfl dX9_heightsNear_5 rfl ?_
    refine pw_bipush (v := nI 9) 9 rfl dX9_heightsNear_7 rfl ?_
    refine pw_icmp_gt (tgt := 36) 12 rfl dX9_heightsNear_9 rfl (fun h9 => ?_) (fun h9 => absurd (by (simp (disch := omega) only [nI_leI, nI_ltI, nI_eq, show (0 : Int32) = nI 0 from rfl, not_true_eq_false, not_false_eq_true] <;> omega)) h9)
    refine pw_iload_n 37 rfl dX9_heightsNear_36 rfl ?_
    refine pw_iret dX9_heightsNear_37 rfl ?_
    rotate_left
    exact ⟨rfl, rfl, rfl, rfl⟩
  · intro k hk ih
    have hdl : dist k h ≤ 20 := by unfold dist; split <;> omega
    refine pw_iload 7 rfl dX9_heightsNear_5 rfl ?_
    refine pw_bipush (v := nI 9) 9 rfl dX9_heightsNear_7 rfl ?_
    refine pw_icmp_gt (tgt := 36) 12 rfl dX9_heightsNear_9 rfl (fun h9 => absurd h9 (by (simp (disch := omega) only [nI_leI, nI_ltI, nI_eq, show (0 : Int32) = nI 0 from rfl, not_true_eq_false, not_false_eq_true] <;> omega))) (fun h9 => ?_)
    refine pw_iload 14 rfl dX9_heightsNear_12 rfl ?_
    refine pw_iload_n 15 rfl dX9_heightsNear_14 rfl ?_
    refine pw_isub 16 rfl dX9_heightsNear_15 ?_
    refine pw_mabs 19 rfl dX9_heightsNear_16 mX9_59 (Nat.le_of_ble_eq_true rfl) ?_
    rotate_left
    rw [nI_dist (by omega) (by omega)]
    rw [bts] at ih
    by_cases hp : dist k h ≤ V
    · rw [if_pos (decide_eq_true hp)] at ih
      refine pw_iload_n 20 rfl dX9_heightsNear_19 rfl ?_
      refine pw_icmp_gt (tgt := 30) 23 rfl dX9_heightsNear_20 rfl (fun h20 => absurd h20 (by (simp (disch := omega) only [nI_leI, nI_ltI, nI_eq, show (0 : Int32) = nI 0 from rfl, not_true_eq_false, not_false_eq_true] <;> omega))) (fun h20 => ?_)
      refine pw_iload_n 24 rfl dX9_heightsNear_23 rfl ?_
      refine pw_iconst (v := nI 1) 25 rfl dX9_heightsNear_24 rfl ?_
      refine pw_iload 27 rfl dX9_heightsNear_25 rfl ?_
      refine pw_ishl 28 rfl dX9_heightsNear_27 ?_
      refine pw_ior 29 rfl dX9_heightsNear_28 ?_
      refine pw_istore_n 30 rfl dX9_heightsNear_29 (by decide) ?_
      refine pw_iincN 33 rfl dX9_heightsNear_30 (by decide) rfl ?_
      refine pw_goto (tgt := 5) dX9_heightsNear_33 rfl ?_
      rotate_left
      rw [nI_bit (by omega) (bts_lt _ k)]
      exact ih
    · rw [if_neg (fun z => hp (of_decide_eq_true z))] at ih
      refine pw_iload_n 20 rfl dX9_heightsNear_19 rfl ?_
      refine pw_icmp_gt (tgt := 30) 23 rfl dX9_heightsNear_20 rfl (fun h20 => ?_) (fun h20 => absurd (by (simp (disch := omega) only [nI_leI, nI_ltI, nI_eq, show (0 : Int32) = nI 0 from rfl, not_true_eq_false, not_false_eq_true] <;> omega)) h20)
      refine pw_iincN 33 rfl dX9_heightsNear_30 (by decide) rfl ?_
      refine pw_goto (tgt := 5) dX9_heightsNear_33 rfl ?_
      rotate_left
      exact ih
theorem nI_and (a b : Nat) : nI a &&& nI b = nI (a &&& b) := by
  unfold nI
  apply Int32.toBitVec_inj.mp
  apply BitVec.eq_of_toNat_eq
  simp [Int32.toBitVec_and, BitVec.toNat_and, BitVec.toNat_ofNat, Nat.and_mod_two_pow]
set_option maxRecDepth 100000 in
set_option maxHeartbeats 2000000 in
theorem x_reachesAll {d n s : Nat} {f : Nat → Nat} {I : pI} {J : pJ} (hn : I 1 7 = nI n) (h7 : n ≤ 7) (hf : ∀ i, i < n → I 61 i = nI (f i)) (hf2 : ∀ i, f i < 1024) : PC SX (d) yX9_reachesAll cX9_reachesAll 3 (some .boolean) [.ref 60, .int (nI s)] (I) (J) (RX) (pPu (.int (nI (if allP (fun i => decide (f i &&& s ≠ 0)) n then 1 else 0))) I J RX) := by
  refine PC.of [some (.ref 60), some (.int (nI s)), none] rfl rfl (Nat.le_of_ble_eq_true rfl) ?_
  refine pw_iconst (v := nI 0) 1 rfl dX9_reachesAll_0 rfl ?_
  refine pw_istore_n 2 rfl dX9_reachesAll_1 (by decide) ?_
  rotate_left
  have L := nat_loop n (fun k => allP (fun i => decide (f i &&& s ≠ 0)) k = true → PW SX yX9_reachesAll.cls cX9_reachesAll 3 (d) 2 [some (.ref 60), some (.int (nI s)), some (.int (nI k))] [] (I) (J) (RX) (rX cX9_reachesAll (some .boolean) (pPu (.int (nI (if allP (fun i => decide (f i &&& s ≠ 0)) n then 1 else 0))) I J RX))) ?_ ?_
  · exact L rfl
  · intro hk
    rw [if_pos hk]
    refine pw_iload_n 3 rfl dX9_reachesAll_2 rfl ?_
    refine pw_bipush (v := nI 7) 5 rfl dX9_reachesAll_3 rfl ?_
    refine pw_icmp_ge (tgt := 38) 8 rfl dX9_reachesAll_5 rfl (fun h5 => ?_) (fun h5 => ?_)
    refine pw_iconst (v := nI 1) 39 rfl dX9_reachesAll_38 rfl ?_
    refine pw_iret dX9_reachesAll_39 rfl ?_
    rotate_left
    refine pw_iload_n 9 rfl dX9_reachesAll_8 rfl ?_
    refine pw_aload_n 10 rfl dX9_reachesAll_9 rfl ?_
    refine pw_getR 13 rfl dX9_reachesAll_10 fX9_15 (by first | rfl | assumption | exact rowS hh | exact mtS hm | exact ruS hr | exact mtA1 hm | exact mtA2 hm | exact mtA3 hm | exact mtA4 hm | exact mtA5 hm | exact mtA6 hm | exact mtA7 hm | exact ruA1 hr | exact ruA2 hr | exact ruA3 hr) rfl (by first | rfl | assumption | exact mtR0 hm | exact mtR1 hm | exact mtR2 hm | exact mtR3 hm | exact mtR4 hm | exact mtR5 hm | exact mtR6 hm | exact ruR0 hr | exact ruR1 hr | exact ruR3 hr) ?_
    refine pw_getI 16 rfl dX9_reachesAll_13 fX9_23 (by first | rfl | assumption | exact rowS hh | exact mtS hm | exact ruS hr | exact mtA1 hm | exact mtA2 hm | exact mtA3 hm | exact mtA4 hm | exact mtA5 hm | exact mtA6 hm | exact mtA7 hm | exact ruA1 hr | exact ruA2 hr | exact ruA3 hr) rfl ?_
    refine pw_icmp_ge (tgt := 38) 19 rfl dX9_reachesAll_16 rfl (fun h16 => ?_) (fun h16 => absurd (by rw [hn]; (simp (disch := omega) only [nI_leI, nI_ltI, nI_eq, show (0 : Int32) = nI 0 from rfl, not_true_eq_false, not_false_eq_true] <;> omega)) h16)
    refine pw_iconst (v := nI 1) 39 rfl dX9_reachesAll_38 rfl ?_
    refine pw_iret dX9_reachesAll_39 rfl ?_
    rotate_left
    all_goals exact ⟨rfl, rfl, rfl, rfl⟩
  · intro k hk ih ha
    have hlt : f k &&& s < 2147483648 := Nat.lt_of_le_of_lt Nat.and_le_left (Nat.lt_trans (hf2 k) (by decide))
    refine pw_iload_n 3 rfl dX9_reachesAll_2 rfl ?_
    refine pw_bipush (v := nI 7) 5 rfl dX9_reachesAll_3 rfl ?_
    refine pw_icmp_ge (tgt := 38) 8 rfl dX9_reachesAll_5 rfl (fun h5 => absurd h5 (by (simp (disch := omega) only [nI_leI, nI_ltI, nI_eq, show (0 : Int32) = nI 0 from rfl, not_true_eq_false, not_false_eq_true] <;> omega))) (fun h5 => ?_)
    refine pw_iload_n 9 rfl dX9_reachesAll_8 rfl ?_
    refine pw_aload_n 10 rfl dX9_reachesAll_9 rfl ?_
    refine pw_getR 13 rfl dX9_reachesAll_10 fX9_15 (by first | rfl | assumption | exact rowS hh | exact mtS hm | exact ruS hr | exact mtA1 hm | exact mtA2 hm | exact mtA3 hm | exact mtA4 hm | exact mtA5 hm | exact mtA6 hm | exact mtA7 hm | exact ruA1 hr | exact ruA2 hr | exact ruA3 hr) rfl (by first | rfl | assumption | exact mtR0 hm | exact mtR1 hm | exact mtR2 hm | exact mtR3 hm | exact mtR4 hm | exact mtR5 hm | exact mtR6 hm | exact ruR0 hr | exact ruR1 hr | exact ruR3 hr) ?_
    refine pw_getI 16 rfl dX9_reachesAll_13 fX9_23 (by first | rfl | assumption | exact rowS hh | exact mtS hm | exact ruS hr | exact mtA1 hm | exact mtA2 hm | exact mtA3 hm | exact mtA4 hm | exact mtA5 hm | exact mtA6 hm | exact mtA7 hm | exact ruA1 hr | exact ruA2 hr | exact ruA3 hr) rfl ?_
    refine pw_icmp_ge (tgt := 38) 19 rfl dX9_reachesAll_16 rfl (fun h16 => absurd h16 (by rw [hn]; (simp (disch := omega) only [nI_leI, nI_ltI, nI_eq, show (0 : Int32) = nI 0 from rfl, not_true_eq_false, not_false_eq_true] <;> omega))) (fun h16 => ?_)
    refine pw_aload_n 20 rfl dX9_reachesAll_19 rfl ?_
    refine pw_getR 23 rfl dX9_reachesAll_20 fX9_9 (by first | rfl | assumption | exact rowS hh | exact mtS hm | exact ruS hr | exact mtA1 hm | exact mtA2 hm | exact mtA3 hm | exact mtA4 hm | exact mtA5 hm | exact mtA6 hm | exact mtA7 hm | exact ruA1 hr | exact ruA2 hr | exact ruA3 hr) rfl (by first | rfl | assumption | exact mtR0 hm | exact mtR1 hm | exact mtR2 hm | exact mtR3 hm | exact mtR4 hm | exact mtR5 hm | exact mtR6 hm | exact ruR0 hr | exact ruR1 hr | exact ruR3 hr) ?_
    refine pw_iload_n 24 rfl dX9_reachesAll_23 rfl ?_
    refine pw_ialdN 25 rfl dX9_reachesAll_24 (by first | rfl | assumption | exact rowS hh | exact mtS hm | exact ruS hr | exact mtA1 hm | exact mtA2 hm | exact mtA3 hm | exact mtA4 hm | exact mtA5 hm | exact mtA6 hm | exact mtA7 hm | exact ruA1 hr | exact ruA2 hr | exact ruA3 hr) (by omega) (by decide) ?_
    refine pw_iload_n 26 rfl dX9_reachesAll_25 rfl ?_
    refine pw_iand 27 rfl dX9_reachesAll_26 ?_
    rotate_left
    rw [hf k hk, nI_and]
    by_cases hp : f k &&& s = 0
    · have hno : ∀ j, k < j → allP (fun i => decide (f i &&& s ≠ 0)) j = false := by
        intro j hj
        induction j with
        | zero => omega
        | succ j ihj =>
          rw [allP]
          by_cases e : k = j
          · subst e
            rw [decide_eq_false (fun z => z hp), Bool.and_false]
          · rw [ihj (by omega), Bool.false_and]
      rw [hno n hk, if_neg (by decide)]
      refine pw_if_ne (tgt := 32) 30 rfl dX9_reachesAll_27 rfl (fun h27 => absurd (by rw [hp]; rfl) h27) (fun h27 => ?_)
      refine pw_iconst (v := nI 0) 31 rfl dX9_reachesAll_30 rfl ?_
      refine pw_iret dX9_reachesAll_31 rfl ?_
      rotate_left
      exact ⟨rfl, rfl, rfl, rfl⟩
    · refine pw_if_ne (tgt := 32) 30 rfl dX9_reachesAll_27 rfl (fun h27 => ?_) (fun h27 => absurd h27 (nI_ne0 (by omega) hlt))
      refine pw_iincN 35 rfl dX9_reachesAll_32 (by decide) rfl ?_
      refine pw_goto (tgt := 2) dX9_reachesAll_35 rfl ?_
      rotate_left
      exact ih (by rw [allP, ha, decide_eq_true hp]; rfl)
/-- the sets of lawyers that are near enough to all -/
def lwQ (n : Nat) (b : Nat → Nat) (V : Nat) : Nat → Bool := fun s => allP (fun i => decide (nr V (b i) &&& s ≠ 0)) n
def fewB (o : Option Nat) : Nat := o.getD 0
def fewC (o : Option Nat) : Nat := match o with
  | none => 11
  | some s => popc s
theorem few_y {Q : Nat → Bool} {k : Nat} (h : Q k = true) (hp : popc k < fewC (few Q k)) : few Q (k + 1) = some k := by
  rw [few, if_pos h]
  cases e : few Q k with
  | none => rfl
  | some s => rw [e] at hp; exact if_pos hp
theorem few_n {Q : Nat → Bool} {k : Nat} (h : ¬ (Q k = true ∧ popc k < fewC (few Q k))) : few Q (k + 1) = few Q k := by
  rw [few]
  cases hq : Q k with
  | false => rfl
  | true =>
    rw [if_pos rfl]
    cases e : few Q k with
    | none =>
      exfalso
      apply h
      refine ⟨hq, ?_⟩
      rw [e]
      show popc k < 11
      have := pop_le 10 k
      unfold popc
      omega
    | some s => exact if_neg (fun z => h ⟨hq, by rw [e]; exact z⟩)
theorem fewC_le (Q : Nat → Bool) (k : Nat) : fewC (few Q k) ≤ 11 := by
  unfold fewC
  split
  · exact Nat.le_refl _
  · exact Nat.le_trans (popc_le _) (by decide)
theorem fewB_lt (Q : Nat → Bool) (k : Nat) (hk : 0 < k) : fewB (few Q k) < k := by
  rcases few_spec Q k with ⟨a, -⟩ | ⟨s, a, b, -⟩
  · rw [a]; exact hk
  · rw [a]; exact b
set_option maxRecDepth 100000 in
set_option maxHeartbeats 2000000 in
theorem x_fewestLawyers {d n V : Nat} {pc b : Nat → Nat} {I : pI} {J : pJ} (hM : XM I 1 n pc b) (hW : WF n pc b) (hV : V ≤ 9) : PC SX (d + 2) yX9_fewestLawyers cX9_fewestLawyers 7 (some .int) [.ref 60, .int (nI V)] (I) (J) (RX) (fun r' I' J' R' => r' = some (.int (nI (fewC (few (lwQ n b V) (2 ^ (b 28 + 1)))))) ∧ XN I' J' [lI (fewB (few (lwQ n b V) (2 ^ (b 28 + 1))))] ∧ fS I I' ∧ R' = RX) := by
  refine PC.of [some (.ref 60), some (.int (nI V)), none, none, none, none, none] rfl rfl (Nat.le_of_ble_eq_true rfl) ?_
  have h7 := hW.1
  have ht := hW.2.1
  have hpw : 2 ^ (b 28 + 1) ≤ 2 ^ 10 := Nat.pow_le_pow_right (by decide) (by omega)
  have mid : ∀ (I' : pI) (x2 : Option Value), (∀ i, i < n → I' 61 i = nI (nr V (b i))) → (∀ a, a ≠ 61 → I' a = I a) → PW SX yX9_fewestLawyers.cls cX9_fewestLawyers 7 (d + 2) 45 [some (.ref 60), some (.int (nI V)), x2, none, none, none, none] [] (I') (J) (RX) (rX cX9_fewestLawyers (some .int) (fun r' I' J' R' => r' = some (.int (nI (fewC (few (lwQ n b V) (2 ^ (b 28 + 1)))))) ∧ XN I' J' [lI (fewB (few (lwQ n b V) (2 ^ (b 28 + 1))))] ∧ fS I I' ∧ R' = RX)) := by
    intro I' x2 g1 g2
    have i8 : I' 1 8 = nI (b 28) := by rw [g2 1 (by omega)]; exact hM.2.2.1
    have hn' : I' 1 7 = nI n := by rw [g2 1 (by omega)]; exact hM.2.1
    refine pw_iconst (v := nI 0) 46 rfl dX9_fewestLawyers_45 rfl ?_
    refine pw_istore_n 47 rfl dX9_fewestLawyers_46 (by decide) ?_
    refine pw_bipush (v := nI 11) 49 rfl dX9_fewestLawyers_47 rfl ?_
    refine pw_istore_n 50 rfl dX9_fewestLawyers_49 (by decide) ?_
    refine pw_iconst (v := nI 1) 51 rfl dX9_fewestLawyers_50 rfl ?_
    refine pw_aload_n 52 rfl dX9_fewestLawyers_51 rfl ?_
    refine pw_getR 55 rfl dX9_fewestLawyers_52 fX9_15 (by first | rfl | assumption | exact rowS hh | exact mtS hm | exact ruS hr | exact mtA1 hm | exact mtA2 hm | exact mtA3 hm | exact mtA4 hm | exact mtA5 hm | exact mtA6 hm | exact mtA7 hm | exact ruA1 hr | exact ruA2 hr | exact ruA3 hr) rfl (by first | rfl | assumption | exact mtR0 hm | exact mtR1 hm | exact mtR2 hm | exact mtR3 hm | exact mtR4 hm | exact mtR5 hm | exact mtR6 hm | exact ruR0 hr | exact ruR1 hr | exact ruR3 hr) ?_
    refine pw_getI 58 rfl dX9_fewestLawyers_55 fX9_36 (by first | rfl | assumption | exact rowS hh | exact mtS hm | exact ruS hr | exact mtA1 hm | exact mtA2 hm | exact mtA3 hm | exact mtA4 hm | exact mtA5 hm | exact mtA6 hm | exact mtA7 hm | exact ruA1 hr | exact ruA2 hr | exact ruA3 hr) rfl ?_
    refine pw_iconst (v := nI 1) 59 rfl dX9_fewestLawyers_58 rfl ?_
    rotate_left
    rw [i8]
    first | refine pw_iaddN 60 rfl dX9_fewestLawyers_59 ?_ | refine pw_iadd 60 rfl dX9_fewestLawyers_59 ?_
    refine pw_iconst (v := nI 0) 61 rfl dX9_fewestLawyers_60 rfl ?_
    refine pw_bipush (v := nI 10) 63 rfl dX9_fewestLawyers_61 rfl ?_
    refine pw_callNP (as := [_, _, _]) 66 rfl dX9_fewestLawyers_63 nX9_39 sX11_within (x_within (d := d) _ _ _) ⟨rfl, by decide, by decide, show (parseMethodDescriptor yX11_within.desc).map (fun d => d.parameters.length) = some 3 by decide +kernel⟩ (by omega) (by decide) (Nat.le_of_ble_eq_true rfl) rfl ?_
    rotate_left
    rw [show withV (nI (b 28 + 1)) (nI 0) (nI 10) = nI (b 28 + 1) from by rw [withV, if_neg (nI_nlt (by omega) (by omega)), if_neg (nI_nlt (by omega) (by decide))]]
    refine pw_ishl 67 rfl dX9_fewestLawyers_66 ?_
    rotate_left
    rw [nI_shl (by omega)]
    refine pw_istore 69 rfl dX9_fewestLawyers_67 (by decide) ?_
    refine pw_iconst (v := nI 0) 70 rfl dX9_fewestLawyers_69 rfl ?_
    refine pw_istore 72 rfl dX9_fewestLawyers_70 (by decide) ?_
    rotate_left
    have L := nat_loop (2 ^ (b 28 + 1)) (fun s => ∀ (x6 : Option Value), PW SX yX9_fewestLawyers.cls cX9_fewestLawyers 7 (d + 2) 72 [some (.ref 60), some (.int (nI V)), some (.int (nI (fewB (few (lwQ n b V) s)))), some (.int (nI (fewC (few (lwQ n b V) s)))), some (.int (nI (2 ^ (b 28 + 1)))), some (.int (nI s)), x6] [] (I') (J) (RX) (rX cX9_fewestLawyers (some .int) (fun r' I' J' R' => r' = some (.int (nI (fewC (few (lwQ n b V) (2 ^ (b 28 + 1)))))) ∧ XN I' J' [lI (fewB (few (lwQ n b V) (2 ^ (b 28 + 1))))] ∧ fS I I' ∧ R' = RX))) ?_ ?_
    · exact L none
    · intro x6
      refine pw_iload 74 rfl dX9_fewestLawyers_72 rfl ?_
      refine pw_iload 76 rfl dX9_fewestLawyers_74 rfl ?_
      refine pw_icmp_ge (tgt := 113) 79 rfl dX9_fewestLawyers_76 rfl (fun h76 => ?_) (fun h76 => absurd (by (simp (disch := omega) only [nI_leI, nI_ltI, nI_eq, show (0 : Int32) = nI 0 from rfl, not_true_eq_false, not_false_eq_true] <;> omega)) h76)
      refine pw_aload_n 114 rfl dX9_fewestLawyers_113 rfl ?_
      refine pw_getR 117 rfl dX9_fewestLawyers_114 fX9_19 (by first | rfl | assumption | exact rowS hh | exact mtS hm | exact ruS hr | exact mtA1 hm | exact mtA2 hm | exact mtA3 hm | exact mtA4 hm | exact mtA5 hm | exact mtA6 hm | exact mtA7 hm | exact ruA1 hr | exact ruA2 hr | exact ruA3 hr) rfl (by first | rfl | assumption | exact mtR0 hm | exact mtR1 hm | exact mtR2 hm | exact mtR3 hm | exact mtR4 hm | exact mtR5 hm | exact mtR6 hm | exact ruR0 hr | exact ruR1 hr | exact ruR3 hr) ?_
      refine pw_iload_n 118 rfl dX9_fewestLawyers_117 rfl ?_
      refine pw_i2l 119 rfl dX9_fewestLawyers_118 ?_
      refine pw_callV (as := [_]) 122 rfl dX9_fewestLawyers_119 mX9_53 vX2_tellOne (x_tellOne (d := d) _) (by first | rfl | assumption | exact rowS hh | exact mtS hm | exact ruS hr | exact mtA1 hm | exact mtA2 hm | exact mtA3 hm | exact mtA4 hm | exact mtA5 hm | exact mtA6 hm | exact mtA7 hm | exact ruA1 hr | exact ruA2 hr | exact ruA3 hr) rfl (by decide) ⟨rfl, by decide, by decide, show (parseMethodDescriptor yX2_tellOne.desc).map (fun d => d.parameters.length) = some 1 by decide +kernel⟩ (by omega) (by decide) (Nat.le_of_ble_eq_true rfl) rfl (fun r119 I119 J119 R119 c119 => ?_)
      obtain ⟨rfl, n1, n2, rfl⟩ := c119
      rotate_left
      refine pw_iload_n 123 rfl dX9_fewestLawyers_122 rfl ?_
      refine pw_iret dX9_fewestLawyers_123 rfl ?_
      rotate_left
      exact ⟨rfl, n1, fun a h1 h2 => by rw [n2 a h1, g2 a h2], rfl⟩
    · intro s hs ih x6
      have hfc := fewC_le (lwQ n b V) s
      have hpl := popc_le s
      refine pw_iload 74 rfl dX9_fewestLawyers_72 rfl ?_
      refine pw_iload 76 rfl dX9_fewestLawyers_74 rfl ?_
      refine pw_icmp_ge (tgt := 113) 79 rfl dX9_fewestLawyers_76 rfl (fun h76 => absurd h76 (by (simp (disch := omega) only [nI_leI, nI_ltI, nI_eq, show (0 : Int32) = nI 0 from rfl, not_true_eq_false, not_false_eq_true] <;> omega))) (fun h76 => ?_)
      refine pw_iload 81 rfl dX9_fewestLawyers_79 rfl ?_
      refine pw_callSP (as := [_]) 84 rfl dX9_fewestLawyers_81 mX9_43 sJ6_bitCount_0f7a4 (x_bitCount (d := d) _) ⟨rfl, by decide, by decide, show (parseMethodDescriptor yJ6_bitCount_0f7a4.desc).map (fun d => d.parameters.length) = some 1 by decide +kernel⟩ (by omega) (by decide) (Nat.le_of_ble_eq_true rfl) rfl ?_
      rotate_left
      rw [bc_pop s (by omega), show pop 10 s = popc s from rfl]
      by_cases hp : popc s < fewC (few (lwQ n b V) s)
      · cases hq : lwQ n b V s with
        | true =>
          rw [few_y hq hp] at ih
          refine pw_istore 86 rfl dX9_fewestLawyers_84 (by decide) ?_
          refine pw_iload 88 rfl dX9_fewestLawyers_86 rfl ?_
          refine pw_iload_n 89 rfl dX9_fewestLawyers_88 rfl ?_
          refine pw_icmp_ge (tgt := 107) 92 rfl dX9_fewestLawyers_89 rfl (fun h89 => absurd h89 (by (simp (disch := omega) only [nI_leI, nI_ltI, nI_eq, show (0 : Int32) = nI 0 from rfl, not_true_eq_false, not_false_eq_true] <;> omega))) (fun h89 => ?_)
          refine pw_aload_n 93 rfl dX9_fewestLawyers_92 rfl ?_
          refine pw_iload 95 rfl dX9_fewestLawyers_93 rfl ?_
          refine pw_callVP (as := [_]) 98 rfl dX9_fewestLawyers_95 mX9_49 vX9_reachesAll (x_reachesAll (d := d) hn' h7 g1 (fun i => nr_lt _ _)) (by first | rfl | assumption | exact rowS hh | exact mtS hm | exact ruS hr | exact mtA1 hm | exact mtA2 hm | exact mtA3 hm | exact mtA4 hm | exact mtA5 hm | exact mtA6 hm | exact mtA7 hm | exact ruA1 hr | exact ruA2 hr | exact ruA3 hr) rfl (by decide) ⟨rfl, by decide, by decide, show (parseMethodDescriptor yX9_reachesAll.desc).map (fun d => d.parameters.length) = some 1 by decide +kernel⟩ (by omega) (by decide) (Nat.le_of_ble_eq_true rfl) rfl ?_
          refine pw_if_eq (tgt := 107) 101 rfl dX9_fewestLawyers_98 rfl (fun h98 => absurd h98 (by rw [show allP (fun i => decide (nr V (b i) &&& s ≠ 0)) n = true from hq]; decide)) (fun h98 => ?_)
          refine pw_iload 103 rfl dX9_fewestLawyers_101 rfl ?_
          refine pw_istore_n 104 rfl dX9_fewestLawyers_103 (by decide) ?_
          refine pw_iload 106 rfl dX9_fewestLawyers_104 rfl ?_
          refine pw_istore_n 107 rfl dX9_fewestLawyers_106 (by decide) ?_
          refine pw_iincN 110 rfl dX9_fewestLawyers_107 (by decide) rfl ?_
          refine pw_goto (tgt := 72) dX9_fewestLawyers_110 rfl ?_
          rotate_left
          exact ih _
        | false =>
          rw [few_n (fun z => by rw [hq] at z; cases z.1)] at ih
          refine pw_istore 86 rfl dX9_fewestLawyers_84 (by decide) ?_
          refine pw_iload 88 rfl dX9_fewestLawyers_86 rfl ?_
          refine pw_iload_n 89 rfl dX9_fewestLawyers_88 rfl ?_
          refine pw_icmp_ge (tgt := 107) 92 rfl dX9_fewestLawyers_89 rfl (fun h89 => absurd h89 (by (simp (disch := omega) only [nI_leI, nI_ltI, nI_eq, show (0 : Int32) = nI 0 from rfl, not_true_eq_false, not_false_eq_true] <;> omega))) (fun h89 => ?_)
          refine pw_aload_n 93 rfl dX9_fewestLawyers_92 rfl ?_
          refine pw_iload 95 rfl dX9_fewestLawyers_93 rfl ?_
          refine pw_callVP (as := [_]) 98 rfl dX9_fewestLawyers_95 mX9_49 vX9_reachesAll (x_reachesAll (d := d) hn' h7 g1 (fun i => nr_lt _ _)) (by first | rfl | assumption | exact rowS hh | exact mtS hm | exact ruS hr | exact mtA1 hm | exact mtA2 hm | exact mtA3 hm | exact mtA4 hm | exact mtA5 hm | exact mtA6 hm | exact mtA7 hm | exact ruA1 hr | exact ruA2 hr | exact ruA3 hr) rfl (by decide) ⟨rfl, by decide, by decide, show (parseMethodDescriptor yX9_reachesAll.desc).map (fun d => d.parameters.length) = some 1 by decide +kernel⟩ (by omega) (by decide) (Nat.le_of_ble_eq_true rfl) rfl ?_
          refine pw_if_eq (tgt := 107) 101 rfl dX9_fewestLawyers_98 rfl (fun h98 => ?_) (fun h98 => absurd (by rw [show allP (fun i => decide (nr V (b i) &&& s ≠ 0)) n = false from hq]; rfl) h98)
          refine pw_iincN 110 rfl dX9_fewestLawyers_107 (by decide) rfl ?_
          refine pw_goto (tgt := 72) dX9_fewestLawyers_110 rfl ?_
          rotate_left
          exact ih _
      · rw [few_n (fun z => hp z.2)] at ih
        refine pw_istore 86 rfl dX9_fewestLawyers_84 (by decide) ?_
        refine pw_iload 88 rfl dX9_fewestLawyers_86 rfl ?_
        refine pw_iload_n 89 rfl dX9_fewestLawyers_88 rfl ?_
        refine pw_icmp_ge (tgt := 107) 92 rfl dX9_fewestLawyers_89 rfl (fun h89 => ?_) (fun h89 => absurd (by (simp (disch := omega) only [nI_leI, nI_ltI, nI_eq, show (0 : Int32) = nI 0 from rfl, not_true_eq_false, not_false_eq_true] <;> omega)) h89)
        refine pw_iincN 110 rfl dX9_fewestLawyers_107 (by decide) rfl ?_
        refine pw_goto (tgt := 72) dX9_fewestLawyers_110 rfl ?_
        rotate_left
        exact ih _
  refine pw_iconst (v := nI 0) 1 rfl dX9_fewestLawyers_0 rfl ?_
  refine pw_istore_n 2 rfl dX9_fewestLawyers_1 (by decide) ?_
  rotate_left
  have L := nat_loop n (fun k => ∀ (I' : pI), (∀ i, i < k → I' 61 i = nI (nr V (b i))) → (∀ a, a ≠ 61 → I' a = I a) → PW SX yX9_fewestLawyers.cls cX9_fewestLawyers 7 (d + 2) 2 [some (.ref 60), some (.int (nI V)), some (.int (nI k)), none, none, none, none] [] (I') (J) (RX) (rX cX9_fewestLawyers (some .int) (fun r' I' J' R' => r' = some (.int (nI (fewC (few (lwQ n b V) (2 ^ (b 28 + 1)))))) ∧ XN I' J' [lI (fewB (few (lwQ n b V) (2 ^ (b 28 + 1))))] ∧ fS I I' ∧ R' = RX))) ?_ ?_
  · exact L I (fun i hi => by omega) (fun _ _ => rfl)
  · intro I' g1 g2
    refine pw_iload_n 3 rfl dX9_fewestLawyers_2 rfl ?_
    refine pw_bipush (v := nI 7) 5 rfl dX9_fewestLawyers_3 rfl ?_
    refine pw_icmp_ge (tgt := 45) 8 rfl dX9_fewestLawyers_5 rfl (fun h5 => ?_) (fun h5 => ?_)
    rotate_left
    refine pw_iload_n 9 rfl dX9_fewestLawyers_8 rfl ?_
    refine pw_aload_n 10 rfl dX9_fewestLawyers_9 rfl ?_
    refine pw_getR 13 rfl dX9_fewestLawyers_10 fX9_15 (by first | rfl | assumption | exact rowS hh | exact mtS hm | exact ruS hr | exact mtA1 hm | exact mtA2 hm | exact mtA3 hm | exact mtA4 hm | exact mtA5 hm | exact mtA6 hm | exact mtA7 hm | exact ruA1 hr | exact ruA2 hr | exact ruA3 hr) rfl (by first | rfl | assumption | exact mtR0 hm | exact mtR1 hm | exact mtR2 hm | exact mtR3 hm | exact mtR4 hm | exact mtR5 hm | exact mtR6 hm | exact ruR0 hr | exact ruR1 hr | exact ruR3 hr) ?_
    refine pw_getI 16 rfl dX9_fewestLawyers_13 fX9_23 (by first | rfl | assumption | exact rowS hh | exact mtS hm | exact ruS hr | exact mtA1 hm | exact mtA2 hm | exact mtA3 hm | exact mtA4 hm | exact mtA5 hm | exact mtA6 hm | exact mtA7 hm | exact ruA1 hr | exact ruA2 hr | exact ruA3 hr) rfl ?_
    refine pw_icmp_ge (tgt := 45) 19 rfl dX9_fewestLawyers_16 rfl (fun h16 => ?_) (fun h16 => absurd (by rw [g2 1 (by omega), hM.2.1]; (simp (disch := omega) only [nI_leI, nI_ltI, nI_eq, show (0 : Int32) = nI 0 from rfl, not_true_eq_false, not_false_eq_true] <;> omega)) h16)
    rotate_left
    · exact mid I' _ g1 g2
    · exact mid I' _ g1 g2
  · intro k hk ih I' g1 g2
    have hb := hW.2.2.2.2 k (by omega)
    refine pw_iload_n 3 rfl dX9_fewestLawyers_2 rfl ?_
    refine pw_bipush (v := nI 7) 5 rfl dX9_fewestLawyers_3 rfl ?_
    refine pw_icmp_ge (tgt := 45) 8 rfl dX9_fewestLawyers_5 rfl (fun h5 => absurd h5 (by (simp (disch := omega) only [nI_leI, nI_ltI, nI_eq, show (0 : Int32) = nI 0 from rfl, not_true_eq_false, not_false_eq_true] <;> omega))) (fun h5 => ?_)
    refine pw_iload_n 9 rfl dX9_fewestLawyers_8 rfl ?_
    refine pw_aload_n 10 rfl dX9_fewestLawyers_9 rfl ?_
    refine pw_getR 13 rfl dX9_fewestLawyers_10 fX9_15 (by first | rfl | assumption | exact rowS hh | exact mtS hm | exact ruS hr | exact mtA1 hm | exact mtA2 hm | exact mtA3 hm | exact mtA4 hm | exact mtA5 hm | exact mtA6 hm | exact mtA7 hm | exact ruA1 hr | exact ruA2 hr | exact ruA3 hr) rfl (by first | rfl | assumption | exact mtR0 hm | exact mtR1 hm | exact mtR2 hm | exact mtR3 hm | exact mtR4 hm | exact mtR5 hm | exact mtR6 hm | exact ruR0 hr | exact ruR1 hr | exact ruR3 hr) ?_
    refine pw_getI 16 rfl dX9_fewestLawyers_13 fX9_23 (by first | rfl | assumption | exact rowS hh | exact mtS hm | exact ruS hr | exact mtA1 hm | exact mtA2 hm | exact mtA3 hm | exact mtA4 hm | exact mtA5 hm | exact mtA6 hm | exact mtA7 hm | exact ruA1 hr | exact ruA2 hr | exact ruA3 hr) rfl ?_
    refine pw_icmp_ge (tgt := 45) 19 rfl dX9_fewestLawyers_16 rfl (fun h16 => absurd h16 (by rw [g2 1 (by omega), hM.2.1]; (simp (disch := omega) only [nI_leI, nI_ltI, nI_eq, show (0 : Int32) = nI 0 from rfl, not_true_eq_false, not_false_eq_true] <;> omega))) (fun h16 => ?_)
    refine pw_aload_n 20 rfl dX9_fewestLawyers_19 rfl ?_
    refine pw_getR 23 rfl dX9_fewestLawyers_20 fX9_9 (by first | rfl | assumption | exact rowS hh | exact mtS hm | exact ruS hr | exact mtA1 hm | exact mtA2 hm | exact mtA3 hm | exact mtA4 hm | exact mtA5 hm | exact mtA6 hm | exact mtA7 hm | exact ruA1 hr | exact ruA2 hr | exact ruA3 hr) rfl (by first | rfl | assumption | exact mtR0 hm | exact mtR1 hm | exact mtR2 hm | exact mtR3 hm | exact mtR4 hm | exact mtR5 hm | exact mtR6 hm | exact ruR0 hr | exact ruR1 hr | exact ruR3 hr) ?_
    refine pw_iload_n 24 rfl dX9_fewestLawyers_23 rfl ?_
    refine pw_aload_n 25 rfl dX9_fewestLawyers_24 rfl ?_
    refine pw_aload_n 26 rfl dX9_fewestLawyers_25 rfl ?_
    refine pw_getR 29 rfl dX9_fewestLawyers_26 fX9_15 (by first | rfl | assumption | exact rowS hh | exact mtS hm | exact ruS hr | exact mtA1 hm | exact mtA2 hm | exact mtA3 hm | exact mtA4 hm | exact mtA5 hm | exact mtA6 hm | exact mtA7 hm | exact ruA1 hr | exact ruA2 hr | exact ruA3 hr) rfl (by first | rfl | assumption | exact mtR0 hm | exact mtR1 hm | exact mtR2 hm | exact mtR3 hm | exact mtR4 hm | exact mtR5 hm | exact mtR6 hm | exact ruR0 hr | exact ruR1 hr | exact ruR3 hr) ?_
    refine pw_getR 32 rfl dX9_fewestLawyers_29 fX9_29 (by first | rfl | assumption | exact rowS hh | exact mtS hm | exact ruS hr | exact mtA1 hm | exact mtA2 hm | exact mtA3 hm | exact mtA4 hm | exact mtA5 hm | exact mtA6 hm | exact mtA7 hm | exact ruA1 hr | exact ruA2 hr | exact ruA3 hr) rfl (by first | rfl | assumption | exact mtR0 hm | exact mtR1 hm | exact mtR2 hm | exact mtR3 hm | exact mtR4 hm | exact mtR5 hm | exact mtR6 hm | exact ruR0 hr | exact ruR1 hr | exact ruR3 hr) ?_
    refine pw_iload_n 33 rfl dX9_fewestLawyers_32 rfl ?_
    refine pw_ialdN 34 rfl dX9_fewestLawyers_33 (by first | rfl | assumption | exact rowS hh | exact mtS hm | exact ruS hr | exact mtA1 hm | exact mtA2 hm | exact mtA3 hm | exact mtA4 hm | exact mtA5 hm | exact mtA6 hm | exact mtA7 hm | exact ruA1 hr | exact ruA2 hr | exact ruA3 hr) (by omega) (by decide) ?_
    rotate_left
    rw [g2 3 (by omega), (hM.2.2.2.2.2.2 k (by omega)).2.1]
    refine pw_iload_n 35 rfl dX9_fewestLawyers_34 rfl ?_
    refine pw_callVP (as := [_, _]) 38 rfl dX9_fewestLawyers_35 mX9_32 vX9_heightsNear (x_heightsNear (d := d) (by omega) hV) (by first | rfl | assumption | exact rowS hh | exact mtS hm | exact ruS hr | exact mtA1 hm | exact mtA2 hm | exact mtA3 hm | exact mtA4 hm | exact mtA5 hm | exact mtA6 hm | exact mtA7 hm | exact ruA1 hr | exact ruA2 hr | exact ruA3 hr) rfl (by decide) ⟨rfl, by decide, by decide, show (parseMethodDescriptor yX9_heightsNear.desc).map (fun d => d.parameters.length) = some 2 by decide +kernel⟩ (by omega) (by decide) (Nat.le_of_ble_eq_true rfl) rfl ?_
    refine pw_iastN 39 rfl dX9_fewestLawyers_38 (by first | rfl | assumption | exact rowS hh | exact mtS hm | exact ruS hr | exact mtA1 hm | exact mtA2 hm | exact mtA3 hm | exact mtA4 hm | exact mtA5 hm | exact mtA6 hm | exact mtA7 hm | exact ruA1 hr | exact ruA2 hr | exact ruA3 hr) (by omega) (by decide) ?_
    refine pw_iincN 42 rfl dX9_fewestLawyers_39 (by decide) rfl ?_
    refine pw_goto (tgt := 2) dX9_fewestLawyers_42 rfl ?_
    rotate_left
    refine ih _ (fun i hi => ?_) (fun a ha => by rw [uI, if_neg ha, g2 a ha])
    by_cases e : i = k
    · rw [e, uI_eq]
    · rw [uI_ne (by omega)]; exact g1 i (by omega)
