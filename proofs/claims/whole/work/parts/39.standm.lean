/-! the reference's standing -/
def anP (P : Nat → Bool) : Nat → Bool
  | 0 => false
  | k + 1 => anP P k || P k
theorem anP_iff (P : Nat → Bool) : ∀ k, anP P k = true ↔ ∃ i, i < k ∧ P i = true
  | 0 => ⟨(fun h => by cases h), (fun ⟨i, h, _⟩ => by omega)⟩
  | k + 1 => by
    rw [anP, Bool.or_eq_true, anP_iff P k]
    constructor
    · rintro (⟨i, h1, h2⟩ | h)
      · exact ⟨i, by omega, h2⟩
      · exact ⟨k, by omega, h⟩
    · rintro ⟨i, h1, h2⟩
      by_cases e : i = k
      · subst e; exact Or.inr h2
      · exact Or.inl ⟨i, by omega, h2⟩
theorem nr_any {V h s t : Nat} (hs : s < 2 ^ (t + 1)) (ht : t ≤ 9) : decide (nr V h &&& s ≠ 0) = anP (fun x => s.testBit x && decide (dist x h ≤ V)) (t + 1) := by
  rw [Bool.eq_iff_iff, anP_iff, decide_eq_true_iff]
  constructor
  · intro hz
    apply Classical.byContradiction
    intro hno
    apply hz
    apply Nat.eq_of_testBit_eq
    intro i
    rw [Nat.testBit_and, Nat.zero_testBit, nr, bts_bit]
    cases e1 : s.testBit i
    · rw [Bool.and_false]
    · have hi : i < t + 1 := by
        apply Classical.byContradiction
        intro hge
        rw [Nat.testBit_lt_two_pow (Nat.lt_of_lt_of_le hs (Nat.pow_le_pow_right (by decide) (by omega)))] at e1
        cases e1
      cases e2 : decide (dist i h ≤ V)
      · rw [Bool.and_false, Bool.false_and]
      · exact absurd ⟨i, hi, by rw [e1, e2]; rfl⟩ hno
  · rintro ⟨i, hi, hp⟩ hz
    have hq := congrArg (fun x => x.testBit i) hz
    have hq' : (nr V h &&& s).testBit i = (0 : Nat).testBit i := hq
    have hp' : (s.testBit i && decide (dist i h ≤ V)) = true := hp
    rw [Bool.and_eq_true] at hp'
    rw [Nat.testBit_and, Nat.zero_testBit, nr, bts_bit, decide_eq_true (show i < 10 by omega), hp'.1, hp'.2] at hq'
    cases hq'
theorem allP_all {P : Nat → Bool} : ∀ {k}, (∀ i, i < k → P i = true) → allP P k = true
  | 0, _ => rfl
  | k + 1, h => by rw [allP, allP_all (fun i hi => h i (by omega)), h k (by omega)]; rfl
theorem few_nn {Q : Nat → Bool} {j : Nat} (hq : Q j = true) : ∀ k, j < k → few Q k ≠ none
  | 0, h => by omega
  | k + 1, h => by
    rw [few]
    by_cases e : Q k = true
    · rw [if_pos e]
      cases few Q k with
      | none => exact fun z => by cases z
      | some s => show (if popc k < popc s then some k else some s) ≠ none; split <;> exact fun z => by cases z
    · rw [if_neg e]
      exact few_nn hq k (by rcases Nat.lt_succ_iff_lt_or_eq.mp h with h | h; exact h; subst h; exact absurd hq e)
set_option maxRecDepth 100000 in
set_option maxHeartbeats 2000000 in
theorem mo_lawyers {d g : Nat} {s : aSt} {rd : Option Nat} {I : pI} {J : pJ} (hA : MA I J s) (hD : MDg g I) (hg : g ≤ 500000000) (hW : WA s) (v : Int32) : PC SM (d + 245) yX12_lawyers cX12_lawyers 8 (some .int) [.ref 0, .int v] (I) (J) (RM rd (some 6)) (moP (g + 10000) (qOp (qLawyers v) s)) := by
  refine PC.of [some (.ref 0), some (.int v), none, none, none, none, none, none] rfl rfl (Nat.le_of_ble_eq_true rfl) ?_
  obtain ⟨n, pc, b, us, kp, rw, tx, rt, hd, sw⟩ := s
  refine pw_aload_n 1 rfl dX12_lawyers_0 rfl ?_
  refine pw_iconst (v := nI 0) 2 rfl dX12_lawyers_1 rfl ?_
  refine pw_putI 5 rfl dX12_lawyers_2 fX12_88 w12_7 (by first | rfl | assumption | exact rowS hh | exact mtS hm | exact ruS hr | exact mtA1 hm | exact mtA2 hm | exact mtA3 hm | exact mtA4 hm | exact mtA5 hm | exact mtA6 hm | exact mtA7 hm | exact ruA1 hr | exact ruA2 hr | exact ruA3 hr) rfl rfl rfl ?_
  rotate_left
  have hA0 := MA_thr (v := nI 0) hA
  have hD0 : MDg g (uI I 0 7 (nI 0)) := MDg_f hD (uI_ne (by omega)) (fun j => uI_ne (by omega))
  clear hA hD
  generalize uI I 0 7 (nI 0) = I at hA0 hD0 ⊢
  obtain ⟨mC, mB, mT, mN, mR, mU, mK, mH, mG⟩ := id hA0
  obtain ⟨aW, aU, aK⟩ := id hW
  have hE := MSt_A hA0
  have hn7 := mC.1
  have hn := mC.2.1
  rcases inOf_cases (lo := 0) (hi := 9) (by decide) v (by decide) with ⟨N, h1, h2, rfl, hi⟩ | ⟨hi, ho⟩
  · have ht := aW.1.2.1
    have hpw : 2 ^ (b 28 + 1) ≤ 2 ^ 10 := Nat.pow_le_pow_right (by decide) (by omega)
    have e28 : I 1 28 = nI (b 28) := mB 28 (by omega)
    have hQ0 : lwQ n b N (2 ^ (b 28 + 1) - 1) = true := by
      have hp := Nat.two_pow_pos (b 28 + 1)
      refine allP_all (fun i hi => ?_)
      rw [nr_any (by omega) (show b 28 ≤ 9 by omega), anP_iff]
      have hb := (aW.1.2.2.2.2 i (by omega)).2.1
      refine ⟨b i, by omega, ?_⟩
      rw [Nat.testBit_two_pow_sub_one, decide_eq_true (show b i < b 28 + 1 by omega), Bool.true_and, decide_eq_true_iff]
      unfold dist
      rw [if_pos (Nat.le_refl _)]
      omega
    have hs0 := few_nn hQ0 (2 ^ (b 28 + 1)) (by have := Nat.two_pow_pos (b 28 + 1); omega)
    have eq : qLawyers (nI N) n pc b (ruE rt) rw hd sw = fewO (few (lwQ n b N) (2 ^ (b 28 + 1))) rw := by
      unfold qLawyers
      rw [hi]
      show (nI (fewC (few (lwQ n b N) (2 ^ (b 28 + 1)))), [lI (fewB (few (lwQ n b N) (2 ^ (b 28 + 1))))]) = _
      revert hs0
      cases few (lwQ n b N) (2 ^ (b 28 + 1)) with
      | none => exact fun z => absurd rfl z
      | some s => exact fun _ => rfl
    generalize hQ : lwQ n b N = Q at eq
    have hQk : ∀ s, Q s = allP (fun i => decide (nr N (b i) &&& s ≠ 0)) n := fun s => by rw [← hQ]; rfl
    refine pw_iload_n 6 rfl dX12_lawyers_5 rfl ?_
    refine pw_iconst (v := nI 0) 7 rfl dX12_lawyers_6 rfl ?_
    refine pw_bipush (v := nI 9) 9 rfl dX12_lawyers_7 rfl ?_
    refine pw_callSP (as := [_, _, _]) 12 rfl dX12_lawyers_9 mX12_98 sX12_in (m_in (d := d) _ _ _) ⟨rfl, by decide, by decide, show (parseMethodDescriptor yX12_in.desc).map (fun d => d.parameters.length) = some 3 by decide +kernel⟩ (by omega) (by decide) (Nat.le_of_ble_eq_true rfl) rfl ?_
    refine pw_if_ne (tgt := 17) 15 rfl dX12_lawyers_12 rfl (fun h12 => ?_) (fun h12 => absurd h12 (by rw [inV_y h1 h2 (by decide)]; decide))
    refine pw_iconst (v := -1) 18 rfl dX12_lawyers_17 rfl ?_
    refine pw_istore_n 19 rfl dX12_lawyers_18 (by decide) ?_
    refine pw_iconst (v := nI 0) 20 rfl dX12_lawyers_19 rfl ?_
    refine pw_istore_n 21 rfl dX12_lawyers_20 (by decide) ?_
    rotate_left
    have L := nat_loop (2 ^ (b 28 + 1)) (fun t => ∀ (x4 x5 x6 x7 : Option Value), PW SM yX12_lawyers.cls cX12_lawyers 8 (d + 245) 21 [some (.ref 0), some (.int (nI N)), some (.int (fewV (few Q t))), some (.int (nI t)), x4, x5, x6, x7] [] (I) (J) (RM rd (some 6)) (rX cX12_lawyers (some .int) (moP (g + 10000) (qOp (qLawyers (nI N)) (n, pc, b, us, kp, rw, tx, rt, hd, sw))))) ?_ ?_
    · exact L none none none none
    · intro x4 x5 x6 x7
      refine pw_iload_n 22 rfl dX12_lawyers_21 rfl ?_
      refine pw_iconst (v := nI 1) 23 rfl dX12_lawyers_22 rfl ?_
      refine pw_aload_n 24 rfl dX12_lawyers_23 rfl ?_
      refine pw_getR 27 rfl dX12_lawyers_24 fX12_9 (by first | rfl | assumption | exact rowS hh | exact mtS hm | exact ruS hr | exact mtA1 hm | exact mtA2 hm | exact mtA3 hm | exact mtA4 hm | exact mtA5 hm | exact mtA6 hm | exact mtA7 hm | exact ruA1 hr | exact ruA2 hr | exact ruA3 hr) rfl (by first | rfl | assumption | exact mtR0 hm | exact mtR1 hm | exact mtR2 hm | exact mtR3 hm | exact mtR4 hm | exact mtR5 hm | exact mtR6 hm | exact ruR0 hr | exact ruR1 hr | exact ruR3 hr) ?_
      refine pw_bipush (v := nI 28) 29 rfl dX12_lawyers_27 rfl ?_
      refine pw_ialdN 30 rfl dX12_lawyers_29 (by first | rfl | assumption | exact rowS hh | exact mtS hm | exact ruS hr | exact mtA1 hm | exact mtA2 hm | exact mtA3 hm | exact mtA4 hm | exact mtA5 hm | exact mtA6 hm | exact mtA7 hm | exact ruA1 hr | exact ruA2 hr | exact ruA3 hr) (by omega) (by first | decide | omega) ?_
      rotate_left
      rw [e28]
      refine pw_iconst (v := nI 1) 31 rfl dX12_lawyers_30 rfl ?_
      first | refine pw_iaddN 32 rfl dX12_lawyers_31 ?_ | refine pw_iadd 32 rfl dX12_lawyers_31 ?_
      refine pw_ishl 33 rfl dX12_lawyers_32 ?_
      rotate_left
      rw [nI_shl (by omega)]
      refine pw_icmp_ge (tgt := 154) 36 rfl dX12_lawyers_33 rfl (fun h33 => ?_) (fun h33 => absurd (by (simp (disch := omega) only [nI_leI, nI_ltI, nI_eq, show (0 : Int32) = nI 0 from rfl, not_true_eq_false, not_false_eq_true] <;> omega)) h33)
      refine pw_aload_n 155 rfl dX12_lawyers_154 rfl ?_
      refine pw_iload_n 156 rfl dX12_lawyers_155 rfl ?_
      refine pw_callV (as := [_]) 159 rfl dX12_lawyers_156 mX12_298 vX12_tellFewest (m_tellFewest (d := d + 243) mN (fun s hs => by have := few_lt hs; omega)) (by first | rfl | assumption | exact rowS hh | exact mtS hm | exact ruS hr | exact mtA1 hm | exact mtA2 hm | exact mtA3 hm | exact mtA4 hm | exact mtA5 hm | exact mtA6 hm | exact mtA7 hm | exact ruA1 hr | exact ruA2 hr | exact ruA3 hr) rfl (by decide) ⟨rfl, by decide, by decide, show (parseMethodDescriptor yX12_tellFewest.desc).map (fun d => d.parameters.length) = some 1 by decide +kernel⟩ (by omega) (by decide) (Nat.le_of_ble_eq_true rfl) rfl (fun r156 I156 J156 R156 c156 => ?_)
      obtain ⟨rfl, t1, t2, rfl⟩ := c156
      rotate_left
      refine pw_iret dX12_lawyers_159 rfl ?_
      rotate_left
      exact moQ eq rfl (MA_rw hA0 (fun a j q => t2 a j (by omega)) t1) ((MDg_f hD0 (t2 _ _ (by omega)) (fun j => t2 _ _ (by omega))).mono (by omega)) ⟨rd, rfl⟩
    · intro t htt ih x4 x5 x6 x7
      refine pw_iload_n 22 rfl dX12_lawyers_21 rfl ?_
      refine pw_iconst (v := nI 1) 23 rfl dX12_lawyers_22 rfl ?_
      refine pw_aload_n 24 rfl dX12_lawyers_23 rfl ?_
      refine pw_getR 27 rfl dX12_lawyers_24 fX12_9 (by first | rfl | assumption | exact rowS hh | exact mtS hm | exact ruS hr | exact mtA1 hm | exact mtA2 hm | exact mtA3 hm | exact mtA4 hm | exact mtA5 hm | exact mtA6 hm | exact mtA7 hm | exact ruA1 hr | exact ruA2 hr | exact ruA3 hr) rfl (by first | rfl | assumption | exact mtR0 hm | exact mtR1 hm | exact mtR2 hm | exact mtR3 hm | exact mtR4 hm | exact mtR5 hm | exact mtR6 hm | exact ruR0 hr | exact ruR1 hr | exact ruR3 hr) ?_
      refine pw_bipush (v := nI 28) 29 rfl dX12_lawyers_27 rfl ?_
      refine pw_ialdN 30 rfl dX12_lawyers_29 (by first | rfl | assumption | exact rowS hh | exact mtS hm | exact ruS hr | exact mtA1 hm | exact mtA2 hm | exact mtA3 hm | exact mtA4 hm | exact mtA5 hm | exact mtA6 hm | exact mtA7 hm | exact ruA1 hr | exact ruA2 hr | exact ruA3 hr) (by omega) (by first | decide | omega) ?_
      rotate_left
      rw [e28]
      refine pw_iconst (v := nI 1) 31 rfl dX12_lawyers_30 rfl ?_
      first | refine pw_iaddN 32 rfl dX12_lawyers_31 ?_ | refine pw_iadd 32 rfl dX12_lawyers_31 ?_
      refine pw_ishl 33 rfl dX12_lawyers_32 ?_
      rotate_left
      rw [nI_shl (by omega)]
      refine pw_icmp_ge (tgt := 154) 36 rfl dX12_lawyers_33 rfl (fun h33 => absurd h33 (by (simp (disch := omega) only [nI_leI, nI_ltI, nI_eq, show (0 : Int32) = nI 0 from rfl, not_true_eq_false, not_false_eq_true] <;> omega))) (fun h33 => ?_)
      refine pw_iconst (v := nI 1) 37 rfl dX12_lawyers_36 rfl ?_
      refine pw_istore 39 rfl dX12_lawyers_37 (by decide) ?_
      refine pw_iconst (v := nI 0) 40 rfl dX12_lawyers_39 rfl ?_
      refine pw_istore 42 rfl dX12_lawyers_40 (by decide) ?_
      rotate_left
      have L2 := nat_loop n (fun k => ∀ (x6 x7 : Option Value), PW SM yX12_lawyers.cls cX12_lawyers 8 (d + 245) 42 [some (.ref 0), some (.int (nI N)), some (.int (fewV (few Q t))), some (.int (nI t)), some (.int (nI (if allP (fun i => decide (nr N (b i) &&& t ≠ 0)) k = true then 1 else 0))), some (.int (nI k)), x6, x7] [] (I) (J) (RM rd (some 6)) (rX cX12_lawyers (some .int) (moP (g + 10000) (qOp (qLawyers (nI N)) (n, pc, b, us, kp, rw, tx, rt, hd, sw))))) ?_ ?_
      · exact L2 _ _
      · intro x6 x7
        cases hq : Q t
        · rw [← hQk, hq]
          rw [fewK_n hq] at ih
          refine pw_iload 44 rfl dX12_lawyers_42 rfl ?_
          refine pw_aload_n 45 rfl dX12_lawyers_44 rfl ?_
          refine pw_getI 48 rfl dX12_lawyers_45 fX12_95 (by first | rfl | assumption | exact rowS hh | exact mtS hm | exact ruS hr | exact mtA1 hm | exact mtA2 hm | exact mtA3 hm | exact mtA4 hm | exact mtA5 hm | exact mtA6 hm | exact mtA7 hm | exact ruA1 hr | exact ruA2 hr | exact ruA3 hr) rfl ?_
          refine pw_icmp_ge (tgt := 136) 51 rfl dX12_lawyers_48 rfl (fun h48 => ?_) (fun h48 => absurd (by rw [hn]; (simp (disch := omega) only [nI_leI, nI_ltI, nI_eq, show (0 : Int32) = nI 0 from rfl, not_true_eq_false, not_false_eq_true] <;> omega)) h48)
          refine pw_iload 138 rfl dX12_lawyers_136 rfl ?_
          refine pw_if_eq (tgt := 148) 141 rfl dX12_lawyers_138 rfl (fun h138 => ?_) (fun h138 => absurd (by rfl) h138)
          refine pw_iincN 151 rfl dX12_lawyers_148 (by decide) rfl ?_
          refine pw_goto (tgt := 21) dX12_lawyers_151 rfl ?_
          rotate_left
          exact ih _ _ _ _
        · rw [← hQk, hq]
          rw [fewK_y hq] at ih
          refine pw_iload 44 rfl dX12_lawyers_42 rfl ?_
          refine pw_aload_n 45 rfl dX12_lawyers_44 rfl ?_
          refine pw_getI 48 rfl dX12_lawyers_45 fX12_95 (by first | rfl | assumption | exact rowS hh | exact mtS hm | exact ruS hr | exact mtA1 hm | exact mtA2 hm | exact mtA3 hm | exact mtA4 hm | exact mtA5 hm | exact mtA6 hm | exact mtA7 hm | exact ruA1 hr | exact ruA2 hr | exact ruA3 hr) rfl ?_
          refine pw_icmp_ge (tgt := 136) 51 rfl dX12_lawyers_48 rfl (fun h48 => ?_) (fun h48 => absurd (by rw [hn]; (simp (disch := omega) only [nI_leI, nI_ltI, nI_eq, show (0 : Int32) = nI 0 from rfl, not_true_eq_false, not_false_eq_true] <;> omega)) h48)
          refine pw_iload 138 rfl dX12_lawyers_136 rfl ?_
          refine pw_if_eq (tgt := 148) 141 rfl dX12_lawyers_138 rfl (fun h138 => absurd h138 (by decide)) (fun h138 => ?_)
          refine pw_aload_n 142 rfl dX12_lawyers_141 rfl ?_
          refine pw_iload_n 143 rfl dX12_lawyers_142 rfl ?_
          refine pw_iload_n 144 rfl dX12_lawyers_143 rfl ?_
          refine pw_callVP (as := [_, _]) 147 rfl dX12_lawyers_144 mX12_295 vX12_fewest (m_fewest (d := d + 243) (show t < 1024 by omega) (fun s hs => by have := few_lt hs; omega)) (by first | rfl | assumption | exact rowS hh | exact mtS hm | exact ruS hr | exact mtA1 hm | exact mtA2 hm | exact mtA3 hm | exact mtA4 hm | exact mtA5 hm | exact mtA6 hm | exact mtA7 hm | exact ruA1 hr | exact ruA2 hr | exact ruA3 hr) rfl (by decide) ⟨rfl, by decide, by decide, show (parseMethodDescriptor yX12_fewest.desc).map (fun d => d.parameters.length) = some 2 by decide +kernel⟩ (by omega) (by decide) (Nat.le_of_ble_eq_true rfl) rfl ?_
          refine pw_istore_n 148 rfl dX12_lawyers_147 (by decide) ?_
          refine pw_iincN 151 rfl dX12_lawyers_148 (by decide) rfl ?_
          refine pw_goto (tgt := 21) dX12_lawyers_151 rfl ?_
          rotate_left
          exact ih _ _ _ _
      · intro k hk ih2 x6 x7
        have hbk := (aW.1.2.2.2.2 k (by omega)).2.1
        have ek : I 1 k = nI (b k) := mB k (by omega)
        rw [allP, nr_any htt (show b 28 ≤ 9 by omega)] at ih2
        refine pw_iload 44 rfl dX12_lawyers_42 rfl ?_
        refine pw_aload_n 45 rfl dX12_lawyers_44 rfl ?_
        refine pw_getI 48 rfl dX12_lawyers_45 fX12_95 (by first | rfl | assumption | exact rowS hh | exact mtS hm | exact ruS hr | exact mtA1 hm | exact mtA2 hm | exact mtA3 hm | exact mtA4 hm | exact mtA5 hm | exact mtA6 hm | exact mtA7 hm | exact ruA1 hr | exact ruA2 hr | exact ruA3 hr) rfl ?_
        refine pw_icmp_ge (tgt := 136) 51 rfl dX12_lawyers_48 rfl (fun h48 => absurd h48 (by rw [hn]; (simp (disch := omega) only [nI_leI, nI_ltI, nI_eq, show (0 : Int32) = nI 0 from rfl, not_true_eq_false, not_false_eq_true] <;> omega))) (fun h48 => ?_)
        refine pw_iconst (v := nI 0) 52 rfl dX12_lawyers_51 rfl ?_
        refine pw_istore 54 rfl dX12_lawyers_52 (by decide) ?_
        refine pw_iconst (v := nI 0) 55 rfl dX12_lawyers_54 rfl ?_
        refine pw_istore 57 rfl dX12_lawyers_55 (by decide) ?_
        rotate_left
        generalize hA : allP (fun i => decide (nr N (b i) &&& t ≠ 0)) k = A at ih2
        generalize hP : (fun x => t.testBit x && decide (dist x (b k) ≤ N)) = P at ih2
        have hPk : ∀ x, P x = (t.testBit x && decide (dist x (b k) ≤ N)) := fun x => by rw [← hP]
        refine nat_loop (b 28 + 1) (fun j => PW SM yX12_lawyers.cls cX12_lawyers 8 (d + 245) 57 [some (.ref 0), some (.int (nI N)), some (.int (fewV (few Q t))), some (.int (nI t)), some (.int (nI (if A = true then 1 else 0))), some (.int (nI k)), some (.int (nI (if anP P j = true then 1 else 0))), some (.int (nI j))] [] (I) (J) (RM rd (some 6)) (rX cX12_lawyers (some .int) (moP (g + 10000) (qOp (qLawyers (nI N)) (n, pc, b, us, kp, rw, tx, rt, hd, sw))))) ?_ ?_
        · refine pw_iload 59 rfl dX12_lawyers_57 rfl ?_
          refine pw_aload_n 60 rfl dX12_lawyers_59 rfl ?_
          refine pw_getR 63 rfl dX12_lawyers_60 fX12_9 (by first | rfl | assumption | exact rowS hh | exact mtS hm | exact ruS hr | exact mtA1 hm | exact mtA2 hm | exact mtA3 hm | exact mtA4 hm | exact mtA5 hm | exact mtA6 hm | exact mtA7 hm | exact ruA1 hr | exact ruA2 hr | exact ruA3 hr) rfl (by first | rfl | assumption | exact mtR0 hm | exact mtR1 hm | exact mtR2 hm | exact mtR3 hm | exact mtR4 hm | exact mtR5 hm | exact mtR6 hm | exact ruR0 hr | exact ruR1 hr | exact ruR3 hr) ?_
          refine pw_bipush (v := nI 28) 65 rfl dX12_lawyers_63 rfl ?_
          refine pw_ialdN 66 rfl dX12_lawyers_65 (by first | rfl | assumption | exact rowS hh | exact mtS hm | exact ruS hr | exact mtA1 hm | exact mtA2 hm | exact mtA3 hm | exact mtA4 hm | exact mtA5 hm | exact mtA6 hm | exact mtA7 hm | exact ruA1 hr | exact ruA2 hr | exact ruA3 hr) (by omega) (by first | decide | omega) ?_
          rotate_left
          rw [e28]
          cases A
          · refine pw_icmp_gt (tgt := 113) 69 rfl dX12_lawyers_66 rfl (fun h66 => ?_) (fun h66 => absurd (by (simp (disch := omega) only [nI_leI, nI_ltI, nI_eq, show (0 : Int32) = nI 0 from rfl, not_true_eq_false, not_false_eq_true] <;> omega)) h66)
            refine pw_iload 115 rfl dX12_lawyers_113 rfl ?_
            refine pw_if_eq (tgt := 127) 118 rfl dX12_lawyers_115 rfl (fun h115 => ?_) (fun h115 => absurd (by rfl) h115)
            refine pw_iconst (v := nI 0) 128 rfl dX12_lawyers_127 rfl ?_
            refine pw_istore 130 rfl dX12_lawyers_128 (by decide) ?_
            refine pw_iincN 133 rfl dX12_lawyers_130 (by decide) rfl ?_
            refine pw_goto (tgt := 42) dX12_lawyers_133 rfl ?_
            rotate_left
            exact ih2 _ _
          · cases hB : anP P (b 28 + 1)
            · rw [hB] at ih2
              refine pw_icmp_gt (tgt := 113) 69 rfl dX12_lawyers_66 rfl (fun h66 => ?_) (fun h66 => absurd (by (simp (disch := omega) only [nI_leI, nI_ltI, nI_eq, show (0 : Int32) = nI 0 from rfl, not_true_eq_false, not_false_eq_true] <;> omega)) h66)
              refine pw_iload 115 rfl dX12_lawyers_113 rfl ?_
              refine pw_if_eq (tgt := 127) 118 rfl dX12_lawyers_115 rfl (fun h115 => absurd h115 (by decide)) (fun h115 => ?_)
              refine pw_iload 120 rfl dX12_lawyers_118 rfl ?_
              refine pw_if_eq (tgt := 127) 123 rfl dX12_lawyers_120 rfl (fun h120 => ?_) (fun h120 => absurd (by rfl) h120)
              refine pw_iconst (v := nI 0) 128 rfl dX12_lawyers_127 rfl ?_
              refine pw_istore 130 rfl dX12_lawyers_128 (by decide) ?_
              refine pw_iincN 133 rfl dX12_lawyers_130 (by decide) rfl ?_
              refine pw_goto (tgt := 42) dX12_lawyers_133 rfl ?_
              rotate_left
              exact ih2 _ _
            · rw [hB] at ih2
              refine pw_icmp_gt (tgt := 113) 69 rfl dX12_lawyers_66 rfl (fun h66 => ?_) (fun h66 => absurd (by (simp (disch := omega) only [nI_leI, nI_ltI, nI_eq, show (0 : Int32) = nI 0 from rfl, not_true_eq_false, not_false_eq_true] <;> omega)) h66)
              refine pw_iload 115 rfl dX12_lawyers_113 rfl ?_
              refine pw_if_eq (tgt := 127) 118 rfl dX12_lawyers_115 rfl (fun h115 => absurd h115 (by decide)) (fun h115 => ?_)
              refine pw_iload 120 rfl dX12_lawyers_118 rfl ?_
              refine pw_if_eq (tgt := 127) 123 rfl dX12_lawyers_120 rfl (fun h120 => absurd h120 (by decide)) (fun h120 => ?_)
              refine pw_iconst (v := nI 1) 124 rfl dX12_lawyers_123 rfl ?_
              refine pw_goto (tgt := 128) dX12_lawyers_124 rfl ?_
              refine pw_istore 130 rfl dX12_lawyers_128 (by decide) ?_
              refine pw_iincN 133 rfl dX12_lawyers_130 (by decide) rfl ?_
              refine pw_goto (tgt := 42) dX12_lawyers_133 rfl ?_
              rotate_left
              exact ih2 _ _
        · intro j hj ih3
          rw [anP] at ih3
          refine pw_iload 59 rfl dX12_lawyers_57 rfl ?_
          refine pw_aload_n 60 rfl dX12_lawyers_59 rfl ?_
          refine pw_getR 63 rfl dX12_lawyers_60 fX12_9 (by first | rfl | assumption | exact rowS hh | exact mtS hm | exact ruS hr | exact mtA1 hm | exact mtA2 hm | exact mtA3 hm | exact mtA4 hm | exact mtA5 hm | exact mtA6 hm | exact mtA7 hm | exact ruA1 hr | exact ruA2 hr | exact ruA3 hr) rfl (by first | rfl | assumption | exact mtR0 hm | exact mtR1 hm | exact mtR2 hm | exact mtR3 hm | exact mtR4 hm | exact mtR5 hm | exact mtR6 hm | exact ruR0 hr | exact ruR1 hr | exact ruR3 hr) ?_
          refine pw_bipush (v := nI 28) 65 rfl dX12_lawyers_63 rfl ?_
          refine pw_ialdN 66 rfl dX12_lawyers_65 (by first | rfl | assumption | exact rowS hh | exact mtS hm | exact ruS hr | exact mtA1 hm | exact mtA2 hm | exact mtA3 hm | exact mtA4 hm | exact mtA5 hm | exact mtA6 hm | exact mtA7 hm | exact ruA1 hr | exact ruA2 hr | exact ruA3 hr) (by omega) (by first | decide | omega) ?_
          rotate_left
          rw [e28]
          have hdl : dist j (b k) ≤ 20 := by unfold dist; split <;> omega
          cases hB : anP P j
          · rw [hB, hPk] at ih3
            cases hb : t.testBit j
            · rw [hb] at ih3
              refine pw_icmp_gt (tgt := 113) 69 rfl dX12_lawyers_66 rfl (fun h66 => absurd h66 (by (simp (disch := omega) only [nI_leI, nI_ltI, nI_eq, show (0 : Int32) = nI 0 from rfl, not_true_eq_false, not_false_eq_true] <;> omega))) (fun h66 => ?_)
              refine pw_iload 71 rfl dX12_lawyers_69 rfl ?_
              refine pw_if_ne (tgt := 100) 74 rfl dX12_lawyers_71 rfl (fun h71 => absurd (by rfl) h71) (fun h71 => ?_)
              refine pw_iload_n 75 rfl dX12_lawyers_74 rfl ?_
              refine pw_iload 77 rfl dX12_lawyers_75 rfl ?_
              refine pw_callSP (as := [_, _]) 80 rfl dX12_lawyers_77 mX12_292 sX12_has (m_has (d := d + 244) (show t < 2147483648 by omega) (show j < 31 by omega)) ⟨rfl, by decide, by decide, show (parseMethodDescriptor yX12_has.desc).map (fun d => d.parameters.length) = some 2 by decide +kernel⟩ (by omega) (by decide) (Nat.le_of_ble_eq_true rfl) rfl ?_
              refine pw_if_eq (tgt := 104) 83 rfl dX12_lawyers_80 rfl (fun h80 => ?_) (fun h80 => absurd (by rw [hb]; rfl) h80)
              refine pw_iconst (v := nI 0) 105 rfl dX12_lawyers_104 rfl ?_
              refine pw_istore 107 rfl dX12_lawyers_105 (by decide) ?_
              refine pw_iincN 110 rfl dX12_lawyers_107 (by decide) rfl ?_
              refine pw_goto (tgt := 57) dX12_lawyers_110 rfl ?_
              rotate_left
              exact ih3
            · rw [hb] at ih3
              refine pw_icmp_gt (tgt := 113) 69 rfl dX12_lawyers_66 rfl (fun h66 => absurd h66 (by (simp (disch := omega) only [nI_leI, nI_ltI, nI_eq, show (0 : Int32) = nI 0 from rfl, not_true_eq_false, not_false_eq_true] <;> omega))) (fun h66 => ?_)
              refine pw_iload 71 rfl dX12_lawyers_69 rfl ?_
              refine pw_if_ne (tgt := 100) 74 rfl dX12_lawyers_71 rfl (fun h71 => absurd (by rfl) h71) (fun h71 => ?_)
              refine pw_iload_n 75 rfl dX12_lawyers_74 rfl ?_
              refine pw_iload 77 rfl dX12_lawyers_75 rfl ?_
              refine pw_callSP (as := [_, _]) 80 rfl dX12_lawyers_77 mX12_292 sX12_has (m_has (d := d + 244) (show t < 2147483648 by omega) (show j < 31 by omega)) ⟨rfl, by decide, by decide, show (parseMethodDescriptor yX12_has.desc).map (fun d => d.parameters.length) = some 2 by decide +kernel⟩ (by omega) (by decide) (Nat.le_of_ble_eq_true rfl) rfl ?_
              refine pw_if_eq (tgt := 104) 83 rfl dX12_lawyers_80 rfl (fun h80 => absurd h80 (by rw [hb]; decide)) (fun h80 => ?_)
              refine pw_iload 85 rfl dX12_lawyers_83 rfl ?_
              refine pw_aload_n 86 rfl dX12_lawyers_85 rfl ?_
              refine pw_getR 89 rfl dX12_lawyers_86 fX12_9 (by first | rfl | assumption | exact rowS hh | exact mtS hm | exact ruS hr | exact mtA1 hm | exact mtA2 hm | exact mtA3 hm | exact mtA4 hm | exact mtA5 hm | exact mtA6 hm | exact mtA7 hm | exact ruA1 hr | exact ruA2 hr | exact ruA3 hr) rfl (by first | rfl | assumption | exact mtR0 hm | exact mtR1 hm | exact mtR2 hm | exact mtR3 hm | exact mtR4 hm | exact mtR5 hm | exact mtR6 hm | exact ruR0 hr | exact ruR1 hr | exact ruR3 hr) ?_
              refine pw_iload 91 rfl dX12_lawyers_89 rfl ?_
              refine pw_ialdN 92 rfl dX12_lawyers_91 (by first | rfl | assumption | exact rowS hh | exact mtS hm | exact ruS hr | exact mtA1 hm | exact mtA2 hm | exact mtA3 hm | exact mtA4 hm | exact mtA5 hm | exact mtA6 hm | exact mtA7 hm | exact ruA1 hr | exact ruA2 hr | exact ruA3 hr) (by omega) (by first | decide | omega) ?_
              refine pw_isub 93 rfl dX12_lawyers_92 ?_
              refine pw_mabs 96 rfl dX12_lawyers_93 mX12_282 (Nat.le_of_ble_eq_true rfl) ?_
              rotate_left
              rw [ek, nI_dist (by omega) (by omega)]
              by_cases hp : dist j (b k) ≤ N
              · rw [decide_eq_true hp] at ih3
                refine pw_iload_n 97 rfl dX12_lawyers_96 rfl ?_
                refine pw_icmp_gt (tgt := 104) 100 rfl dX12_lawyers_97 rfl (fun h97 => absurd h97 (by (simp (disch := omega) only [nI_leI, nI_ltI, nI_eq, show (0 : Int32) = nI 0 from rfl, not_true_eq_false, not_false_eq_true] <;> omega))) (fun h97 => ?_)
                refine pw_iconst (v := nI 1) 101 rfl dX12_lawyers_100 rfl ?_
                refine pw_goto (tgt := 105) dX12_lawyers_101 rfl ?_
                refine pw_istore 107 rfl dX12_lawyers_105 (by decide) ?_
                refine pw_iincN 110 rfl dX12_lawyers_107 (by decide) rfl ?_
                refine pw_goto (tgt := 57) dX12_lawyers_110 rfl ?_
                rotate_left
                exact ih3
              · rw [decide_eq_false hp] at ih3
                refine pw_iload_n 97 rfl dX12_lawyers_96 rfl ?_
                refine pw_icmp_gt (tgt := 104) 100 rfl dX12_lawyers_97 rfl (fun h97 => ?_) (fun h97 => absurd (by (simp (disch := omega) only [nI_leI, nI_ltI, nI_eq, show (0 : Int32) = nI 0 from rfl, not_true_eq_false, not_false_eq_true] <;> omega)) h97)
                refine pw_iconst (v := nI 0) 105 rfl dX12_lawyers_104 rfl ?_
                refine pw_istore 107 rfl dX12_lawyers_105 (by decide) ?_
                refine pw_iincN 110 rfl dX12_lawyers_107 (by decide) rfl ?_
                refine pw_goto (tgt := 57) dX12_lawyers_110 rfl ?_
                rotate_left
                exact ih3
          · rw [hB] at ih3
            refine pw_icmp_gt (tgt := 113) 69 rfl dX12_lawyers_66 rfl (fun h66 => absurd h66 (by (simp (disch := omega) only [nI_leI, nI_ltI, nI_eq, show (0 : Int32) = nI 0 from rfl, not_true_eq_false, not_false_eq_true] <;> omega))) (fun h66 => ?_)
            refine pw_iload 71 rfl dX12_lawyers_69 rfl ?_
            refine pw_if_ne (tgt := 100) 74 rfl dX12_lawyers_71 rfl (fun h71 => ?_) (fun h71 => absurd h71 (by decide))
            refine pw_iconst (v := nI 1) 101 rfl dX12_lawyers_100 rfl ?_
            refine pw_goto (tgt := 105) dX12_lawyers_101 rfl ?_
            refine pw_istore 107 rfl dX12_lawyers_105 (by decide) ?_
            refine pw_iincN 110 rfl dX12_lawyers_107 (by decide) rfl ?_
            refine pw_goto (tgt := 57) dX12_lawyers_110 rfl ?_
            rotate_left
            exact ih3
  · refine pw_iload_n 6 rfl dX12_lawyers_5 rfl ?_
    refine pw_iconst (v := nI 0) 7 rfl dX12_lawyers_6 rfl ?_
    refine pw_bipush (v := nI 9) 9 rfl dX12_lawyers_7 rfl ?_
    refine pw_callSP (as := [_, _, _]) 12 rfl dX12_lawyers_9 mX12_98 sX12_in (m_in (d := d) _ _ _) ⟨rfl, by decide, by decide, show (parseMethodDescriptor yX12_in.desc).map (fun d => d.parameters.length) = some 3 by decide +kernel⟩ (by omega) (by decide) (Nat.le_of_ble_eq_true rfl) rfl ?_
    refine pw_if_ne (tgt := 17) 15 rfl dX12_lawyers_12 rfl (fun h12 => absurd (by rw [inV_n ho]; rfl) h12) (fun h12 => ?_)
    refine pw_iconst (v := -1) 16 rfl dX12_lawyers_15 rfl ?_
    refine pw_iret dX12_lawyers_16 rfl ?_
    rotate_left
    exact moQ (by unfold qLawyers; rw [hi]; rfl) rfl hA0 (hD0.mono (by omega)) ⟨rd, rfl⟩
theorem badd_len {P : Nat → Bool} : ∀ {k : Nat} {rw : List Int64}, (badd P k rw).length ≤ rw.length + cntP P k
  | 0, rw => by rw [badd]; omega
  | k + 1, rw => by
    have ih := badd_len (P := P) (k := k) (rw := rw)
    rw [badd, cntP]
    split
    · unfold nadd
      split
      · rw [List.length_append]; show _ + 1 ≤ _; omega
      · omega
    · omega
theorem cnt_le1 (b : Nat → Nat) (k : Nat) : ∀ n, cntP (fun i => decide (9 - k < b i)) n + cntP (fun i => decide (b i = 9 - k)) n ≤ cntP (fun i => decide (9 - k ≤ b i)) n
  | 0 => Nat.le_refl _
  | n + 1 => by
    have ih := cnt_le1 b k n
    rw [cntP, cntP, cntP]
    by_cases c1 : 9 - k < b n
    · rw [if_pos (decide_eq_true c1), if_neg (fun z => by have := of_decide_eq_true z; omega), if_pos (decide_eq_true (by omega))]; omega
    · by_cases c2 : b n = 9 - k
      · rw [if_neg (fun z => by have := of_decide_eq_true z; omega), if_pos (decide_eq_true c2), if_pos (decide_eq_true (by omega))]; omega
      · rw [if_neg (fun z => by have := of_decide_eq_true z; omega), if_neg (fun z => by have := of_decide_eq_true z; omega), if_neg (fun z => by have := of_decide_eq_true z; omega)]; omega
theorem cnt_congr {P Q : Nat → Bool} : ∀ {k}, (∀ q, q < k → P q = Q q) → cntP P k = cntP Q k
  | 0, _ => rfl
  | k + 1, h => by rw [cntP, cntP, cnt_congr (fun q hq => h q (by omega)), h k (by omega)]
theorem lnO_len (b : Nat → Nat) (n : Nat) : ∀ k, k ≤ 9 → (lnO b n k).length ≤ cntP (fun i => decide (9 - k < b i)) n
  | 0, _ => Nat.zero_le _
  | k + 1, h => by
    have ih := lnO_len b n k (by omega)
    have h1 := badd_len (P := fun i => decide (b i = 9 - k)) (k := n) (rw := lnO b n k)
    have h2 := cnt_le1 b k n
    have h3 : cntP (fun i => decide (9 - k ≤ b i)) n = cntP (fun i => decide (9 - (k + 1) < b i)) n := cnt_congr (fun q _ => decide_eq_decide.mpr (by omega))
    rw [lnO]
    omega
theorem cntP_mono (P : Nat → Bool) {a : Nat} : ∀ {c}, a ≤ c → cntP P a ≤ cntP P c
  | 0, h => by rw [show a = 0 by omega]; exact Nat.le_refl _
  | c + 1, h => by
    by_cases e : a = c + 1
    · rw [e]; exact Nat.le_refl _
    · have := cntP_mono P (a := a) (c := c) (by omega)
      rw [cntP]; omega
set_option maxRecDepth 100000 in
set_option maxHeartbeats 2000000 in
theorem mo_line {d g : Nat} {s : aSt} {rd : Option Nat} {I : pI} {J : pJ} (hA : MA I J s) (hD : MDg g I) (hg : g ≤ 500000000) (hW : WA s)  : PC SM (d + 245) yX12_line cX12_line 3 (some .int) [.ref 0] (I) (J) (RM rd (some 6)) (moP (g + 10000) (qOp qLine s)) := by
  refine PC.of [some (.ref 0), none, none] rfl rfl (Nat.le_of_ble_eq_true rfl) ?_
  obtain ⟨n, pc, b, us, kp, rw, tx, rt, hd, sw⟩ := s
  refine pw_aload_n 1 rfl dX12_line_0 rfl ?_
  refine pw_iconst (v := nI 0) 2 rfl dX12_line_1 rfl ?_
  refine pw_putI 5 rfl dX12_line_2 fX12_88 w12_7 (by first | rfl | assumption | exact rowS hh | exact mtS hm | exact ruS hr | exact mtA1 hm | exact mtA2 hm | exact mtA3 hm | exact mtA4 hm | exact mtA5 hm | exact mtA6 hm | exact mtA7 hm | exact ruA1 hr | exact ruA2 hr | exact ruA3 hr) rfl rfl rfl ?_
  rotate_left
  have hA0 := MA_thr (v := nI 0) hA
  have hD0 : MDg g (uI I 0 7 (nI 0)) := MDg_f hD (uI_ne (by omega)) (fun j => uI_ne (by omega))
  clear hA hD
  generalize uI I 0 7 (nI 0) = I at hA0 hD0 ⊢
  obtain ⟨mC, mB, mT, mN, mR, mU, mK, mH, mG⟩ := id hA0
  obtain ⟨aW, aU, aK⟩ := id hW
  have hE := MSt_A hA0
  have hn7 := mC.1
  have hn := mC.2.1
  refine pw_aload_n 6 rfl dX12_line_5 rfl ?_
  refine pw_iconst (v := nI 0) 7 rfl dX12_line_6 rfl ?_
  refine pw_putI 10 rfl dX12_line_7 fX12_92 w12_6 (by first | rfl | assumption | exact rowS hh | exact mtS hm | exact ruS hr | exact mtA1 hm | exact mtA2 hm | exact mtA3 hm | exact mtA4 hm | exact mtA5 hm | exact mtA6 hm | exact mtA7 hm | exact ruA1 hr | exact ruA2 hr | exact ruA3 hr) rfl rfl rfl ?_
  refine pw_bipush (v := nI 9) 12 rfl dX12_line_10 rfl ?_
  refine pw_istore_n 13 rfl dX12_line_12 (by decide) ?_
  rotate_left
  have ht := aW.1.2.1
  have L := nat_loop 10 (fun k => ∀ (I' : pI) (J' : pJ) (x2 : Option Value), MN I' J' (lnO b n k) → (∀ a j, ¬ (a = 0 ∧ j = 6) → I' a j = I a j) → PW SM yX12_line.cls cX12_line 3 (d + 245) 13 [some (.ref 0), some (.int (nI (10 - k) + Int32.ofInt (-1))), x2] [] (I') (J') (RM rd (some 6)) (rX cX12_line (some .int) (moP (g + 10000) (qOp qLine (n, pc, b, us, kp, rw, tx, rt, hd, sw))))) ?_ ?_
  · exact L _ _ _ MN_0 (fun a j q => uI_ne (by omega))
  · intro I' J' x2 g1 g2
    refine pw_iload_n 14 rfl dX12_line_13 rfl ?_
    refine pw_if_lt (tgt := 55) 17 rfl dX12_line_14 rfl (fun h14 => ?_) (fun h14 => absurd (by decide) h14)
    refine pw_aload_n 56 rfl dX12_line_55 rfl ?_
    refine pw_getI 59 rfl dX12_line_56 fX12_95 (by first | rfl | assumption | exact rowS hh | exact mtS hm | exact ruS hr | exact mtA1 hm | exact mtA2 hm | exact mtA3 hm | exact mtA4 hm | exact mtA5 hm | exact mtA6 hm | exact mtA7 hm | exact ruA1 hr | exact ruA2 hr | exact ruA3 hr) rfl ?_
    rotate_left
    rw [g2 _ _ (by omega), hn]
    refine pw_iret dX12_line_59 rfl ?_
    rotate_left
    exact moQ rfl rfl (MA_rw hA0 (fun a j q => g2 a j (by omega)) g1) ((MDg_f hD0 (g2 _ _ (by omega)) (fun j => g2 _ _ (by omega))).mono (by omega)) ⟨rd, rfl⟩
  · intro k hk ih I' J' x2 g1 g2
    rw [show nI (10 - k) + Int32.ofInt (-1) = nI (9 - k) from by rw [show 10 - k = (9 - k) + 1 by omega]; exact pk_m1 (9 - k)]
    rw [show 10 - (k + 1) = 9 - k by omega] at ih
    refine pw_iload_n 14 rfl dX12_line_13 rfl ?_
    refine pw_if_lt (tgt := 55) 17 rfl dX12_line_14 rfl (fun h14 => absurd h14 (nI_pos (by omega))) (fun h14 => ?_)
    refine pw_iconst (v := nI 0) 18 rfl dX12_line_17 rfl ?_
    refine pw_istore_n 19 rfl dX12_line_18 (by decide) ?_
    rotate_left
    have L2 := nat_loop n (fun i => ∀ (I' : pI) (J' : pJ), MN I' J' (badd (fun i => decide (b i = 9 - k)) i (lnO b n k)) → (∀ a j, ¬ (a = 0 ∧ j = 6) → I' a j = I a j) → PW SM yX12_line.cls cX12_line 3 (d + 245) 19 [some (.ref 0), some (.int (nI (9 - k))), some (.int (nI i))] [] (I') (J') (RM rd (some 6)) (rX cX12_line (some .int) (moP (g + 10000) (qOp qLine (n, pc, b, us, kp, rw, tx, rt, hd, sw))))) ?_ ?_
    · exact L2 I' J' g1 g2
    · intro I2 J2 p1 p2
      refine pw_iload_n 20 rfl dX12_line_19 rfl ?_
      refine pw_aload_n 21 rfl dX12_line_20 rfl ?_
      refine pw_getI 24 rfl dX12_line_21 fX12_95 (by first | rfl | assumption | exact rowS hh | exact mtS hm | exact ruS hr | exact mtA1 hm | exact mtA2 hm | exact mtA3 hm | exact mtA4 hm | exact mtA5 hm | exact mtA6 hm | exact mtA7 hm | exact ruA1 hr | exact ruA2 hr | exact ruA3 hr) rfl ?_
      refine pw_icmp_ge (tgt := 49) 27 rfl dX12_line_24 rfl (fun h24 => ?_) (fun h24 => absurd (by rw [p2 _ _ (by omega), hn]; (simp (disch := omega) only [nI_leI, nI_ltI, nI_eq, show (0 : Int32) = nI 0 from rfl, not_true_eq_false, not_false_eq_true] <;> omega)) h24)
      refine pw_iinc 52 rfl dX12_line_49 (by decide) rfl ?_
      refine pw_goto (tgt := 13) dX12_line_52 rfl ?_
      rotate_left
      exact ih I2 J2 _ p1 p2
    · intro i hi ih2 I2 J2 p1 p2
      have hb := aW.1.2.2.2.2 i (by omega)
      have e1 : I2 1 i = nI (b i) := by rw [p2 _ _ (by omega)]; exact mB i (by omega)
      by_cases hp : b i = 9 - k
      · have hl : (badd (fun i => decide (b i = 9 - k)) i (lnO b n k)).length < 12 := by
          have l1 := badd_len (P := fun i => decide (b i = 9 - k)) (k := i) (rw := lnO b n k)
          have l2 := lnO_len b n k (by omega)
          have l3 := cnt_le1 b k n
          have l4 := cntP_mono (fun i => decide (b i = 9 - k)) (show i ≤ n by omega)
          have l5 := cntP_le (fun i => decide (9 - k ≤ b i)) n
          omega
        refine pw_iload_n 20 rfl dX12_line_19 rfl ?_
        refine pw_aload_n 21 rfl dX12_line_20 rfl ?_
        refine pw_getI 24 rfl dX12_line_21 fX12_95 (by first | rfl | assumption | exact rowS hh | exact mtS hm | exact ruS hr | exact mtA1 hm | exact mtA2 hm | exact mtA3 hm | exact mtA4 hm | exact mtA5 hm | exact mtA6 hm | exact mtA7 hm | exact ruA1 hr | exact ruA2 hr | exact ruA3 hr) rfl ?_
        refine pw_icmp_ge (tgt := 49) 27 rfl dX12_line_24 rfl (fun h24 => absurd h24 (by rw [p2 _ _ (by omega), hn]; (simp (disch := omega) only [nI_leI, nI_ltI, nI_eq, show (0 : Int32) = nI 0 from rfl, not_true_eq_false, not_false_eq_true] <;> omega))) (fun h24 => ?_)
        refine pw_aload_n 28 rfl dX12_line_27 rfl ?_
        refine pw_getR 31 rfl dX12_line_28 fX12_9 (by first | rfl | assumption | exact rowS hh | exact mtS hm | exact ruS hr | exact mtA1 hm | exact mtA2 hm | exact mtA3 hm | exact mtA4 hm | exact mtA5 hm | exact mtA6 hm | exact mtA7 hm | exact ruA1 hr | exact ruA2 hr | exact ruA3 hr) rfl (by first | rfl | assumption | exact mtR0 hm | exact mtR1 hm | exact mtR2 hm | exact mtR3 hm | exact mtR4 hm | exact mtR5 hm | exact mtR6 hm | exact ruR0 hr | exact ruR1 hr | exact ruR3 hr) ?_
        refine pw_iload_n 32 rfl dX12_line_31 rfl ?_
        refine pw_ialdN 33 rfl dX12_line_32 (by first | rfl | assumption | exact rowS hh | exact mtS hm | exact ruS hr | exact mtA1 hm | exact mtA2 hm | exact mtA3 hm | exact mtA4 hm | exact mtA5 hm | exact mtA6 hm | exact mtA7 hm | exact ruA1 hr | exact ruA2 hr | exact ruA3 hr) (by omega) (by first | decide | omega) ?_
        refine pw_iload_n 34 rfl dX12_line_33 rfl ?_
        refine pw_icmp_ne (tgt := 43) 37 rfl dX12_line_34 rfl (fun h34 => absurd (by rw [e1, hp]) h34) (fun h34 => ?_)
        refine pw_aload_n 38 rfl dX12_line_37 rfl ?_
        refine pw_iload_n 39 rfl dX12_line_38 rfl ?_
        refine pw_i2l 40 rfl dX12_line_39 ?_
        refine pw_callV (as := [_]) 43 rfl dX12_line_40 mX12_236 vX12_tell (m_tell (d := d + 244) p1 hl) (by first | rfl | assumption | exact rowS hh | exact mtS hm | exact ruS hr | exact mtA1 hm | exact mtA2 hm | exact mtA3 hm | exact mtA4 hm | exact mtA5 hm | exact mtA6 hm | exact mtA7 hm | exact ruA1 hr | exact ruA2 hr | exact ruA3 hr) rfl (by decide) ⟨rfl, by decide, by decide, show (parseMethodDescriptor yX12_tell.desc).map (fun d => d.parameters.length) = some 1 by decide +kernel⟩ (by omega) (by decide) (Nat.le_of_ble_eq_true rfl) rfl (fun r40 I40 J40 R40 c40 => ?_)
        obtain ⟨rfl, n1, n2, rfl⟩ := c40
        refine pw_iincN 46 rfl dX12_line_43 (by decide) rfl ?_
        refine pw_goto (tgt := 19) dX12_line_46 rfl ?_
        rotate_left
        exact ih2 I40 J40 (by rw [badd, if_pos (decide_eq_true hp), nadd, if_pos hl]; exact n1) (fun a j h => by rw [n2 a j h, p2 a j h])
      · refine pw_iload_n 20 rfl dX12_line_19 rfl ?_
        refine pw_aload_n 21 rfl dX12_line_20 rfl ?_
        refine pw_getI 24 rfl dX12_line_21 fX12_95 (by first | rfl | assumption | exact rowS hh | exact mtS hm | exact ruS hr | exact mtA1 hm | exact mtA2 hm | exact mtA3 hm | exact mtA4 hm | exact mtA5 hm | exact mtA6 hm | exact mtA7 hm | exact ruA1 hr | exact ruA2 hr | exact ruA3 hr) rfl ?_
        refine pw_icmp_ge (tgt := 49) 27 rfl dX12_line_24 rfl (fun h24 => absurd h24 (by rw [p2 _ _ (by omega), hn]; (simp (disch := omega) only [nI_leI, nI_ltI, nI_eq, show (0 : Int32) = nI 0 from rfl, not_true_eq_false, not_false_eq_true] <;> omega))) (fun h24 => ?_)
        refine pw_aload_n 28 rfl dX12_line_27 rfl ?_
        refine pw_getR 31 rfl dX12_line_28 fX12_9 (by first | rfl | assumption | exact rowS hh | exact mtS hm | exact ruS hr | exact mtA1 hm | exact mtA2 hm | exact mtA3 hm | exact mtA4 hm | exact mtA5 hm | exact mtA6 hm | exact mtA7 hm | exact ruA1 hr | exact ruA2 hr | exact ruA3 hr) rfl (by first | rfl | assumption | exact mtR0 hm | exact mtR1 hm | exact mtR2 hm | exact mtR3 hm | exact mtR4 hm | exact mtR5 hm | exact mtR6 hm | exact ruR0 hr | exact ruR1 hr | exact ruR3 hr) ?_
        refine pw_iload_n 32 rfl dX12_line_31 rfl ?_
        refine pw_ialdN 33 rfl dX12_line_32 (by first | rfl | assumption | exact rowS hh | exact mtS hm | exact ruS hr | exact mtA1 hm | exact mtA2 hm | exact mtA3 hm | exact mtA4 hm | exact mtA5 hm | exact mtA6 hm | exact mtA7 hm | exact ruA1 hr | exact ruA2 hr | exact ruA3 hr) (by omega) (by first | decide | omega) ?_
        refine pw_iload_n 34 rfl dX12_line_33 rfl ?_
        refine pw_icmp_ne (tgt := 43) 37 rfl dX12_line_34 rfl (fun h34 => ?_) (fun h34 => absurd h34 (by rw [e1, nI_eq (by omega) (by omega)]; exact hp))
        refine pw_iincN 46 rfl dX12_line_43 (by decide) rfl ?_
        refine pw_goto (tgt := 19) dX12_line_46 rfl ?_
        rotate_left
        exact ih2 I2 J2 (by rw [badd, if_neg (fun z => hp (of_decide_eq_true z))]; exact p1) p2
