/-! the class's Sights: law L is 20 a + 4 (b - 1) + c -/
def sb (L p : Nat) : Nat := min (L % 4) (L / 20 + p / (L / 4 % 5 + 1))
def okL (sw : List (Nat × Nat)) (L : Nat) : Bool := sw.all (fun q => decide (sb L q.1 = q.2))
def XG (I : pI) (sw : List (Nat × Nat)) : Prop := I 64 2 = nI sw.length ∧ sw.length ≤ 10 ∧ ∀ j p, sw[j]? = some p → I 65 j = nI (10 * p.1 + p.2) ∧ p.1 ≤ 9 ∧ p.2 ≤ 3
theorem XG_fr {I I' : pI} {sw : List (Nat × Nat)} (h : XG I sw) (h1 : I' 64 2 = I 64 2) (h2 : I' 65 = I 65) : XG I' sw := by
  unfold XG at *
  rw [h1, h2]
  exact h
theorem law_abc {a b c : Nat} (hb : b < 5) (hc : c < 4) : (20 * a + 4 * b + c) % 4 = c ∧ (20 * a + 4 * b + c) / 20 = a ∧ (20 * a + 4 * b + c) / 4 % 5 = b := by omega
theorem sb_abc {a b c : Nat} (hb : b < 5) (hc : c < 4) (p : Nat) : sb (20 * a + 4 * b + c) p = min c (a + p / (b + 1)) := by
  obtain ⟨h1, h2, h3⟩ := law_abc (a := a) hb hc
  unfold sb
  rw [h1, h2, h3]
set_option maxRecDepth 100000 in
set_option maxHeartbeats 2000000 in
theorem x_stepsBy {d a b c p : Nat} {I : pI} {J : pJ} (ha : a < 4) (hb : b < 5) (hc : c < 4) (hp : p ≤ 9) : PC SX (d + 1) yX8_stepsBy cX8_stepsBy 4 (some .int) [.int (nI a), .int (nI (b + 1)), .int (nI c), .int (nI p)] (I) (J) (RX) (pPu (.int (nI (min c (a + p / (b + 1))))) I J RX) := by
  refine PC.of [some (.int (nI a)), some (.int (nI (b + 1))), some (.int (nI c)), some (.int (nI p))] rfl rfl (Nat.le_of_ble_eq_true rfl) ?_
  have hd : p / (b + 1) ≤ 9 := Nat.le_trans (Nat.div_le_self _ _) hp
  refine pw_iload_n 1 rfl dX8_stepsBy_0 rfl ?_
  refine pw_iconst (v := nI 1) 2 rfl dX8_stepsBy_1 rfl ?_
  refine pw_icmp_ge (tgt := 9) 5 rfl dX8_stepsBy_2 rfl (fun h2 => ?_) (fun h2 => absurd (by (simp (disch := omega) only [nI_leI, nI_ltI, nI_eq, show (0 : Int32) = nI 0 from rfl, not_true_eq_false, not_false_eq_true] <;> omega)) h2)
  refine pw_iload_n 10 rfl dX8_stepsBy_9 rfl ?_
  refine pw_iload_n 11 rfl dX8_stepsBy_10 rfl ?_
  refine pw_iload_n 12 rfl dX8_stepsBy_11 rfl ?_
  refine pw_iload_n 13 rfl dX8_stepsBy_12 rfl ?_
  refine pw_idivN 14 rfl dX8_stepsBy_13 (by omega) (by omega) (by omega) ?_
  first | refine pw_iaddN 15 rfl dX8_stepsBy_14 ?_ | refine pw_iadd 15 rfl dX8_stepsBy_14 ?_
  refine pw_mmin 18 rfl dX8_stepsBy_15 mX8_82 (Nat.le_of_ble_eq_true rfl) ?_
  rotate_left
  rw [nI_min (by omega) (by omega)]
  refine pw_iret dX8_stepsBy_18 rfl ?_
  rotate_left
  exact ⟨rfl, rfl, rfl, rfl⟩
theorem all_take {sw : List (Nat × Nat)} {P : Nat × Nat → Bool} {k : Nat} {p : Nat × Nat} (hp : sw[k]? = some p) : (sw.take (k + 1)).all P = ((sw.take k).all P && P p) := by
  rw [List.take_succ, hp, List.all_append]
  simp
set_option maxRecDepth 100000 in
set_option maxHeartbeats 2000000 in
theorem x_lawFits {d a b c : Nat} {I : pI} {J : pJ} {sw : List (Nat × Nat)} (hG : XG I sw) (ha : a < 4) (hb : b < 5) (hc : c < 4) : PC SX (d + 2) yX8_lawFits cX8_lawFits 5 (some .boolean) [.ref 64, .int (nI a), .int (nI (b + 1)), .int (nI c)] (I) (J) (RX) (pPu (.int (nI (if okL sw (20 * a + 4 * b + c) then 1 else 0))) I J RX) := by
  refine PC.of [some (.ref 64), some (.int (nI a)), some (.int (nI (b + 1))), some (.int (nI c)), none] rfl rfl (Nat.le_of_ble_eq_true rfl) ?_
  obtain ⟨n1, n2, n3⟩ := id hG
  refine pw_iconst (v := nI 0) 1 rfl dX8_lawFits_0 rfl ?_
  refine pw_istore 3 rfl dX8_lawFits_1 (by decide) ?_
  rotate_left
  have L := nat_loop sw.length (fun k => (sw.take k).all (fun q => decide (sb (20 * a + 4 * b + c) q.1 = q.2)) = true → PW SX yX8_lawFits.cls cX8_lawFits 5 (d + 2) 3 [some (.ref 64), some (.int (nI a)), some (.int (nI (b + 1))), some (.int (nI c)), some (.int (nI k))] [] (I) (J) (RX) (rX cX8_lawFits (some .boolean) (pPu (.int (nI (if okL sw (20 * a + 4 * b + c) then 1 else 0))) I J RX))) ?_ ?_
  · exact L (by simp)
  · intro hk
    rw [List.take_length] at hk
    rw [okL, if_pos hk]
    refine pw_iload 5 rfl dX8_lawFits_3 rfl ?_
    refine pw_aload_n 6 rfl dX8_lawFits_5 rfl ?_
    refine pw_getI 9 rfl dX8_lawFits_6 fX8_15 (by first | rfl | assumption | exact rowS hh | exact mtS hm | exact ruS hr | exact mtA1 hm | exact mtA2 hm | exact mtA3 hm | exact mtA4 hm | exact mtA5 hm | exact mtA6 hm | exact mtA7 hm | exact ruA1 hr | exact ruA2 hr | exact ruA3 hr) rfl ?_
    refine pw_icmp_ge (tgt := 56) 12 rfl dX8_lawFits_9 rfl (fun h9 => ?_) (fun h9 => absurd (by rw [n1]; (simp (disch := omega) only [nI_leI, nI_ltI, nI_eq, show (0 : Int32) = nI 0 from rfl, not_true_eq_false, not_false_eq_true] <;> omega)) h9)
    refine pw_iconst (v := nI 1) 57 rfl dX8_lawFits_56 rfl ?_
    refine pw_iret dX8_lawFits_57 rfl ?_
    rotate_left
    exact ⟨rfl, rfl, rfl, rfl⟩
  · intro k hk ih hok
    obtain ⟨p, hp⟩ : ∃ p, sw[k]? = some p := ⟨_, List.getElem?_eq_getElem hk⟩
    obtain ⟨e1, e2, e3⟩ := n3 k p hp
    have hdv : (10 * p.1 + p.2) / 10 = p.1 := by omega
    have hdm : (10 * p.1 + p.2) % 10 = p.2 := by omega
    refine pw_iload 5 rfl dX8_lawFits_3 rfl ?_
    refine pw_aload_n 6 rfl dX8_lawFits_5 rfl ?_
    refine pw_getI 9 rfl dX8_lawFits_6 fX8_15 (by first | rfl | assumption | exact rowS hh | exact mtS hm | exact ruS hr | exact mtA1 hm | exact mtA2 hm | exact mtA3 hm | exact mtA4 hm | exact mtA5 hm | exact mtA6 hm | exact mtA7 hm | exact ruA1 hr | exact ruA2 hr | exact ruA3 hr) rfl ?_
    refine pw_icmp_ge (tgt := 56) 12 rfl dX8_lawFits_9 rfl (fun h9 => absurd h9 (by rw [n1]; (simp (disch := omega) only [nI_leI, nI_ltI, nI_eq, show (0 : Int32) = nI 0 from rfl, not_true_eq_false, not_false_eq_true] <;> omega))) (fun h9 => ?_)
    refine pw_iload 14 rfl dX8_lawFits_12 rfl ?_
    refine pw_bipush (v := nI 10) 16 rfl dX8_lawFits_14 rfl ?_
    refine pw_icmp_ge (tgt := 56) 19 rfl dX8_lawFits_16 rfl (fun h16 => absurd h16 (by (simp (disch := omega) only [nI_leI, nI_ltI, nI_eq, show (0 : Int32) = nI 0 from rfl, not_true_eq_false, not_false_eq_true] <;> omega))) (fun h16 => ?_)
    refine pw_iload_n 20 rfl dX8_lawFits_19 rfl ?_
    refine pw_iload_n 21 rfl dX8_lawFits_20 rfl ?_
    refine pw_iload_n 22 rfl dX8_lawFits_21 rfl ?_
    refine pw_aload_n 23 rfl dX8_lawFits_22 rfl ?_
    refine pw_getR 26 rfl dX8_lawFits_23 fX8_11 (by first | rfl | assumption | exact rowS hh | exact mtS hm | exact ruS hr | exact mtA1 hm | exact mtA2 hm | exact mtA3 hm | exact mtA4 hm | exact mtA5 hm | exact mtA6 hm | exact mtA7 hm | exact ruA1 hr | exact ruA2 hr | exact ruA3 hr) rfl (by first | rfl | assumption | exact mtR0 hm | exact mtR1 hm | exact mtR2 hm | exact mtR3 hm | exact mtR4 hm | exact mtR5 hm | exact mtR6 hm | exact ruR0 hr | exact ruR1 hr | exact ruR3 hr) ?_
    refine pw_iload 28 rfl dX8_lawFits_26 rfl ?_
    refine pw_ialdN 29 rfl dX8_lawFits_28 (by first | rfl | assumption | exact rowS hh | exact mtS hm | exact ruS hr | exact mtA1 hm | exact mtA2 hm | exact mtA3 hm | exact mtA4 hm | exact mtA5 hm | exact mtA6 hm | exact mtA7 hm | exact ruA1 hr | exact ruA2 hr | exact ruA3 hr) (by omega) (by decide) ?_
    rotate_left
    rw [e1]
    refine pw_bipush (v := nI 10) 31 rfl dX8_lawFits_29 rfl ?_
    refine pw_idivN 32 rfl dX8_lawFits_31 (by omega) (by omega) (by omega) ?_
    rotate_left
    rw [hdv]
    refine pw_callSP (as := [_, _, _, _]) 35 rfl dX8_lawFits_32 mX8_78 sX8_stepsBy (x_stepsBy (d := d) ha hb hc e2) ⟨rfl, by decide, by decide, show (parseMethodDescriptor yX8_stepsBy.desc).map (fun d => d.parameters.length) = some 4 by decide +kernel⟩ (by omega) (by decide) (Nat.le_of_ble_eq_true rfl) rfl ?_
    refine pw_aload_n 36 rfl dX8_lawFits_35 rfl ?_
    refine pw_getR 39 rfl dX8_lawFits_36 fX8_11 (by first | rfl | assumption | exact rowS hh | exact mtS hm | exact ruS hr | exact mtA1 hm | exact mtA2 hm | exact mtA3 hm | exact mtA4 hm | exact mtA5 hm | exact mtA6 hm | exact mtA7 hm | exact ruA1 hr | exact ruA2 hr | exact ruA3 hr) rfl (by first | rfl | assumption | exact mtR0 hm | exact mtR1 hm | exact mtR2 hm | exact mtR3 hm | exact mtR4 hm | exact mtR5 hm | exact mtR6 hm | exact ruR0 hr | exact ruR1 hr | exact ruR3 hr) ?_
    refine pw_iload 41 rfl dX8_lawFits_39 rfl ?_
    refine pw_ialdN 42 rfl dX8_lawFits_41 (by first | rfl | assumption | exact rowS hh | exact mtS hm | exact ruS hr | exact mtA1 hm | exact mtA2 hm | exact mtA3 hm | exact mtA4 hm | exact mtA5 hm | exact mtA6 hm | exact mtA7 hm | exact ruA1 hr | exact ruA2 hr | exact ruA3 hr) (by omega) (by decide) ?_
    rotate_left
    rw [e1]
    refine pw_bipush (v := nI 10) 44 rfl dX8_lawFits_42 rfl ?_
    refine pw_iremN 45 rfl dX8_lawFits_44 (by omega) (by omega) (by omega) ?_
    rotate_left
    rw [hdm, ← sb_abc hb hc]
    have hsl : sb (20 * a + 4 * b + c) p.1 < 2147483648 := by rw [sb_abc hb hc]; have := Nat.min_le_left c (a + p.1 / (b + 1)); omega
    by_cases he : sb (20 * a + 4 * b + c) p.1 = p.2
    · refine pw_icmp_eq (tgt := 50) 48 rfl dX8_lawFits_45 rfl (fun h45 => ?_) (fun h45 => absurd (by rw [he]) h45)
      refine pw_iincN 53 rfl dX8_lawFits_50 (by decide) rfl ?_
      refine pw_goto (tgt := 3) dX8_lawFits_53 rfl ?_
      rotate_left
      exact ih (by rw [all_take hp, hok, decide_eq_true he]; rfl)
    · have hno : okL sw (20 * a + 4 * b + c) = false := by
        rw [okL, List.all_eq_false]
        exact ⟨p, List.mem_of_getElem? hp, by simp [he]⟩
      rw [hno, if_neg (by decide)]
      refine pw_icmp_eq (tgt := 50) 48 rfl dX8_lawFits_45 rfl (fun h45 => absurd h45 (by rw [nI_eq hsl (by omega)]; exact he)) (fun h45 => ?_)
      refine pw_iconst (v := nI 0) 49 rfl dX8_lawFits_48 rfl ?_
      refine pw_iret dX8_lawFits_49 rfl ?_
      rotate_left
      exact ⟨rfl, rfl, rfl, rfl⟩
def fstL (ok : Nat → Bool) : Nat → Option Nat
  | 0 => none
  | k + 1 => match fstL ok k with
    | some f => some f
    | none => if ok k then some k else none
theorem fstL_cnt (ok : Nat → Bool) : ∀ k, fstL ok k = none ↔ cntP ok k = 0
  | 0 => ⟨fun _ => rfl, fun _ => rfl⟩
  | k + 1 => by
    have ih := fstL_cnt ok k
    rw [fstL]
    cases e : fstL ok k with
    | some f =>
      have : cntP ok k ≠ 0 := fun z => by rw [ih.mpr z] at e; cases e
      refine Iff.intro (fun h => by cases h) (fun h => ?_)
      rw [cntP] at h
      omega
    | none =>
      have h0 := ih.mp e
      show (if ok k then some k else none) = none ↔ _
      rw [cntP, h0]
      cases hk : ok k <;> simp
theorem fstL_y {ok : Nat → Bool} {k : Nat} (h : cntP ok k = 0) (hk : ok k = true) : fstL ok (k + 1) = some k := by
  rw [fstL, (fstL_cnt ok k).mpr h]
  exact if_pos hk
theorem fstL_s {ok : Nat → Bool} {k f : Nat} (h : fstL ok k = some f) : fstL ok (k + 1) = some f := by rw [fstL, h]
theorem fstL_n {ok : Nat → Bool} {k : Nat} (h : ok k = false) : fstL ok (k + 1) = fstL ok k := by
  rw [fstL]
  cases fstL ok k with
  | some f => rfl
  | none => rw [h]; rfl
def gI (I : pI) (ok : Nat → Bool) (k : Nat) (I' : pI) : Prop :=
  I' 64 4 = nI (cntP ok k) ∧ (∀ f, fstL ok k = some f → I' 64 5 = nI (f / 20) ∧ I' 64 6 = nI (f / 4 % 5 + 1) ∧ I' 64 7 = nI (f % 4)) ∧
  (∀ p s, p < 10 → s < 4 → I' 66 (p * 4 + s) = nI (cntP (fun L => ok L && decide (sb L p = s)) k)) ∧ (∀ a, a ≠ 64 → a ≠ 66 → I' a = I a) ∧ I' 64 2 = I 64 2

set_option maxRecDepth 100000 in
set_option maxHeartbeats 2000000 in
theorem x_addLaw {d a b c : Nat} {I0 I : pI} {J : pJ} {ok : Nat → Bool} (hG : gI I0 ok (20 * a + 4 * b + c) I) (hok : ok (20 * a + 4 * b + c) = true) (ha : a < 4) (hb : b < 5) (hc : c < 4) : PC SX (d + 2) yX8_addLaw cX8_addLaw 6 none [.ref 64, .int (nI a), .int (nI (b + 1)), .int (nI c)] (I) (J) (RX) (fun r' I' J' R' => r' = none ∧ gI I0 ok (20 * a + 4 * b + c + 1) I' ∧ J = J' ∧ R' = RX) := by
  refine PC.of [some (.ref 64), some (.int (nI a)), some (.int (nI (b + 1))), some (.int (nI c)), none, none] rfl rfl (Nat.le_of_ble_eq_true rfl) ?_
  obtain ⟨g1, g2, g3, g4, g5⟩ := id hG
  obtain ⟨m1, m2, m3⟩ := law_abc (a := a) hb hc
  have hcl := cntP_le ok (20 * a + 4 * b + c)
  have tail : ∀ (I1 : pI), I1 64 4 = nI (cntP ok (20 * a + 4 * b + c)) → (∀ f, fstL ok (20 * a + 4 * b + c + 1) = some f → I1 64 5 = nI (f / 20) ∧ I1 64 6 = nI (f / 4 % 5 + 1) ∧ I1 64 7 = nI (f % 4)) → (∀ p s, p < 10 → s < 4 → I1 66 (p * 4 + s) = nI (cntP (fun L => ok L && decide (sb L p = s)) (20 * a + 4 * b + c))) → (∀ a, a ≠ 64 → a ≠ 66 → I1 a = I0 a) → I1 64 2 = I0 64 2 → PW SX yX8_addLaw.cls cX8_addLaw 6 (d + 2) 22 [some (.ref 64), some (.int (nI a)), some (.int (nI (b + 1))), some (.int (nI c)), none, none] [] (I1) (J) (RX) (rX cX8_addLaw none (fun r' I' J' R' => r' = none ∧ gI I0 ok (20 * a + 4 * b + c + 1) I' ∧ J = J' ∧ R' = RX)) := by
    intro I1 q1 q2 q3 q4 q5
    refine pw_aload_n 23 rfl dX8_addLaw_22 rfl ?_
    refine pw_dup 24 rfl dX8_addLaw_23 rfl ?_
    refine pw_getI 27 rfl dX8_addLaw_24 fX8_22 (by first | rfl | assumption | exact rowS hh | exact mtS hm | exact ruS hr | exact mtA1 hm | exact mtA2 hm | exact mtA3 hm | exact mtA4 hm | exact mtA5 hm | exact mtA6 hm | exact mtA7 hm | exact ruA1 hr | exact ruA2 hr | exact ruA3 hr) rfl ?_
    refine pw_iconst (v := nI 1) 28 rfl dX8_addLaw_27 rfl ?_
    rotate_left
    rw [q1]
    first | refine pw_iaddN 29 rfl dX8_addLaw_28 ?_ | refine pw_iadd 29 rfl dX8_addLaw_28 ?_
    refine pw_putI 32 rfl dX8_addLaw_29 fX8_22 w8_4 (by first | rfl | assumption | exact rowS hh | exact mtS hm | exact ruS hr | exact mtA1 hm | exact mtA2 hm | exact mtA3 hm | exact mtA4 hm | exact mtA5 hm | exact mtA6 hm | exact mtA7 hm | exact ruA1 hr | exact ruA2 hr | exact ruA3 hr) rfl rfl rfl ?_
    refine pw_iconst (v := nI 0) 33 rfl dX8_addLaw_32 rfl ?_
    refine pw_istore 35 rfl dX8_addLaw_33 (by decide) ?_
    rotate_left
    have L := nat_loop 10 (fun p => ∀ (I' : pI) (x5 : Option Value), (∀ j, I' 64 j = uI I1 64 4 (nI (cntP ok (20 * a + 4 * b + c) + 1)) 64 j) → (∀ p' s, p' < 10 → s < 4 → I' 66 (p' * 4 + s) = nI (cntP (fun L => ok L && decide (sb L p' = s)) (if p' < p then 20 * a + 4 * b + c + 1 else 20 * a + 4 * b + c))) → (∀ a, a ≠ 64 → a ≠ 66 → I' a = I0 a) → PW SX yX8_addLaw.cls cX8_addLaw 6 (d + 2) 35 [some (.ref 64), some (.int (nI a)), some (.int (nI (b + 1))), some (.int (nI c)), some (.int (nI p)), x5] [] (I') (J) (RX) (rX cX8_addLaw none (fun r' I' J' R' => r' = none ∧ gI I0 ok (20 * a + 4 * b + c + 1) I' ∧ J = J' ∧ R' = RX))) ?_ ?_
    · exact L _ _ (fun j => rfl) (fun p' s h1 h2 => by rw [uI_ne (by omega), if_neg (by omega)]; exact q3 p' s h1 h2) (fun a h1 h2 => by rw [uI, if_neg h1]; exact q4 a h1 h2)
    · intro I' x5 r1 r2 r3
      refine pw_iload 37 rfl dX8_addLaw_35 rfl ?_
      refine pw_bipush (v := nI 9) 39 rfl dX8_addLaw_37 rfl ?_
      refine pw_icmp_gt (tgt := 89) 42 rfl dX8_addLaw_39 rfl (fun h39 => ?_) (fun h39 => absurd (by (simp (disch := omega) only [nI_leI, nI_ltI, nI_eq, show (0 : Int32) = nI 0 from rfl, not_true_eq_false, not_false_eq_true] <;> omega)) h39)
      refine pw_vret dX8_addLaw_89 ?_
      rotate_left
      refine ⟨rfl, ⟨?_, fun f hf => ?_, fun p s h1 h2 => ?_, r3, ?_⟩, rfl, rfl⟩
      · rw [r1, uI_eq, cntP_y hok]
      · rw [r1, r1, r1, uI_ne (by omega), uI_ne (by omega), uI_ne (by omega)]; exact q2 f hf
      · rw [r2 p s h1 h2, if_pos h1]
      · rw [r1, uI_ne (by omega)]; exact q5
    · intro p hp ih I' x5 r1 r2 r3
      have hs3 : min c (a + p / (b + 1)) < 4 := Nat.lt_of_le_of_lt (Nat.min_le_left _ _) hc
      have hpl : p * 4 + min c (a + p / (b + 1)) < 40 := by omega
      refine pw_iload 37 rfl dX8_addLaw_35 rfl ?_
      refine pw_bipush (v := nI 9) 39 rfl dX8_addLaw_37 rfl ?_
      refine pw_icmp_gt (tgt := 89) 42 rfl dX8_addLaw_39 rfl (fun h39 => absurd h39 (by (simp (disch := omega) only [nI_leI, nI_ltI, nI_eq, show (0 : Int32) = nI 0 from rfl, not_true_eq_false, not_false_eq_true] <;> omega))) (fun h39 => ?_)
      refine pw_iload 44 rfl dX8_addLaw_42 rfl ?_
      refine pw_iconst (v := nI 4) 45 rfl dX8_addLaw_44 rfl ?_
      first | refine pw_imulN 46 rfl dX8_addLaw_45 ?_ | refine pw_imul 46 rfl dX8_addLaw_45 ?_
      refine pw_iload_n 47 rfl dX8_addLaw_46 rfl ?_
      refine pw_iload_n 48 rfl dX8_addLaw_47 rfl ?_
      refine pw_iload_n 49 rfl dX8_addLaw_48 rfl ?_
      refine pw_iload 51 rfl dX8_addLaw_49 rfl ?_
      refine pw_callSP (as := [_, _, _, _]) 54 rfl dX8_addLaw_51 mX8_78 sX8_stepsBy (x_stepsBy (d := d) ha hb hc (show p ≤ 9 by omega)) ⟨rfl, by decide, by decide, show (parseMethodDescriptor yX8_stepsBy.desc).map (fun d => d.parameters.length) = some 4 by decide +kernel⟩ (by omega) (by decide) (Nat.le_of_ble_eq_true rfl) rfl ?_
      first | refine pw_iaddN 55 rfl dX8_addLaw_54 ?_ | refine pw_iadd 55 rfl dX8_addLaw_54 ?_
      refine pw_istore 57 rfl dX8_addLaw_55 (by decide) ?_
      refine pw_iload 59 rfl dX8_addLaw_57 rfl ?_
      refine pw_if_lt (tgt := 83) 62 rfl dX8_addLaw_59 rfl (fun h59 => absurd h59 (nI_pos (by omega))) (fun h59 => ?_)
      refine pw_iload 64 rfl dX8_addLaw_62 rfl ?_
      refine pw_aload_n 65 rfl dX8_addLaw_64 rfl ?_
      refine pw_getR 68 rfl dX8_addLaw_65 fX8_19 (by first | rfl | assumption | exact rowS hh | exact mtS hm | exact ruS hr | exact mtA1 hm | exact mtA2 hm | exact mtA3 hm | exact mtA4 hm | exact mtA5 hm | exact mtA6 hm | exact mtA7 hm | exact ruA1 hr | exact ruA2 hr | exact ruA3 hr) rfl (by first | rfl | assumption | exact mtR0 hm | exact mtR1 hm | exact mtR2 hm | exact mtR3 hm | exact mtR4 hm | exact mtR5 hm | exact mtR6 hm | exact ruR0 hr | exact ruR1 hr | exact ruR3 hr) ?_
      refine pw_alen 69 rfl dX8_addLaw_68 (by first | rfl | assumption | exact rowS hh | exact mtS hm | exact ruS hr | exact mtA1 hm | exact mtA2 hm | exact mtA3 hm | exact mtA4 hm | exact mtA5 hm | exact mtA6 hm | exact mtA7 hm | exact ruA1 hr | exact ruA2 hr | exact ruA3 hr) rfl (by decide) rfl ?_
      refine pw_icmp_ge (tgt := 83) 72 rfl dX8_addLaw_69 rfl (fun h69 => absurd h69 (by show ¬ nI 40 ≤ nI _; (simp (disch := omega) only [nI_leI, nI_ltI, nI_eq, show (0 : Int32) = nI 0 from rfl, not_true_eq_false, not_false_eq_true] <;> omega))) (fun h69 => ?_)
      refine pw_aload_n 73 rfl dX8_addLaw_72 rfl ?_
      refine pw_getR 76 rfl dX8_addLaw_73 fX8_19 (by first | rfl | assumption | exact rowS hh | exact mtS hm | exact ruS hr | exact mtA1 hm | exact mtA2 hm | exact mtA3 hm | exact mtA4 hm | exact mtA5 hm | exact mtA6 hm | exact mtA7 hm | exact ruA1 hr | exact ruA2 hr | exact ruA3 hr) rfl (by first | rfl | assumption | exact mtR0 hm | exact mtR1 hm | exact mtR2 hm | exact mtR3 hm | exact mtR4 hm | exact mtR5 hm | exact mtR6 hm | exact ruR0 hr | exact ruR1 hr | exact ruR3 hr) ?_
      refine pw_iload 78 rfl dX8_addLaw_76 rfl ?_
      refine pw_dup2 79 rfl dX8_addLaw_78 rfl rfl ?_
      refine pw_ialdN 80 rfl dX8_addLaw_79 (by first | rfl | assumption | exact rowS hh | exact mtS hm | exact ruS hr | exact mtA1 hm | exact mtA2 hm | exact mtA3 hm | exact mtA4 hm | exact mtA5 hm | exact mtA6 hm | exact mtA7 hm | exact ruA1 hr | exact ruA2 hr | exact ruA3 hr) (by omega) (by decide) ?_
      rotate_left
      rw [r2 p _ hp hs3, if_neg (by omega)]
      refine pw_iconst (v := nI 1) 81 rfl dX8_addLaw_80 rfl ?_
      first | refine pw_iaddN 82 rfl dX8_addLaw_81 ?_ | refine pw_iadd 82 rfl dX8_addLaw_81 ?_
      refine pw_iastN 83 rfl dX8_addLaw_82 (by first | rfl | assumption | exact rowS hh | exact mtS hm | exact ruS hr | exact mtA1 hm | exact mtA2 hm | exact mtA3 hm | exact mtA4 hm | exact mtA5 hm | exact mtA6 hm | exact mtA7 hm | exact ruA1 hr | exact ruA2 hr | exact ruA3 hr) (by omega) (by decide) ?_
      refine pw_iincN 86 rfl dX8_addLaw_83 (by decide) rfl ?_
      refine pw_goto (tgt := 35) dX8_addLaw_86 rfl ?_
      rotate_left
      refine ih _ _ (fun j => by rw [uI_ne (by omega)]; exact r1 j) (fun p' s h1 h2 => ?_) (fun a h1 h2 => by rw [uI, if_neg h2]; exact r3 a h1 h2)
      by_cases e : p' = p ∧ s = min c (a + p / (b + 1))
      · obtain ⟨e1, e2⟩ := e
        subst e1
        rw [e2, uI_eq, if_pos (by omega), cntP_y (P := fun L => ok L && decide (sb L p' = min c (a + p' / (b + 1)))) (by show (ok (20 * a + 4 * b + c) && decide (sb (20 * a + 4 * b + c) p' = min c (a + p' / (b + 1)))) = true; rw [hok, sb_abc hb hc]; simp)]
      · rw [uI_ne (fun z => e (by have h3 := z.2; generalize min c (a + p / (b + 1)) = mm at h3 hs3 ⊢; omega)), r2 p' s h1 h2]
        by_cases e1 : p' = p
        · subst e1
          rw [if_neg (by omega), if_pos (by omega), cntP_n (P := fun L => ok L && decide (sb L p' = s)) (by show (ok (20 * a + 4 * b + c) && decide (sb (20 * a + 4 * b + c) p' = s)) = false; rw [sb_abc hb hc, decide_eq_false (fun z => e ⟨rfl, z.symm⟩), Bool.and_false])]
        · by_cases e2 : p' < p
          · rw [if_pos e2, if_pos (by omega)]
          · rw [if_neg e2, if_neg (by omega)]
  by_cases h0 : cntP ok (20 * a + 4 * b + c) = 0
  · refine pw_aload_n 1 rfl dX8_addLaw_0 rfl ?_
    refine pw_getI 4 rfl dX8_addLaw_1 fX8_22 (by first | rfl | assumption | exact rowS hh | exact mtS hm | exact ruS hr | exact mtA1 hm | exact mtA2 hm | exact mtA3 hm | exact mtA4 hm | exact mtA5 hm | exact mtA6 hm | exact mtA7 hm | exact ruA1 hr | exact ruA2 hr | exact ruA3 hr) rfl ?_
    refine pw_if_ne (tgt := 22) 7 rfl dX8_addLaw_4 rfl (fun h4 => absurd (by rw [g1, h0]; rfl) h4) (fun h4 => ?_)
    refine pw_aload_n 8 rfl dX8_addLaw_7 rfl ?_
    refine pw_iload_n 9 rfl dX8_addLaw_8 rfl ?_
    refine pw_putI 12 rfl dX8_addLaw_9 fX8_25 w8_5 (by first | rfl | assumption | exact rowS hh | exact mtS hm | exact ruS hr | exact mtA1 hm | exact mtA2 hm | exact mtA3 hm | exact mtA4 hm | exact mtA5 hm | exact mtA6 hm | exact mtA7 hm | exact ruA1 hr | exact ruA2 hr | exact ruA3 hr) rfl rfl rfl ?_
    refine pw_aload_n 13 rfl dX8_addLaw_12 rfl ?_
    refine pw_iload_n 14 rfl dX8_addLaw_13 rfl ?_
    refine pw_putI 17 rfl dX8_addLaw_14 fX8_28 w8_6 (by first | rfl | assumption | exact rowS hh | exact mtS hm | exact ruS hr | exact mtA1 hm | exact mtA2 hm | exact mtA3 hm | exact mtA4 hm | exact mtA5 hm | exact mtA6 hm | exact mtA7 hm | exact ruA1 hr | exact ruA2 hr | exact ruA3 hr) rfl rfl rfl ?_
    refine pw_aload_n 18 rfl dX8_addLaw_17 rfl ?_
    refine pw_iload_n 19 rfl dX8_addLaw_18 rfl ?_
    refine pw_putI 22 rfl dX8_addLaw_19 fX8_31 w8_7 (by first | rfl | assumption | exact rowS hh | exact mtS hm | exact ruS hr | exact mtA1 hm | exact mtA2 hm | exact mtA3 hm | exact mtA4 hm | exact mtA5 hm | exact mtA6 hm | exact mtA7 hm | exact ruA1 hr | exact ruA2 hr | exact ruA3 hr) rfl rfl rfl ?_
    rotate_left
    refine tail _ ?_ (fun f hf => ?_) (fun p s h1 h2 => ?_) (fun a h1 h2 => ?_) ?_
    · rw [uI_ne (by omega), uI_ne (by omega), uI_ne (by omega)]; exact g1
    · rw [fstL_y h0 hok] at hf
      cases hf
      rw [m1, m2, m3]
      refine ⟨?_, ?_, ?_⟩
      · rw [uI_ne (by omega), uI_ne (by omega), uI_eq]
      · rw [uI_ne (by omega), uI_eq]
      · rw [uI_eq]
    · rw [uI_ne (by omega), uI_ne (by omega), uI_ne (by omega)]; exact g3 p s h1 h2
    · rw [uI, if_neg h1, uI, if_neg h1, uI, if_neg h1]; exact g4 a h1 h2
    · rw [uI_ne (by omega), uI_ne (by omega), uI_ne (by omega)]; exact g5
  · refine pw_aload_n 1 rfl dX8_addLaw_0 rfl ?_
    refine pw_getI 4 rfl dX8_addLaw_1 fX8_22 (by first | rfl | assumption | exact rowS hh | exact mtS hm | exact ruS hr | exact mtA1 hm | exact mtA2 hm | exact mtA3 hm | exact mtA4 hm | exact mtA5 hm | exact mtA6 hm | exact mtA7 hm | exact ruA1 hr | exact ruA2 hr | exact ruA3 hr) rfl ?_
    refine pw_if_ne (tgt := 22) 7 rfl dX8_addLaw_4 rfl (fun h4 => ?_) (fun h4 => absurd h4 (by rw [g1]; exact nI_ne0 (by omega) (by omega)))
    rotate_left
    refine tail I g1 (fun f hf => ?_) g3 g4 g5
    cases e : fstL ok (20 * a + 4 * b + c) with
    | none => exact absurd ((fstL_cnt ok _).mp e) h0
    | some f0 =>
      rw [fstL_s e] at hf
      cases hf
      exact g2 f e
set_option maxRecDepth 100000 in
set_option maxHeartbeats 2000000 in
theorem x_findLaws {d : Nat} {I : pI} {J : pJ} {sw : List (Nat × Nat)} (hG : XG I sw) : PC SX (d + 3) yX8_findLaws cX8_findLaws 4 none [.ref 64] (I) (J) (RX) (fun r' I' J' R' => r' = none ∧ gI I (okL sw) 80 I' ∧ J = J' ∧ R' = RX) := by
  refine PC.of [some (.ref 64), none, none, none] rfl rfl (Nat.le_of_ble_eq_true rfl) ?_
  have main : ∀ (I1 : pI) (x1 : Option Value), gI I (okL sw) 0 I1 → PW SX yX8_findLaws.cls cX8_findLaws 4 (d + 3) 29 [some (.ref 64), x1, none, none] [] (I1) (J) (RX) (rX cX8_findLaws none (fun r' I' J' R' => r' = none ∧ gI I (okL sw) 80 I' ∧ J = J' ∧ R' = RX)) := by
    intro I1 x1 q
    refine pw_iconst (v := nI 0) 30 rfl dX8_findLaws_29 rfl ?_
    refine pw_istore_n 31 rfl dX8_findLaws_30 (by decide) ?_
    rotate_left
    have LA := nat_loop 4 (fun a => ∀ (I' : pI) (x2 x3 : Option Value), gI I (okL sw) (20 * a) I' → PW SX yX8_findLaws.cls cX8_findLaws 4 (d + 3) 31 [some (.ref 64), some (.int (nI a)), x2, x3] [] (I') (J) (RX) (rX cX8_findLaws none (fun r' I' J' R' => r' = none ∧ gI I (okL sw) 80 I' ∧ J = J' ∧ R' = RX))) ?_ ?_
    · exact LA I1 _ _ q
    · intro I' x2 x3 g
      refine pw_iload_n 32 rfl dX8_findLaws_31 rfl ?_
      refine pw_iconst (v := nI 3) 33 rfl dX8_findLaws_32 rfl ?_
      refine pw_icmp_gt (tgt := 85) 36 rfl dX8_findLaws_33 rfl (fun h33 => ?_) (fun h33 => absurd (by (simp (disch := omega) only [nI_leI, nI_ltI, nI_eq, show (0 : Int32) = nI 0 from rfl, not_true_eq_false, not_false_eq_true] <;> omega)) h33)
      refine pw_vret dX8_findLaws_85 ?_
      rotate_left
      exact ⟨rfl, g, rfl, rfl⟩
    · intro a ha iha I' x2 x3 g
      refine pw_iload_n 32 rfl dX8_findLaws_31 rfl ?_
      refine pw_iconst (v := nI 3) 33 rfl dX8_findLaws_32 rfl ?_
      refine pw_icmp_gt (tgt := 85) 36 rfl dX8_findLaws_33 rfl (fun h33 => absurd h33 (by (simp (disch := omega) only [nI_leI, nI_ltI, nI_eq, show (0 : Int32) = nI 0 from rfl, not_true_eq_false, not_false_eq_true] <;> omega))) (fun h33 => ?_)
      refine pw_iconst (v := nI 1) 37 rfl dX8_findLaws_36 rfl ?_
      refine pw_istore_n 38 rfl dX8_findLaws_37 (by decide) ?_
      rotate_left
      have LB := nat_loop 5 (fun b => ∀ (I' : pI) (x3 : Option Value), gI I (okL sw) (20 * a + 4 * b) I' → PW SX yX8_findLaws.cls cX8_findLaws 4 (d + 3) 38 [some (.ref 64), some (.int (nI a)), some (.int (nI (b + 1))), x3] [] (I') (J) (RX) (rX cX8_findLaws none (fun r' I' J' R' => r' = none ∧ gI I (okL sw) 80 I' ∧ J = J' ∧ R' = RX))) ?_ ?_
      · exact LB I' _ g
      · intro I' x3 g
        refine pw_iload_n 39 rfl dX8_findLaws_38 rfl ?_
        refine pw_iconst (v := nI 5) 40 rfl dX8_findLaws_39 rfl ?_
        refine pw_icmp_gt (tgt := 79) 43 rfl dX8_findLaws_40 rfl (fun h40 => ?_) (fun h40 => absurd (by (simp (disch := omega) only [nI_leI, nI_ltI, nI_eq, show (0 : Int32) = nI 0 from rfl, not_true_eq_false, not_false_eq_true] <;> omega)) h40)
        refine pw_iincN 82 rfl dX8_findLaws_79 (by decide) rfl ?_
        refine pw_goto (tgt := 31) dX8_findLaws_82 rfl ?_
        rotate_left
        exact iha I' _ _ (by rw [show 20 * (a + 1) = 20 * a + 4 * 5 by omega]; exact g)
      · intro b hb ihb I' x3 g
        refine pw_iload_n 39 rfl dX8_findLaws_38 rfl ?_
        refine pw_iconst (v := nI 5) 40 rfl dX8_findLaws_39 rfl ?_
        refine pw_icmp_gt (tgt := 79) 43 rfl dX8_findLaws_40 rfl (fun h40 => absurd h40 (by (simp (disch := omega) only [nI_leI, nI_ltI, nI_eq, show (0 : Int32) = nI 0 from rfl, not_true_eq_false, not_false_eq_true] <;> omega))) (fun h40 => ?_)
        refine pw_iconst (v := nI 0) 44 rfl dX8_findLaws_43 rfl ?_
        refine pw_istore_n 45 rfl dX8_findLaws_44 (by decide) ?_
        rotate_left
        have LC := nat_loop 4 (fun c => ∀ (I' : pI), gI I (okL sw) (20 * a + 4 * b + c) I' → PW SX yX8_findLaws.cls cX8_findLaws 4 (d + 3) 45 [some (.ref 64), some (.int (nI a)), some (.int (nI (b + 1))), some (.int (nI c))] [] (I') (J) (RX) (rX cX8_findLaws none (fun r' I' J' R' => r' = none ∧ gI I (okL sw) 80 I' ∧ J = J' ∧ R' = RX))) ?_ ?_
        · exact LC I' g
        · intro I' g
          refine pw_iload_n 46 rfl dX8_findLaws_45 rfl ?_
          refine pw_iconst (v := nI 3) 47 rfl dX8_findLaws_46 rfl ?_
          refine pw_icmp_gt (tgt := 73) 50 rfl dX8_findLaws_47 rfl (fun h47 => ?_) (fun h47 => absurd (by (simp (disch := omega) only [nI_leI, nI_ltI, nI_eq, show (0 : Int32) = nI 0 from rfl, not_true_eq_false, not_false_eq_true] <;> omega)) h47)
          refine pw_iincN 76 rfl dX8_findLaws_73 (by decide) rfl ?_
          refine pw_goto (tgt := 38) dX8_findLaws_76 rfl ?_
          rotate_left
          exact ihb I' _ (by rw [show 20 * a + 4 * (b + 1) = 20 * a + 4 * b + 4 by omega]; exact g)
        · intro c hc ihc I' g
          have hG' : XG I' sw := XG_fr hG g.2.2.2.2 (g.2.2.2.1 65 (by omega) (by omega))
          cases hok : okL sw (20 * a + 4 * b + c) with
          | true =>
            refine pw_iload_n 46 rfl dX8_findLaws_45 rfl ?_
            refine pw_iconst (v := nI 3) 47 rfl dX8_findLaws_46 rfl ?_
            refine pw_icmp_gt (tgt := 73) 50 rfl dX8_findLaws_47 rfl (fun h47 => absurd h47 (by (simp (disch := omega) only [nI_leI, nI_ltI, nI_eq, show (0 : Int32) = nI 0 from rfl, not_true_eq_false, not_false_eq_true] <;> omega))) (fun h47 => ?_)
            refine pw_aload_n 51 rfl dX8_findLaws_50 rfl ?_
            refine pw_iload_n 52 rfl dX8_findLaws_51 rfl ?_
            refine pw_iload_n 53 rfl dX8_findLaws_52 rfl ?_
            refine pw_iload_n 54 rfl dX8_findLaws_53 rfl ?_
            refine pw_callVP (as := [_, _, _]) 57 rfl dX8_findLaws_54 mX8_71 vX8_lawFits (x_lawFits (d := d) hG' ha hb hc) (by first | rfl | assumption | exact rowS hh | exact mtS hm | exact ruS hr | exact mtA1 hm | exact mtA2 hm | exact mtA3 hm | exact mtA4 hm | exact mtA5 hm | exact mtA6 hm | exact mtA7 hm | exact ruA1 hr | exact ruA2 hr | exact ruA3 hr) rfl (by decide) ⟨rfl, by decide, by decide, show (parseMethodDescriptor yX8_lawFits.desc).map (fun d => d.parameters.length) = some 3 by decide +kernel⟩ (by omega) (by decide) (Nat.le_of_ble_eq_true rfl) rfl ?_
            refine pw_if_eq (tgt := 67) 60 rfl dX8_findLaws_57 rfl (fun h57 => absurd h57 (by rw [hok]; decide)) (fun h57 => ?_)
            refine pw_aload_n 61 rfl dX8_findLaws_60 rfl ?_
            refine pw_iload_n 62 rfl dX8_findLaws_61 rfl ?_
            refine pw_iload_n 63 rfl dX8_findLaws_62 rfl ?_
            refine pw_iload_n 64 rfl dX8_findLaws_63 rfl ?_
            refine pw_callV (as := [_, _, _]) 67 rfl dX8_findLaws_64 mX8_74 vX8_addLaw (x_addLaw (d := d) g hok ha hb hc) (by first | rfl | assumption | exact rowS hh | exact mtS hm | exact ruS hr | exact mtA1 hm | exact mtA2 hm | exact mtA3 hm | exact mtA4 hm | exact mtA5 hm | exact mtA6 hm | exact mtA7 hm | exact ruA1 hr | exact ruA2 hr | exact ruA3 hr) rfl (by decide) ⟨rfl, by decide, by decide, show (parseMethodDescriptor yX8_addLaw.desc).map (fun d => d.parameters.length) = some 3 by decide +kernel⟩ (by omega) (by decide) (Nat.le_of_ble_eq_true rfl) rfl (fun r64 I64 J64 R64 c64 => ?_)
            obtain ⟨rfl, b1, rfl, rfl⟩ := c64
            refine pw_iincN 70 rfl dX8_findLaws_67 (by decide) rfl ?_
            refine pw_goto (tgt := 45) dX8_findLaws_70 rfl ?_
            rotate_left
            exact ihc I64 b1
          | false =>
            refine pw_iload_n 46 rfl dX8_findLaws_45 rfl ?_
            refine pw_iconst (v := nI 3) 47 rfl dX8_findLaws_46 rfl ?_
            refine pw_icmp_gt (tgt := 73) 50 rfl dX8_findLaws_47 rfl (fun h47 => absurd h47 (by (simp (disch := omega) only [nI_leI, nI_ltI, nI_eq, show (0 : Int32) = nI 0 from rfl, not_true_eq_false, not_false_eq_true] <;> omega))) (fun h47 => ?_)
            refine pw_aload_n 51 rfl dX8_findLaws_50 rfl ?_
            refine pw_iload_n 52 rfl dX8_findLaws_51 rfl ?_
            refine pw_iload_n 53 rfl dX8_findLaws_52 rfl ?_
            refine pw_iload_n 54 rfl dX8_findLaws_53 rfl ?_
            refine pw_callVP (as := [_, _, _]) 57 rfl dX8_findLaws_54 mX8_71 vX8_lawFits (x_lawFits (d := d) hG' ha hb hc) (by first | rfl | assumption | exact rowS hh | exact mtS hm | exact ruS hr | exact mtA1 hm | exact mtA2 hm | exact mtA3 hm | exact mtA4 hm | exact mtA5 hm | exact mtA6 hm | exact mtA7 hm | exact ruA1 hr | exact ruA2 hr | exact ruA3 hr) rfl (by decide) ⟨rfl, by decide, by decide, show (parseMethodDescriptor yX8_lawFits.desc).map (fun d => d.parameters.length) = some 3 by decide +kernel⟩ (by omega) (by decide) (Nat.le_of_ble_eq_true rfl) rfl ?_
            refine pw_if_eq (tgt := 67) 60 rfl dX8_findLaws_57 rfl (fun h57 => ?_) (fun h57 => absurd (by rw [hok]; rfl) h57)
            refine pw_iincN 70 rfl dX8_findLaws_67 (by decide) rfl ?_
            refine pw_goto (tgt := 45) dX8_findLaws_70 rfl ?_
            rotate_left
            obtain ⟨g1, g2, g3, g4, g5⟩ := g
            exact ihc I' ⟨by rw [← Nat.add_assoc, cntP_n hok]; exact g1, by rw [← Nat.add_assoc, fstL_n hok]; exact g2, fun p s h1 h2 => by rw [← Nat.add_assoc, cntP_n (P := fun L => okL sw L && decide (sb L p = s)) (by show (okL sw (20 * a + 4 * b + c) && _) = false; rw [hok]; rfl)]; exact g3 p s h1 h2, g4, g5⟩
  refine pw_aload_n 1 rfl dX8_findLaws_0 rfl ?_
  refine pw_iconst (v := nI 0) 2 rfl dX8_findLaws_1 rfl ?_
  refine pw_putI 5 rfl dX8_findLaws_2 fX8_22 w8_4 (by first | rfl | assumption | exact rowS hh | exact mtS hm | exact ruS hr | exact mtA1 hm | exact mtA2 hm | exact mtA3 hm | exact mtA4 hm | exact mtA5 hm | exact mtA6 hm | exact mtA7 hm | exact ruA1 hr | exact ruA2 hr | exact ruA3 hr) rfl rfl rfl ?_
  refine pw_iconst (v := nI 0) 6 rfl dX8_findLaws_5 rfl ?_
  refine pw_istore_n 7 rfl dX8_findLaws_6 (by decide) ?_
  rotate_left
  have L := nat_loop 40 (fun k => ∀ (I' : pI), I' 64 4 = nI 0 → I' 64 2 = I 64 2 → (∀ j, j < k → I' 66 j = nI 0) → (∀ a, a ≠ 64 → a ≠ 66 → I' a = I a) → PW SX yX8_findLaws.cls cX8_findLaws 4 (d + 3) 7 [some (.ref 64), some (.int (nI k)), none, none] [] (I') (J) (RX) (rX cX8_findLaws none (fun r' I' J' R' => r' = none ∧ gI I (okL sw) 80 I' ∧ J = J' ∧ R' = RX))) ?_ ?_
  · exact L _ (uI_eq _ _ _ _) (uI_ne (by omega)) (fun j hj => by omega) (fun a h1 h2 => by rw [uI, if_neg h1])
  · intro I' g1 g2 g3 g4
    refine pw_iload_n 8 rfl dX8_findLaws_7 rfl ?_
    refine pw_aload_n 9 rfl dX8_findLaws_8 rfl ?_
    refine pw_getR 12 rfl dX8_findLaws_9 fX8_19 (by first | rfl | assumption | exact rowS hh | exact mtS hm | exact ruS hr | exact mtA1 hm | exact mtA2 hm | exact mtA3 hm | exact mtA4 hm | exact mtA5 hm | exact mtA6 hm | exact mtA7 hm | exact ruA1 hr | exact ruA2 hr | exact ruA3 hr) rfl (by first | rfl | assumption | exact mtR0 hm | exact mtR1 hm | exact mtR2 hm | exact mtR3 hm | exact mtR4 hm | exact mtR5 hm | exact mtR6 hm | exact ruR0 hr | exact ruR1 hr | exact ruR3 hr) ?_
    refine pw_alen 13 rfl dX8_findLaws_12 (by first | rfl | assumption | exact rowS hh | exact mtS hm | exact ruS hr | exact mtA1 hm | exact mtA2 hm | exact mtA3 hm | exact mtA4 hm | exact mtA5 hm | exact mtA6 hm | exact mtA7 hm | exact ruA1 hr | exact ruA2 hr | exact ruA3 hr) rfl (by decide) rfl ?_
    refine pw_icmp_ge (tgt := 29) 16 rfl dX8_findLaws_13 rfl (fun h13 => ?_) (fun h13 => absurd (by show nI 40 ≤ nI 40; (simp (disch := omega) only [nI_leI, nI_ltI, nI_eq, show (0 : Int32) = nI 0 from rfl, not_true_eq_false, not_false_eq_true] <;> omega)) h13)
    rotate_left
    exact main I' _ ⟨g1, (fun f h => by cases h), fun p s h1 h2 => g3 _ (by omega), g4, g2⟩
  · intro k hk ih I' g1 g2 g3 g4
    refine pw_iload_n 8 rfl dX8_findLaws_7 rfl ?_
    refine pw_aload_n 9 rfl dX8_findLaws_8 rfl ?_
    refine pw_getR 12 rfl dX8_findLaws_9 fX8_19 (by first | rfl | assumption | exact rowS hh | exact mtS hm | exact ruS hr | exact mtA1 hm | exact mtA2 hm | exact mtA3 hm | exact mtA4 hm | exact mtA5 hm | exact mtA6 hm | exact mtA7 hm | exact ruA1 hr | exact ruA2 hr | exact ruA3 hr) rfl (by first | rfl | assumption | exact mtR0 hm | exact mtR1 hm | exact mtR2 hm | exact mtR3 hm | exact mtR4 hm | exact mtR5 hm | exact mtR6 hm | exact ruR0 hr | exact ruR1 hr | exact ruR3 hr) ?_
    refine pw_alen 13 rfl dX8_findLaws_12 (by first | rfl | assumption | exact rowS hh | exact mtS hm | exact ruS hr | exact mtA1 hm | exact mtA2 hm | exact mtA3 hm | exact mtA4 hm | exact mtA5 hm | exact mtA6 hm | exact mtA7 hm | exact ruA1 hr | exact ruA2 hr | exact ruA3 hr) rfl (by decide) rfl ?_
    refine pw_icmp_ge (tgt := 29) 16 rfl dX8_findLaws_13 rfl (fun h13 => absurd h13 (by show ¬ nI 40 ≤ nI k; (simp (disch := omega) only [nI_leI, nI_ltI, nI_eq, show (0 : Int32) = nI 0 from rfl, not_true_eq_false, not_false_eq_true] <;> omega))) (fun h13 => ?_)
    refine pw_aload_n 17 rfl dX8_findLaws_16 rfl ?_
    refine pw_getR 20 rfl dX8_findLaws_17 fX8_19 (by first | rfl | assumption | exact rowS hh | exact mtS hm | exact ruS hr | exact mtA1 hm | exact mtA2 hm | exact mtA3 hm | exact mtA4 hm | exact mtA5 hm | exact mtA6 hm | exact mtA7 hm | exact ruA1 hr | exact ruA2 hr | exact ruA3 hr) rfl (by first | rfl | assumption | exact mtR0 hm | exact mtR1 hm | exact mtR2 hm | exact mtR3 hm | exact mtR4 hm | exact mtR5 hm | exact mtR6 hm | exact ruR0 hr | exact ruR1 hr | exact ruR3 hr) ?_
    refine pw_iload_n 21 rfl dX8_findLaws_20 rfl ?_
    refine pw_iconst (v := nI 0) 22 rfl dX8_findLaws_21 rfl ?_
    refine pw_iastN 23 rfl dX8_findLaws_22 (by first | rfl | assumption | exact rowS hh | exact mtS hm | exact ruS hr | exact mtA1 hm | exact mtA2 hm | exact mtA3 hm | exact mtA4 hm | exact mtA5 hm | exact mtA6 hm | exact mtA7 hm | exact ruA1 hr | exact ruA2 hr | exact ruA3 hr) (by omega) (by decide) ?_
    refine pw_iincN 26 rfl dX8_findLaws_23 (by decide) rfl ?_
    refine pw_goto (tgt := 7) dX8_findLaws_26 rfl ?_
    rotate_left
    refine ih _ (by rw [uI_ne (by omega)]; exact g1) (by rw [uI_ne (by omega)]; exact g2) (fun j hj => ?_) (fun a h1 h2 => by rw [uI, if_neg h2]; exact g4 a h1 h2)
    by_cases e : j = k
    · rw [e, uI_eq]
    · rw [uI_ne (by omega)]; exact g3 j (by omega)
