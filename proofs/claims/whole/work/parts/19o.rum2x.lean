theorem cl_bts {P : Nat → Bool} {i : Nat} : ∀ n, cl (bts P n) i = bts (fun j => P j && !decide (j = i)) n := by
  intro n
  have key : ∀ n, bts P n = bts (fun j => P j && !decide (j = i)) n + if (decide (i < n) && P i) = true then 2 ^ i else 0 := by
    intro n
    induction n with
    | zero => rfl
    | succ n ih =>
      rw [bts, bts, ih]
      by_cases e : n = i
      · subst e
        rw [show (decide (n < n) && P n) = false from by simp, show (P n && !decide (n = n)) = false from by simp]
        by_cases hp : P n = true
        · simp [hp]
        · simp [hp]
      · rw [show (P n && !decide (n = i)) = P n from by simp [e], show (decide (i < n + 1) && P i) = (decide (i < n) && P i) from by rw [show decide (i < n + 1) = decide (i < n) from decide_eq_decide.mpr (by omega)]]
        omega
  unfold cl
  rw [bts_bit]
  by_cases h : (decide (i < n) && P i) = true
  · rw [if_pos h, key n, if_pos h, Nat.add_sub_cancel]
  · rw [if_neg h, key n, if_neg h, Nat.add_zero]
theorem bts_all (n : Nat) : bts (fun _ => true) n = 2 ^ n - 1 := by
  induction n with
  | zero => rfl
  | succ n ih =>
    rw [bts, ih, if_pos rfl, Nat.pow_succ]
    have := Nat.two_pow_pos n
    omega
/-- of whom all that was heard is so -/
def fitP (n : Nat) (pc b : Nat → Nat) (hd : List (Nat × Nat)) : Nat → Bool := fun i => hd.all (fun p => soN n pc b i p.1 p.2)
set_option maxRecDepth 100000 in
set_option maxHeartbeats 2000000 in
theorem x_fittingBits {d n : Nat} {pc b : Nat → Nat} {I : pI} {J : pJ} {hd : List (Nat × Nat)} (hM : XM I 1 n pc b) (hW : WF n pc b) (hH : XH I hd) : PC SX (d + 2) yX7_fittingBits cX7_fittingBits 4 (some .int) [.ref 62] (I) (J) (RX) (pPu (.int (nI (bts (fitP n pc b hd) n))) I J RX) := by
  refine PC.of [some (.ref 62), none, none, none] rfl rfl (Nat.le_of_ble_eq_true rfl) ?_
  have h7 := hW.1
  obtain ⟨n1, n2, n3⟩ := id hH
  have hlt : ∀ P, bts P n < 128 := fun P => Nat.lt_of_lt_of_le (bts_lt _ n) (Nat.le_trans (Nat.pow_le_pow_right (by decide) h7) (by decide))
  refine pw_aload_n 1 rfl dX7_fittingBits_0 rfl ?_
  refine pw_getR 4 rfl dX7_fittingBits_1 fX7_19 (by first | rfl | assumption | exact rowS hh | exact mtS hm | exact ruS hr | exact mtA1 hm | exact mtA2 hm | exact mtA3 hm | exact mtA4 hm | exact mtA5 hm | exact mtA6 hm | exact mtA7 hm | exact ruA1 hr | exact ruA2 hr | exact ruA3 hr) rfl (by first | rfl | assumption | exact mtR0 hm | exact mtR1 hm | exact mtR2 hm | exact mtR3 hm | exact mtR4 hm | exact mtR5 hm | exact mtR6 hm | exact ruR0 hr | exact ruR1 hr | exact ruR3 hr) ?_
  refine pw_callVP (as := []) 7 rfl dX7_fittingBits_4 mX7_63 vX1_allBits (x_allBits (d := d) (Or.inl rfl) hM.2.1 h7) (by first | rfl | assumption | exact rowS hh | exact mtS hm | exact ruS hr | exact mtA1 hm | exact mtA2 hm | exact mtA3 hm | exact mtA4 hm | exact mtA5 hm | exact mtA6 hm | exact mtA7 hm | exact ruA1 hr | exact ruA2 hr | exact ruA3 hr) rfl (by decide) ⟨rfl, by decide, by decide, show (parseMethodDescriptor yX1_allBits.desc).map (fun d => d.parameters.length) = some 0 by decide +kernel⟩ (by omega) (by decide) (Nat.le_of_ble_eq_true rfl) rfl ?_
  refine pw_istore_n 8 rfl dX7_fittingBits_7 (by decide) ?_
  refine pw_iconst (v := nI 0) 9 rfl dX7_fittingBits_8 rfl ?_
  refine pw_istore_n 10 rfl dX7_fittingBits_9 (by decide) ?_
  rotate_left
  rw [← bts_all]
  have L := nat_loop hd.length (fun k => ∀ (x3 : Option Value), PW SX yX7_fittingBits.cls cX7_fittingBits 4 (d + 2) 10 [some (.ref 62), some (.int (nI (bts (fitP n pc b (hd.take k)) n))), some (.int (nI k)), x3] [] (I) (J) (RX) (rX cX7_fittingBits (some .int) (pPu (.int (nI (bts (fitP n pc b hd) n))) I J RX))) ?_ ?_
  · exact L none
  · intro x3
    rw [List.take_length]
    refine pw_iload_n 11 rfl dX7_fittingBits_10 rfl ?_
    refine pw_aload_n 12 rfl dX7_fittingBits_11 rfl ?_
    refine pw_getI 15 rfl dX7_fittingBits_12 fX7_15 (by first | rfl | assumption | exact rowS hh | exact mtS hm | exact ruS hr | exact mtA1 hm | exact mtA2 hm | exact mtA3 hm | exact mtA4 hm | exact mtA5 hm | exact mtA6 hm | exact mtA7 hm | exact ruA1 hr | exact ruA2 hr | exact ruA3 hr) rfl ?_
    refine pw_icmp_ge (tgt := 78) 18 rfl dX7_fittingBits_15 rfl (fun h15 => ?_) (fun h15 => absurd (by rw [n1]; (simp (disch := omega) only [nI_leI, nI_ltI, nI_eq, show (0 : Int32) = nI 0 from rfl, not_true_eq_false, not_false_eq_true] <;> omega)) h15)
    refine pw_iload_n 79 rfl dX7_fittingBits_78 rfl ?_
    refine pw_iret dX7_fittingBits_79 rfl ?_
    rotate_left
    exact ⟨rfl, rfl, rfl, rfl⟩
  · intro k hk ih x3
    obtain ⟨p, hp⟩ : ∃ p, hd[k]? = some p := ⟨_, List.getElem?_eq_getElem hk⟩
    obtain ⟨e1, e2, e3⟩ := n3 k p hp
    have hmo := moN_le p.1
    refine pw_iload_n 11 rfl dX7_fittingBits_10 rfl ?_
    refine pw_aload_n 12 rfl dX7_fittingBits_11 rfl ?_
    refine pw_getI 15 rfl dX7_fittingBits_12 fX7_15 (by first | rfl | assumption | exact rowS hh | exact mtS hm | exact ruS hr | exact mtA1 hm | exact mtA2 hm | exact mtA3 hm | exact mtA4 hm | exact mtA5 hm | exact mtA6 hm | exact mtA7 hm | exact ruA1 hr | exact ruA2 hr | exact ruA3 hr) rfl ?_
    refine pw_icmp_ge (tgt := 78) 18 rfl dX7_fittingBits_15 rfl (fun h15 => absurd h15 (by rw [n1]; (simp (disch := omega) only [nI_leI, nI_ltI, nI_eq, show (0 : Int32) = nI 0 from rfl, not_true_eq_false, not_false_eq_true] <;> omega))) (fun h15 => ?_)
    refine pw_iload_n 19 rfl dX7_fittingBits_18 rfl ?_
    refine pw_bipush (v := nI 12) 21 rfl dX7_fittingBits_19 rfl ?_
    refine pw_icmp_ge (tgt := 78) 24 rfl dX7_fittingBits_21 rfl (fun h21 => absurd h21 (by (simp (disch := omega) only [nI_leI, nI_ltI, nI_eq, show (0 : Int32) = nI 0 from rfl, not_true_eq_false, not_false_eq_true] <;> omega))) (fun h21 => ?_)
    refine pw_iconst (v := nI 0) 25 rfl dX7_fittingBits_24 rfl ?_
    refine pw_istore_n 26 rfl dX7_fittingBits_25 (by decide) ?_
    rotate_left
    have L2 := nat_loop 7 (fun i => PW SX yX7_fittingBits.cls cX7_fittingBits 4 (d + 2) 26 [some (.ref 62), some (.int (nI (bts (fun j => fitP n pc b (hd.take k) j && (decide (i ≤ j) || soN n pc b j p.1 p.2)) n))), some (.int (nI k)), some (.int (nI i))] [] (I) (J) (RX) (rX cX7_fittingBits (some .int) (pPu (.int (nI (bts (fitP n pc b hd) n))) I J RX))) ?_ ?_
    · rw [show bts (fun j => fitP n pc b (hd.take k) j && (decide (0 ≤ j) || soN n pc b j p.1 p.2)) n = bts (fitP n pc b (hd.take k)) n from bts_congr (fun j _ => by simp)] at L2
      exact L2
    · have ih' := ih (some (.int (nI 7)))
      rw [show bts (fitP n pc b (hd.take (k + 1))) n = bts (fun j => fitP n pc b (hd.take k) j && (decide (7 ≤ j) || soN n pc b j p.1 p.2)) n from bts_congr (fun j hj => by
        rw [fitP, List.take_succ, hp, List.all_append]
        rw [show decide (7 ≤ j) = false from decide_eq_false (by omega)]
        simp [fitP])] at ih'
      refine pw_iload_n 27 rfl dX7_fittingBits_26 rfl ?_
      refine pw_bipush (v := nI 7) 29 rfl dX7_fittingBits_27 rfl ?_
      refine pw_icmp_ge (tgt := 72) 32 rfl dX7_fittingBits_29 rfl (fun h29 => ?_) (fun h29 => absurd (by (simp (disch := omega) only [nI_leI, nI_ltI, nI_eq, show (0 : Int32) = nI 0 from rfl, not_true_eq_false, not_false_eq_true] <;> omega)) h29)
      refine pw_iincN 75 rfl dX7_fittingBits_72 (by decide) rfl ?_
      refine pw_goto (tgt := 10) dX7_fittingBits_75 rfl ?_
      rotate_left
      exact ih'
    · intro i hi ih2
      have hdv : (100 * p.1 + p.2) / 100 = p.1 := by omega
      have hdm : (100 * p.1 + p.2) % 100 = p.2 := by omega
      refine pw_iload_n 27 rfl dX7_fittingBits_26 rfl ?_
      refine pw_bipush (v := nI 7) 29 rfl dX7_fittingBits_27 rfl ?_
      refine pw_icmp_ge (tgt := 72) 32 rfl dX7_fittingBits_29 rfl (fun h29 => absurd h29 (by (simp (disch := omega) only [nI_leI, nI_ltI, nI_eq, show (0 : Int32) = nI 0 from rfl, not_true_eq_false, not_false_eq_true] <;> omega))) (fun h29 => ?_)
      refine pw_aload_n 33 rfl dX7_fittingBits_32 rfl ?_
      refine pw_iload_n 34 rfl dX7_fittingBits_33 rfl ?_
      refine pw_aload_n 35 rfl dX7_fittingBits_34 rfl ?_
      refine pw_getR 38 rfl dX7_fittingBits_35 fX7_11 (by first | rfl | assumption | exact rowS hh | exact mtS hm | exact ruS hr | exact mtA1 hm | exact mtA2 hm | exact mtA3 hm | exact mtA4 hm | exact mtA5 hm | exact mtA6 hm | exact mtA7 hm | exact ruA1 hr | exact ruA2 hr | exact ruA3 hr) rfl (by first | rfl | assumption | exact mtR0 hm | exact mtR1 hm | exact mtR2 hm | exact mtR3 hm | exact mtR4 hm | exact mtR5 hm | exact mtR6 hm | exact ruR0 hr | exact ruR1 hr | exact ruR3 hr) ?_
      refine pw_iload_n 39 rfl dX7_fittingBits_38 rfl ?_
      refine pw_ialdN 40 rfl dX7_fittingBits_39 (by first | rfl | assumption | exact rowS hh | exact mtS hm | exact ruS hr | exact mtA1 hm | exact mtA2 hm | exact mtA3 hm | exact mtA4 hm | exact mtA5 hm | exact mtA6 hm | exact mtA7 hm | exact ruA1 hr | exact ruA2 hr | exact ruA3 hr) (by omega) (by decide) ?_
      rotate_left
      rw [e1]
      refine pw_bipush (v := nI 100) 42 rfl dX7_fittingBits_40 rfl ?_
      refine pw_idivN 43 rfl dX7_fittingBits_42 (by omega) (by omega) (by omega) ?_
      refine pw_aload_n 44 rfl dX7_fittingBits_43 rfl ?_
      refine pw_getR 47 rfl dX7_fittingBits_44 fX7_11 (by first | rfl | assumption | exact rowS hh | exact mtS hm | exact ruS hr | exact mtA1 hm | exact mtA2 hm | exact mtA3 hm | exact mtA4 hm | exact mtA5 hm | exact mtA6 hm | exact mtA7 hm | exact ruA1 hr | exact ruA2 hr | exact ruA3 hr) rfl (by first | rfl | assumption | exact mtR0 hm | exact mtR1 hm | exact mtR2 hm | exact mtR3 hm | exact mtR4 hm | exact mtR5 hm | exact mtR6 hm | exact ruR0 hr | exact ruR1 hr | exact ruR3 hr) ?_
      refine pw_iload_n 48 rfl dX7_fittingBits_47 rfl ?_
      refine pw_ialdN 49 rfl dX7_fittingBits_48 (by first | rfl | assumption | exact rowS hh | exact mtS hm | exact ruS hr | exact mtA1 hm | exact mtA2 hm | exact mtA3 hm | exact mtA4 hm | exact mtA5 hm | exact mtA6 hm | exact mtA7 hm | exact ruA1 hr | exact ruA2 hr | exact ruA3 hr) (by omega) (by decide) ?_
      rotate_left
      rw [e1, hdv]
      refine pw_bipush (v := nI 100) 51 rfl dX7_fittingBits_49 rfl ?_
      refine pw_iremN 52 rfl dX7_fittingBits_51 (by omega) (by omega) (by omega) ?_
      rotate_left
      rw [hdm]
      refine pw_callVP (as := [_, _, _]) 55 rfl dX7_fittingBits_52 mX7_68 vX7_isSo (x_isSo (d := d) hM hW hi e2 (by omega)) (by first | rfl | assumption | exact rowS hh | exact mtS hm | exact ruS hr | exact mtA1 hm | exact mtA2 hm | exact mtA3 hm | exact mtA4 hm | exact mtA5 hm | exact mtA6 hm | exact mtA7 hm | exact ruA1 hr | exact ruA2 hr | exact ruA3 hr) rfl (by decide) ⟨rfl, by decide, by decide, show (parseMethodDescriptor yX7_isSo.desc).map (fun d => d.parameters.length) = some 3 by decide +kernel⟩ (by omega) (by decide) (Nat.le_of_ble_eq_true rfl) rfl ?_
      rotate_left
      cases hs : soN n pc b i p.1 p.2 with
      | true =>
        rw [show bts (fun j => fitP n pc b (hd.take k) j && (decide (i + 1 ≤ j) || soN n pc b j p.1 p.2)) n = bts (fun j => fitP n pc b (hd.take k) j && (decide (i ≤ j) || soN n pc b j p.1 p.2)) n from bts_congr (fun j _ => by
          by_cases e : j = i
          · subst e; simp [hs]
          · rw [show decide (i + 1 ≤ j) = decide (i ≤ j) from decide_eq_decide.mpr (by omega)])] at ih2
        refine pw_if_ne (tgt := 66) 58 rfl dX7_fittingBits_55 rfl (fun h55 => ?_) (fun h55 => absurd h55 (by decide))
        refine pw_iincN 69 rfl dX7_fittingBits_66 (by decide) rfl ?_
        refine pw_goto (tgt := 26) dX7_fittingBits_69 rfl ?_
        rotate_left
        exact ih2
      | false =>
        refine pw_if_ne (tgt := 66) 58 rfl dX7_fittingBits_55 rfl (fun h55 => absurd rfl h55) (fun h55 => ?_)
        refine pw_iload_n 59 rfl dX7_fittingBits_58 rfl ?_
        refine pw_iconst (v := nI 1) 60 rfl dX7_fittingBits_59 rfl ?_
        refine pw_iload_n 61 rfl dX7_fittingBits_60 rfl ?_
        refine pw_ishl 62 rfl dX7_fittingBits_61 ?_
        refine pw_iconst (v := -1) 63 rfl dX7_fittingBits_62 rfl ?_
        refine pw_ixor 64 rfl dX7_fittingBits_63 ?_
        refine pw_iand 65 rfl dX7_fittingBits_64 ?_
        rotate_left
        rw [cl_V i hi _ (hlt _), cl_bts]
        rw [show bts (fun j => fitP n pc b (hd.take k) j && (decide (i + 1 ≤ j) || soN n pc b j p.1 p.2)) n = bts (fun j => (fitP n pc b (hd.take k) j && (decide (i ≤ j) || soN n pc b j p.1 p.2)) && !decide (j = i)) n from bts_congr (fun j _ => by
          by_cases e : j = i
          · subst e; simp [hs]
          · rw [show decide (i + 1 ≤ j) = decide (i ≤ j) from decide_eq_decide.mpr (by omega), decide_eq_false e]; simp)] at ih2
        refine pw_istore_n 66 rfl dX7_fittingBits_65 (by decide) ?_
        refine pw_iincN 69 rfl dX7_fittingBits_66 (by decide) rfl ?_
        refine pw_goto (tgt := 26) dX7_fittingBits_69 rfl ?_
        rotate_left
        exact ih2
set_option maxRecDepth 100000 in
set_option maxHeartbeats 2000000 in
theorem x_howManySo {d n s w V : Nat} {pc b : Nat → Nat} {I : pI} {J : pJ} (hM : XM I 1 n pc b) (hW : WF n pc b) (hs : s < 128) (hw : w < 5) (hV : V ≤ 99) : PC SX (d + 2) yX7_howManySo cX7_howManySo 6 (some .int) [.ref 62, .int (nI s), .int (nI w), .int (nI V)] (I) (J) (RX) (pPu (.int (nI (cntP (fun i => s.testBit i && soN n pc b i w V) 7))) I J RX) := by
  refine PC.of [some (.ref 62), some (.int (nI s)), some (.int (nI w)), some (.int (nI V)), none, none] rfl rfl (Nat.le_of_ble_eq_true rfl) ?_
  refine pw_iconst (v := nI 0) 1 rfl dX7_howManySo_0 rfl ?_
  refine pw_istore 3 rfl dX7_howManySo_1 (by decide) ?_
  refine pw_iconst (v := nI 0) 4 rfl dX7_howManySo_3 rfl ?_
  refine pw_istore 6 rfl dX7_howManySo_4 (by decide) ?_
  rotate_left
  refine nat_loop 7 (fun k => PW SX yX7_howManySo.cls cX7_howManySo 6 (d + 2) 6 [some (.ref 62), some (.int (nI s)), some (.int (nI w)), some (.int (nI V)), some (.int (nI (cntP (fun i => s.testBit i && soN n pc b i w V) k))), some (.int (nI k))] [] (I) (J) (RX) (rX cX7_howManySo (some .int) (pPu (.int (nI (cntP (fun i => s.testBit i && soN n pc b i w V) 7))) I J RX))) ?_ ?_
  · refine pw_iload 8 rfl dX7_howManySo_6 rfl ?_
    refine pw_bipush (v := nI 7) 10 rfl dX7_howManySo_8 rfl ?_
    refine pw_icmp_ge (tgt := 43) 13 rfl dX7_howManySo_10 rfl (fun h10 => ?_) (fun h10 => absurd (by (simp (disch := omega) only [nI_leI, nI_ltI, nI_eq, show (0 : Int32) = nI 0 from rfl, not_true_eq_false, not_false_eq_true] <;> omega)) h10)
    refine pw_iload 45 rfl dX7_howManySo_43 rfl ?_
    refine pw_iret dX7_howManySo_45 rfl ?_
    rotate_left
    exact ⟨rfl, rfl, rfl, rfl⟩
  · intro k hk ih
    cases hp : s.testBit k with
    | true =>
      cases hq : soN n pc b k w V with
      | true =>
        rw [cntP_y (P := fun i => s.testBit i && soN n pc b i w V) (by show (s.testBit k && soN n pc b k w V) = true; rw [hp, hq]; rfl)] at ih
        refine pw_iload 8 rfl dX7_howManySo_6 rfl ?_
        refine pw_bipush (v := nI 7) 10 rfl dX7_howManySo_8 rfl ?_
        refine pw_icmp_ge (tgt := 43) 13 rfl dX7_howManySo_10 rfl (fun h10 => absurd h10 (by (simp (disch := omega) only [nI_leI, nI_ltI, nI_eq, show (0 : Int32) = nI 0 from rfl, not_true_eq_false, not_false_eq_true] <;> omega))) (fun h10 => ?_)
        refine pw_iload_n 14 rfl dX7_howManySo_13 rfl ?_
        refine pw_iload 16 rfl dX7_howManySo_14 rfl ?_
        refine pw_ishr 17 rfl dX7_howManySo_16 ?_
        refine pw_iconst (v := nI 1) 18 rfl dX7_howManySo_17 rfl ?_
        refine pw_iand 19 rfl dX7_howManySo_18 ?_
        refine pw_iconst (v := nI 1) 20 rfl dX7_howManySo_19 rfl ?_
        refine pw_icmp_ne (tgt := 37) 23 rfl dX7_howManySo_20 rfl (fun h20 => absurd (bit_y (by omega) (by omega) hp) h20) (fun h20 => ?_)
        refine pw_aload_n 24 rfl dX7_howManySo_23 rfl ?_
        refine pw_iload 26 rfl dX7_howManySo_24 rfl ?_
        refine pw_iload_n 27 rfl dX7_howManySo_26 rfl ?_
        refine pw_iload_n 28 rfl dX7_howManySo_27 rfl ?_
        refine pw_callVP (as := [_, _, _]) 31 rfl dX7_howManySo_28 mX7_68 vX7_isSo (x_isSo (d := d) hM hW hk hw hV) (by first | rfl | assumption | exact rowS hh | exact mtS hm | exact ruS hr | exact mtA1 hm | exact mtA2 hm | exact mtA3 hm | exact mtA4 hm | exact mtA5 hm | exact mtA6 hm | exact mtA7 hm | exact ruA1 hr | exact ruA2 hr | exact ruA3 hr) rfl (by decide) ⟨rfl, by decide, by decide, show (parseMethodDescriptor yX7_isSo.desc).map (fun d => d.parameters.length) = some 3 by decide +kernel⟩ (by omega) (by decide) (Nat.le_of_ble_eq_true rfl) rfl ?_
        refine pw_if_eq (tgt := 37) 34 rfl dX7_howManySo_31 rfl (fun h31 => absurd h31 (by rw [hq]; decide)) (fun h31 => ?_)
        refine pw_iincN 37 rfl dX7_howManySo_34 (by decide) rfl ?_
        refine pw_iincN 40 rfl dX7_howManySo_37 (by decide) rfl ?_
        refine pw_goto (tgt := 6) dX7_howManySo_40 rfl ?_
        rotate_left
        exact ih
      | false =>
        rw [cntP_n (P := fun i => s.testBit i && soN n pc b i w V) (by show (s.testBit k && soN n pc b k w V) = false; rw [hp, hq]; rfl)] at ih
        refine pw_iload 8 rfl dX7_howManySo_6 rfl ?_
        refine pw_bipush (v := nI 7) 10 rfl dX7_howManySo_8 rfl ?_
        refine pw_icmp_ge (tgt := 43) 13 rfl dX7_howManySo_10 rfl (fun h10 => absurd h10 (by (simp (disch := omega) only [nI_leI, nI_ltI, nI_eq, show (0 : Int32) = nI 0 from rfl, not_true_eq_false, not_false_eq_true] <;> omega))) (fun h10 => ?_)
        refine pw_iload_n 14 rfl dX7_howManySo_13 rfl ?_
        refine pw_iload 16 rfl dX7_howManySo_14 rfl ?_
        refine pw_ishr 17 rfl dX7_howManySo_16 ?_
        refine pw_iconst (v := nI 1) 18 rfl dX7_howManySo_17 rfl ?_
        refine pw_iand 19 rfl dX7_howManySo_18 ?_
        refine pw_iconst (v := nI 1) 20 rfl dX7_howManySo_19 rfl ?_
        refine pw_icmp_ne (tgt := 37) 23 rfl dX7_howManySo_20 rfl (fun h20 => absurd (bit_y (by omega) (by omega) hp) h20) (fun h20 => ?_)
        refine pw_aload_n 24 rfl dX7_howManySo_23 rfl ?_
        refine pw_iload 26 rfl dX7_howManySo_24 rfl ?_
        refine pw_iload_n 27 rfl dX7_howManySo_26 rfl ?_
        refine pw_iload_n 28 rfl dX7_howManySo_27 rfl ?_
        refine pw_callVP (as := [_, _, _]) 31 rfl dX7_howManySo_28 mX7_68 vX7_isSo (x_isSo (d := d) hM hW hk hw hV) (by first | rfl | assumption | exact rowS hh | exact mtS hm | exact ruS hr | exact mtA1 hm | exact mtA2 hm | exact mtA3 hm | exact mtA4 hm | exact mtA5 hm | exact mtA6 hm | exact mtA7 hm | exact ruA1 hr | exact ruA2 hr | exact ruA3 hr) rfl (by decide) ⟨rfl, by decide, by decide, show (parseMethodDescriptor yX7_isSo.desc).map (fun d => d.parameters.length) = some 3 by decide +kernel⟩ (by omega) (by decide) (Nat.le_of_ble_eq_true rfl) rfl ?_
        refine pw_if_eq (tgt := 37) 34 rfl dX7_howManySo_31 rfl (fun h31 => ?_) (fun h31 => absurd (by rw [hq]; rfl) h31)
        refine pw_iincN 40 rfl dX7_howManySo_37 (by decide) rfl ?_
        refine pw_goto (tgt := 6) dX7_howManySo_40 rfl ?_
        rotate_left
        exact ih
    | false =>
      rw [cntP_n (P := fun i => s.testBit i && soN n pc b i w V) (by show (s.testBit k && soN n pc b k w V) = false; rw [hp]; rfl)] at ih
      refine pw_iload 8 rfl dX7_howManySo_6 rfl ?_
      refine pw_bipush (v := nI 7) 10 rfl dX7_howManySo_8 rfl ?_
      refine pw_icmp_ge (tgt := 43) 13 rfl dX7_howManySo_10 rfl (fun h10 => absurd h10 (by (simp (disch := omega) only [nI_leI, nI_ltI, nI_eq, show (0 : Int32) = nI 0 from rfl, not_true_eq_false, not_false_eq_true] <;> omega))) (fun h10 => ?_)
      refine pw_iload_n 14 rfl dX7_howManySo_13 rfl ?_
      refine pw_iload 16 rfl dX7_howManySo_14 rfl ?_
      refine pw_ishr 17 rfl dX7_howManySo_16 ?_
      refine pw_iconst (v := nI 1) 18 rfl dX7_howManySo_17 rfl ?_
      refine pw_iand 19 rfl dX7_howManySo_18 ?_
      refine pw_iconst (v := nI 1) 20 rfl dX7_howManySo_19 rfl ?_
      refine pw_icmp_ne (tgt := 37) 23 rfl dX7_howManySo_20 rfl (fun h20 => ?_) (fun h20 => absurd h20 (bit_n (by omega) (by omega) hp))
      refine pw_iincN 40 rfl dX7_howManySo_37 (by decide) rfl ?_
      refine pw_goto (tgt := 6) dX7_howManySo_40 rfl ?_
      rotate_left
      exact ih
set_option maxRecDepth 100000 in
set_option maxHeartbeats 2000000 in
theorem x_fitting {d n : Nat} {pc b : Nat → Nat} {I : pI} {J : pJ} {hd : List (Nat × Nat)} (hM : XM I 1 n pc b) (hW : WF n pc b) (hH : XH I hd) : PC SX (d + 3) yX7_fitting cX7_fitting 2 (some .int) [.ref 62] (I) (J) (RX) (fun r' I' J' R' => r' = some (.int (nI (bts (fitP n pc b hd) n))) ∧ XN I' J' [lI (popc (bts (fitP n pc b hd) n))] ∧ (∀ a, a ≠ 19 → I' a = I a) ∧ R' = RX) := by
  refine PC.of [some (.ref 62), none] rfl rfl (Nat.le_of_ble_eq_true rfl) ?_
  refine pw_aload_n 1 rfl dX7_fitting_0 rfl ?_
  refine pw_callVP (as := []) 4 rfl dX7_fitting_1 mX7_35 vX7_fittingBits (x_fittingBits (d := d) hM hW hH) (by first | rfl | assumption | exact rowS hh | exact mtS hm | exact ruS hr | exact mtA1 hm | exact mtA2 hm | exact mtA3 hm | exact mtA4 hm | exact mtA5 hm | exact mtA6 hm | exact mtA7 hm | exact ruA1 hr | exact ruA2 hr | exact ruA3 hr) rfl (by decide) ⟨rfl, by decide, by decide, show (parseMethodDescriptor yX7_fittingBits.desc).map (fun d => d.parameters.length) = some 0 by decide +kernel⟩ (by omega) (by decide) (Nat.le_of_ble_eq_true rfl) rfl ?_
  refine pw_istore_n 5 rfl dX7_fitting_4 (by decide) ?_
  refine pw_aload_n 6 rfl dX7_fitting_5 rfl ?_
  refine pw_getR 9 rfl dX7_fitting_6 fX7_23 (by first | rfl | assumption | exact rowS hh | exact mtS hm | exact ruS hr | exact mtA1 hm | exact mtA2 hm | exact mtA3 hm | exact mtA4 hm | exact mtA5 hm | exact mtA6 hm | exact mtA7 hm | exact ruA1 hr | exact ruA2 hr | exact ruA3 hr) rfl (by first | rfl | assumption | exact mtR0 hm | exact mtR1 hm | exact mtR2 hm | exact mtR3 hm | exact mtR4 hm | exact mtR5 hm | exact mtR6 hm | exact ruR0 hr | exact ruR1 hr | exact ruR3 hr) ?_
  refine pw_iload_n 10 rfl dX7_fitting_9 rfl ?_
  refine pw_callSP (as := [_]) 13 rfl dX7_fitting_10 mX7_39 sJ6_bitCount_0f7a4 (x_bitCount (d := d) _) ⟨rfl, by decide, by decide, show (parseMethodDescriptor yJ6_bitCount_0f7a4.desc).map (fun d => d.parameters.length) = some 1 by decide +kernel⟩ (by omega) (by decide) (Nat.le_of_ble_eq_true rfl) rfl ?_
  rotate_left
  rw [bc_pop _ (bts_1024 _ hW.1)]
  refine pw_i2l 14 rfl dX7_fitting_13 ?_
  refine pw_callV (as := [_]) 17 rfl dX7_fitting_14 mX7_44 vX2_tellOne (x_tellOne (d := d) _) (by first | rfl | assumption | exact rowS hh | exact mtS hm | exact ruS hr | exact mtA1 hm | exact mtA2 hm | exact mtA3 hm | exact mtA4 hm | exact mtA5 hm | exact mtA6 hm | exact mtA7 hm | exact ruA1 hr | exact ruA2 hr | exact ruA3 hr) rfl (by decide) ⟨rfl, by decide, by decide, show (parseMethodDescriptor yX2_tellOne.desc).map (fun d => d.parameters.length) = some 1 by decide +kernel⟩ (by omega) (by decide) (Nat.le_of_ble_eq_true rfl) rfl (fun r14 I14 J14 R14 c14 => ?_)
  obtain ⟨rfl, n1', n2', rfl⟩ := c14
  refine pw_iload_n 18 rfl dX7_fitting_17 rfl ?_
  refine pw_iret dX7_fitting_18 rfl ?_
  rotate_left
  exact ⟨rfl, n1', n2', rfl⟩
