def sumS (f : Nat → Nat) (s : Nat) : Nat → Nat
  | 0 => 0
  | k + 1 => sumS f s k + if s.testBit k then f k else 0
theorem sumS_le {f : Nat → Nat} {M : Nat} (s : Nat) : ∀ k, (∀ i, i < k → f i ≤ M) → sumS f s k ≤ M * k
  | 0, _ => Nat.zero_le _
  | k + 1, h => by
    rw [sumS, Nat.mul_succ]
    have := sumS_le s k (fun i hi => h i (by omega))
    have := h k (by omega)
    split <;> omega
set_option maxRecDepth 100000 in
set_option maxHeartbeats 2000000 in
theorem x_sumOfSet {d n h s : Nat} {f : Nat → Nat} {I : pI} {J : pJ} (hn : I 1 7 = nI n) (h7 : n ≤ 7) (hh : SX[h]? = some (100, 7)) (hf : ∀ q, q < n → I h q = nI (f q)) (hs : s < 1024) : PC SX (d) yX1_sumOfSet cX1_sumOfSet 5 (some .int) [.ref 1, .ref h, .int (nI s)] (I) (J) (RX) (pPu (.int (nI (sumS f s n))) I J RX) := by
  refine PC.of [some (.ref 1), some (.ref h), some (.int (nI s)), none, none] rfl rfl (Nat.le_of_ble_eq_true rfl) ?_
  refine pw_iconst (v := nI 0) 1 rfl dX1_sumOfSet_0 rfl ?_
  refine pw_istore_n 2 rfl dX1_sumOfSet_1 (by decide) ?_
  refine pw_iconst (v := nI 0) 3 rfl dX1_sumOfSet_2 rfl ?_
  refine pw_istore 5 rfl dX1_sumOfSet_3 (by decide) ?_
  rotate_left
  refine nat_loop n (fun k => PW SX yX1_sumOfSet.cls cX1_sumOfSet 5 (d) 5 [some (.ref 1), some (.ref h), some (.int (nI s)), some (.int (nI (sumS f s k))), some (.int (nI k))] [] (I) (J) (RX) (rX cX1_sumOfSet (some .int) (pPu (.int (nI (sumS f s n))) I J RX))) ?_ ?_
  · refine pw_iload 7 rfl dX1_sumOfSet_5 rfl ?_
    refine pw_aload_n 8 rfl dX1_sumOfSet_7 rfl ?_
    refine pw_getI 11 rfl dX1_sumOfSet_8 fX1_33 (by first | rfl | assumption | exact rowS hh | exact mtS hm | exact ruS hr | exact mtA1 hm | exact mtA2 hm | exact mtA3 hm | exact mtA4 hm | exact mtA5 hm | exact mtA6 hm | exact mtA7 hm | exact ruA1 hr | exact ruA2 hr | exact ruA3 hr) rfl ?_
    refine pw_icmp_ge (tgt := 44) 14 rfl dX1_sumOfSet_11 rfl (fun h11 => ?_) (fun h11 => absurd (by rw [hn]; (simp (disch := omega) only [nI_leI, nI_ltI, nI_eq, show (0 : Int32) = nI 0 from rfl, not_true_eq_false, not_false_eq_true] <;> omega)) h11)
    refine pw_iload_n 45 rfl dX1_sumOfSet_44 rfl ?_
    refine pw_iret dX1_sumOfSet_45 rfl ?_
    rotate_left
    exact ⟨rfl, rfl, rfl, rfl⟩
  · intro k hk ih
    rw [sumS] at ih
    cases hp : s.testBit k with
    | true =>
      rw [if_pos hp] at ih
      refine pw_iload 7 rfl dX1_sumOfSet_5 rfl ?_
      refine pw_aload_n 8 rfl dX1_sumOfSet_7 rfl ?_
      refine pw_getI 11 rfl dX1_sumOfSet_8 fX1_33 (by first | rfl | assumption | exact rowS hh | exact mtS hm | exact ruS hr | exact mtA1 hm | exact mtA2 hm | exact mtA3 hm | exact mtA4 hm | exact mtA5 hm | exact mtA6 hm | exact mtA7 hm | exact ruA1 hr | exact ruA2 hr | exact ruA3 hr) rfl ?_
      refine pw_icmp_ge (tgt := 44) 14 rfl dX1_sumOfSet_11 rfl (fun h11 => absurd h11 (by rw [hn]; (simp (disch := omega) only [nI_leI, nI_ltI, nI_eq, show (0 : Int32) = nI 0 from rfl, not_true_eq_false, not_false_eq_true] <;> omega))) (fun h11 => ?_)
      refine pw_iload 16 rfl dX1_sumOfSet_14 rfl ?_
      refine pw_aload_n 17 rfl dX1_sumOfSet_16 rfl ?_
      refine pw_alen 18 rfl dX1_sumOfSet_17 (by first | rfl | assumption | exact rowS hh | exact mtS hm | exact ruS hr | exact mtA1 hm | exact mtA2 hm | exact mtA3 hm | exact mtA4 hm | exact mtA5 hm | exact mtA6 hm | exact mtA7 hm | exact ruA1 hr | exact ruA2 hr | exact ruA3 hr) rfl (by decide) rfl ?_
      refine pw_icmp_ge (tgt := 44) 21 rfl dX1_sumOfSet_18 rfl (fun h18 => absurd h18 (by show ¬ nI 7 ≤ nI k; (simp (disch := omega) only [nI_leI, nI_ltI, nI_eq, show (0 : Int32) = nI 0 from rfl, not_true_eq_false, not_false_eq_true] <;> omega))) (fun h18 => ?_)
      refine pw_iload_n 22 rfl dX1_sumOfSet_21 rfl ?_
      refine pw_iload 24 rfl dX1_sumOfSet_22 rfl ?_
      refine pw_ishr 25 rfl dX1_sumOfSet_24 ?_
      refine pw_iconst (v := nI 1) 26 rfl dX1_sumOfSet_25 rfl ?_
      refine pw_iand 27 rfl dX1_sumOfSet_26 ?_
      refine pw_iconst (v := nI 1) 28 rfl dX1_sumOfSet_27 rfl ?_
      refine pw_icmp_ne (tgt := 38) 31 rfl dX1_sumOfSet_28 rfl (fun h28 => absurd (bit_y (by omega) (by omega) hp) h28) (fun h28 => ?_)
      refine pw_iload_n 32 rfl dX1_sumOfSet_31 rfl ?_
      refine pw_aload_n 33 rfl dX1_sumOfSet_32 rfl ?_
      refine pw_iload 35 rfl dX1_sumOfSet_33 rfl ?_
      refine pw_ialdN 36 rfl dX1_sumOfSet_35 (by first | rfl | assumption | exact rowS hh | exact mtS hm | exact ruS hr | exact mtA1 hm | exact mtA2 hm | exact mtA3 hm | exact mtA4 hm | exact mtA5 hm | exact mtA6 hm | exact mtA7 hm | exact ruA1 hr | exact ruA2 hr | exact ruA3 hr) (by omega) (by decide) ?_
      rotate_left
      rw [hf k hk]
      first | refine pw_iaddN 37 rfl dX1_sumOfSet_36 ?_ | refine pw_iadd 37 rfl dX1_sumOfSet_36 ?_
      refine pw_istore_n 38 rfl dX1_sumOfSet_37 (by decide) ?_
      refine pw_iincN 41 rfl dX1_sumOfSet_38 (by decide) rfl ?_
      refine pw_goto (tgt := 5) dX1_sumOfSet_41 rfl ?_
      rotate_left
      exact ih
    | false =>
      rw [if_neg (by rw [hp]; decide)] at ih
      refine pw_iload 7 rfl dX1_sumOfSet_5 rfl ?_
      refine pw_aload_n 8 rfl dX1_sumOfSet_7 rfl ?_
      refine pw_getI 11 rfl dX1_sumOfSet_8 fX1_33 (by first | rfl | assumption | exact rowS hh | exact mtS hm | exact ruS hr | exact mtA1 hm | exact mtA2 hm | exact mtA3 hm | exact mtA4 hm | exact mtA5 hm | exact mtA6 hm | exact mtA7 hm | exact ruA1 hr | exact ruA2 hr | exact ruA3 hr) rfl ?_
      refine pw_icmp_ge (tgt := 44) 14 rfl dX1_sumOfSet_11 rfl (fun h11 => absurd h11 (by rw [hn]; (simp (disch := omega) only [nI_leI, nI_ltI, nI_eq, show (0 : Int32) = nI 0 from rfl, not_true_eq_false, not_false_eq_true] <;> omega))) (fun h11 => ?_)
      refine pw_iload 16 rfl dX1_sumOfSet_14 rfl ?_
      refine pw_aload_n 17 rfl dX1_sumOfSet_16 rfl ?_
      refine pw_alen 18 rfl dX1_sumOfSet_17 (by first | rfl | assumption | exact rowS hh | exact mtS hm | exact ruS hr | exact mtA1 hm | exact mtA2 hm | exact mtA3 hm | exact mtA4 hm | exact mtA5 hm | exact mtA6 hm | exact mtA7 hm | exact ruA1 hr | exact ruA2 hr | exact ruA3 hr) rfl (by decide) rfl ?_
      refine pw_icmp_ge (tgt := 44) 21 rfl dX1_sumOfSet_18 rfl (fun h18 => absurd h18 (by show ¬ nI 7 ≤ nI k; (simp (disch := omega) only [nI_leI, nI_ltI, nI_eq, show (0 : Int32) = nI 0 from rfl, not_true_eq_false, not_false_eq_true] <;> omega))) (fun h18 => ?_)
      refine pw_iload_n 22 rfl dX1_sumOfSet_21 rfl ?_
      refine pw_iload 24 rfl dX1_sumOfSet_22 rfl ?_
      refine pw_ishr 25 rfl dX1_sumOfSet_24 ?_
      refine pw_iconst (v := nI 1) 26 rfl dX1_sumOfSet_25 rfl ?_
      refine pw_iand 27 rfl dX1_sumOfSet_26 ?_
      refine pw_iconst (v := nI 1) 28 rfl dX1_sumOfSet_27 rfl ?_
      refine pw_icmp_ne (tgt := 38) 31 rfl dX1_sumOfSet_28 rfl (fun h28 => ?_) (fun h28 => absurd h28 (bit_n (by omega) (by omega) hp))
      refine pw_iincN 41 rfl dX1_sumOfSet_38 (by decide) rfl ?_
      refine pw_goto (tgt := 5) dX1_sumOfSet_41 rfl ?_
      rotate_left
      exact ih
def fewI (o : Option Nat) : Int32 := match o with
  | none => -2
  | some s => nI (popc s)
theorem few_cnt (Q : Nat → Bool) : ∀ k, few Q k = none ↔ cntP Q k = 0
  | 0 => ⟨fun _ => rfl, fun _ => rfl⟩
  | k + 1 => by
    have ih := few_cnt Q k
    cases hq : Q k with
    | false => rw [cntP_n hq, show few Q (k + 1) = few Q k from by rw [few, hq]; rfl]; exact ih
    | true =>
      rw [cntP_y hq]
      refine ⟨fun h => ?_, fun h => by omega⟩
      rw [few, if_pos hq] at h
      cases e : few Q k with
      | none => rw [e] at h; cases h
      | some s =>
        rw [e] at h
        have h' : (if popc k < popc s then some k else some s) = none := h
        split at h' <;> cases h'
set_option maxRecDepth 100000 in
set_option maxHeartbeats 2000000 in
theorem x_justStones {d n V : Nat} {pc b : Nat → Nat} {I : pI} {J : pJ} {rw : List Int64} (hM : XM I 1 n pc b) (hW : WF n pc b) (hV : V ≤ 999) (hR : XN I J rw) : PC SX (d + 3) yX9_justStones cX9_justStones 6 (some .int) [.ref 60, .int (nI V)] (I) (J) (RX) (fun r' I' J' R' => r' = some (.int (fewI (few (fun s => decide (sumS (fun q => b (21 + q)) s n = V)) (2 ^ n)))) ∧ XN I' J' (if cntP (fun s => decide (sumS (fun q => b (21 + q)) s n = V)) (2 ^ n) = 0 then rw else [lI (fewB (few (fun s => decide (sumS (fun q => b (21 + q)) s n = V)) (2 ^ n))), lI (cntP (fun s => decide (sumS (fun q => b (21 + q)) s n = V)) (2 ^ n))]) ∧ fS I I' ∧ R' = RX) := by
  refine PC.of [some (.ref 60), some (.int (nI V)), none, none, none, none] rfl rfl (Nat.le_of_ble_eq_true rfl) ?_
  have h7 := hW.1
  have hn := hM.2.1
  have hpw : 2 ^ n ≤ 2 ^ 7 := Nat.pow_le_pow_right (by decide) h7
  have hp1 := Nat.two_pow_pos n
  have hfb : ∀ q, q < n → I 6 q = nI (b (21 + q)) := fun q hq => (hM.2.2.2.2.2.2 q (by omega)).2.2.2.2
  generalize hQ : (fun s => decide (sumS (fun q => b (21 + q)) s n = V)) = Q
  have hQs : ∀ s, Q s = decide (sumS (fun q => b (21 + q)) s n = V) := fun s => by rw [← hQ]
  refine pw_iconst (v := nI 0) 1 rfl dX9_justStones_0 rfl ?_
  refine pw_istore_n 2 rfl dX9_justStones_1 (by decide) ?_
  refine pw_bipush (v := -2) 4 rfl dX9_justStones_2 rfl ?_
  refine pw_istore_n 5 rfl dX9_justStones_4 (by decide) ?_
  refine pw_iconst (v := nI 0) 6 rfl dX9_justStones_5 rfl ?_
  refine pw_istore 8 rfl dX9_justStones_6 (by decide) ?_
  refine pw_iconst (v := nI 0) 9 rfl dX9_justStones_8 rfl ?_
  refine pw_istore 11 rfl dX9_justStones_9 (by decide) ?_
  rotate_left
  have L := nat_loop (2 ^ n) (fun s => PW SX yX9_justStones.cls cX9_justStones 6 (d + 3) 11 [some (.ref 60), some (.int (nI V)), some (.int (nI (fewB (few Q s)))), some (.int (fewI (few Q s))), some (.int (nI (cntP Q s))), some (.int (nI s))] [] I J RX (rX cX9_justStones (some .int) (fun r' I' J' R' => r' = some (.int (fewI (few Q (2 ^ n)))) ∧ XN I' J' (if cntP Q (2 ^ n) = 0 then rw else [lI (fewB (few Q (2 ^ n))), lI (cntP Q (2 ^ n))]) ∧ fS I I' ∧ R' = RX))) ?_ ?_
  · exact L
  · have hc := cntP_le Q (2 ^ n)
    by_cases h0 : cntP Q (2 ^ n) = 0
    · rw [if_pos h0]
      refine pw_iload 13 rfl dX9_justStones_11 rfl ?_
      refine pw_aload_n 14 rfl dX9_justStones_13 rfl ?_
      refine pw_getR 17 rfl dX9_justStones_14 fX9_15 (by first | rfl | assumption | exact rowS hh | exact mtS hm | exact ruS hr | exact mtA1 hm | exact mtA2 hm | exact mtA3 hm | exact mtA4 hm | exact mtA5 hm | exact mtA6 hm | exact mtA7 hm | exact ruA1 hr | exact ruA2 hr | exact ruA3 hr) rfl (by first | rfl | assumption | exact mtR0 hm | exact mtR1 hm | exact mtR2 hm | exact mtR3 hm | exact mtR4 hm | exact mtR5 hm | exact mtR6 hm | exact ruR0 hr | exact ruR1 hr | exact ruR3 hr) ?_
      refine pw_callVP (as := []) 20 rfl dX9_justStones_17 mX9_86 vX1_allBits (x_allBits (d := d) (Or.inl rfl) hn h7) (by first | rfl | assumption | exact rowS hh | exact mtS hm | exact ruS hr | exact mtA1 hm | exact mtA2 hm | exact mtA3 hm | exact mtA4 hm | exact mtA5 hm | exact mtA6 hm | exact mtA7 hm | exact ruA1 hr | exact ruA2 hr | exact ruA3 hr) rfl (by decide) ⟨rfl, by decide, by decide, show (parseMethodDescriptor yX1_allBits.desc).map (fun d => d.parameters.length) = some 0 by decide +kernel⟩ (by omega) (by decide) (Nat.le_of_ble_eq_true rfl) rfl ?_
      refine pw_icmp_gt (tgt := 77) 23 rfl dX9_justStones_20 rfl (fun h20 => ?_) (fun h20 => absurd (by (simp (disch := omega) only [nI_leI, nI_ltI, nI_eq, show (0 : Int32) = nI 0 from rfl, not_true_eq_false, not_false_eq_true] <;> omega)) h20)
      refine pw_iload 79 rfl dX9_justStones_77 rfl ?_
      refine pw_if_le (tgt := 94) 82 rfl dX9_justStones_79 rfl (fun h79 => ?_) (fun h79 => absurd (by rw [h0]; decide) h79)
      refine pw_iload_n 95 rfl dX9_justStones_94 rfl ?_
      refine pw_iret dX9_justStones_95 rfl ?_
      rotate_left
      exact ⟨rfl, hR, fun _ _ _ => rfl, rfl⟩
    · rw [if_neg h0]
      refine pw_iload 13 rfl dX9_justStones_11 rfl ?_
      refine pw_aload_n 14 rfl dX9_justStones_13 rfl ?_
      refine pw_getR 17 rfl dX9_justStones_14 fX9_15 (by first | rfl | assumption | exact rowS hh | exact mtS hm | exact ruS hr | exact mtA1 hm | exact mtA2 hm | exact mtA3 hm | exact mtA4 hm | exact mtA5 hm | exact mtA6 hm | exact mtA7 hm | exact ruA1 hr | exact ruA2 hr | exact ruA3 hr) rfl (by first | rfl | assumption | exact mtR0 hm | exact mtR1 hm | exact mtR2 hm | exact mtR3 hm | exact mtR4 hm | exact mtR5 hm | exact mtR6 hm | exact ruR0 hr | exact ruR1 hr | exact ruR3 hr) ?_
      refine pw_callVP (as := []) 20 rfl dX9_justStones_17 mX9_86 vX1_allBits (x_allBits (d := d) (Or.inl rfl) hn h7) (by first | rfl | assumption | exact rowS hh | exact mtS hm | exact ruS hr | exact mtA1 hm | exact mtA2 hm | exact mtA3 hm | exact mtA4 hm | exact mtA5 hm | exact mtA6 hm | exact mtA7 hm | exact ruA1 hr | exact ruA2 hr | exact ruA3 hr) rfl (by decide) ⟨rfl, by decide, by decide, show (parseMethodDescriptor yX1_allBits.desc).map (fun d => d.parameters.length) = some 0 by decide +kernel⟩ (by omega) (by decide) (Nat.le_of_ble_eq_true rfl) rfl ?_
      refine pw_icmp_gt (tgt := 77) 23 rfl dX9_justStones_20 rfl (fun h20 => ?_) (fun h20 => absurd (by (simp (disch := omega) only [nI_leI, nI_ltI, nI_eq, show (0 : Int32) = nI 0 from rfl, not_true_eq_false, not_false_eq_true] <;> omega)) h20)
      refine pw_iload 79 rfl dX9_justStones_77 rfl ?_
      refine pw_if_le (tgt := 94) 82 rfl dX9_justStones_79 rfl (fun h79 => absurd h79 (nI_nle (by omega) (by omega))) (fun h79 => ?_)
      refine pw_aload_n 83 rfl dX9_justStones_82 rfl ?_
      refine pw_getR 86 rfl dX9_justStones_83 fX9_19 (by first | rfl | assumption | exact rowS hh | exact mtS hm | exact ruS hr | exact mtA1 hm | exact mtA2 hm | exact mtA3 hm | exact mtA4 hm | exact mtA5 hm | exact mtA6 hm | exact mtA7 hm | exact ruA1 hr | exact ruA2 hr | exact ruA3 hr) rfl (by first | rfl | assumption | exact mtR0 hm | exact mtR1 hm | exact mtR2 hm | exact mtR3 hm | exact mtR4 hm | exact mtR5 hm | exact mtR6 hm | exact ruR0 hr | exact ruR1 hr | exact ruR3 hr) ?_
      refine pw_iload_n 87 rfl dX9_justStones_86 rfl ?_
      refine pw_i2l 88 rfl dX9_justStones_87 ?_
      refine pw_iload 90 rfl dX9_justStones_88 rfl ?_
      refine pw_i2l 91 rfl dX9_justStones_90 ?_
      refine pw_callV (as := [_, _]) 94 rfl dX9_justStones_91 mX9_82 vX2_tellTwo (x_tellTwo (d := d) _ _) (by first | rfl | assumption | exact rowS hh | exact mtS hm | exact ruS hr | exact mtA1 hm | exact mtA2 hm | exact mtA3 hm | exact mtA4 hm | exact mtA5 hm | exact mtA6 hm | exact mtA7 hm | exact ruA1 hr | exact ruA2 hr | exact ruA3 hr) rfl (by decide) ⟨rfl, by decide, by decide, show (parseMethodDescriptor yX2_tellTwo.desc).map (fun d => d.parameters.length) = some 2 by decide +kernel⟩ (by omega) (by decide) (Nat.le_of_ble_eq_true rfl) rfl (fun r91 I91 J91 R91 c91 => ?_)
      obtain ⟨rfl, n1, n2, rfl⟩ := c91
      rotate_left
      refine pw_iload_n 95 rfl dX9_justStones_94 rfl ?_
      refine pw_iret dX9_justStones_95 rfl ?_
      rotate_left
      exact ⟨rfl, n1, fun a h1 h2 => n2 a h1, rfl⟩
  · intro s hs ih
    have hsl := sumS_le (f := fun q => b (21 + q)) (M := 999) s n (fun i hi => (hW.2.2.2.2 i (by omega)).2.2.2.2)
    have hsl2 : sumS (fun q => b (21 + q)) s n ≤ 999 * 7 := Nat.le_trans hsl (Nat.mul_le_mul_left 999 h7)
    have hpl := popc_le s
    by_cases hp : sumS (fun q => b (21 + q)) s n = V
    · have hq : Q s = true := by rw [hQs]; exact decide_eq_true hp
      rw [cntP_y hq] at ih
      cases hf : few Q s with
      | none =>
        rw [few_y hq (by rw [hf]; show popc s < 11; omega)] at ih
        refine pw_iload 13 rfl dX9_justStones_11 rfl ?_
        refine pw_aload_n 14 rfl dX9_justStones_13 rfl ?_
        refine pw_getR 17 rfl dX9_justStones_14 fX9_15 (by first | rfl | assumption | exact rowS hh | exact mtS hm | exact ruS hr | exact mtA1 hm | exact mtA2 hm | exact mtA3 hm | exact mtA4 hm | exact mtA5 hm | exact mtA6 hm | exact mtA7 hm | exact ruA1 hr | exact ruA2 hr | exact ruA3 hr) rfl (by first | rfl | assumption | exact mtR0 hm | exact mtR1 hm | exact mtR2 hm | exact mtR3 hm | exact mtR4 hm | exact mtR5 hm | exact mtR6 hm | exact ruR0 hr | exact ruR1 hr | exact ruR3 hr) ?_
        refine pw_callVP (as := []) 20 rfl dX9_justStones_17 mX9_86 vX1_allBits (x_allBits (d := d) (Or.inl rfl) hn h7) (by first | rfl | assumption | exact rowS hh | exact mtS hm | exact ruS hr | exact mtA1 hm | exact mtA2 hm | exact mtA3 hm | exact mtA4 hm | exact mtA5 hm | exact mtA6 hm | exact mtA7 hm | exact ruA1 hr | exact ruA2 hr | exact ruA3 hr) rfl (by decide) ⟨rfl, by decide, by decide, show (parseMethodDescriptor yX1_allBits.desc).map (fun d => d.parameters.length) = some 0 by decide +kernel⟩ (by omega) (by decide) (Nat.le_of_ble_eq_true rfl) rfl ?_
        refine pw_icmp_gt (tgt := 77) 23 rfl dX9_justStones_20 rfl (fun h20 => absurd h20 (by (simp (disch := omega) only [nI_leI, nI_ltI, nI_eq, show (0 : Int32) = nI 0 from rfl, not_true_eq_false, not_false_eq_true] <;> omega))) (fun h20 => ?_)
        refine pw_aload_n 24 rfl dX9_justStones_23 rfl ?_
        refine pw_getR 27 rfl dX9_justStones_24 fX9_15 (by first | rfl | assumption | exact rowS hh | exact mtS hm | exact ruS hr | exact mtA1 hm | exact mtA2 hm | exact mtA3 hm | exact mtA4 hm | exact mtA5 hm | exact mtA6 hm | exact mtA7 hm | exact ruA1 hr | exact ruA2 hr | exact ruA3 hr) rfl (by first | rfl | assumption | exact mtR0 hm | exact mtR1 hm | exact mtR2 hm | exact mtR3 hm | exact mtR4 hm | exact mtR5 hm | exact mtR6 hm | exact ruR0 hr | exact ruR1 hr | exact ruR3 hr) ?_
        refine pw_aload_n 28 rfl dX9_justStones_27 rfl ?_
        refine pw_getR 31 rfl dX9_justStones_28 fX9_15 (by first | rfl | assumption | exact rowS hh | exact mtS hm | exact ruS hr | exact mtA1 hm | exact mtA2 hm | exact mtA3 hm | exact mtA4 hm | exact mtA5 hm | exact mtA6 hm | exact mtA7 hm | exact ruA1 hr | exact ruA2 hr | exact ruA3 hr) rfl (by first | rfl | assumption | exact mtR0 hm | exact mtR1 hm | exact mtR2 hm | exact mtR3 hm | exact mtR4 hm | exact mtR5 hm | exact mtR6 hm | exact ruR0 hr | exact ruR1 hr | exact ruR3 hr) ?_
        refine pw_getR 34 rfl dX9_justStones_31 fX9_90 (by first | rfl | assumption | exact rowS hh | exact mtS hm | exact ruS hr | exact mtA1 hm | exact mtA2 hm | exact mtA3 hm | exact mtA4 hm | exact mtA5 hm | exact mtA6 hm | exact mtA7 hm | exact ruA1 hr | exact ruA2 hr | exact ruA3 hr) rfl (by first | rfl | assumption | exact mtR0 hm | exact mtR1 hm | exact mtR2 hm | exact mtR3 hm | exact mtR4 hm | exact mtR5 hm | exact mtR6 hm | exact ruR0 hr | exact ruR1 hr | exact ruR3 hr) ?_
        refine pw_iload 36 rfl dX9_justStones_34 rfl ?_
        refine pw_callVP (as := [_, _]) 39 rfl dX9_justStones_36 mX9_93 vX1_sumOfSet (x_sumOfSet (d := d) hn h7 rfl hfb (by omega)) (by first | rfl | assumption | exact rowS hh | exact mtS hm | exact ruS hr | exact mtA1 hm | exact mtA2 hm | exact mtA3 hm | exact mtA4 hm | exact mtA5 hm | exact mtA6 hm | exact mtA7 hm | exact ruA1 hr | exact ruA2 hr | exact ruA3 hr) rfl (by decide) ⟨rfl, by decide, by decide, show (parseMethodDescriptor yX1_sumOfSet.desc).map (fun d => d.parameters.length) = some 2 by decide +kernel⟩ (by omega) (by decide) (Nat.le_of_ble_eq_true rfl) rfl ?_
        refine pw_iload_n 40 rfl dX9_justStones_39 rfl ?_
        refine pw_icmp_eq (tgt := 46) 43 rfl dX9_justStones_40 rfl (fun h40 => ?_) (fun h40 => absurd (by rw [hp]) h40)
        refine pw_iincN 49 rfl dX9_justStones_46 (by decide) rfl ?_
        refine pw_iload_n 50 rfl dX9_justStones_49 rfl ?_
        refine pw_if_lt (tgt := 62) 53 rfl dX9_justStones_50 rfl (fun h50 => ?_) (fun h50 => absurd (by decide) h50)
        refine pw_iload 64 rfl dX9_justStones_62 rfl ?_
        refine pw_callSP (as := [_]) 67 rfl dX9_justStones_64 mX9_43 sJ6_bitCount_0f7a4 (x_bitCount (d := d) _) ⟨rfl, by decide, by decide, show (parseMethodDescriptor yJ6_bitCount_0f7a4.desc).map (fun d => d.parameters.length) = some 1 by decide +kernel⟩ (by omega) (by decide) (Nat.le_of_ble_eq_true rfl) rfl ?_
        rotate_left
        rw [bc_pop s (by omega)]
        refine pw_istore_n 68 rfl dX9_justStones_67 (by decide) ?_
        refine pw_iload 70 rfl dX9_justStones_68 rfl ?_
        refine pw_istore_n 71 rfl dX9_justStones_70 (by decide) ?_
        refine pw_iincN 74 rfl dX9_justStones_71 (by decide) rfl ?_
        refine pw_goto (tgt := 11) dX9_justStones_74 rfl ?_
        rotate_left
        exact ih
      | some s0 =>
        have hp0 := popc_le s0
        show PW _ _ _ _ _ _ [_, _, some (.int (nI s0)), some (.int (nI (popc s0))), _, _] _ _ _ _ _
        by_cases hlt : popc s < popc s0
        · rw [few_y hq (by rw [hf]; exact hlt)] at ih
          refine pw_iload 13 rfl dX9_justStones_11 rfl ?_
          refine pw_aload_n 14 rfl dX9_justStones_13 rfl ?_
          refine pw_getR 17 rfl dX9_justStones_14 fX9_15 (by first | rfl | assumption | exact rowS hh | exact mtS hm | exact ruS hr | exact mtA1 hm | exact mtA2 hm | exact mtA3 hm | exact mtA4 hm | exact mtA5 hm | exact mtA6 hm | exact mtA7 hm | exact ruA1 hr | exact ruA2 hr | exact ruA3 hr) rfl (by first | rfl | assumption | exact mtR0 hm | exact mtR1 hm | exact mtR2 hm | exact mtR3 hm | exact mtR4 hm | exact mtR5 hm | exact mtR6 hm | exact ruR0 hr | exact ruR1 hr | exact ruR3 hr) ?_
          refine pw_callVP (as := []) 20 rfl dX9_justStones_17 mX9_86 vX1_allBits (x_allBits (d := d) (Or.inl rfl) hn h7) (by first | rfl | assumption | exact rowS hh | exact mtS hm | exact ruS hr | exact mtA1 hm | exact mtA2 hm | exact mtA3 hm | exact mtA4 hm | exact mtA5 hm | exact mtA6 hm | exact mtA7 hm | exact ruA1 hr | exact ruA2 hr | exact ruA3 hr) rfl (by decide) ⟨rfl, by decide, by decide, show (parseMethodDescriptor yX1_allBits.desc).map (fun d => d.parameters.length) = some 0 by decide +kernel⟩ (by omega) (by decide) (Nat.le_of_ble_eq_true rfl) rfl ?_
          refine pw_icmp_gt (tgt := 77) 23 rfl dX9_justStones_20 rfl (fun h20 => absurd h20 (by (simp (disch := omega) only [nI_leI, nI_ltI, nI_eq, show (0 : Int32) = nI 0 from rfl, not_true_eq_false, not_false_eq_true] <;> omega))) (fun h20 => ?_)
          refine pw_aload_n 24 rfl dX9_justStones_23 rfl ?_
          refine pw_getR 27 rfl dX9_justStones_24 fX9_15 (by first | rfl | assumption | exact rowS hh | exact mtS hm | exact ruS hr | exact mtA1 hm | exact mtA2 hm | exact mtA3 hm | exact mtA4 hm | exact mtA5 hm | exact mtA6 hm | exact mtA7 hm | exact ruA1 hr | exact ruA2 hr | exact ruA3 hr) rfl (by first | rfl | assumption | exact mtR0 hm | exact mtR1 hm | exact mtR2 hm | exact mtR3 hm | exact mtR4 hm | exact mtR5 hm | exact mtR6 hm | exact ruR0 hr | exact ruR1 hr | exact ruR3 hr) ?_
          refine pw_aload_n 28 rfl dX9_justStones_27 rfl ?_
          refine pw_getR 31 rfl dX9_justStones_28 fX9_15 (by first | rfl | assumption | exact rowS hh | exact mtS hm | exact ruS hr | exact mtA1 hm | exact mtA2 hm | exact mtA3 hm | exact mtA4 hm | exact mtA5 hm | exact mtA6 hm | exact mtA7 hm | exact ruA1 hr | exact ruA2 hr | exact ruA3 hr) rfl (by first | rfl | assumption | exact mtR0 hm | exact mtR1 hm | exact mtR2 hm | exact mtR3 hm | exact mtR4 hm | exact mtR5 hm | exact mtR6 hm | exact ruR0 hr | exact ruR1 hr | exact ruR3 hr) ?_
          refine pw_getR 34 rfl dX9_justStones_31 fX9_90 (by first | rfl | assumption | exact rowS hh | exact mtS hm | exact ruS hr | exact mtA1 hm | exact mtA2 hm | exact mtA3 hm | exact mtA4 hm | exact mtA5 hm | exact mtA6 hm | exact mtA7 hm | exact ruA1 hr | exact ruA2 hr | exact ruA3 hr) rfl (by first | rfl | assumption | exact mtR0 hm | exact mtR1 hm | exact mtR2 hm | exact mtR3 hm | exact mtR4 hm | exact mtR5 hm | exact mtR6 hm | exact ruR0 hr | exact ruR1 hr | exact ruR3 hr) ?_
          refine pw_iload 36 rfl dX9_justStones_34 rfl ?_
          refine pw_callVP (as := [_, _]) 39 rfl dX9_justStones_36 mX9_93 vX1_sumOfSet (x_sumOfSet (d := d) hn h7 rfl hfb (by omega)) (by first | rfl | assumption | exact rowS hh | exact mtS hm | exact ruS hr | exact mtA1 hm | exact mtA2 hm | exact mtA3 hm | exact mtA4 hm | exact mtA5 hm | exact mtA6 hm | exact mtA7 hm | exact ruA1 hr | exact ruA2 hr | exact ruA3 hr) rfl (by decide) ⟨rfl, by decide, by decide, show (parseMethodDescriptor yX1_sumOfSet.desc).map (fun d => d.parameters.length) = some 2 by decide +kernel⟩ (by omega) (by decide) (Nat.le_of_ble_eq_true rfl) rfl ?_
          refine pw_iload_n 40 rfl dX9_justStones_39 rfl ?_
          refine pw_icmp_eq (tgt := 46) 43 rfl dX9_justStones_40 rfl (fun h40 => ?_) (fun h40 => absurd (by rw [hp]) h40)
          refine pw_iincN 49 rfl dX9_justStones_46 (by decide) rfl ?_
          refine pw_iload_n 50 rfl dX9_justStones_49 rfl ?_
          refine pw_if_lt (tgt := 62) 53 rfl dX9_justStones_50 rfl (fun h50 => absurd h50 (nI_pos (by omega))) (fun h50 => ?_)
          refine pw_iload 55 rfl dX9_justStones_53 rfl ?_
          refine pw_callSP (as := [_]) 58 rfl dX9_justStones_55 mX9_43 sJ6_bitCount_0f7a4 (x_bitCount (d := d) _) ⟨rfl, by decide, by decide, show (parseMethodDescriptor yJ6_bitCount_0f7a4.desc).map (fun d => d.parameters.length) = some 1 by decide +kernel⟩ (by omega) (by decide) (Nat.le_of_ble_eq_true rfl) rfl ?_
          rotate_left
          rw [bc_pop s (by omega), show pop 10 s = popc s from rfl]
          refine pw_iload_n 59 rfl dX9_justStones_58 rfl ?_
          refine pw_icmp_ge (tgt := 71) 62 rfl dX9_justStones_59 rfl (fun h59 => absurd h59 (by (simp (disch := omega) only [nI_leI, nI_ltI, nI_eq, show (0 : Int32) = nI 0 from rfl, not_true_eq_false, not_false_eq_true] <;> omega))) (fun h59 => ?_)
          refine pw_iload 64 rfl dX9_justStones_62 rfl ?_
          refine pw_callSP (as := [_]) 67 rfl dX9_justStones_64 mX9_43 sJ6_bitCount_0f7a4 (x_bitCount (d := d) _) ⟨rfl, by decide, by decide, show (parseMethodDescriptor yJ6_bitCount_0f7a4.desc).map (fun d => d.parameters.length) = some 1 by decide +kernel⟩ (by omega) (by decide) (Nat.le_of_ble_eq_true rfl) rfl ?_
          rotate_left
          rw [bc_pop s (by omega)]
          refine pw_istore_n 68 rfl dX9_justStones_67 (by decide) ?_
          refine pw_iload 70 rfl dX9_justStones_68 rfl ?_
          refine pw_istore_n 71 rfl dX9_justStones_70 (by decide) ?_
          refine pw_iincN 74 rfl dX9_justStones_71 (by decide) rfl ?_
          refine pw_goto (tgt := 11) dX9_justStones_74 rfl ?_
          rotate_left
          exact ih
        · rw [few_n (fun z => hlt (by have := z.2; rw [hf] at this; exact this)), hf] at ih
          refine pw_iload 13 rfl dX9_justStones_11 rfl ?_
          refine pw_aload_n 14 rfl dX9_justStones_13 rfl ?_
          refine pw_getR 17 rfl dX9_justStones_14 fX9_15 (by first | rfl | assumption | exact rowS hh | exact mtS hm | exact ruS hr | exact mtA1 hm | exact mtA2 hm | exact mtA3 hm | exact mtA4 hm | exact mtA5 hm | exact mtA6 hm | exact mtA7 hm | exact ruA1 hr | exact ruA2 hr | exact ruA3 hr) rfl (by first | rfl | assumption | exact mtR0 hm | exact mtR1 hm | exact mtR2 hm | exact mtR3 hm | exact mtR4 hm | exact mtR5 hm | exact mtR6 hm | exact ruR0 hr | exact ruR1 hr | exact ruR3 hr) ?_
          refine pw_callVP (as := []) 20 rfl dX9_justStones_17 mX9_86 vX1_allBits (x_allBits (d := d) (Or.inl rfl) hn h7) (by first | rfl | assumption | exact rowS hh | exact mtS hm | exact ruS hr | exact mtA1 hm | exact mtA2 hm | exact mtA3 hm | exact mtA4 hm | exact mtA5 hm | exact mtA6 hm | exact mtA7 hm | exact ruA1 hr | exact ruA2 hr | exact ruA3 hr) rfl (by decide) ⟨rfl, by decide, by decide, show (parseMethodDescriptor yX1_allBits.desc).map (fun d => d.parameters.length) = some 0 by decide +kernel⟩ (by omega) (by decide) (Nat.le_of_ble_eq_true rfl) rfl ?_
          refine pw_icmp_gt (tgt := 77) 23 rfl dX9_justStones_20 rfl (fun h20 => absurd h20 (by (simp (disch := omega) only [nI_leI, nI_ltI, nI_eq, show (0 : Int32) = nI 0 from rfl, not_true_eq_false, not_false_eq_true] <;> omega))) (fun h20 => ?_)
          refine pw_aload_n 24 rfl dX9_justStones_23 rfl ?_
          refine pw_getR 27 rfl dX9_justStones_24 fX9_15 (by first | rfl | assumption | exact rowS hh | exact mtS hm | exact ruS hr | exact mtA1 hm | exact mtA2 hm | exact mtA3 hm | exact mtA4 hm | exact mtA5 hm | exact mtA6 hm | exact mtA7 hm | exact ruA1 hr | exact ruA2 hr | exact ruA3 hr) rfl (by first | rfl | assumption | exact mtR0 hm | exact mtR1 hm | exact mtR2 hm | exact mtR3 hm | exact mtR4 hm | exact mtR5 hm | exact mtR6 hm | exact ruR0 hr | exact ruR1 hr | exact ruR3 hr) ?_
          refine pw_aload_n 28 rfl dX9_justStones_27 rfl ?_
          refine pw_getR 31 rfl dX9_justStones_28 fX9_15 (by first | rfl | assumption | exact rowS hh | exact mtS hm | exact ruS hr | exact mtA1 hm | exact mtA2 hm | exact mtA3 hm | exact mtA4 hm | exact mtA5 hm | exact mtA6 hm | exact mtA7 hm | exact ruA1 hr | exact ruA2 hr | exact ruA3 hr) rfl (by first | rfl | assumption | exact mtR0 hm | exact mtR1 hm | exact mtR2 hm | exact mtR3 hm | exact mtR4 hm | exact mtR5 hm | exact mtR6 hm | exact ruR0 hr | exact ruR1 hr | exact ruR3 hr) ?_
          refine pw_getR 34 rfl dX9_justStones_31 fX9_90 (by first | rfl | assumption | exact rowS hh | exact mtS hm | exact ruS hr | exact mtA1 hm | exact mtA2 hm | exact mtA3 hm | exact mtA4 hm | exact mtA5 hm | exact mtA6 hm | exact mtA7 hm | exact ruA1 hr | exact ruA2 hr | exact ruA3 hr) rfl (by first | rfl | assumption | exact mtR0 hm | exact mtR1 hm | exact mtR2 hm | exact mtR3 hm | exact mtR4 hm | exact mtR5 hm | exact mtR6 hm | exact ruR0 hr | exact ruR1 hr | exact ruR3 hr) ?_
          refine pw_iload 36 rfl dX9_justStones_34 rfl ?_
          refine pw_callVP (as := [_, _]) 39 rfl dX9_justStones_36 mX9_93 vX1_sumOfSet (x_sumOfSet (d := d) hn h7 rfl hfb (by omega)) (by first | rfl | assumption | exact rowS hh | exact mtS hm | exact ruS hr | exact mtA1 hm | exact mtA2 hm | exact mtA3 hm | exact mtA4 hm | exact mtA5 hm | exact mtA6 hm | exact mtA7 hm | exact ruA1 hr | exact ruA2 hr | exact ruA3 hr) rfl (by decide) ⟨rfl, by decide, by decide, show (parseMethodDescriptor yX1_sumOfSet.desc).map (fun d => d.parameters.length) = some 2 by decide +kernel⟩ (by omega) (by decide) (Nat.le_of_ble_eq_true rfl) rfl ?_
          refine pw_iload_n 40 rfl dX9_justStones_39 rfl ?_
          refine pw_icmp_eq (tgt := 46) 43 rfl dX9_justStones_40 rfl (fun h40 => ?_) (fun h40 => absurd (by rw [hp]) h40)
          refine pw_iincN 49 rfl dX9_justStones_46 (by decide) rfl ?_
          refine pw_iload_n 50 rfl dX9_justStones_49 rfl ?_
          refine pw_if_lt (tgt := 62) 53 rfl dX9_justStones_50 rfl (fun h50 => absurd h50 (nI_pos (by omega))) (fun h50 => ?_)
          refine pw_iload 55 rfl dX9_justStones_53 rfl ?_
          refine pw_callSP (as := [_]) 58 rfl dX9_justStones_55 mX9_43 sJ6_bitCount_0f7a4 (x_bitCount (d := d) _) ⟨rfl, by decide, by decide, show (parseMethodDescriptor yJ6_bitCount_0f7a4.desc).map (fun d => d.parameters.length) = some 1 by decide +kernel⟩ (by omega) (by decide) (Nat.le_of_ble_eq_true rfl) rfl ?_
          rotate_left
          rw [bc_pop s (by omega), show pop 10 s = popc s from rfl]
          refine pw_iload_n 59 rfl dX9_justStones_58 rfl ?_
          refine pw_icmp_ge (tgt := 71) 62 rfl dX9_justStones_59 rfl (fun h59 => ?_) (fun h59 => absurd (by (simp (disch := omega) only [nI_leI, nI_ltI, nI_eq, show (0 : Int32) = nI 0 from rfl, not_true_eq_false, not_false_eq_true] <;> omega)) h59)
          refine pw_iincN 74 rfl dX9_justStones_71 (by decide) rfl ?_
          refine pw_goto (tgt := 11) dX9_justStones_74 rfl ?_
          rotate_left
          exact ih
    · have hq : Q s = false := by rw [hQs]; exact decide_eq_false hp
      rw [cntP_n hq, few_n (fun z => by rw [hq] at z; cases z.1)] at ih
      refine pw_iload 13 rfl dX9_justStones_11 rfl ?_
      refine pw_aload_n 14 rfl dX9_justStones_13 rfl ?_
      refine pw_getR 17 rfl dX9_justStones_14 fX9_15 (by first | rfl | assumption | exact rowS hh | exact mtS hm | exact ruS hr | exact mtA1 hm | exact mtA2 hm | exact mtA3 hm | exact mtA4 hm | exact mtA5 hm | exact mtA6 hm | exact mtA7 hm | exact ruA1 hr | exact ruA2 hr | exact ruA3 hr) rfl (by first | rfl | assumption | exact mtR0 hm | exact mtR1 hm | exact mtR2 hm | exact mtR3 hm | exact mtR4 hm | exact mtR5 hm | exact mtR6 hm | exact ruR0 hr | exact ruR1 hr | exact ruR3 hr) ?_
      refine pw_callVP (as := []) 20 rfl dX9_justStones_17 mX9_86 vX1_allBits (x_allBits (d := d) (Or.inl rfl) hn h7) (by first | rfl | assumption | exact rowS hh | exact mtS hm | exact ruS hr | exact mtA1 hm | exact mtA2 hm | exact mtA3 hm | exact mtA4 hm | exact mtA5 hm | exact mtA6 hm | exact mtA7 hm | exact ruA1 hr | exact ruA2 hr | exact ruA3 hr) rfl (by decide) ⟨rfl, by decide, by decide, show (parseMethodDescriptor yX1_allBits.desc).map (fun d => d.parameters.length) = some 0 by decide +kernel⟩ (by omega) (by decide) (Nat.le_of_ble_eq_true rfl) rfl ?_
      refine pw_icmp_gt (tgt := 77) 23 rfl dX9_justStones_20 rfl (fun h20 => absurd h20 (by (simp (disch := omega) only [nI_leI, nI_ltI, nI_eq, show (0 : Int32) = nI 0 from rfl, not_true_eq_false, not_false_eq_true] <;> omega))) (fun h20 => ?_)
      refine pw_aload_n 24 rfl dX9_justStones_23 rfl ?_
      refine pw_getR 27 rfl dX9_justStones_24 fX9_15 (by first | rfl | assumption | exact rowS hh | exact mtS hm | exact ruS hr | exact mtA1 hm | exact mtA2 hm | exact mtA3 hm | exact mtA4 hm | exact mtA5 hm | exact mtA6 hm | exact mtA7 hm | exact ruA1 hr | exact ruA2 hr | exact ruA3 hr) rfl (by first | rfl | assumption | exact mtR0 hm | exact mtR1 hm | exact mtR2 hm | exact mtR3 hm | exact mtR4 hm | exact mtR5 hm | exact mtR6 hm | exact ruR0 hr | exact ruR1 hr | exact ruR3 hr) ?_
      refine pw_aload_n 28 rfl dX9_justStones_27 rfl ?_
      refine pw_getR 31 rfl dX9_justStones_28 fX9_15 (by first | rfl | assumption | exact rowS hh | exact mtS hm | exact ruS hr | exact mtA1 hm | exact mtA2 hm | exact mtA3 hm | exact mtA4 hm | exact mtA5 hm | exact mtA6 hm | exact mtA7 hm | exact ruA1 hr | exact ruA2 hr | exact ruA3 hr) rfl (by first | rfl | assumption | exact mtR0 hm | exact mtR1 hm | exact mtR2 hm | exact mtR3 hm | exact mtR4 hm | exact mtR5 hm | exact mtR6 hm | exact ruR0 hr | exact ruR1 hr | exact ruR3 hr) ?_
      refine pw_getR 34 rfl dX9_justStones_31 fX9_90 (by first | rfl | assumption | exact rowS hh | exact mtS hm | exact ruS hr | exact mtA1 hm | exact mtA2 hm | exact mtA3 hm | exact mtA4 hm | exact mtA5 hm | exact mtA6 hm | exact mtA7 hm | exact ruA1 hr | exact ruA2 hr | exact ruA3 hr) rfl (by first | rfl | assumption | exact mtR0 hm | exact mtR1 hm | exact mtR2 hm | exact mtR3 hm | exact mtR4 hm | exact mtR5 hm | exact mtR6 hm | exact ruR0 hr | exact ruR1 hr | exact ruR3 hr) ?_
      refine pw_iload 36 rfl dX9_justStones_34 rfl ?_
      refine pw_callVP (as := [_, _]) 39 rfl dX9_justStones_36 mX9_93 vX1_sumOfSet (x_sumOfSet (d := d) hn h7 rfl hfb (by omega)) (by first | rfl | assumption | exact rowS hh | exact mtS hm | exact ruS hr | exact mtA1 hm | exact mtA2 hm | exact mtA3 hm | exact mtA4 hm | exact mtA5 hm | exact mtA6 hm | exact mtA7 hm | exact ruA1 hr | exact ruA2 hr | exact ruA3 hr) rfl (by decide) ⟨rfl, by decide, by decide, show (parseMethodDescriptor yX1_sumOfSet.desc).map (fun d => d.parameters.length) = some 2 by decide +kernel⟩ (by omega) (by decide) (Nat.le_of_ble_eq_true rfl) rfl ?_
      refine pw_iload_n 40 rfl dX9_justStones_39 rfl ?_
      refine pw_icmp_eq (tgt := 46) 43 rfl dX9_justStones_40 rfl (fun h40 => absurd h40 (by rw [nI_eq (by omega) (by omega)]; exact hp)) (fun h40 => ?_)
      refine pw_goto (tgt := 71) dX9_justStones_43 rfl ?_
      refine pw_iincN 74 rfl dX9_justStones_71 (by decide) rfl ?_
      refine pw_goto (tgt := 11) dX9_justStones_74 rfl ?_
      rotate_left
      exact ih
/-- the first least of g, from A on -/
def evp (A : Nat) (g : Nat → Nat) : Nat → Nat × Nat
  | 0 => (A, 0)
  | k + 1 => if g k < (evp A g k).1 then (g k, k) else evp A g k
theorem evp_le (A : Nat) (g : Nat → Nat) : ∀ k, (evp A g k).1 ≤ A
  | 0 => Nat.le_refl _
  | k + 1 => by
    rw [evp]
    have := evp_le A g k
    split
    · show g k ≤ A
      omega
    · exact this
theorem evp_lt (A : Nat) (g : Nat → Nat) : ∀ k, 0 < k → (evp A g k).2 < k
  | 0, h => by omega
  | k + 1, _ => by
    rw [evp]
    split
    · exact Nat.lt_succ_self k
    · by_cases hk : 0 < k
      · exact Nat.lt_succ_of_lt (evp_lt A g k hk)
      · rw [show k = 0 by omega]; exact Nat.zero_lt_one
theorem sumN_le {f : Nat → Nat} {M : Nat} : ∀ k, (∀ i, i < k → f i ≤ M) → sumN f k ≤ M * k
  | 0, _ => Nat.zero_le _
  | k + 1, h => by
    rw [sumN, Nat.mul_succ]
    have := sumN_le k (fun i hi => h i (by omega))
    have := h k (by omega)
    omega
/-- how two parties differ -/
def dfr (n : Nat) (pc : Nat → Nat) (s : Nat) : Nat := dist (sumN pc n) (2 * sumS pc s n)
set_option maxRecDepth 100000 in
set_option maxHeartbeats 2000000 in
theorem x_evenParties {d n : Nat} {pc b : Nat → Nat} {I : pI} {J : pJ} (hM : XM I 1 n pc b) (hW : WF n pc b) : PC SX (d + 3) yX9_evenParties cX9_evenParties 6 (some .int) [.ref 60] (I) (J) (RX) (fun r' I' J' R' => r' = some (.int (nI (evp (sumN pc n) (dfr n pc) (2 ^ n)).1)) ∧ XN I' J' [lI (evp (sumN pc n) (dfr n pc) (2 ^ n)).2, lI (sumS pc (evp (sumN pc n) (dfr n pc) (2 ^ n)).2 n)] ∧ fS I I' ∧ R' = RX) := by
  refine PC.of [some (.ref 60), none, none, none, none, none] rfl rfl (Nat.le_of_ble_eq_true rfl) ?_
  have h7 := hW.1
  have hn := hM.2.1
  have hpw : 2 ^ n ≤ 2 ^ 7 := Nat.pow_le_pow_right (by decide) h7
  have hp1 := Nat.two_pow_pos n
  have hfb : ∀ q, q < n → I 2 q = nI (pc q) := fun q hq => (hM.2.2.2.2.2.2 q (by omega)).1
  have hA : sumN pc n ≤ 9 * 7 := Nat.le_trans (sumN_le n (fun i hi => (hW.2.2.2.2 i (by omega)).1)) (Nat.mul_le_mul_left 9 h7)
  have hSs : ∀ s, sumS pc s n ≤ 9 * 7 := fun s => Nat.le_trans (sumS_le s n (fun i hi => (hW.2.2.2.2 i (by omega)).1)) (Nat.mul_le_mul_left 9 h7)
  refine pw_aload_n 1 rfl dX9_evenParties_0 rfl ?_
  refine pw_getR 4 rfl dX9_evenParties_1 fX9_15 (by first | rfl | assumption | exact rowS hh | exact mtS hm | exact ruS hr | exact mtA1 hm | exact mtA2 hm | exact mtA3 hm | exact mtA4 hm | exact mtA5 hm | exact mtA6 hm | exact mtA7 hm | exact ruA1 hr | exact ruA2 hr | exact ruA3 hr) rfl (by first | rfl | assumption | exact mtR0 hm | exact mtR1 hm | exact mtR2 hm | exact mtR3 hm | exact mtR4 hm | exact mtR5 hm | exact mtR6 hm | exact ruR0 hr | exact ruR1 hr | exact ruR3 hr) ?_
  refine pw_aload_n 5 rfl dX9_evenParties_4 rfl ?_
  refine pw_getR 8 rfl dX9_evenParties_5 fX9_15 (by first | rfl | assumption | exact rowS hh | exact mtS hm | exact ruS hr | exact mtA1 hm | exact mtA2 hm | exact mtA3 hm | exact mtA4 hm | exact mtA5 hm | exact mtA6 hm | exact mtA7 hm | exact ruA1 hr | exact ruA2 hr | exact ruA3 hr) rfl (by first | rfl | assumption | exact mtR0 hm | exact mtR1 hm | exact mtR2 hm | exact mtR3 hm | exact mtR4 hm | exact mtR5 hm | exact mtR6 hm | exact ruR0 hr | exact ruR1 hr | exact ruR3 hr) ?_
  refine pw_getR 11 rfl dX9_evenParties_8 fX9_97 (by first | rfl | assumption | exact rowS hh | exact mtS hm | exact ruS hr | exact mtA1 hm | exact mtA2 hm | exact mtA3 hm | exact mtA4 hm | exact mtA5 hm | exact mtA6 hm | exact mtA7 hm | exact ruA1 hr | exact ruA2 hr | exact ruA3 hr) rfl (by first | rfl | assumption | exact mtR0 hm | exact mtR1 hm | exact mtR2 hm | exact mtR3 hm | exact mtR4 hm | exact mtR5 hm | exact mtR6 hm | exact ruR0 hr | exact ruR1 hr | exact ruR3 hr) ?_
  refine pw_callVP (as := [_]) 14 rfl dX9_evenParties_11 mX9_100 vX1_sumOf (x_sumOf (d := d) (Or.inl rfl) hn h7 rfl hfb) (by first | rfl | assumption | exact rowS hh | exact mtS hm | exact ruS hr | exact mtA1 hm | exact mtA2 hm | exact mtA3 hm | exact mtA4 hm | exact mtA5 hm | exact mtA6 hm | exact mtA7 hm | exact ruA1 hr | exact ruA2 hr | exact ruA3 hr) rfl (by decide) ⟨rfl, by decide, by decide, show (parseMethodDescriptor yX1_sumOf.desc).map (fun d => d.parameters.length) = some 1 by decide +kernel⟩ (by omega) (by decide) (Nat.le_of_ble_eq_true rfl) rfl ?_
  refine pw_istore_n 15 rfl dX9_evenParties_14 (by decide) ?_
  refine pw_iconst (v := nI 0) 16 rfl dX9_evenParties_15 rfl ?_
  refine pw_istore_n 17 rfl dX9_evenParties_16 (by decide) ?_
  refine pw_iload_n 18 rfl dX9_evenParties_17 rfl ?_
  refine pw_istore_n 19 rfl dX9_evenParties_18 (by decide) ?_
  refine pw_iconst (v := nI 0) 20 rfl dX9_evenParties_19 rfl ?_
  refine pw_istore 22 rfl dX9_evenParties_20 (by decide) ?_
  rotate_left
  have L := nat_loop (2 ^ n) (fun s => ∀ (x5 : Option Value), PW SX yX9_evenParties.cls cX9_evenParties 6 (d + 3) 22 [some (.ref 60), some (.int (nI (sumN pc n))), some (.int (nI (evp (sumN pc n) (dfr n pc) s).2)), some (.int (nI (evp (sumN pc n) (dfr n pc) s).1)), some (.int (nI s)), x5] [] (I) (J) (RX) (rX cX9_evenParties (some .int) (fun r' I' J' R' => r' = some (.int (nI (evp (sumN pc n) (dfr n pc) (2 ^ n)).1)) ∧ XN I' J' [lI (evp (sumN pc n) (dfr n pc) (2 ^ n)).2, lI (sumS pc (evp (sumN pc n) (dfr n pc) (2 ^ n)).2 n)] ∧ fS I I' ∧ R' = RX))) ?_ ?_
  · exact L none
  · intro x5
    have hl := evp_lt (sumN pc n) (dfr n pc) (2 ^ n) hp1
    refine pw_iload 24 rfl dX9_evenParties_22 rfl ?_
    refine pw_aload_n 25 rfl dX9_evenParties_24 rfl ?_
    refine pw_getR 28 rfl dX9_evenParties_25 fX9_15 (by first | rfl | assumption | exact rowS hh | exact mtS hm | exact ruS hr | exact mtA1 hm | exact mtA2 hm | exact mtA3 hm | exact mtA4 hm | exact mtA5 hm | exact mtA6 hm | exact mtA7 hm | exact ruA1 hr | exact ruA2 hr | exact ruA3 hr) rfl (by first | rfl | assumption | exact mtR0 hm | exact mtR1 hm | exact mtR2 hm | exact mtR3 hm | exact mtR4 hm | exact mtR5 hm | exact mtR6 hm | exact ruR0 hr | exact ruR1 hr | exact ruR3 hr) ?_
    refine pw_callVP (as := []) 31 rfl dX9_evenParties_28 mX9_86 vX1_allBits (x_allBits (d := d) (Or.inl rfl) hn h7) (by first | rfl | assumption | exact rowS hh | exact mtS hm | exact ruS hr | exact mtA1 hm | exact mtA2 hm | exact mtA3 hm | exact mtA4 hm | exact mtA5 hm | exact mtA6 hm | exact mtA7 hm | exact ruA1 hr | exact ruA2 hr | exact ruA3 hr) rfl (by decide) ⟨rfl, by decide, by decide, show (parseMethodDescriptor yX1_allBits.desc).map (fun d => d.parameters.length) = some 0 by decide +kernel⟩ (by omega) (by decide) (Nat.le_of_ble_eq_true rfl) rfl ?_
    refine pw_icmp_gt (tgt := 77) 34 rfl dX9_evenParties_31 rfl (fun h31 => ?_) (fun h31 => absurd (by (simp (disch := omega) only [nI_leI, nI_ltI, nI_eq, show (0 : Int32) = nI 0 from rfl, not_true_eq_false, not_false_eq_true] <;> omega)) h31)
    refine pw_aload_n 78 rfl dX9_evenParties_77 rfl ?_
    refine pw_getR 81 rfl dX9_evenParties_78 fX9_19 (by first | rfl | assumption | exact rowS hh | exact mtS hm | exact ruS hr | exact mtA1 hm | exact mtA2 hm | exact mtA3 hm | exact mtA4 hm | exact mtA5 hm | exact mtA6 hm | exact mtA7 hm | exact ruA1 hr | exact ruA2 hr | exact ruA3 hr) rfl (by first | rfl | assumption | exact mtR0 hm | exact mtR1 hm | exact mtR2 hm | exact mtR3 hm | exact mtR4 hm | exact mtR5 hm | exact mtR6 hm | exact ruR0 hr | exact ruR1 hr | exact ruR3 hr) ?_
    refine pw_iload_n 82 rfl dX9_evenParties_81 rfl ?_
    refine pw_i2l 83 rfl dX9_evenParties_82 ?_
    refine pw_aload_n 84 rfl dX9_evenParties_83 rfl ?_
    refine pw_getR 87 rfl dX9_evenParties_84 fX9_15 (by first | rfl | assumption | exact rowS hh | exact mtS hm | exact ruS hr | exact mtA1 hm | exact mtA2 hm | exact mtA3 hm | exact mtA4 hm | exact mtA5 hm | exact mtA6 hm | exact mtA7 hm | exact ruA1 hr | exact ruA2 hr | exact ruA3 hr) rfl (by first | rfl | assumption | exact mtR0 hm | exact mtR1 hm | exact mtR2 hm | exact mtR3 hm | exact mtR4 hm | exact mtR5 hm | exact mtR6 hm | exact ruR0 hr | exact ruR1 hr | exact ruR3 hr) ?_
    refine pw_aload_n 88 rfl dX9_evenParties_87 rfl ?_
    refine pw_getR 91 rfl dX9_evenParties_88 fX9_15 (by first | rfl | assumption | exact rowS hh | exact mtS hm | exact ruS hr | exact mtA1 hm | exact mtA2 hm | exact mtA3 hm | exact mtA4 hm | exact mtA5 hm | exact mtA6 hm | exact mtA7 hm | exact ruA1 hr | exact ruA2 hr | exact ruA3 hr) rfl (by first | rfl | assumption | exact mtR0 hm | exact mtR1 hm | exact mtR2 hm | exact mtR3 hm | exact mtR4 hm | exact mtR5 hm | exact mtR6 hm | exact ruR0 hr | exact ruR1 hr | exact ruR3 hr) ?_
    refine pw_getR 94 rfl dX9_evenParties_91 fX9_97 (by first | rfl | assumption | exact rowS hh | exact mtS hm | exact ruS hr | exact mtA1 hm | exact mtA2 hm | exact mtA3 hm | exact mtA4 hm | exact mtA5 hm | exact mtA6 hm | exact mtA7 hm | exact ruA1 hr | exact ruA2 hr | exact ruA3 hr) rfl (by first | rfl | assumption | exact mtR0 hm | exact mtR1 hm | exact mtR2 hm | exact mtR3 hm | exact mtR4 hm | exact mtR5 hm | exact mtR6 hm | exact ruR0 hr | exact ruR1 hr | exact ruR3 hr) ?_
    refine pw_iload_n 95 rfl dX9_evenParties_94 rfl ?_
    refine pw_callVP (as := [_, _]) 98 rfl dX9_evenParties_95 mX9_93 vX1_sumOfSet (x_sumOfSet (d := d) hn h7 rfl hfb (by omega)) (by first | rfl | assumption | exact rowS hh | exact mtS hm | exact ruS hr | exact mtA1 hm | exact mtA2 hm | exact mtA3 hm | exact mtA4 hm | exact mtA5 hm | exact mtA6 hm | exact mtA7 hm | exact ruA1 hr | exact ruA2 hr | exact ruA3 hr) rfl (by decide) ⟨rfl, by decide, by decide, show (parseMethodDescriptor yX1_sumOfSet.desc).map (fun d => d.parameters.length) = some 2 by decide +kernel⟩ (by omega) (by decide) (Nat.le_of_ble_eq_true rfl) rfl ?_
    refine pw_i2l 99 rfl dX9_evenParties_98 ?_
    refine pw_callV (as := [_, _]) 102 rfl dX9_evenParties_99 mX9_82 vX2_tellTwo (x_tellTwo (d := d) _ _) (by first | rfl | assumption | exact rowS hh | exact mtS hm | exact ruS hr | exact mtA1 hm | exact mtA2 hm | exact mtA3 hm | exact mtA4 hm | exact mtA5 hm | exact mtA6 hm | exact mtA7 hm | exact ruA1 hr | exact ruA2 hr | exact ruA3 hr) rfl (by decide) ⟨rfl, by decide, by decide, show (parseMethodDescriptor yX2_tellTwo.desc).map (fun d => d.parameters.length) = some 2 by decide +kernel⟩ (by omega) (by decide) (Nat.le_of_ble_eq_true rfl) rfl (fun r99 I99 J99 R99 c99 => ?_)
    obtain ⟨rfl, n1, n2, rfl⟩ := c99
    rotate_left
    refine pw_iload_n 103 rfl dX9_evenParties_102 rfl ?_
    refine pw_iret dX9_evenParties_103 rfl ?_
    rotate_left
    exact ⟨rfl, n1, fun a h1 h2 => n2 a h1, rfl⟩
  · intro s hs ih x5
    have hss := hSs s
    have hle := evp_le (sumN pc n) (dfr n pc) s
    have hdl : dfr n pc s ≤ 200 := by unfold dfr dist; split <;> omega
    refine pw_iload 24 rfl dX9_evenParties_22 rfl ?_
    refine pw_aload_n 25 rfl dX9_evenParties_24 rfl ?_
    refine pw_getR 28 rfl dX9_evenParties_25 fX9_15 (by first | rfl | assumption | exact rowS hh | exact mtS hm | exact ruS hr | exact mtA1 hm | exact mtA2 hm | exact mtA3 hm | exact mtA4 hm | exact mtA5 hm | exact mtA6 hm | exact mtA7 hm | exact ruA1 hr | exact ruA2 hr | exact ruA3 hr) rfl (by first | rfl | assumption | exact mtR0 hm | exact mtR1 hm | exact mtR2 hm | exact mtR3 hm | exact mtR4 hm | exact mtR5 hm | exact mtR6 hm | exact ruR0 hr | exact ruR1 hr | exact ruR3 hr) ?_
    refine pw_callVP (as := []) 31 rfl dX9_evenParties_28 mX9_86 vX1_allBits (x_allBits (d := d) (Or.inl rfl) hn h7) (by first | rfl | assumption | exact rowS hh | exact mtS hm | exact ruS hr | exact mtA1 hm | exact mtA2 hm | exact mtA3 hm | exact mtA4 hm | exact mtA5 hm | exact mtA6 hm | exact mtA7 hm | exact ruA1 hr | exact ruA2 hr | exact ruA3 hr) rfl (by decide) ⟨rfl, by decide, by decide, show (parseMethodDescriptor yX1_allBits.desc).map (fun d => d.parameters.length) = some 0 by decide +kernel⟩ (by omega) (by decide) (Nat.le_of_ble_eq_true rfl) rfl ?_
    refine pw_icmp_gt (tgt := 77) 34 rfl dX9_evenParties_31 rfl (fun h31 => absurd h31 (by (simp (disch := omega) only [nI_leI, nI_ltI, nI_eq, show (0 : Int32) = nI 0 from rfl, not_true_eq_false, not_false_eq_true] <;> omega))) (fun h31 => ?_)
    refine pw_iload_n 35 rfl dX9_evenParties_34 rfl ?_
    refine pw_iconst (v := nI 2) 36 rfl dX9_evenParties_35 rfl ?_
    refine pw_aload_n 37 rfl dX9_evenParties_36 rfl ?_
    refine pw_getR 40 rfl dX9_evenParties_37 fX9_15 (by first | rfl | assumption | exact rowS hh | exact mtS hm | exact ruS hr | exact mtA1 hm | exact mtA2 hm | exact mtA3 hm | exact mtA4 hm | exact mtA5 hm | exact mtA6 hm | exact mtA7 hm | exact ruA1 hr | exact ruA2 hr | exact ruA3 hr) rfl (by first | rfl | assumption | exact mtR0 hm | exact mtR1 hm | exact mtR2 hm | exact mtR3 hm | exact mtR4 hm | exact mtR5 hm | exact mtR6 hm | exact ruR0 hr | exact ruR1 hr | exact ruR3 hr) ?_
    refine pw_aload_n 41 rfl dX9_evenParties_40 rfl ?_
    refine pw_getR 44 rfl dX9_evenParties_41 fX9_15 (by first | rfl | assumption | exact rowS hh | exact mtS hm | exact ruS hr | exact mtA1 hm | exact mtA2 hm | exact mtA3 hm | exact mtA4 hm | exact mtA5 hm | exact mtA6 hm | exact mtA7 hm | exact ruA1 hr | exact ruA2 hr | exact ruA3 hr) rfl (by first | rfl | assumption | exact mtR0 hm | exact mtR1 hm | exact mtR2 hm | exact mtR3 hm | exact mtR4 hm | exact mtR5 hm | exact mtR6 hm | exact ruR0 hr | exact ruR1 hr | exact ruR3 hr) ?_
    refine pw_getR 47 rfl dX9_evenParties_44 fX9_97 (by first | rfl | assumption | exact rowS hh | exact mtS hm | exact ruS hr | exact mtA1 hm | exact mtA2 hm | exact mtA3 hm | exact mtA4 hm | exact mtA5 hm | exact mtA6 hm | exact mtA7 hm | exact ruA1 hr | exact ruA2 hr | exact ruA3 hr) rfl (by first | rfl | assumption | exact mtR0 hm | exact mtR1 hm | exact mtR2 hm | exact mtR3 hm | exact mtR4 hm | exact mtR5 hm | exact mtR6 hm | exact ruR0 hr | exact ruR1 hr | exact ruR3 hr) ?_
    refine pw_iload 49 rfl dX9_evenParties_47 rfl ?_
    refine pw_callVP (as := [_, _]) 52 rfl dX9_evenParties_49 mX9_93 vX1_sumOfSet (x_sumOfSet (d := d) hn h7 rfl hfb (by omega)) (by first | rfl | assumption | exact rowS hh | exact mtS hm | exact ruS hr | exact mtA1 hm | exact mtA2 hm | exact mtA3 hm | exact mtA4 hm | exact mtA5 hm | exact mtA6 hm | exact mtA7 hm | exact ruA1 hr | exact ruA2 hr | exact ruA3 hr) rfl (by decide) ⟨rfl, by decide, by decide, show (parseMethodDescriptor yX1_sumOfSet.desc).map (fun d => d.parameters.length) = some 2 by decide +kernel⟩ (by omega) (by decide) (Nat.le_of_ble_eq_true rfl) rfl ?_
    first | refine pw_imulN 53 rfl dX9_evenParties_52 ?_ | refine pw_imul 53 rfl dX9_evenParties_52 ?_
    refine pw_isub 54 rfl dX9_evenParties_53 ?_
    refine pw_mabs 57 rfl dX9_evenParties_54 mX9_59 (Nat.le_of_ble_eq_true rfl) ?_
    rotate_left
    rw [nI_dist (by omega) (by omega), show dist (sumN pc n) (2 * sumS pc s n) = dfr n pc s from rfl]
    by_cases hc : dfr n pc s < (evp (sumN pc n) (dfr n pc) s).1
    · rw [show evp (sumN pc n) (dfr n pc) (s + 1) = (dfr n pc s, s) from if_pos hc] at ih
      refine pw_istore 59 rfl dX9_evenParties_57 (by decide) ?_
      refine pw_iload 61 rfl dX9_evenParties_59 rfl ?_
      refine pw_iload_n 62 rfl dX9_evenParties_61 rfl ?_
      refine pw_icmp_ge (tgt := 71) 65 rfl dX9_evenParties_62 rfl (fun h62 => absurd h62 (by (simp (disch := omega) only [nI_leI, nI_ltI, nI_eq, show (0 : Int32) = nI 0 from rfl, not_true_eq_false, not_false_eq_true] <;> omega))) (fun h62 => ?_)
      refine pw_iload 67 rfl dX9_evenParties_65 rfl ?_
      refine pw_istore_n 68 rfl dX9_evenParties_67 (by decide) ?_
      refine pw_iload 70 rfl dX9_evenParties_68 rfl ?_
      refine pw_istore_n 71 rfl dX9_evenParties_70 (by decide) ?_
      refine pw_iincN 74 rfl dX9_evenParties_71 (by decide) rfl ?_
      refine pw_goto (tgt := 22) dX9_evenParties_74 rfl ?_
      rotate_left
      exact ih _
    · rw [show evp (sumN pc n) (dfr n pc) (s + 1) = evp (sumN pc n) (dfr n pc) s from if_neg hc] at ih
      refine pw_istore 59 rfl dX9_evenParties_57 (by decide) ?_
      refine pw_iload 61 rfl dX9_evenParties_59 rfl ?_
      refine pw_iload_n 62 rfl dX9_evenParties_61 rfl ?_
      refine pw_icmp_ge (tgt := 71) 65 rfl dX9_evenParties_62 rfl (fun h62 => ?_) (fun h62 => absurd (by (simp (disch := omega) only [nI_leI, nI_ltI, nI_eq, show (0 : Int32) = nI 0 from rfl, not_true_eq_false, not_false_eq_true] <;> omega)) h62)
      refine pw_iincN 74 rfl dX9_evenParties_71 (by decide) rfl ?_
      refine pw_goto (tgt := 22) dX9_evenParties_74 rfl ?_
      rotate_left
      exact ih _
