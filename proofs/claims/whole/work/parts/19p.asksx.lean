/-- questions in their order: 10 times what, and v -/
def aq (k : Nat) : Nat := if k < 10 then k else if k < 13 then k + 10 else k + 17
def stq (w : Nat) : Nat := match w with
  | 0 => 0
  | 1 => 10
  | 2 => 10
  | 3 => 13
  | 4 => 23
  | _ => 25
theorem stq_next : ∀ w, w < 5 → w ≠ 1 → stq (w + 1) = stq w + (moN w + 1) := by decide
theorem aq_stq : ∀ w, w < 5 → w ≠ 1 → ∀ v, v < moN w + 1 → aq (stq w + v) = 10 * w + v := by decide
theorem aq_div : ∀ k, k < 25 → aq k / 10 < 5 ∧ aq k % 10 ≤ 9 := by decide
/-- how many are left at most behind the question -/
def lefN (n : Nat) (pc b : Nat → Nat) (s a : Nat) : Nat := max (cntP (fun i => s.testBit i && soN n pc b i (a / 10) (a % 10)) 7) (popc s - cntP (fun i => s.testBit i && soN n pc b i (a / 10) (a % 10)) 7)
theorem cnt_and {P Q : Nat → Bool} : ∀ k, cntP (fun i => P i && Q i) k ≤ cntP P k
  | 0 => Nat.le_refl _
  | k + 1 => by
    have ih := cnt_and (P := P) (Q := Q) k
    rw [cntP, cntP]
    cases hp : P k <;> cases hq : Q k <;> simp <;> omega
theorem cnt_bits : ∀ s, s < 128 → cntP (fun i => s.testBit i) 7 = popc s := by decide +kernel
theorem lefN_le {n : Nat} {pc b : Nat → Nat} {s : Nat} (hs : s < 128) (a : Nat) : lefN n pc b s a ≤ popc s := by
  unfold lefN
  have := cnt_and (P := fun i => s.testBit i) (Q := fun i => soN n pc b i (a / 10) (a % 10)) 7
  rw [cnt_bits s hs] at this
  exact Nat.max_le.mpr ⟨this, Nat.sub_le _ _⟩
def bqI (g : Nat → Nat) (A k : Nat) : Int32 := if k = 0 then -2 else nI (aq (evp A g k).2)
set_option maxRecDepth 100000 in
set_option maxHeartbeats 2000000 in
theorem x_bestQuestion {d n : Nat} {pc b : Nat → Nat} {I : pI} {J : pJ} {hd : List (Nat × Nat)} {rw : List Int64} (hM : XM I 1 n pc b) (hW : WF n pc b) (hH : XH I hd) (hR : XN I J rw) : PC SX (d + 3) yX7_bestQuestion cX7_bestQuestion 9 (some .int) [.ref 62] (I) (J) (RX) (fun r' I' J' R' => r' = some (.int (if bts (fitP n pc b hd) n = 0 then -2 else bqI (fun k => lefN n pc b (bts (fitP n pc b hd) n) (aq k)) (popc (bts (fitP n pc b hd) n) + 1) 25)) ∧ XN I' J' (if bts (fitP n pc b hd) n = 0 then rw else [lI (evp (popc (bts (fitP n pc b hd) n) + 1) (fun k => lefN n pc b (bts (fitP n pc b hd) n) (aq k)) 25).1]) ∧ (∀ a, a ≠ 19 → I' a = I a) ∧ R' = RX) := by
  refine PC.of [some (.ref 62), none, none, none, none, none, none, none, none] rfl rfl (Nat.le_of_ble_eq_true rfl) ?_
  have h7 := hW.1
  have hlt : bts (fitP n pc b hd) n < 128 := Nat.lt_of_lt_of_le (bts_lt _ n) (Nat.le_trans (Nat.pow_le_pow_right (by decide) h7) (by decide))
  refine pw_aload_n 1 rfl dX7_bestQuestion_0 rfl ?_
  refine pw_callVP (as := []) 4 rfl dX7_bestQuestion_1 mX7_35 vX7_fittingBits (x_fittingBits (d := d) hM hW hH) (by first | rfl | assumption | exact rowS hh | exact mtS hm | exact ruS hr | exact mtA1 hm | exact mtA2 hm | exact mtA3 hm | exact mtA4 hm | exact mtA5 hm | exact mtA6 hm | exact mtA7 hm | exact ruA1 hr | exact ruA2 hr | exact ruA3 hr) rfl (by decide) ⟨rfl, by decide, by decide, show (parseMethodDescriptor yX7_fittingBits.desc).map (fun d => d.parameters.length) = some 0 by decide +kernel⟩ (by omega) (by decide) (Nat.le_of_ble_eq_true rfl) rfl ?_
  refine pw_istore_n 5 rfl dX7_bestQuestion_4 (by decide) ?_
  rotate_left
  generalize bts (fitP n pc b hd) n = s at hlt ⊢
  by_cases h0 : s = 0
  · rw [if_pos h0, if_pos h0]
    refine pw_iload_n 6 rfl dX7_bestQuestion_5 rfl ?_
    refine pw_if_ne (tgt := 12) 9 rfl dX7_bestQuestion_6 rfl (fun h6 => absurd (by rw [h0]; rfl) h6) (fun h6 => ?_)
    refine pw_bipush (v := -2) 11 rfl dX7_bestQuestion_9 rfl ?_
    refine pw_iret dX7_bestQuestion_11 rfl ?_
    rotate_left
    exact ⟨rfl, hR, fun _ _ => rfl, rfl⟩
  · rw [if_neg h0, if_neg h0]
    refine pw_iload_n 6 rfl dX7_bestQuestion_5 rfl ?_
    refine pw_if_ne (tgt := 12) 9 rfl dX7_bestQuestion_6 rfl (fun h6 => ?_) (fun h6 => absurd h6 (nI_ne0 (by omega) (by omega)))
    refine pw_iload_n 13 rfl dX7_bestQuestion_12 rfl ?_
    refine pw_callSP (as := [_]) 16 rfl dX7_bestQuestion_13 mX7_39 sJ6_bitCount_0f7a4 (x_bitCount (d := d) _) ⟨rfl, by decide, by decide, show (parseMethodDescriptor yJ6_bitCount_0f7a4.desc).map (fun d => d.parameters.length) = some 1 by decide +kernel⟩ (by omega) (by decide) (Nat.le_of_ble_eq_true rfl) rfl ?_
    rotate_left
    rw [bc_pop s (by omega), show pop 10 s = popc s from rfl]
    have hpl := (pop_7 s hlt).1
    generalize hg : (fun k => lefN n pc b s (aq k)) = g
    have hgk : ∀ k, g k = lefN n pc b s (aq k) := fun k => by rw [← hg]
    have hgl : ∀ k, g k ≤ popc s := fun k => by rw [hgk]; exact lefN_le hlt _
    have hel := evp_le (popc s + 1) g
    refine pw_istore_n 17 rfl dX7_bestQuestion_16 (by decide) ?_
    refine pw_bipush (v := -2) 19 rfl dX7_bestQuestion_17 rfl ?_
    refine pw_istore_n 20 rfl dX7_bestQuestion_19 (by decide) ?_
    refine pw_iload_n 21 rfl dX7_bestQuestion_20 rfl ?_
    refine pw_iconst (v := nI 1) 22 rfl dX7_bestQuestion_21 rfl ?_
    first | refine pw_iaddN 23 rfl dX7_bestQuestion_22 ?_ | refine pw_iadd 23 rfl dX7_bestQuestion_22 ?_
    refine pw_istore 25 rfl dX7_bestQuestion_23 (by decide) ?_
    refine pw_iconst (v := nI 0) 26 rfl dX7_bestQuestion_25 rfl ?_
    refine pw_istore 28 rfl dX7_bestQuestion_26 (by decide) ?_
    rotate_left
    have L := nat_loop 5 (fun w => ∀ (x6 x7 x8 : Option Value), PW SX yX7_bestQuestion.cls cX7_bestQuestion 9 (d + 3) 28 [some (.ref 62), some (.int (nI s)), some (.int (nI (popc s))), some (.int (bqI g (popc s + 1) (stq w))), some (.int (nI (evp (popc s + 1) g (stq w)).1)), some (.int (nI w)), x6, x7, x8] [] I J RX (rX cX7_bestQuestion (some .int) (fun r' I' J' R' => r' = some (.int (bqI g (popc s + 1) 25)) ∧ XN I' J' [lI (evp (popc s + 1) g 25).1] ∧ (∀ a, a ≠ 19 → I' a = I a) ∧ R' = RX))) ?_ ?_
    · exact L none none none
    · intro x6 x7 x8
      refine pw_iload 30 rfl dX7_bestQuestion_28 rfl ?_
      refine pw_iconst (v := nI 5) 31 rfl dX7_bestQuestion_30 rfl ?_
      refine pw_icmp_ge (tgt := 107) 34 rfl dX7_bestQuestion_31 rfl (fun h31 => ?_) (fun h31 => absurd (by (simp (disch := omega) only [nI_leI, nI_ltI, nI_eq, show (0 : Int32) = nI 0 from rfl, not_true_eq_false, not_false_eq_true] <;> omega)) h31)
      refine pw_aload_n 108 rfl dX7_bestQuestion_107 rfl ?_
      refine pw_getR 111 rfl dX7_bestQuestion_108 fX7_23 (by first | rfl | assumption | exact rowS hh | exact mtS hm | exact ruS hr | exact mtA1 hm | exact mtA2 hm | exact mtA3 hm | exact mtA4 hm | exact mtA5 hm | exact mtA6 hm | exact mtA7 hm | exact ruA1 hr | exact ruA2 hr | exact ruA3 hr) rfl (by first | rfl | assumption | exact mtR0 hm | exact mtR1 hm | exact mtR2 hm | exact mtR3 hm | exact mtR4 hm | exact mtR5 hm | exact mtR6 hm | exact ruR0 hr | exact ruR1 hr | exact ruR3 hr) ?_
      refine pw_iload 113 rfl dX7_bestQuestion_111 rfl ?_
      refine pw_i2l 114 rfl dX7_bestQuestion_113 ?_
      refine pw_callV (as := [_]) 117 rfl dX7_bestQuestion_114 mX7_44 vX2_tellOne (x_tellOne (d := d) _) (by first | rfl | assumption | exact rowS hh | exact mtS hm | exact ruS hr | exact mtA1 hm | exact mtA2 hm | exact mtA3 hm | exact mtA4 hm | exact mtA5 hm | exact mtA6 hm | exact mtA7 hm | exact ruA1 hr | exact ruA2 hr | exact ruA3 hr) rfl (by decide) ⟨rfl, by decide, by decide, show (parseMethodDescriptor yX2_tellOne.desc).map (fun d => d.parameters.length) = some 1 by decide +kernel⟩ (by omega) (by decide) (Nat.le_of_ble_eq_true rfl) rfl (fun r114 I114 J114 R114 c114 => ?_)
      obtain ⟨rfl, n1, n2, rfl⟩ := c114
      rotate_left
      refine pw_iload_n 118 rfl dX7_bestQuestion_117 rfl ?_
      refine pw_iret dX7_bestQuestion_118 rfl ?_
      rotate_left
      exact ⟨rfl, n1, n2, rfl⟩
    · intro w hw ih x6 x7 x8
      by_cases hw1 : w = 1
      · subst hw1
        refine pw_iload 30 rfl dX7_bestQuestion_28 rfl ?_
        refine pw_iconst (v := nI 5) 31 rfl dX7_bestQuestion_30 rfl ?_
        refine pw_icmp_ge (tgt := 107) 34 rfl dX7_bestQuestion_31 rfl (fun h31 => absurd h31 (by decide)) (fun h31 => ?_)
        refine pw_iconst (v := nI 0) 35 rfl dX7_bestQuestion_34 rfl ?_
        refine pw_istore 37 rfl dX7_bestQuestion_35 (by decide) ?_
        refine pw_iload 39 rfl dX7_bestQuestion_37 rfl ?_
        refine pw_iconst (v := nI 1) 40 rfl dX7_bestQuestion_39 rfl ?_
        refine pw_icmp_eq (tgt := 101) 43 rfl dX7_bestQuestion_40 rfl (fun h40 => ?_) (fun h40 => absurd rfl h40)
        refine pw_iincN 104 rfl dX7_bestQuestion_101 (by decide) rfl ?_
        refine pw_goto (tgt := 28) dX7_bestQuestion_104 rfl ?_
        rotate_left
        exact ih _ _ _
      · have hmo := moN_le w
        rw [stq_next w hw hw1] at ih
        refine pw_iload 30 rfl dX7_bestQuestion_28 rfl ?_
        refine pw_iconst (v := nI 5) 31 rfl dX7_bestQuestion_30 rfl ?_
        refine pw_icmp_ge (tgt := 107) 34 rfl dX7_bestQuestion_31 rfl (fun h31 => absurd h31 (by (simp (disch := omega) only [nI_leI, nI_ltI, nI_eq, show (0 : Int32) = nI 0 from rfl, not_true_eq_false, not_false_eq_true] <;> omega))) (fun h31 => ?_)
        refine pw_iconst (v := nI 0) 35 rfl dX7_bestQuestion_34 rfl ?_
        refine pw_istore 37 rfl dX7_bestQuestion_35 (by decide) ?_
        rotate_left
        have L2 := nat_loop (moN w + 1) (fun v => ∀ (x7 x8 : Option Value), PW SX yX7_bestQuestion.cls cX7_bestQuestion 9 (d + 3) 37 [some (.ref 62), some (.int (nI s)), some (.int (nI (popc s))), some (.int (bqI g (popc s + 1) (stq w + v))), some (.int (nI (evp (popc s + 1) g (stq w + v)).1)), some (.int (nI w)), some (.int (nI v)), x7, x8] [] I J RX (rX cX7_bestQuestion (some .int) (fun r' I' J' R' => r' = some (.int (bqI g (popc s + 1) 25)) ∧ XN I' J' [lI (evp (popc s + 1) g 25).1] ∧ (∀ a, a ≠ 19 → I' a = I a) ∧ R' = RX))) ?_ ?_
        · exact L2 _ _
        · intro x7 x8
          refine pw_iload 39 rfl dX7_bestQuestion_37 rfl ?_
          refine pw_iconst (v := nI 1) 40 rfl dX7_bestQuestion_39 rfl ?_
          refine pw_icmp_eq (tgt := 101) 43 rfl dX7_bestQuestion_40 rfl (fun h40 => absurd h40 (by rw [nI_eq (by omega) (by decide)]; exact hw1)) (fun h40 => ?_)
          refine pw_iload 45 rfl dX7_bestQuestion_43 rfl ?_
          refine pw_iload 47 rfl dX7_bestQuestion_45 rfl ?_
          refine pw_callSP (as := [_]) 50 rfl dX7_bestQuestion_47 mX7_31 sX7_mostOf (x_mostOf (d := d) hw) ⟨rfl, by decide, by decide, show (parseMethodDescriptor yX7_mostOf.desc).map (fun d => d.parameters.length) = some 1 by decide +kernel⟩ (by omega) (by decide) (Nat.le_of_ble_eq_true rfl) rfl ?_
          refine pw_icmp_gt (tgt := 101) 53 rfl dX7_bestQuestion_50 rfl (fun h50 => ?_) (fun h50 => absurd (by (simp (disch := omega) only [nI_leI, nI_ltI, nI_eq, show (0 : Int32) = nI 0 from rfl, not_true_eq_false, not_false_eq_true] <;> omega)) h50)
          refine pw_iincN 104 rfl dX7_bestQuestion_101 (by decide) rfl ?_
          refine pw_goto (tgt := 28) dX7_bestQuestion_104 rfl ?_
          rotate_left
          exact ih _ _ _
        · intro v hv ih2 x7 x8
          have ea := aq_stq w hw hw1 v hv
          have hv9 : v ≤ 9 := by
            have : moN w ≤ 9 := by
              rcases (show w = 0 ∨ w = 2 ∨ w = 3 ∨ w = 4 by omega) with rfl | rfl | rfl | rfl <;> decide
            omega
          have hc1 := cnt_and (P := fun i => s.testBit i) (Q := fun i => soN n pc b i w v) 7
          rw [cnt_bits s hlt] at hc1
          have egk : g (stq w + v) = max (cntP (fun i => s.testBit i && soN n pc b i w v) 7) (popc s - cntP (fun i => s.testBit i && soN n pc b i w v) 7) := by
            rw [hgk, ea, lefN, show (10 * w + v) / 10 = w by omega, show (10 * w + v) % 10 = v by omega]
          have hle := hel (stq w + v)
          have hgs := hgl (stq w + v)
          refine pw_iload 39 rfl dX7_bestQuestion_37 rfl ?_
          refine pw_iconst (v := nI 1) 40 rfl dX7_bestQuestion_39 rfl ?_
          refine pw_icmp_eq (tgt := 101) 43 rfl dX7_bestQuestion_40 rfl (fun h40 => absurd h40 (by rw [nI_eq (by omega) (by decide)]; exact hw1)) (fun h40 => ?_)
          refine pw_iload 45 rfl dX7_bestQuestion_43 rfl ?_
          refine pw_iload 47 rfl dX7_bestQuestion_45 rfl ?_
          refine pw_callSP (as := [_]) 50 rfl dX7_bestQuestion_47 mX7_31 sX7_mostOf (x_mostOf (d := d) hw) ⟨rfl, by decide, by decide, show (parseMethodDescriptor yX7_mostOf.desc).map (fun d => d.parameters.length) = some 1 by decide +kernel⟩ (by omega) (by decide) (Nat.le_of_ble_eq_true rfl) rfl ?_
          refine pw_icmp_gt (tgt := 101) 53 rfl dX7_bestQuestion_50 rfl (fun h50 => absurd h50 (by (simp (disch := omega) only [nI_leI, nI_ltI, nI_eq, show (0 : Int32) = nI 0 from rfl, not_true_eq_false, not_false_eq_true] <;> omega))) (fun h50 => ?_)
          refine pw_aload_n 54 rfl dX7_bestQuestion_53 rfl ?_
          refine pw_iload_n 55 rfl dX7_bestQuestion_54 rfl ?_
          refine pw_iload 57 rfl dX7_bestQuestion_55 rfl ?_
          refine pw_iload 59 rfl dX7_bestQuestion_57 rfl ?_
          refine pw_callVP (as := [_, _, _]) 62 rfl dX7_bestQuestion_59 mX7_50 vX7_howManySo (x_howManySo (d := d) hM hW hlt hw (by omega)) (by first | rfl | assumption | exact rowS hh | exact mtS hm | exact ruS hr | exact mtA1 hm | exact mtA2 hm | exact mtA3 hm | exact mtA4 hm | exact mtA5 hm | exact mtA6 hm | exact mtA7 hm | exact ruA1 hr | exact ruA2 hr | exact ruA3 hr) rfl (by decide) ⟨rfl, by decide, by decide, show (parseMethodDescriptor yX7_howManySo.desc).map (fun d => d.parameters.length) = some 3 by decide +kernel⟩ (by omega) (by decide) (Nat.le_of_ble_eq_true rfl) rfl ?_
          refine pw_istore 64 rfl dX7_bestQuestion_62 (by decide) ?_
          refine pw_iload 66 rfl dX7_bestQuestion_64 rfl ?_
          refine pw_iload_n 67 rfl dX7_bestQuestion_66 rfl ?_
          refine pw_iload 69 rfl dX7_bestQuestion_67 rfl ?_
          refine pw_isubN 70 rfl dX7_bestQuestion_69 (by omega) ?_
          refine pw_mmax 73 rfl dX7_bestQuestion_70 mX7_54 (Nat.le_of_ble_eq_true rfl) ?_
          rotate_left
          rw [nI_max (by omega) (by omega), ← egk]
          by_cases hc : g (stq w + v) < (evp (popc s + 1) g (stq w + v)).1
          · have e1 : evp (popc s + 1) g (stq w + (v + 1)) = (g (stq w + v), stq w + v) := if_pos hc
            have e2 : bqI g (popc s + 1) (stq w + (v + 1)) = nI (10 * w + v) := by
              rw [bqI, if_neg (by omega), e1]
              show nI (aq (stq w + v)) = _
              rw [ea]
            rw [e1, e2] at ih2
            refine pw_istore 75 rfl dX7_bestQuestion_73 (by decide) ?_
            refine pw_iload 77 rfl dX7_bestQuestion_75 rfl ?_
            refine pw_iload 79 rfl dX7_bestQuestion_77 rfl ?_
            refine pw_icmp_ge (tgt := 95) 82 rfl dX7_bestQuestion_79 rfl (fun h79 => absurd h79 (by (simp (disch := omega) only [nI_leI, nI_ltI, nI_eq, show (0 : Int32) = nI 0 from rfl, not_true_eq_false, not_false_eq_true] <;> omega))) (fun h79 => ?_)
            refine pw_iload 84 rfl dX7_bestQuestion_82 rfl ?_
            refine pw_istore 86 rfl dX7_bestQuestion_84 (by decide) ?_
            refine pw_bipush (v := nI 10) 88 rfl dX7_bestQuestion_86 rfl ?_
            refine pw_iload 90 rfl dX7_bestQuestion_88 rfl ?_
            first | refine pw_imulN 91 rfl dX7_bestQuestion_90 ?_ | refine pw_imul 91 rfl dX7_bestQuestion_90 ?_
            refine pw_iload 93 rfl dX7_bestQuestion_91 rfl ?_
            first | refine pw_iaddN 94 rfl dX7_bestQuestion_93 ?_ | refine pw_iadd 94 rfl dX7_bestQuestion_93 ?_
            refine pw_istore_n 95 rfl dX7_bestQuestion_94 (by decide) ?_
            refine pw_iincN 98 rfl dX7_bestQuestion_95 (by decide) rfl ?_
            refine pw_goto (tgt := 37) dX7_bestQuestion_98 rfl ?_
            rotate_left
            exact ih2 _ _
          · have e1 : evp (popc s + 1) g (stq w + (v + 1)) = evp (popc s + 1) g (stq w + v) := if_neg hc
            have e2 : bqI g (popc s + 1) (stq w + (v + 1)) = bqI g (popc s + 1) (stq w + v) := by
              by_cases z : stq w + v = 0
              · exfalso
                apply hc
                rw [z]
                show g 0 < popc s + 1
                have := hgl 0
                omega
              · rw [bqI, bqI, if_neg (by omega), if_neg z, e1]
            rw [e1, e2] at ih2
            refine pw_istore 75 rfl dX7_bestQuestion_73 (by decide) ?_
            refine pw_iload 77 rfl dX7_bestQuestion_75 rfl ?_
            refine pw_iload 79 rfl dX7_bestQuestion_77 rfl ?_
            refine pw_icmp_ge (tgt := 95) 82 rfl dX7_bestQuestion_79 rfl (fun h79 => ?_) (fun h79 => absurd (by (simp (disch := omega) only [nI_leI, nI_ltI, nI_eq, show (0 : Int32) = nI 0 from rfl, not_true_eq_false, not_false_eq_true] <;> omega)) h79)
            refine pw_iincN 98 rfl dX7_bestQuestion_95 (by decide) rfl ?_
            refine pw_goto (tgt := 37) dX7_bestQuestion_98 rfl ?_
            rotate_left
            exact ih2 _ _
