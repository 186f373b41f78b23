/-! the reference: the nearest two, the rope -/
def nlN (c : Option (Nat × Nat × Nat)) : Nat := match c with
  | none => 1000000
  | some x => x.1
def n1V (c : Option (Nat × Nat × Nat)) : Int32 := match c with
  | none => -1
  | some x => nI x.2.1
def n2V (c : Option (Nat × Nat × Nat)) : Int32 := match c with
  | none => -1
  | some x => nI x.2.2
def nOk (c : Option (Nat × Nat × Nat)) : Prop := nlN c ≤ 1000000 ∧ ∀ x, c = some x → x.2.1 < 100
theorem nst_y {b : Nat → Nat} {i j : Nat} {c : Option (Nat × Nat × Nat)} (h : dist (b i) (b j) < nlN c) : nst b i j c = some (dist (b i) (b j), i, j) := by
  cases c with
  | none => rfl
  | some x => exact if_pos h
theorem nst_n {b : Nat → Nat} {i j : Nat} {c : Option (Nat × Nat × Nat)} (h : ¬ dist (b i) (b j) < nlN c) (h9 : dist (b i) (b j) ≤ 9) : nst b i j c = c := by
  cases c with
  | none => exact absurd (show dist (b i) (b j) < 1000000 by omega) h
  | some x => exact if_neg h
set_option maxRecDepth 100000 in
set_option maxHeartbeats 2000000 in
theorem mo_nearest {d g : Nat} {s : aSt} {rd : Option Nat} {I : pI} {J : pJ} (hA : MA I J s) (hD : MDg g I) (hg : g ≤ 500000000) (hW : WA s)  : PC SM (d + 245) yX12_nearest cX12_nearest 6 (some .int) [.ref 0] (I) (J) (RM rd (some 6)) (moP (g + 10000) (qOp qNearest s)) := by
  refine PC.of [some (.ref 0), none, none, none, none, none] rfl rfl (Nat.le_of_ble_eq_true rfl) ?_
  obtain ⟨n, pc, b, us, kp, rw, tx, rt, hd, sw⟩ := s
  refine pw_aload_n 1 rfl dX12_nearest_0 rfl ?_
  refine pw_iconst (v := nI 0) 2 rfl dX12_nearest_1 rfl ?_
  refine pw_putI 5 rfl dX12_nearest_2 fX12_88 w12_7 (by first | rfl | assumption | exact rowS hh | exact mtS hm | exact ruS hr | exact mtA1 hm | exact mtA2 hm | exact mtA3 hm | exact mtA4 hm | exact mtA5 hm | exact mtA6 hm | exact mtA7 hm | exact ruA1 hr | exact ruA2 hr | exact ruA3 hr) rfl rfl rfl ?_
  rotate_left
  have hA0 := MA_thr (v := nI 0) hA
  have hD0 : MDg g (uI I 0 7 (nI 0)) := MDg_f hD (uI_ne (by omega)) (fun j => uI_ne (by omega))
  clear hA hD
  generalize uI I 0 7 (nI 0) = I at hA0 hD0 ⊢
  obtain ⟨mC, mB, mT, mN, mR, mU, mK, mH, mG⟩ := id hA0
  obtain ⟨aW, aU, aK⟩ := id hW
  have hE := MSt_A hA0
  have hn7 := mC.1
  have hn := mC.2.1
  have ht := aW.1.2.1
  have hdm : ∀ x y, x < n → y < n → dist (b x) (b y) ≤ 9 := fun x y hx hy => by have := aW.1.2.2.2.2 x (by omega); have := aW.1.2.2.2.2 y (by omega); unfold dist; split <;> omega
  refine pw_ldcw 8 rfl dX12_nearest_5 kX12_304 ?_
  refine pw_istore_n 9 rfl dX12_nearest_8 (by decide) ?_
  refine pw_iconst (v := -1) 10 rfl dX12_nearest_9 rfl ?_
  refine pw_istore_n 11 rfl dX12_nearest_10 (by decide) ?_
  refine pw_iconst (v := -1) 12 rfl dX12_nearest_11 rfl ?_
  refine pw_istore_n 13 rfl dX12_nearest_12 (by decide) ?_
  refine pw_iconst (v := nI 0) 14 rfl dX12_nearest_13 rfl ?_
  refine pw_istore 16 rfl dX12_nearest_14 (by decide) ?_
  rotate_left
  have L := nat_loop n (fun i => ∀ (x5 : Option Value), nOk (nout b n i) → PW SM yX12_nearest.cls cX12_nearest 6 (d + 245) 16 [some (.ref 0), some (.int (nI (nlN (nout b n i)))), some (.int (n1V (nout b n i))), some (.int (n2V (nout b n i))), some (.int (nI i)), x5] [] (I) (J) (RM rd (some 6)) (rX cX12_nearest (some .int) (moP (g + 10000) (qOp qNearest (n, pc, b, us, kp, rw, tx, rt, hd, sw))))) ?_ ?_
  · exact L none ⟨Nat.le_refl _, fun x hx => by cases hx⟩
  · intro x5 hok
    have eq : qNearest n pc b (ruE rt) rw hd sw = (nrV (nout b n n), nrW (nout b n n) rw) := rfl
    generalize nout b n n = c at hok eq
    cases c with
    | none =>
      refine pw_iload 18 rfl dX12_nearest_16 rfl ?_
      refine pw_aload_n 19 rfl dX12_nearest_18 rfl ?_
      refine pw_getI 22 rfl dX12_nearest_19 fX12_95 (by first | rfl | assumption | exact rowS hh | exact mtS hm | exact ruS hr | exact mtA1 hm | exact mtA2 hm | exact mtA3 hm | exact mtA4 hm | exact mtA5 hm | exact mtA6 hm | exact mtA7 hm | exact ruA1 hr | exact ruA2 hr | exact ruA3 hr) rfl ?_
      refine pw_icmp_ge (tgt := 102) 25 rfl dX12_nearest_22 rfl (fun h22 => ?_) (fun h22 => absurd (by rw [hn]; (simp (disch := omega) only [nI_leI, nI_ltI, nI_eq, show (0 : Int32) = nI 0 from rfl, not_true_eq_false, not_false_eq_true] <;> omega)) h22)
      refine pw_iload_n 103 rfl dX12_nearest_102 rfl ?_
      refine pw_iconst (v := -1) 104 rfl dX12_nearest_103 rfl ?_
      refine pw_icmp_ne (tgt := 110) 107 rfl dX12_nearest_104 rfl (fun h104 => absurd (by rfl) h104) (fun h104 => ?_)
      refine pw_bipush (v := -2) 109 rfl dX12_nearest_107 rfl ?_
      refine pw_iret dX12_nearest_109 rfl ?_
      rotate_left
      exact moQ eq rfl hA0 (hD0.mono (by omega)) ⟨rd, rfl⟩
    | some x =>
      have hx := hok.2 x rfl
      have hne : ¬ n1V (some x) = -1 := fun z => nI_pos (show x.2.1 < 2 ^ 31 by omega) (by rw [show nI x.2.1 = -1 from z]; decide)
      refine pw_iload 18 rfl dX12_nearest_16 rfl ?_
      refine pw_aload_n 19 rfl dX12_nearest_18 rfl ?_
      refine pw_getI 22 rfl dX12_nearest_19 fX12_95 (by first | rfl | assumption | exact rowS hh | exact mtS hm | exact ruS hr | exact mtA1 hm | exact mtA2 hm | exact mtA3 hm | exact mtA4 hm | exact mtA5 hm | exact mtA6 hm | exact mtA7 hm | exact ruA1 hr | exact ruA2 hr | exact ruA3 hr) rfl ?_
      refine pw_icmp_ge (tgt := 102) 25 rfl dX12_nearest_22 rfl (fun h22 => ?_) (fun h22 => absurd (by rw [hn]; (simp (disch := omega) only [nI_leI, nI_ltI, nI_eq, show (0 : Int32) = nI 0 from rfl, not_true_eq_false, not_false_eq_true] <;> omega)) h22)
      refine pw_iload_n 103 rfl dX12_nearest_102 rfl ?_
      refine pw_iconst (v := -1) 104 rfl dX12_nearest_103 rfl ?_
      refine pw_icmp_ne (tgt := 110) 107 rfl dX12_nearest_104 rfl (fun h104 => ?_) (fun h104 => absurd h104 hne)
      refine pw_aload_n 111 rfl dX12_nearest_110 rfl ?_
      refine pw_iconst (v := nI 0) 112 rfl dX12_nearest_111 rfl ?_
      refine pw_putI 115 rfl dX12_nearest_112 fX12_92 w12_6 (by first | rfl | assumption | exact rowS hh | exact mtS hm | exact ruS hr | exact mtA1 hm | exact mtA2 hm | exact mtA3 hm | exact mtA4 hm | exact mtA5 hm | exact mtA6 hm | exact mtA7 hm | exact ruA1 hr | exact ruA2 hr | exact ruA3 hr) rfl rfl rfl ?_
      refine pw_aload_n 116 rfl dX12_nearest_115 rfl ?_
      refine pw_iload_n 117 rfl dX12_nearest_116 rfl ?_
      refine pw_i2l 118 rfl dX12_nearest_117 ?_
      refine pw_callV (as := [_]) 121 rfl dX12_nearest_118 mX12_236 vX12_tell (m_tell (d := d + 244) MN_0 (by decide)) (by first | rfl | assumption | exact rowS hh | exact mtS hm | exact ruS hr | exact mtA1 hm | exact mtA2 hm | exact mtA3 hm | exact mtA4 hm | exact mtA5 hm | exact mtA6 hm | exact mtA7 hm | exact ruA1 hr | exact ruA2 hr | exact ruA3 hr) rfl (by decide) ⟨rfl, by decide, by decide, show (parseMethodDescriptor yX12_tell.desc).map (fun d => d.parameters.length) = some 1 by decide +kernel⟩ (by omega) (by decide) (Nat.le_of_ble_eq_true rfl) rfl (fun r118 I118 J118 R118 c118 => ?_)
      obtain ⟨rfl, t1, t2, rfl⟩ := c118
      rotate_left
      refine pw_aload_n 122 rfl dX12_nearest_121 rfl ?_
      refine pw_iload_n 123 rfl dX12_nearest_122 rfl ?_
      refine pw_i2l 124 rfl dX12_nearest_123 ?_
      refine pw_callV (as := [_]) 127 rfl dX12_nearest_124 mX12_236 vX12_tell (m_tell (d := d + 244) t1 (by show (1 : Nat) < 12; decide)) (by first | rfl | assumption | exact rowS hh | exact mtS hm | exact ruS hr | exact mtA1 hm | exact mtA2 hm | exact mtA3 hm | exact mtA4 hm | exact mtA5 hm | exact mtA6 hm | exact mtA7 hm | exact ruA1 hr | exact ruA2 hr | exact ruA3 hr) rfl (by decide) ⟨rfl, by decide, by decide, show (parseMethodDescriptor yX12_tell.desc).map (fun d => d.parameters.length) = some 1 by decide +kernel⟩ (by omega) (by decide) (Nat.le_of_ble_eq_true rfl) rfl (fun r124 I124 J124 R124 c124 => ?_)
      obtain ⟨rfl, u1, u2, rfl⟩ := c124
      rotate_left
      have hf1 : ∀ a j, ¬ (a = 0 ∧ j = 6) → I124 a j = I a j := fun a j q => by rw [u2 a j q, t2 a j q, uI_ne (by omega)]
      refine pw_iload_n 128 rfl dX12_nearest_127 rfl ?_
      refine pw_iret dX12_nearest_128 rfl ?_
      rotate_left
      exact moQ eq rfl (MA_rw hA0 (fun a j q => hf1 a j (by omega)) u1) ((MDg_f hD0 (hf1 _ _ (by omega)) (fun j => hf1 _ _ (by omega))).mono (by omega)) ⟨rd, rfl⟩
  · intro i hi ih x5 hok
    refine pw_iload 18 rfl dX12_nearest_16 rfl ?_
    refine pw_aload_n 19 rfl dX12_nearest_18 rfl ?_
    refine pw_getI 22 rfl dX12_nearest_19 fX12_95 (by first | rfl | assumption | exact rowS hh | exact mtS hm | exact ruS hr | exact mtA1 hm | exact mtA2 hm | exact mtA3 hm | exact mtA4 hm | exact mtA5 hm | exact mtA6 hm | exact mtA7 hm | exact ruA1 hr | exact ruA2 hr | exact ruA3 hr) rfl ?_
    refine pw_icmp_ge (tgt := 102) 25 rfl dX12_nearest_22 rfl (fun h22 => absurd h22 (by rw [hn]; (simp (disch := omega) only [nI_leI, nI_ltI, nI_eq, show (0 : Int32) = nI 0 from rfl, not_true_eq_false, not_false_eq_true] <;> omega))) (fun h22 => ?_)
    refine pw_iload 27 rfl dX12_nearest_25 rfl ?_
    refine pw_iconst (v := nI 1) 28 rfl dX12_nearest_27 rfl ?_
    first | refine pw_iaddN 29 rfl dX12_nearest_28 ?_ | refine pw_iadd 29 rfl dX12_nearest_28 ?_
    refine pw_istore 31 rfl dX12_nearest_29 (by decide) ?_
    rotate_left
    have L2 := nat_loop (n - (i + 1)) (fun k => nOk (nin b i (nout b n i) k) → PW SM yX12_nearest.cls cX12_nearest 6 (d + 245) 31 [some (.ref 0), some (.int (nI (nlN (nin b i (nout b n i) k)))), some (.int (n1V (nin b i (nout b n i) k))), some (.int (n2V (nin b i (nout b n i) k))), some (.int (nI i)), some (.int (nI (i + 1 + k)))] [] (I) (J) (RM rd (some 6)) (rX cX12_nearest (some .int) (moP (g + 10000) (qOp qNearest (n, pc, b, us, kp, rw, tx, rt, hd, sw))))) ?_ ?_
    · exact L2 hok
    · intro ho2
      refine pw_iload 33 rfl dX12_nearest_31 rfl ?_
      refine pw_aload_n 34 rfl dX12_nearest_33 rfl ?_
      refine pw_getI 37 rfl dX12_nearest_34 fX12_95 (by first | rfl | assumption | exact rowS hh | exact mtS hm | exact ruS hr | exact mtA1 hm | exact mtA2 hm | exact mtA3 hm | exact mtA4 hm | exact mtA5 hm | exact mtA6 hm | exact mtA7 hm | exact ruA1 hr | exact ruA2 hr | exact ruA3 hr) rfl ?_
      refine pw_icmp_ge (tgt := 96) 40 rfl dX12_nearest_37 rfl (fun h37 => ?_) (fun h37 => absurd (by rw [hn]; (simp (disch := omega) only [nI_leI, nI_ltI, nI_eq, show (0 : Int32) = nI 0 from rfl, not_true_eq_false, not_false_eq_true] <;> omega)) h37)
      refine pw_iincN 99 rfl dX12_nearest_96 (by decide) rfl ?_
      refine pw_goto (tgt := 16) dX12_nearest_99 rfl ?_
      rotate_left
      exact ih _ ho2
    · intro k hk ih2 ho2
      have hb1 := aW.1.2.2.2.2 i (by omega)
      have hb2 := aW.1.2.2.2.2 (i + 1 + k) (by omega)
      have hd0 := hdm i (i + 1 + k) (by omega) (by omega)
      have e1 : I 1 i = nI (b i) := mB i (by omega)
      have e2 : I 1 (i + 1 + k) = nI (b (i + 1 + k)) := mB (i + 1 + k) (by omega)
      rw [nin] at ih2
      generalize nin b i (nout b n i) k = c at ih2 ho2
      have hc0 := ho2.1
      refine pw_iload 33 rfl dX12_nearest_31 rfl ?_
      refine pw_aload_n 34 rfl dX12_nearest_33 rfl ?_
      refine pw_getI 37 rfl dX12_nearest_34 fX12_95 (by first | rfl | assumption | exact rowS hh | exact mtS hm | exact ruS hr | exact mtA1 hm | exact mtA2 hm | exact mtA3 hm | exact mtA4 hm | exact mtA5 hm | exact mtA6 hm | exact mtA7 hm | exact ruA1 hr | exact ruA2 hr | exact ruA3 hr) rfl ?_
      refine pw_icmp_ge (tgt := 96) 40 rfl dX12_nearest_37 rfl (fun h37 => absurd h37 (by rw [hn]; (simp (disch := omega) only [nI_leI, nI_ltI, nI_eq, show (0 : Int32) = nI 0 from rfl, not_true_eq_false, not_false_eq_true] <;> omega))) (fun h37 => ?_)
      refine pw_aload_n 41 rfl dX12_nearest_40 rfl ?_
      refine pw_getR 44 rfl dX12_nearest_41 fX12_9 (by first | rfl | assumption | exact rowS hh | exact mtS hm | exact ruS hr | exact mtA1 hm | exact mtA2 hm | exact mtA3 hm | exact mtA4 hm | exact mtA5 hm | exact mtA6 hm | exact mtA7 hm | exact ruA1 hr | exact ruA2 hr | exact ruA3 hr) rfl (by first | rfl | assumption | exact mtR0 hm | exact mtR1 hm | exact mtR2 hm | exact mtR3 hm | exact mtR4 hm | exact mtR5 hm | exact mtR6 hm | exact ruR0 hr | exact ruR1 hr | exact ruR3 hr) ?_
      refine pw_iload 46 rfl dX12_nearest_44 rfl ?_
      refine pw_ialdN 47 rfl dX12_nearest_46 (by first | rfl | assumption | exact rowS hh | exact mtS hm | exact ruS hr | exact mtA1 hm | exact mtA2 hm | exact mtA3 hm | exact mtA4 hm | exact mtA5 hm | exact mtA6 hm | exact mtA7 hm | exact ruA1 hr | exact ruA2 hr | exact ruA3 hr) (by omega) (by first | decide | omega) ?_
      refine pw_aload_n 48 rfl dX12_nearest_47 rfl ?_
      refine pw_getR 51 rfl dX12_nearest_48 fX12_9 (by first | rfl | assumption | exact rowS hh | exact mtS hm | exact ruS hr | exact mtA1 hm | exact mtA2 hm | exact mtA3 hm | exact mtA4 hm | exact mtA5 hm | exact mtA6 hm | exact mtA7 hm | exact ruA1 hr | exact ruA2 hr | exact ruA3 hr) rfl (by first | rfl | assumption | exact mtR0 hm | exact mtR1 hm | exact mtR2 hm | exact mtR3 hm | exact mtR4 hm | exact mtR5 hm | exact mtR6 hm | exact ruR0 hr | exact ruR1 hr | exact ruR3 hr) ?_
      refine pw_iload 53 rfl dX12_nearest_51 rfl ?_
      refine pw_ialdN 54 rfl dX12_nearest_53 (by first | rfl | assumption | exact rowS hh | exact mtS hm | exact ruS hr | exact mtA1 hm | exact mtA2 hm | exact mtA3 hm | exact mtA4 hm | exact mtA5 hm | exact mtA6 hm | exact mtA7 hm | exact ruA1 hr | exact ruA2 hr | exact ruA3 hr) (by omega) (by first | decide | omega) ?_
      rotate_left
      rw [e1, e2]
      refine pw_isub 55 rfl dX12_nearest_54 ?_
      refine pw_mabs 58 rfl dX12_nearest_55 mX12_282 (Nat.le_of_ble_eq_true rfl) ?_
      rotate_left
      rw [nI_dist (by omega) (by omega)]
      by_cases hlt : dist (b i) (b (i + 1 + k)) < nlN c
      · rw [nst_y hlt] at ih2
        refine pw_iload_n 59 rfl dX12_nearest_58 rfl ?_
        refine pw_icmp_lt (tgt := 65) 62 rfl dX12_nearest_59 rfl (fun h59 => ?_) (fun h59 => absurd (by (simp (disch := omega) only [nI_leI, nI_ltI, nI_eq, show (0 : Int32) = nI 0 from rfl, not_true_eq_false, not_false_eq_true] <;> omega)) h59)
        refine pw_aload_n 66 rfl dX12_nearest_65 rfl ?_
        refine pw_getR 69 rfl dX12_nearest_66 fX12_9 (by first | rfl | assumption | exact rowS hh | exact mtS hm | exact ruS hr | exact mtA1 hm | exact mtA2 hm | exact mtA3 hm | exact mtA4 hm | exact mtA5 hm | exact mtA6 hm | exact mtA7 hm | exact ruA1 hr | exact ruA2 hr | exact ruA3 hr) rfl (by first | rfl | assumption | exact mtR0 hm | exact mtR1 hm | exact mtR2 hm | exact mtR3 hm | exact mtR4 hm | exact mtR5 hm | exact mtR6 hm | exact ruR0 hr | exact ruR1 hr | exact ruR3 hr) ?_
        refine pw_iload 71 rfl dX12_nearest_69 rfl ?_
        refine pw_ialdN 72 rfl dX12_nearest_71 (by first | rfl | assumption | exact rowS hh | exact mtS hm | exact ruS hr | exact mtA1 hm | exact mtA2 hm | exact mtA3 hm | exact mtA4 hm | exact mtA5 hm | exact mtA6 hm | exact mtA7 hm | exact ruA1 hr | exact ruA2 hr | exact ruA3 hr) (by omega) (by first | decide | omega) ?_
        refine pw_aload_n 73 rfl dX12_nearest_72 rfl ?_
        refine pw_getR 76 rfl dX12_nearest_73 fX12_9 (by first | rfl | assumption | exact rowS hh | exact mtS hm | exact ruS hr | exact mtA1 hm | exact mtA2 hm | exact mtA3 hm | exact mtA4 hm | exact mtA5 hm | exact mtA6 hm | exact mtA7 hm | exact ruA1 hr | exact ruA2 hr | exact ruA3 hr) rfl (by first | rfl | assumption | exact mtR0 hm | exact mtR1 hm | exact mtR2 hm | exact mtR3 hm | exact mtR4 hm | exact mtR5 hm | exact mtR6 hm | exact ruR0 hr | exact ruR1 hr | exact ruR3 hr) ?_
        refine pw_iload 78 rfl dX12_nearest_76 rfl ?_
        refine pw_ialdN 79 rfl dX12_nearest_78 (by first | rfl | assumption | exact rowS hh | exact mtS hm | exact ruS hr | exact mtA1 hm | exact mtA2 hm | exact mtA3 hm | exact mtA4 hm | exact mtA5 hm | exact mtA6 hm | exact mtA7 hm | exact ruA1 hr | exact ruA2 hr | exact ruA3 hr) (by omega) (by first | decide | omega) ?_
        rotate_left
        rw [e1, e2]
        refine pw_isub 80 rfl dX12_nearest_79 ?_
        refine pw_mabs 83 rfl dX12_nearest_80 mX12_282 (Nat.le_of_ble_eq_true rfl) ?_
        rotate_left
        rw [nI_dist (by omega) (by omega)]
        refine pw_istore_n 84 rfl dX12_nearest_83 (by decide) ?_
        refine pw_iload 86 rfl dX12_nearest_84 rfl ?_
        refine pw_istore_n 87 rfl dX12_nearest_86 (by decide) ?_
        refine pw_iload 89 rfl dX12_nearest_87 rfl ?_
        refine pw_istore_n 90 rfl dX12_nearest_89 (by decide) ?_
        refine pw_iincN 93 rfl dX12_nearest_90 (by decide) rfl ?_
        refine pw_goto (tgt := 31) dX12_nearest_93 rfl ?_
        rotate_left
        refine ih2 ⟨?_, fun x hx => ?_⟩
        · show dist (b i) (b (i + 1 + k)) ≤ 1000000
          omega
        · cases hx
          show i < 100
          omega
      · rw [nst_n hlt hd0] at ih2
        refine pw_iload_n 59 rfl dX12_nearest_58 rfl ?_
        refine pw_icmp_lt (tgt := 65) 62 rfl dX12_nearest_59 rfl (fun h59 => absurd h59 (by (simp (disch := omega) only [nI_leI, nI_ltI, nI_eq, show (0 : Int32) = nI 0 from rfl, not_true_eq_false, not_false_eq_true] <;> omega))) (fun h59 => ?_)
        refine pw_goto (tgt := 90) dX12_nearest_62 rfl ?_
        refine pw_iincN 93 rfl dX12_nearest_90 (by decide) rfl ?_
        refine pw_goto (tgt := 31) dX12_nearest_93 rfl ?_
        rotate_left
        exact ih2 ho2
theorem lbh_max (f b : Nat → Nat) (w : Nat) (j : Nat) : (if b w < b (w + 1 + j) then max (1 + lbh f b w j) (1 + f (w + 1 + j)) else 1 + lbh f b w j) = 1 + lbh f b w (j + 1) := by
  rw [lbh]
  split
  · rw [Nat.add_max_add_left]
  · rfl
theorem rpS_len {T b : Nat → Nat} {L : Nat} (hL : L ≤ 7) : ∀ i, (rpS T b L i).1.length + (rpS T b L i).2.2 = L
  | 0 => Nat.zero_add _
  | i + 1 => by
    have ih := rpS_len (T := T) (b := b) hL i
    by_cases h : 0 < (rpS T b L i).2.2 ∧ T i = (rpS T b L i).2.2 ∧ (rpS T b L i).2.1 ≤ b i
    · rw [rpS_y h]
      show (nadd (rpS T b L i).1 (lI i)).length + ((rpS T b L i).2.2 - 1) = L
      rw [nadd, if_pos (by omega), List.length_append]
      show (rpS T b L i).1.length + 1 + _ = L
      omega
    · rw [rpS_n h]; exact ih
theorem rpS_0 {T b : Nat → Nat} {L i : Nat} (h : (rpS T b L i).2.2 = 0) : ∀ k, rpS T b L (i + k) = rpS T b L i
  | 0 => rfl
  | k + 1 => by
    have ih := rpS_0 h k
    rw [← Nat.add_assoc, rpS_n (by rw [ih, h]; omega), ih]
set_option maxRecDepth 100000 in
set_option maxHeartbeats 2000000 in
theorem mo_rope {d g : Nat} {s : aSt} {rd : Option Nat} {I : pI} {J : pJ} (hA : MA I J s) (hD : MDg g I) (hg : g ≤ 500000000) (hW : WA s)  : PC SM (d + 245) yX12_rope cX12_rope 4 (some .int) [.ref 0] (I) (J) (RM rd (some 6)) (moP (g + 10000) (qOp qRope s)) := by
  refine PC.of [some (.ref 0), none, none, none] rfl rfl (Nat.le_of_ble_eq_true rfl) ?_
  obtain ⟨n, pc, b, us, kp, rw, tx, rt, hd, sw⟩ := s
  refine pw_aload_n 1 rfl dX12_rope_0 rfl ?_
  refine pw_iconst (v := nI 0) 2 rfl dX12_rope_1 rfl ?_
  refine pw_putI 5 rfl dX12_rope_2 fX12_88 w12_7 (by first | rfl | assumption | exact rowS hh | exact mtS hm | exact ruS hr | exact mtA1 hm | exact mtA2 hm | exact mtA3 hm | exact mtA4 hm | exact mtA5 hm | exact mtA6 hm | exact mtA7 hm | exact ruA1 hr | exact ruA2 hr | exact ruA3 hr) rfl rfl rfl ?_
  rotate_left
  have hA0 := MA_thr (v := nI 0) hA
  have hD0 : MDg g (uI I 0 7 (nI 0)) := MDg_f hD (uI_ne (by omega)) (fun j => uI_ne (by omega))
  clear hA hD
  generalize uI I 0 7 (nI 0) = I at hA0 hD0 ⊢
  obtain ⟨mC, mB, mT, mN, mR, mU, mK, mH, mG⟩ := id hA0
  obtain ⟨aW, aU, aK⟩ := id hW
  have hE := MSt_A hA0
  have hn7 := mC.1
  have hn := mC.2.1
  have ht := aW.1.2.1
  have hmn := rpM_le n b n
  have sub1 : ∀ x : Int32, x - nI 1 = x + Int32.ofInt (-1) := fun x => by rw [Int32.sub_eq_add_neg]; rfl
  have second : ∀ (I' : pI) (x2 x3 : Option Value), (∀ i, i < n → I' 17 i = nI (rpT n b n i)) → (∀ a j, a ≠ 17 → I' a j = I a j) → PW SM yX12_rope.cls cX12_rope 4 (d + 245) 98 [some (.ref 0), some (.int (nI (rpM n b n))), x2, x3] [] (I') (J) (RM rd (some 6)) (rX cX12_rope (some .int) (moP (g + 10000) (qOp qRope (n, pc, b, us, kp, rw, tx, rt, hd, sw)))) := by
    intro I' x2 x3 g1 g2
    refine pw_iconst (v := -1) 99 rfl dX12_rope_98 rfl ?_
    refine pw_istore_n 100 rfl dX12_rope_99 (by decide) ?_
    refine pw_aload_n 101 rfl dX12_rope_100 rfl ?_
    refine pw_iconst (v := nI 0) 102 rfl dX12_rope_101 rfl ?_
    refine pw_putI 105 rfl dX12_rope_102 fX12_92 w12_6 (by first | rfl | assumption | exact rowS hh | exact mtS hm | exact ruS hr | exact mtA1 hm | exact mtA2 hm | exact mtA3 hm | exact mtA4 hm | exact mtA5 hm | exact mtA6 hm | exact mtA7 hm | exact ruA1 hr | exact ruA2 hr | exact ruA3 hr) rfl rfl rfl ?_
    refine pw_iconst (v := nI 0) 106 rfl dX12_rope_105 rfl ?_
    refine pw_istore_n 107 rfl dX12_rope_106 (by decide) ?_
    rotate_left
    have L := nat_loop n (fun i => ∀ (I2 : pI) (J2 : pJ), MN I2 J2 (rpS (rpT n b n) b (rpM n b n) i).1 → (∀ a j, ¬ (a = 0 ∧ j = 6) → I2 a j = I' a j) → PW SM yX12_rope.cls cX12_rope 4 (d + 245) 107 [some (.ref 0), some (.int (nI (rpM n b n))), some (.int (belV (rpS (rpT n b n) b (rpM n b n) i).2.1)), some (.int (nI i))] [] (I2) (J2) (RM rd (some 6)) (rX cX12_rope (some .int) (moP (g + 10000) (qOp qRope (n, pc, b, us, kp, rw, tx, rt, hd, sw))))) ?_ ?_
    · exact L _ _ MN_0 (fun a j q => uI_ne (by omega))
    · intro I2 J2 p1 p2
      refine pw_iload_n 108 rfl dX12_rope_107 rfl ?_
      refine pw_aload_n 109 rfl dX12_rope_108 rfl ?_
      refine pw_getI 112 rfl dX12_rope_109 fX12_95 (by first | rfl | assumption | exact rowS hh | exact mtS hm | exact ruS hr | exact mtA1 hm | exact mtA2 hm | exact mtA3 hm | exact mtA4 hm | exact mtA5 hm | exact mtA6 hm | exact mtA7 hm | exact ruA1 hr | exact ruA2 hr | exact ruA3 hr) rfl ?_
      refine pw_icmp_ge (tgt := 170) 115 rfl dX12_rope_112 rfl (fun h112 => ?_) (fun h112 => absurd (by rw [p2 _ _ (by omega), g2 _ _ (by omega), hn]; (simp (disch := omega) only [nI_leI, nI_ltI, nI_eq, show (0 : Int32) = nI 0 from rfl, not_true_eq_false, not_false_eq_true] <;> omega)) h112)
      refine pw_iload_n 171 rfl dX12_rope_170 rfl ?_
      refine pw_iret dX12_rope_171 rfl ?_
      rotate_left
      have hf1 : ∀ a j, ¬ (a = 0 ∧ j = 6) → a ≠ 17 → I2 a j = I a j := fun a j q q2 => by rw [p2 a j q, g2 a j q2]
      exact moQ rfl rfl (MA_rw hA0 (fun a j q => hf1 a j (by omega) (by omega)) p1) ((MDg_f hD0 (hf1 _ _ (by omega) (by omega)) (fun j => hf1 _ _ (by omega) (by omega))).mono (by omega)) ⟨rd, rfl⟩
    · intro i hi ih I2 J2 p1 p2
      have hb := aW.1.2.2.2.2 i (by omega)
      have hn2 : I2 0 1 = nI n := by rw [p2 _ _ (by omega), g2 _ _ (by omega), hn]
      have e1 : I2 1 i = nI (b i) := by rw [p2 _ _ (by omega), g2 _ _ (by omega)]; exact mB i (by omega)
      have e2 : I2 17 i = nI (rpT n b n i) := by rw [p2 _ _ (by omega)]; exact g1 i hi
      have e6 := p1.1
      have l0 := rpS_len (T := rpT n b n) (b := b) (L := rpM n b n) (by omega) i
      have l2 := rpS_b (T := rpT n b n) (b := b) (L := rpM n b n) (M := 9) i (fun j hj => by have := aW.1.2.2.2.2 j (by omega); omega)
      have l3 := rpT_le n b n i
      by_cases c1 : 0 < (rpS (rpT n b n) b (rpM n b n) i).2.2
      · refine pw_iload_n 108 rfl dX12_rope_107 rfl ?_
        refine pw_aload_n 109 rfl dX12_rope_108 rfl ?_
        refine pw_getI 112 rfl dX12_rope_109 fX12_95 (by first | rfl | assumption | exact rowS hh | exact mtS hm | exact ruS hr | exact mtA1 hm | exact mtA2 hm | exact mtA3 hm | exact mtA4 hm | exact mtA5 hm | exact mtA6 hm | exact mtA7 hm | exact ruA1 hr | exact ruA2 hr | exact ruA3 hr) rfl ?_
        refine pw_icmp_ge (tgt := 170) 115 rfl dX12_rope_112 rfl (fun h112 => absurd h112 (by rw [hn2]; (simp (disch := omega) only [nI_leI, nI_ltI, nI_eq, show (0 : Int32) = nI 0 from rfl, not_true_eq_false, not_false_eq_true] <;> omega))) (fun h112 => ?_)
        refine pw_aload_n 116 rfl dX12_rope_115 rfl ?_
        refine pw_getI 119 rfl dX12_rope_116 fX12_92 (by first | rfl | assumption | exact rowS hh | exact mtS hm | exact ruS hr | exact mtA1 hm | exact mtA2 hm | exact mtA3 hm | exact mtA4 hm | exact mtA5 hm | exact mtA6 hm | exact mtA7 hm | exact ruA1 hr | exact ruA2 hr | exact ruA3 hr) rfl ?_
        refine pw_iload_n 120 rfl dX12_rope_119 rfl ?_
        refine pw_icmp_ge (tgt := 170) 123 rfl dX12_rope_120 rfl (fun h120 => absurd h120 (by rw [e6]; (simp (disch := omega) only [nI_leI, nI_ltI, nI_eq, show (0 : Int32) = nI 0 from rfl, not_true_eq_false, not_false_eq_true] <;> omega))) (fun h120 => ?_)
        refine pw_aload_n 124 rfl dX12_rope_123 rfl ?_
        refine pw_getR 127 rfl dX12_rope_124 fX12_60 (by first | rfl | assumption | exact rowS hh | exact mtS hm | exact ruS hr | exact mtA1 hm | exact mtA2 hm | exact mtA3 hm | exact mtA4 hm | exact mtA5 hm | exact mtA6 hm | exact mtA7 hm | exact ruA1 hr | exact ruA2 hr | exact ruA3 hr) rfl (by first | rfl | assumption | exact mtR0 hm | exact mtR1 hm | exact mtR2 hm | exact mtR3 hm | exact mtR4 hm | exact mtR5 hm | exact mtR6 hm | exact ruR0 hr | exact ruR1 hr | exact ruR3 hr) ?_
        refine pw_iload_n 128 rfl dX12_rope_127 rfl ?_
        refine pw_ialdN 129 rfl dX12_rope_128 (by first | rfl | assumption | exact rowS hh | exact mtS hm | exact ruS hr | exact mtA1 hm | exact mtA2 hm | exact mtA3 hm | exact mtA4 hm | exact mtA5 hm | exact mtA6 hm | exact mtA7 hm | exact ruA1 hr | exact ruA2 hr | exact ruA3 hr) (by omega) (by first | decide | omega) ?_
        refine pw_iload_n 130 rfl dX12_rope_129 rfl ?_
        refine pw_aload_n 131 rfl dX12_rope_130 rfl ?_
        refine pw_getI 134 rfl dX12_rope_131 fX12_92 (by first | rfl | assumption | exact rowS hh | exact mtS hm | exact ruS hr | exact mtA1 hm | exact mtA2 hm | exact mtA3 hm | exact mtA4 hm | exact mtA5 hm | exact mtA6 hm | exact mtA7 hm | exact ruA1 hr | exact ruA2 hr | exact ruA3 hr) rfl ?_
        rotate_left
        rw [e6, e2]
        refine pw_isubN 135 rfl dX12_rope_134 (by omega) ?_
        rotate_left
        rw [show rpM n b n - (rpS (rpT n b n) b (rpM n b n) i).1.length = (rpS (rpT n b n) b (rpM n b n) i).2.2 by omega]
        by_cases c2 : rpT n b n i = (rpS (rpT n b n) b (rpM n b n) i).2.2
        · by_cases c3 : (rpS (rpT n b n) b (rpM n b n) i).2.1 ≤ b i
          · rw [rpS_y ⟨c1, c2, c3⟩] at ih
            refine pw_icmp_ne (tgt := 164) 138 rfl dX12_rope_135 rfl (fun h135 => absurd (by rw [c2]) h135) (fun h135 => ?_)
            refine pw_aload_n 139 rfl dX12_rope_138 rfl ?_
            refine pw_getR 142 rfl dX12_rope_139 fX12_9 (by first | rfl | assumption | exact rowS hh | exact mtS hm | exact ruS hr | exact mtA1 hm | exact mtA2 hm | exact mtA3 hm | exact mtA4 hm | exact mtA5 hm | exact mtA6 hm | exact mtA7 hm | exact ruA1 hr | exact ruA2 hr | exact ruA3 hr) rfl (by first | rfl | assumption | exact mtR0 hm | exact mtR1 hm | exact mtR2 hm | exact mtR3 hm | exact mtR4 hm | exact mtR5 hm | exact mtR6 hm | exact ruR0 hr | exact ruR1 hr | exact ruR3 hr) ?_
            refine pw_iload_n 143 rfl dX12_rope_142 rfl ?_
            refine pw_ialdN 144 rfl dX12_rope_143 (by first | rfl | assumption | exact rowS hh | exact mtS hm | exact ruS hr | exact mtA1 hm | exact mtA2 hm | exact mtA3 hm | exact mtA4 hm | exact mtA5 hm | exact mtA6 hm | exact mtA7 hm | exact ruA1 hr | exact ruA2 hr | exact ruA3 hr) (by omega) (by first | decide | omega) ?_
            refine pw_iload_n 145 rfl dX12_rope_144 rfl ?_
            refine pw_icmp_gt (tgt := 151) 148 rfl dX12_rope_145 rfl (fun h145 => ?_) (fun h145 => absurd (by rw [e1]; exact Int32.not_le.mp (fun z => by rw [belV_le (by omega) (by omega)] at z; omega)) h145)
            refine pw_aload_n 152 rfl dX12_rope_151 rfl ?_
            refine pw_getR 155 rfl dX12_rope_152 fX12_9 (by first | rfl | assumption | exact rowS hh | exact mtS hm | exact ruS hr | exact mtA1 hm | exact mtA2 hm | exact mtA3 hm | exact mtA4 hm | exact mtA5 hm | exact mtA6 hm | exact mtA7 hm | exact ruA1 hr | exact ruA2 hr | exact ruA3 hr) rfl (by first | rfl | assumption | exact mtR0 hm | exact mtR1 hm | exact mtR2 hm | exact mtR3 hm | exact mtR4 hm | exact mtR5 hm | exact mtR6 hm | exact ruR0 hr | exact ruR1 hr | exact ruR3 hr) ?_
            refine pw_iload_n 156 rfl dX12_rope_155 rfl ?_
            refine pw_ialdN 157 rfl dX12_rope_156 (by first | rfl | assumption | exact rowS hh | exact mtS hm | exact ruS hr | exact mtA1 hm | exact mtA2 hm | exact mtA3 hm | exact mtA4 hm | exact mtA5 hm | exact mtA6 hm | exact mtA7 hm | exact ruA1 hr | exact ruA2 hr | exact ruA3 hr) (by omega) (by first | decide | omega) ?_
            rotate_left
            rw [e1]
            refine pw_istore_n 158 rfl dX12_rope_157 (by decide) ?_
            refine pw_aload_n 159 rfl dX12_rope_158 rfl ?_
            refine pw_iload_n 160 rfl dX12_rope_159 rfl ?_
            refine pw_i2l 161 rfl dX12_rope_160 ?_
            refine pw_callV (as := [_]) 164 rfl dX12_rope_161 mX12_236 vX12_tell (m_tell (d := d + 244) p1 (by omega)) (by first | rfl | assumption | exact rowS hh | exact mtS hm | exact ruS hr | exact mtA1 hm | exact mtA2 hm | exact mtA3 hm | exact mtA4 hm | exact mtA5 hm | exact mtA6 hm | exact mtA7 hm | exact ruA1 hr | exact ruA2 hr | exact ruA3 hr) rfl (by decide) ⟨rfl, by decide, by decide, show (parseMethodDescriptor yX12_tell.desc).map (fun d => d.parameters.length) = some 1 by decide +kernel⟩ (by omega) (by decide) (Nat.le_of_ble_eq_true rfl) rfl (fun r161 I161 J161 R161 c161 => ?_)
            obtain ⟨rfl, n1, n2, rfl⟩ := c161
            rotate_left
            refine pw_iincN 167 rfl dX12_rope_164 (by decide) rfl ?_
            refine pw_goto (tgt := 107) dX12_rope_167 rfl ?_
            rotate_left
            refine ih _ _ (by show MN _ _ (nadd (rpS (rpT n b n) b (rpM n b n) i).1 (lI i)); rw [nadd, if_pos (by omega)]; exact n1) (fun a j h => by rw [n2 a j h, p2 a j h])
          · rw [rpS_n (fun z => c3 z.2.2)] at ih
            refine pw_icmp_ne (tgt := 164) 138 rfl dX12_rope_135 rfl (fun h135 => absurd (by rw [c2]) h135) (fun h135 => ?_)
            refine pw_aload_n 139 rfl dX12_rope_138 rfl ?_
            refine pw_getR 142 rfl dX12_rope_139 fX12_9 (by first | rfl | assumption | exact rowS hh | exact mtS hm | exact ruS hr | exact mtA1 hm | exact mtA2 hm | exact mtA3 hm | exact mtA4 hm | exact mtA5 hm | exact mtA6 hm | exact mtA7 hm | exact ruA1 hr | exact ruA2 hr | exact ruA3 hr) rfl (by first | rfl | assumption | exact mtR0 hm | exact mtR1 hm | exact mtR2 hm | exact mtR3 hm | exact mtR4 hm | exact mtR5 hm | exact mtR6 hm | exact ruR0 hr | exact ruR1 hr | exact ruR3 hr) ?_
            refine pw_iload_n 143 rfl dX12_rope_142 rfl ?_
            refine pw_ialdN 144 rfl dX12_rope_143 (by first | rfl | assumption | exact rowS hh | exact mtS hm | exact ruS hr | exact mtA1 hm | exact mtA2 hm | exact mtA3 hm | exact mtA4 hm | exact mtA5 hm | exact mtA6 hm | exact mtA7 hm | exact ruA1 hr | exact ruA2 hr | exact ruA3 hr) (by omega) (by first | decide | omega) ?_
            refine pw_iload_n 145 rfl dX12_rope_144 rfl ?_
            refine pw_icmp_gt (tgt := 151) 148 rfl dX12_rope_145 rfl (fun h145 => absurd h145 (by rw [e1]; exact Int32.not_lt.mpr (by rw [belV_le (by omega) (by omega)]; omega))) (fun h145 => ?_)
            refine pw_goto (tgt := 164) dX12_rope_148 rfl ?_
            refine pw_iincN 167 rfl dX12_rope_164 (by decide) rfl ?_
            refine pw_goto (tgt := 107) dX12_rope_167 rfl ?_
            rotate_left
            exact ih _ _ p1 p2
        · rw [rpS_n (fun z => c2 z.2.1)] at ih
          refine pw_icmp_ne (tgt := 164) 138 rfl dX12_rope_135 rfl (fun h135 => ?_) (fun h135 => absurd h135 (by rw [nI_eq (by omega) (by omega)]; exact c2))
          refine pw_iincN 167 rfl dX12_rope_164 (by decide) rfl ?_
          refine pw_goto (tgt := 107) dX12_rope_167 rfl ?_
          rotate_left
          exact ih _ _ p1 p2
      · have hz : (rpS (rpT n b n) b (rpM n b n) i).2.2 = 0 := by omega
        have hN := rpS_0 hz (n - i)
        rw [show i + (n - i) = n by omega] at hN
        refine pw_iload_n 108 rfl dX12_rope_107 rfl ?_
        refine pw_aload_n 109 rfl dX12_rope_108 rfl ?_
        refine pw_getI 112 rfl dX12_rope_109 fX12_95 (by first | rfl | assumption | exact rowS hh | exact mtS hm | exact ruS hr | exact mtA1 hm | exact mtA2 hm | exact mtA3 hm | exact mtA4 hm | exact mtA5 hm | exact mtA6 hm | exact mtA7 hm | exact ruA1 hr | exact ruA2 hr | exact ruA3 hr) rfl ?_
        refine pw_icmp_ge (tgt := 170) 115 rfl dX12_rope_112 rfl (fun h112 => absurd h112 (by rw [hn2]; (simp (disch := omega) only [nI_leI, nI_ltI, nI_eq, show (0 : Int32) = nI 0 from rfl, not_true_eq_false, not_false_eq_true] <;> omega))) (fun h112 => ?_)
        refine pw_aload_n 116 rfl dX12_rope_115 rfl ?_
        refine pw_getI 119 rfl dX12_rope_116 fX12_92 (by first | rfl | assumption | exact rowS hh | exact mtS hm | exact ruS hr | exact mtA1 hm | exact mtA2 hm | exact mtA3 hm | exact mtA4 hm | exact mtA5 hm | exact mtA6 hm | exact mtA7 hm | exact ruA1 hr | exact ruA2 hr | exact ruA3 hr) rfl ?_
        refine pw_iload_n 120 rfl dX12_rope_119 rfl ?_
        refine pw_icmp_ge (tgt := 170) 123 rfl dX12_rope_120 rfl (fun h120 => ?_) (fun h120 => absurd (by rw [e6]; (simp (disch := omega) only [nI_leI, nI_ltI, nI_eq, show (0 : Int32) = nI 0 from rfl, not_true_eq_false, not_false_eq_true] <;> omega)) h120)
        refine pw_iload_n 171 rfl dX12_rope_170 rfl ?_
        refine pw_iret dX12_rope_171 rfl ?_
        rotate_left
        have hf1 : ∀ a j, ¬ (a = 0 ∧ j = 6) → a ≠ 17 → I2 a j = I a j := fun a j q q2 => by rw [p2 a j q, g2 a j q2]
        exact moQ (B := (rpS (rpT n b n) b (rpM n b n) i).1) (by rw [← hN]; rfl) rfl (MA_rw hA0 (fun a j q => hf1 a j (by omega) (by omega)) p1) ((MDg_f hD0 (hf1 _ _ (by omega) (by omega)) (fun j => hf1 _ _ (by omega) (by omega))).mono (by omega)) ⟨rd, rfl⟩
  refine pw_iconst (v := nI 0) 6 rfl dX12_rope_5 rfl ?_
  refine pw_istore_n 7 rfl dX12_rope_6 (by decide) ?_
  refine pw_aload_n 8 rfl dX12_rope_7 rfl ?_
  refine pw_getI 11 rfl dX12_rope_8 fX12_95 (by first | rfl | assumption | exact rowS hh | exact mtS hm | exact ruS hr | exact mtA1 hm | exact mtA2 hm | exact mtA3 hm | exact mtA4 hm | exact mtA5 hm | exact mtA6 hm | exact mtA7 hm | exact ruA1 hr | exact ruA2 hr | exact ruA3 hr) rfl ?_
  rotate_left
  rw [hn]
  refine pw_iconst (v := nI 1) 12 rfl dX12_rope_11 rfl ?_
  refine pw_isub 13 rfl dX12_rope_12 ?_
  rotate_left
  rw [sub1]
  refine pw_istore_n 14 rfl dX12_rope_13 (by decide) ?_
  rotate_left
  have L := nat_loop n (fun k => ∀ (I' : pI) (x3 : Option Value), (∀ i, n - k ≤ i → i < n → I' 17 i = nI (rpT n b k i)) → (∀ a j, a ≠ 17 → I' a j = I a j) → PW SM yX12_rope.cls cX12_rope 4 (d + 245) 14 [some (.ref 0), some (.int (nI (rpM n b k))), some (.int (nI (n - k) + Int32.ofInt (-1))), x3] [] (I') (J) (RM rd (some 6)) (rX cX12_rope (some .int) (moP (g + 10000) (qOp qRope (n, pc, b, us, kp, rw, tx, rt, hd, sw))))) ?_ ?_
  · exact L I none (fun i h1 h2 => by omega) (fun _ _ _ => rfl)
  · intro I' x3 g1 g2
    rw [Nat.sub_self]
    refine pw_iload_n 15 rfl dX12_rope_14 rfl ?_
    refine pw_if_lt (tgt := 98) 18 rfl dX12_rope_15 rfl (fun h15 => ?_) (fun h15 => absurd (by decide) h15)
    rotate_left
    exact second I' _ _ (fun i hi => g1 i (by omega) hi) g2
  · intro k hk ih I' x3 g1 g2
    rw [show nI (n - k) + Int32.ofInt (-1) = nI (n - 1 - k) from by rw [show n - k = (n - 1 - k) + 1 by omega]; exact pk_m1 (n - 1 - k)]
    have lM := rpM_le n b k
    have lT := rpT_le n b k
    refine pw_iload_n 15 rfl dX12_rope_14 rfl ?_
    refine pw_if_lt (tgt := 98) 18 rfl dX12_rope_15 rfl (fun h15 => absurd h15 (nI_pos (by omega))) (fun h15 => ?_)
    refine pw_aload_n 19 rfl dX12_rope_18 rfl ?_
    refine pw_getR 22 rfl dX12_rope_19 fX12_60 (by first | rfl | assumption | exact rowS hh | exact mtS hm | exact ruS hr | exact mtA1 hm | exact mtA2 hm | exact mtA3 hm | exact mtA4 hm | exact mtA5 hm | exact mtA6 hm | exact mtA7 hm | exact ruA1 hr | exact ruA2 hr | exact ruA3 hr) rfl (by first | rfl | assumption | exact mtR0 hm | exact mtR1 hm | exact mtR2 hm | exact mtR3 hm | exact mtR4 hm | exact mtR5 hm | exact mtR6 hm | exact ruR0 hr | exact ruR1 hr | exact ruR3 hr) ?_
    refine pw_iload_n 23 rfl dX12_rope_22 rfl ?_
    refine pw_iconst (v := nI 1) 24 rfl dX12_rope_23 rfl ?_
    refine pw_iastN 25 rfl dX12_rope_24 (by first | rfl | assumption | exact rowS hh | exact mtS hm | exact ruS hr | exact mtA1 hm | exact mtA2 hm | exact mtA3 hm | exact mtA4 hm | exact mtA5 hm | exact mtA6 hm | exact mtA7 hm | exact ruA1 hr | exact ruA2 hr | exact ruA3 hr) (by omega) (by first | decide | omega) ?_
    refine pw_iload_n 26 rfl dX12_rope_25 rfl ?_
    refine pw_iconst (v := nI 1) 27 rfl dX12_rope_26 rfl ?_
    first | refine pw_iaddN 28 rfl dX12_rope_27 ?_ | refine pw_iadd 28 rfl dX12_rope_27 ?_
    refine pw_istore_n 29 rfl dX12_rope_28 (by decide) ?_
    rotate_left
    generalize hw : n - 1 - k = w at ih
    have hb1 := aW.1.2.2.2.2 w (by omega)
    have eT : rpT n b (k + 1) w = 1 + lbh (rpT n b k) b w k := by rw [← hw]; exact if_pos rfl
    have L2 := nat_loop k (fun j => ∀ (I2 : pI), I2 17 w = nI (1 + lbh (rpT n b k) b w j) → (∀ i, n - k ≤ i → i < n → I2 17 i = nI (rpT n b k i)) → (∀ a j, a ≠ 17 → I2 a j = I a j) → PW SM yX12_rope.cls cX12_rope 4 (d + 245) 29 [some (.ref 0), some (.int (nI (rpM n b k))), some (.int (nI w)), some (.int (nI (w + 1 + j)))] [] (I2) (J) (RM rd (some 6)) (rX cX12_rope (some .int) (moP (g + 10000) (qOp qRope (n, pc, b, us, kp, rw, tx, rt, hd, sw))))) ?_ ?_
    · refine L2 _ (uI_eq _ _ _ _) (fun i q1 q2 => ?_) (fun a j q => by rw [uI_ne (by omega)]; exact g2 a j q)
      rw [uI_ne (by omega)]; exact g1 i q1 q2
    · intro I2 m1 m2 m3
      have hl := lbh_le (b := b) (w := w) lT k
      refine pw_iload_n 30 rfl dX12_rope_29 rfl ?_
      refine pw_aload_n 31 rfl dX12_rope_30 rfl ?_
      refine pw_getI 34 rfl dX12_rope_31 fX12_95 (by first | rfl | assumption | exact rowS hh | exact mtS hm | exact ruS hr | exact mtA1 hm | exact mtA2 hm | exact mtA3 hm | exact mtA4 hm | exact mtA5 hm | exact mtA6 hm | exact mtA7 hm | exact ruA1 hr | exact ruA2 hr | exact ruA3 hr) rfl ?_
      refine pw_icmp_ge (tgt := 81) 37 rfl dX12_rope_34 rfl (fun h34 => ?_) (fun h34 => absurd (by rw [m3 _ _ (by omega), hn]; (simp (disch := omega) only [nI_leI, nI_ltI, nI_eq, show (0 : Int32) = nI 0 from rfl, not_true_eq_false, not_false_eq_true] <;> omega)) h34)
      refine pw_iload_n 82 rfl dX12_rope_81 rfl ?_
      refine pw_aload_n 83 rfl dX12_rope_82 rfl ?_
      refine pw_getR 86 rfl dX12_rope_83 fX12_60 (by first | rfl | assumption | exact rowS hh | exact mtS hm | exact ruS hr | exact mtA1 hm | exact mtA2 hm | exact mtA3 hm | exact mtA4 hm | exact mtA5 hm | exact mtA6 hm | exact mtA7 hm | exact ruA1 hr | exact ruA2 hr | exact ruA3 hr) rfl (by first | rfl | assumption | exact mtR0 hm | exact mtR1 hm | exact mtR2 hm | exact mtR3 hm | exact mtR4 hm | exact mtR5 hm | exact mtR6 hm | exact ruR0 hr | exact ruR1 hr | exact ruR3 hr) ?_
      refine pw_iload_n 87 rfl dX12_rope_86 rfl ?_
      refine pw_ialdN 88 rfl dX12_rope_87 (by first | rfl | assumption | exact rowS hh | exact mtS hm | exact ruS hr | exact mtA1 hm | exact mtA2 hm | exact mtA3 hm | exact mtA4 hm | exact mtA5 hm | exact mtA6 hm | exact mtA7 hm | exact ruA1 hr | exact ruA2 hr | exact ruA3 hr) (by omega) (by first | decide | omega) ?_
      rotate_left
      rw [m1, ← eT]
      refine pw_mmax 91 rfl dX12_rope_88 mX12_195 (Nat.le_of_ble_eq_true rfl) ?_
      rotate_left
      rw [nI_max (by omega) (by have := rpT_le n b (k + 1) w; omega)]
      refine pw_istore_n 92 rfl dX12_rope_91 (by decide) ?_
      refine pw_iinc 95 rfl dX12_rope_92 (by decide) rfl ?_
      refine pw_goto (tgt := 14) dX12_rope_95 rfl ?_
      rotate_left
      have := ih I2 (some (.int (nI (w + 1 + k)))) (fun i h1 h2 => by
        by_cases e : i = w
        · rw [e, eT]; exact m1
        · rw [show rpT n b (k + 1) i = rpT n b k i from if_neg (by omega)]
          exact m2 i (by omega) h2) m3
      rw [show n - (k + 1) = w by omega, show rpM n b (k + 1) = max (rpM n b k) (rpT n b (k + 1) w) by rw [rpM, hw]] at this
      exact this
    · intro j hj ih2 I2 m1 m2 m3
      have hl := lbh_le (b := b) (w := w) lT j
      have hlj := lT (w + 1 + j)
      have hb2 := aW.1.2.2.2.2 (w + 1 + j) (by omega)
      have e1 : I2 1 w = nI (b w) := by rw [m3 _ _ (by omega)]; exact mB w (by omega)
      have e2 : I2 1 (w + 1 + j) = nI (b (w + 1 + j)) := by rw [m3 _ _ (by omega)]; exact mB _ (by omega)
      have e3 := m2 (w + 1 + j) (by omega) (by omega)
      rw [← lbh_max] at ih2
      by_cases hp : b w < b (w + 1 + j)
      · rw [if_pos hp] at ih2
        refine pw_iload_n 30 rfl dX12_rope_29 rfl ?_
        refine pw_aload_n 31 rfl dX12_rope_30 rfl ?_
        refine pw_getI 34 rfl dX12_rope_31 fX12_95 (by first | rfl | assumption | exact rowS hh | exact mtS hm | exact ruS hr | exact mtA1 hm | exact mtA2 hm | exact mtA3 hm | exact mtA4 hm | exact mtA5 hm | exact mtA6 hm | exact mtA7 hm | exact ruA1 hr | exact ruA2 hr | exact ruA3 hr) rfl ?_
        refine pw_icmp_ge (tgt := 81) 37 rfl dX12_rope_34 rfl (fun h34 => absurd h34 (by rw [m3 _ _ (by omega), hn]; (simp (disch := omega) only [nI_leI, nI_ltI, nI_eq, show (0 : Int32) = nI 0 from rfl, not_true_eq_false, not_false_eq_true] <;> omega))) (fun h34 => ?_)
        refine pw_aload_n 38 rfl dX12_rope_37 rfl ?_
        refine pw_getR 41 rfl dX12_rope_38 fX12_9 (by first | rfl | assumption | exact rowS hh | exact mtS hm | exact ruS hr | exact mtA1 hm | exact mtA2 hm | exact mtA3 hm | exact mtA4 hm | exact mtA5 hm | exact mtA6 hm | exact mtA7 hm | exact ruA1 hr | exact ruA2 hr | exact ruA3 hr) rfl (by first | rfl | assumption | exact mtR0 hm | exact mtR1 hm | exact mtR2 hm | exact mtR3 hm | exact mtR4 hm | exact mtR5 hm | exact mtR6 hm | exact ruR0 hr | exact ruR1 hr | exact ruR3 hr) ?_
        refine pw_iload_n 42 rfl dX12_rope_41 rfl ?_
        refine pw_ialdN 43 rfl dX12_rope_42 (by first | rfl | assumption | exact rowS hh | exact mtS hm | exact ruS hr | exact mtA1 hm | exact mtA2 hm | exact mtA3 hm | exact mtA4 hm | exact mtA5 hm | exact mtA6 hm | exact mtA7 hm | exact ruA1 hr | exact ruA2 hr | exact ruA3 hr) (by omega) (by first | decide | omega) ?_
        refine pw_aload_n 44 rfl dX12_rope_43 rfl ?_
        refine pw_getR 47 rfl dX12_rope_44 fX12_9 (by first | rfl | assumption | exact rowS hh | exact mtS hm | exact ruS hr | exact mtA1 hm | exact mtA2 hm | exact mtA3 hm | exact mtA4 hm | exact mtA5 hm | exact mtA6 hm | exact mtA7 hm | exact ruA1 hr | exact ruA2 hr | exact ruA3 hr) rfl (by first | rfl | assumption | exact mtR0 hm | exact mtR1 hm | exact mtR2 hm | exact mtR3 hm | exact mtR4 hm | exact mtR5 hm | exact mtR6 hm | exact ruR0 hr | exact ruR1 hr | exact ruR3 hr) ?_
        refine pw_iload_n 48 rfl dX12_rope_47 rfl ?_
        refine pw_ialdN 49 rfl dX12_rope_48 (by first | rfl | assumption | exact rowS hh | exact mtS hm | exact ruS hr | exact mtA1 hm | exact mtA2 hm | exact mtA3 hm | exact mtA4 hm | exact mtA5 hm | exact mtA6 hm | exact mtA7 hm | exact ruA1 hr | exact ruA2 hr | exact ruA3 hr) (by omega) (by first | decide | omega) ?_
        refine pw_icmp_le (tgt := 75) 52 rfl dX12_rope_49 rfl (fun h49 => absurd h49 (by rw [e1, e2]; (simp (disch := omega) only [nI_leI, nI_ltI, nI_eq, show (0 : Int32) = nI 0 from rfl, not_true_eq_false, not_false_eq_true] <;> omega))) (fun h49 => ?_)
        refine pw_aload_n 53 rfl dX12_rope_52 rfl ?_
        refine pw_getR 56 rfl dX12_rope_53 fX12_60 (by first | rfl | assumption | exact rowS hh | exact mtS hm | exact ruS hr | exact mtA1 hm | exact mtA2 hm | exact mtA3 hm | exact mtA4 hm | exact mtA5 hm | exact mtA6 hm | exact mtA7 hm | exact ruA1 hr | exact ruA2 hr | exact ruA3 hr) rfl (by first | rfl | assumption | exact mtR0 hm | exact mtR1 hm | exact mtR2 hm | exact mtR3 hm | exact mtR4 hm | exact mtR5 hm | exact mtR6 hm | exact ruR0 hr | exact ruR1 hr | exact ruR3 hr) ?_
        refine pw_iload_n 57 rfl dX12_rope_56 rfl ?_
        refine pw_aload_n 58 rfl dX12_rope_57 rfl ?_
        refine pw_getR 61 rfl dX12_rope_58 fX12_60 (by first | rfl | assumption | exact rowS hh | exact mtS hm | exact ruS hr | exact mtA1 hm | exact mtA2 hm | exact mtA3 hm | exact mtA4 hm | exact mtA5 hm | exact mtA6 hm | exact mtA7 hm | exact ruA1 hr | exact ruA2 hr | exact ruA3 hr) rfl (by first | rfl | assumption | exact mtR0 hm | exact mtR1 hm | exact mtR2 hm | exact mtR3 hm | exact mtR4 hm | exact mtR5 hm | exact mtR6 hm | exact ruR0 hr | exact ruR1 hr | exact ruR3 hr) ?_
        refine pw_iload_n 62 rfl dX12_rope_61 rfl ?_
        refine pw_ialdN 63 rfl dX12_rope_62 (by first | rfl | assumption | exact rowS hh | exact mtS hm | exact ruS hr | exact mtA1 hm | exact mtA2 hm | exact mtA3 hm | exact mtA4 hm | exact mtA5 hm | exact mtA6 hm | exact mtA7 hm | exact ruA1 hr | exact ruA2 hr | exact ruA3 hr) (by omega) (by first | decide | omega) ?_
        rotate_left
        rw [m1]
        refine pw_iconst (v := nI 1) 64 rfl dX12_rope_63 rfl ?_
        refine pw_aload_n 65 rfl dX12_rope_64 rfl ?_
        refine pw_getR 68 rfl dX12_rope_65 fX12_60 (by first | rfl | assumption | exact rowS hh | exact mtS hm | exact ruS hr | exact mtA1 hm | exact mtA2 hm | exact mtA3 hm | exact mtA4 hm | exact mtA5 hm | exact mtA6 hm | exact mtA7 hm | exact ruA1 hr | exact ruA2 hr | exact ruA3 hr) rfl (by first | rfl | assumption | exact mtR0 hm | exact mtR1 hm | exact mtR2 hm | exact mtR3 hm | exact mtR4 hm | exact mtR5 hm | exact mtR6 hm | exact ruR0 hr | exact ruR1 hr | exact ruR3 hr) ?_
        refine pw_iload_n 69 rfl dX12_rope_68 rfl ?_
        refine pw_ialdN 70 rfl dX12_rope_69 (by first | rfl | assumption | exact rowS hh | exact mtS hm | exact ruS hr | exact mtA1 hm | exact mtA2 hm | exact mtA3 hm | exact mtA4 hm | exact mtA5 hm | exact mtA6 hm | exact mtA7 hm | exact ruA1 hr | exact ruA2 hr | exact ruA3 hr) (by omega) (by first | decide | omega) ?_
        rotate_left
        rw [e3]
        first | refine pw_iaddN 71 rfl dX12_rope_70 ?_ | refine pw_iadd 71 rfl dX12_rope_70 ?_
        refine pw_mmax 74 rfl dX12_rope_71 mX12_195 (Nat.le_of_ble_eq_true rfl) ?_
        rotate_left
        rw [nI_max (by omega) (by omega)]
        refine pw_iastN 75 rfl dX12_rope_74 (by first | rfl | assumption | exact rowS hh | exact mtS hm | exact ruS hr | exact mtA1 hm | exact mtA2 hm | exact mtA3 hm | exact mtA4 hm | exact mtA5 hm | exact mtA6 hm | exact mtA7 hm | exact ruA1 hr | exact ruA2 hr | exact ruA3 hr) (by omega) (by first | decide | omega) ?_
        refine pw_iincN 78 rfl dX12_rope_75 (by decide) rfl ?_
        refine pw_goto (tgt := 29) dX12_rope_78 rfl ?_
        rotate_left
        refine ih2 _ (uI_eq _ _ _ _) (fun i q1 q2 => ?_) (fun a j q => by rw [uI_ne (by omega)]; exact m3 a j q)
        rw [uI_ne (by omega)]; exact m2 i q1 q2
      · rw [if_neg hp] at ih2
        refine pw_iload_n 30 rfl dX12_rope_29 rfl ?_
        refine pw_aload_n 31 rfl dX12_rope_30 rfl ?_
        refine pw_getI 34 rfl dX12_rope_31 fX12_95 (by first | rfl | assumption | exact rowS hh | exact mtS hm | exact ruS hr | exact mtA1 hm | exact mtA2 hm | exact mtA3 hm | exact mtA4 hm | exact mtA5 hm | exact mtA6 hm | exact mtA7 hm | exact ruA1 hr | exact ruA2 hr | exact ruA3 hr) rfl ?_
        refine pw_icmp_ge (tgt := 81) 37 rfl dX12_rope_34 rfl (fun h34 => absurd h34 (by rw [m3 _ _ (by omega), hn]; (simp (disch := omega) only [nI_leI, nI_ltI, nI_eq, show (0 : Int32) = nI 0 from rfl, not_true_eq_false, not_false_eq_true] <;> omega))) (fun h34 => ?_)
        refine pw_aload_n 38 rfl dX12_rope_37 rfl ?_
        refine pw_getR 41 rfl dX12_rope_38 fX12_9 (by first | rfl | assumption | exact rowS hh | exact mtS hm | exact ruS hr | exact mtA1 hm | exact mtA2 hm | exact mtA3 hm | exact mtA4 hm | exact mtA5 hm | exact mtA6 hm | exact mtA7 hm | exact ruA1 hr | exact ruA2 hr | exact ruA3 hr) rfl (by first | rfl | assumption | exact mtR0 hm | exact mtR1 hm | exact mtR2 hm | exact mtR3 hm | exact mtR4 hm | exact mtR5 hm | exact mtR6 hm | exact ruR0 hr | exact ruR1 hr | exact ruR3 hr) ?_
        refine pw_iload_n 42 rfl dX12_rope_41 rfl ?_
        refine pw_ialdN 43 rfl dX12_rope_42 (by first | rfl | assumption | exact rowS hh | exact mtS hm | exact ruS hr | exact mtA1 hm | exact mtA2 hm | exact mtA3 hm | exact mtA4 hm | exact mtA5 hm | exact mtA6 hm | exact mtA7 hm | exact ruA1 hr | exact ruA2 hr | exact ruA3 hr) (by omega) (by first | decide | omega) ?_
        refine pw_aload_n 44 rfl dX12_rope_43 rfl ?_
        refine pw_getR 47 rfl dX12_rope_44 fX12_9 (by first | rfl | assumption | exact rowS hh | exact mtS hm | exact ruS hr | exact mtA1 hm | exact mtA2 hm | exact mtA3 hm | exact mtA4 hm | exact mtA5 hm | exact mtA6 hm | exact mtA7 hm | exact ruA1 hr | exact ruA2 hr | exact ruA3 hr) rfl (by first | rfl | assumption | exact mtR0 hm | exact mtR1 hm | exact mtR2 hm | exact mtR3 hm | exact mtR4 hm | exact mtR5 hm | exact mtR6 hm | exact ruR0 hr | exact ruR1 hr | exact ruR3 hr) ?_
        refine pw_iload_n 48 rfl dX12_rope_47 rfl ?_
        refine pw_ialdN 49 rfl dX12_rope_48 (by first | rfl | assumption | exact rowS hh | exact mtS hm | exact ruS hr | exact mtA1 hm | exact mtA2 hm | exact mtA3 hm | exact mtA4 hm | exact mtA5 hm | exact mtA6 hm | exact mtA7 hm | exact ruA1 hr | exact ruA2 hr | exact ruA3 hr) (by omega) (by first | decide | omega) ?_
        refine pw_icmp_le (tgt := 75) 52 rfl dX12_rope_49 rfl (fun h49 => ?_) (fun h49 => absurd (by rw [e1, e2]; (simp (disch := omega) only [nI_leI, nI_ltI, nI_eq, show (0 : Int32) = nI 0 from rfl, not_true_eq_false, not_false_eq_true] <;> omega)) h49)
        refine pw_iincN 78 rfl dX12_rope_75 (by decide) rfl ?_
        refine pw_goto (tgt := 29) dX12_rope_78 rfl ?_
        rotate_left
        exact ih2 I2 m1 m2 m3
