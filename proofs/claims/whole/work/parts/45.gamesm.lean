/-! the reference: walks by chance, rests -/
set_option maxRecDepth 100000 in
set_option maxHeartbeats 2000000 in
theorem m_power {d k : Nat} {x : Int64} {I : pI} {J : pJ} {R : pR} (hk : k ≤ 100) : PC SM (d) yX12_power cX12_power 6 (some .long) [.long x, .int (nI k)] (I) (J) (R) (pPu (.long (lpw x k)) I J R) := by
  refine PC.of [some (.long x), none, some (.int (nI k)), none, none, none] rfl rfl (Nat.le_of_ble_eq_true rfl) ?_
  refine pw_lconst 1 rfl dX12_power_0 rfl ?_
  refine pw_lstore_n 2 rfl dX12_power_1 (by decide) ?_
  refine pw_iconst (v := nI 0) 3 rfl dX12_power_2 rfl ?_
  refine pw_istore 5 rfl dX12_power_3 (by decide) ?_
  rotate_left
  refine nat_loop k (fun j => PW SM yX12_power.cls cX12_power 6 (d) 5 [some (.long x), none, some (.int (nI k)), some (.long (lpw x j)), none, some (.int (nI j))] [] (I) (J) (R) (rX cX12_power (some .long) (pPu (.long (lpw x k)) I J R))) ?_ ?_
  · refine pw_iload 7 rfl dX12_power_5 rfl ?_
    refine pw_iload_n 8 rfl dX12_power_7 rfl ?_
    refine pw_icmp_ge (tgt := 21) 11 rfl dX12_power_8 rfl (fun h8 => ?_) (fun h8 => absurd (by (simp (disch := omega) only [nI_leI, nI_ltI, nI_eq, show (0 : Int32) = nI 0 from rfl, not_true_eq_false, not_false_eq_true] <;> omega)) h8)
    refine pw_lload_n 22 rfl dX12_power_21 rfl ?_
    refine pw_lret dX12_power_22 ?_
    rotate_left
    exact ⟨rfl, rfl, rfl, rfl⟩
  · intro j hj ih
    refine pw_iload 7 rfl dX12_power_5 rfl ?_
    refine pw_iload_n 8 rfl dX12_power_7 rfl ?_
    refine pw_icmp_ge (tgt := 21) 11 rfl dX12_power_8 rfl (fun h8 => absurd h8 (by (simp (disch := omega) only [nI_leI, nI_ltI, nI_eq, show (0 : Int32) = nI 0 from rfl, not_true_eq_false, not_false_eq_true] <;> omega))) (fun h8 => ?_)
    refine pw_lload_n 12 rfl dX12_power_11 rfl ?_
    refine pw_lload_n 13 rfl dX12_power_12 rfl ?_
    refine pw_lmul 14 rfl dX12_power_13 ?_
    refine pw_lstore_n 15 rfl dX12_power_14 (by decide) ?_
    refine pw_iincN 18 rfl dX12_power_15 (by decide) rfl ?_
    refine pw_goto (tgt := 5) dX12_power_18 rfl ?_
    rotate_left
    exact ih
set_option maxRecDepth 100000 in
set_option maxHeartbeats 2000000 in
theorem m_common {f d : Nat} {x y g : Int64} {I : pI} {J : pJ} {R : pR} (hg : euc f x y = some g) : PC SM (d + f) yX12_common cX12_common 4 (some .long) [.long x, .long y] (I) (J) (R) (pPu (.long g) I J R) := by
  induction f generalizing x y with
  | zero =>
    refine PC.of [some (.long x), none, some (.long y), none] rfl rfl (Nat.le_of_ble_eq_true rfl) ?_
    have hb : y = 0 := by
      rw [euc] at hg
      by_cases z : y = 0
      · exact z
      · rw [if_neg z] at hg; cases hg
    rw [euc, if_pos hb] at hg
    cases hg
    refine pw_lload_n 1 rfl dX12_common_0 rfl ?_
    refine pw_lconst 2 rfl dX12_common_1 rfl ?_
    refine pw_lcmp 3 rfl dX12_common_2 ?_
    refine pw_if_ne (tgt := 10) 6 rfl dX12_common_3 rfl (fun h3 => absurd ((lg_cmp_eq _ _).mpr hb) h3) (fun h3 => ?_)
    refine pw_lload_n 7 rfl dX12_common_6 rfl ?_
    refine pw_goto (tgt := 17) dX12_common_7 rfl ?_
    refine pw_lret dX12_common_17 ?_
    rotate_left
    exact ⟨rfl, rfl, rfl, rfl⟩
  | succ f ih =>
    refine PC.of [some (.long x), none, some (.long y), none] rfl rfl (Nat.le_of_ble_eq_true rfl) ?_
    rw [euc] at hg
    by_cases hb : y = 0
    · rw [if_pos hb] at hg
      cases hg
      refine pw_lload_n 1 rfl dX12_common_0 rfl ?_
      refine pw_lconst 2 rfl dX12_common_1 rfl ?_
      refine pw_lcmp 3 rfl dX12_common_2 ?_
      refine pw_if_ne (tgt := 10) 6 rfl dX12_common_3 rfl (fun h3 => absurd ((lg_cmp_eq _ _).mpr hb) h3) (fun h3 => ?_)
      refine pw_lload_n 7 rfl dX12_common_6 rfl ?_
      refine pw_goto (tgt := 17) dX12_common_7 rfl ?_
      refine pw_lret dX12_common_17 ?_
      rotate_left
      exact ⟨rfl, rfl, rfl, rfl⟩
    · rw [if_neg hb] at hg
      refine pw_lload_n 1 rfl dX12_common_0 rfl ?_
      refine pw_lconst 2 rfl dX12_common_1 rfl ?_
      refine pw_lcmp 3 rfl dX12_common_2 ?_
      refine pw_if_ne (tgt := 10) 6 rfl dX12_common_3 rfl (fun h3 => ?_) (fun h3 => absurd h3 (fun z => hb ((lg_cmp_eq _ _).mp z)))
      refine pw_lload_n 11 rfl dX12_common_10 rfl ?_
      refine pw_lload_n 12 rfl dX12_common_11 rfl ?_
      refine pw_lload_n 13 rfl dX12_common_12 rfl ?_
      refine pw_lrem 14 rfl dX12_common_13 hb ?_
      refine pw_callSP (as := [_, _]) 17 rfl dX12_common_14 mX12_332 sX12_common (ih hg) ⟨rfl, by decide, by decide, show (parseMethodDescriptor yX12_common.desc).map (fun d => d.parameters.length) = some 2 by decide +kernel⟩ (by omega) (by decide) (Nat.le_of_ble_eq_true rfl) rfl ?_
      refine pw_lret dX12_common_17 ?_
      rotate_left
      exact ⟨rfl, rfl, rfl, rfl⟩
set_option maxRecDepth 100000 in
set_option maxHeartbeats 2000000 in
theorem mo_strays {d g : Nat} {s : aSt} {rd : Option Nat} {I : pI} {J : pJ} (hA : MA I J s) (hD : MDg g I) (hg : g ≤ 500000000) (hW : WA s) (w v : Int32) : PC SM (d + 245) yX12_strays cX12_strays 11 (some .int) [.ref 0, .int w, .int v] (I) (J) (RM rd (some 6)) (moP (g + 10000) (qOp (qStrays w v) s)) := by
  refine PC.of [some (.ref 0), some (.int w), some (.int v), none, none, none, none, none, none, none, none] rfl rfl (Nat.le_of_ble_eq_true rfl) ?_
  obtain ⟨n, pc, b, us, kp, rw, tx, rt, hd, sw⟩ := s
  refine pw_aload_n 1 rfl dX12_strays_0 rfl ?_
  refine pw_iconst (v := nI 0) 2 rfl dX12_strays_1 rfl ?_
  refine pw_putI 5 rfl dX12_strays_2 fX12_88 w12_7 (by first | rfl | assumption | exact rowS hh | exact mtS hm | exact ruS hr | exact mtA1 hm | exact mtA2 hm | exact mtA3 hm | exact mtA4 hm | exact mtA5 hm | exact mtA6 hm | exact mtA7 hm | exact ruA1 hr | exact ruA2 hr | exact ruA3 hr) rfl rfl rfl ?_
  rotate_left
  have hA0 := MA_thr (v := nI 0) hA
  have hD0 : MDg g (uI I 0 7 (nI 0)) := MDg_f hD (uI_ne (by omega)) (fun j => uI_ne (by omega))
  clear hA hD
  generalize uI I 0 7 (nI 0) = I at hA0 hD0 ⊢
  obtain ⟨mC, mB, mT, mN, mR, mU, mK, mH, mG⟩ := id hA0
  obtain ⟨aW, aU, aK⟩ := id hW
  have hE := MSt_A hA0
  have hn7 := mC.1
  have hn := mC.2.1
  have ht := aW.1.2.1
  have e28 : I 1 28 = nI (b 28) := mB 28 (by omega)
  refine pw_aload_n 6 rfl dX12_strays_5 rfl ?_
  refine pw_getR 9 rfl dX12_strays_6 fX12_9 (by first | rfl | assumption | exact rowS hh | exact mtS hm | exact ruS hr | exact mtA1 hm | exact mtA2 hm | exact mtA3 hm | exact mtA4 hm | exact mtA5 hm | exact mtA6 hm | exact mtA7 hm | exact ruA1 hr | exact ruA2 hr | exact ruA3 hr) rfl (by first | rfl | assumption | exact mtR0 hm | exact mtR1 hm | exact mtR2 hm | exact mtR3 hm | exact mtR4 hm | exact mtR5 hm | exact mtR6 hm | exact ruR0 hr | exact ruR1 hr | exact ruR3 hr) ?_
  refine pw_bipush (v := nI 28) 11 rfl dX12_strays_9 rfl ?_
  refine pw_ialdN 12 rfl dX12_strays_11 (by first | rfl | assumption | exact rowS hh | exact mtS hm | exact ruS hr | exact mtA1 hm | exact mtA2 hm | exact mtA3 hm | exact mtA4 hm | exact mtA5 hm | exact mtA6 hm | exact mtA7 hm | exact ruA1 hr | exact ruA2 hr | exact ruA3 hr) (by omega) (by first | decide | omega) ?_
  rotate_left
  rw [e28]
  rcases inOf_cases (lo := 0) (hi := b 28) (by omega) w (by omega) with ⟨h, h1, h2, rfl, hi⟩ | ⟨hi, ho⟩
  · rcases inOf_cases (lo := 0) (hi := 10) (by decide) v (by decide) with ⟨p, g1, g2, rfl, hj⟩ | ⟨hj, ho⟩
    · have eq : qStrays (nI h) (nI p) n pc b (ruE rt) rw hd sw = (nI 0, stO (euc 40 (stU p (b 28) h (b 28)) (stL p (b 28) (b 28))) (stU p (b 28) h (b 28)) (stL p (b 28) (b 28))) := by unfold qStrays; rw [hi]; show inM (inOf 0 10 (nI p)) rw _ = _; rw [hj]; rfl
      generalize b 28 = T at eq ht h2
      obtain ⟨gg, hoo, hg0⟩ := eucOk_g (st_euc T (by omega) h (by omega) p (by omega) ht.1)
      have hgn : ¬ gg = 0 := fun z => by rw [z] at hg0; exact absurd hg0 (by decide)
      rw [hoo] at eq
      refine pw_istore_n 13 rfl dX12_strays_12 (by decide) ?_
      refine pw_iload_n 14 rfl dX12_strays_13 rfl ?_
      refine pw_iconst (v := nI 0) 15 rfl dX12_strays_14 rfl ?_
      refine pw_iload_n 16 rfl dX12_strays_15 rfl ?_
      refine pw_callSP (as := [_, _, _]) 19 rfl dX12_strays_16 mX12_98 sX12_in (m_in (d := d) _ _ _) ⟨rfl, by decide, by decide, show (parseMethodDescriptor yX12_in.desc).map (fun d => d.parameters.length) = some 3 by decide +kernel⟩ (by omega) (by decide) (Nat.le_of_ble_eq_true rfl) rfl ?_
      refine pw_if_eq (tgt := 32) 22 rfl dX12_strays_19 rfl (fun h19 => absurd h19 (by rw [inV_y h1 h2 (by omega)]; decide)) (fun h19 => ?_)
      refine pw_iload_n 23 rfl dX12_strays_22 rfl ?_
      refine pw_iconst (v := nI 0) 24 rfl dX12_strays_23 rfl ?_
      refine pw_bipush (v := nI 10) 26 rfl dX12_strays_24 rfl ?_
      refine pw_callSP (as := [_, _, _]) 29 rfl dX12_strays_26 mX12_98 sX12_in (m_in (d := d) _ _ _) ⟨rfl, by decide, by decide, show (parseMethodDescriptor yX12_in.desc).map (fun d => d.parameters.length) = some 3 by decide +kernel⟩ (by omega) (by decide) (Nat.le_of_ble_eq_true rfl) rfl ?_
      refine pw_if_ne (tgt := 34) 32 rfl dX12_strays_29 rfl (fun h29 => ?_) (fun h29 => absurd h29 (by rw [inV_y g1 g2 (by decide)]; decide))
      refine pw_lconst 35 rfl dX12_strays_34 rfl ?_
      refine pw_lstore 37 rfl dX12_strays_35 (by decide) ?_
      refine pw_lconst 38 rfl dX12_strays_37 rfl ?_
      refine pw_lstore 40 rfl dX12_strays_38 (by decide) ?_
      refine pw_iconst (v := nI 0) 41 rfl dX12_strays_40 rfl ?_
      refine pw_istore 43 rfl dX12_strays_41 (by decide) ?_
      rotate_left
      have L := nat_loop T (fun i => ∀ (x9 : Option Value), PW SM yX12_strays.cls cX12_strays 11 (d + 245) 43 [some (.ref 0), some (.int (nI h)), some (.int (nI p)), some (.int (nI T)), some (.long (stU p T h i)), none, some (.long (stL p T i)), none, some (.int (nI i)), x9, none] [] (I) (J) (RM rd (some 6)) (rX cX12_strays (some .int) (moP (g + 10000) (qOp (qStrays (nI h) (nI p)) (n, pc, b, us, kp, rw, tx, rt, hd, sw))))) ?_ ?_
      · exact L _
      · intro x9
        refine pw_iload 45 rfl dX12_strays_43 rfl ?_
        refine pw_iload_n 46 rfl dX12_strays_45 rfl ?_
        refine pw_icmp_ge (tgt := 103) 49 rfl dX12_strays_46 rfl (fun h46 => ?_) (fun h46 => absurd (by (simp (disch := omega) only [nI_leI, nI_ltI, nI_eq, show (0 : Int32) = nI 0 from rfl, not_true_eq_false, not_false_eq_true] <;> omega)) h46)
        refine pw_lload 105 rfl dX12_strays_103 rfl ?_
        refine pw_lload 107 rfl dX12_strays_105 rfl ?_
        refine pw_callSP (as := [_, _]) 110 rfl dX12_strays_107 mX12_332 sX12_common (m_common (d := d + 204) (f := 40) hoo) ⟨rfl, by decide, by decide, show (parseMethodDescriptor yX12_common.desc).map (fun d => d.parameters.length) = some 2 by decide +kernel⟩ (by omega) (by decide) (Nat.le_of_ble_eq_true rfl) rfl ?_
        refine pw_lstore 112 rfl dX12_strays_110 (by decide) ?_
        refine pw_aload_n 113 rfl dX12_strays_112 rfl ?_
        refine pw_iconst (v := nI 0) 114 rfl dX12_strays_113 rfl ?_
        refine pw_putI 117 rfl dX12_strays_114 fX12_92 w12_6 (by first | rfl | assumption | exact rowS hh | exact mtS hm | exact ruS hr | exact mtA1 hm | exact mtA2 hm | exact mtA3 hm | exact mtA4 hm | exact mtA5 hm | exact mtA6 hm | exact mtA7 hm | exact ruA1 hr | exact ruA2 hr | exact ruA3 hr) rfl rfl rfl ?_
        refine pw_aload_n 118 rfl dX12_strays_117 rfl ?_
        refine pw_lload 120 rfl dX12_strays_118 rfl ?_
        refine pw_lload 122 rfl dX12_strays_120 rfl ?_
        refine pw_ldiv 123 rfl dX12_strays_122 hgn ?_
        refine pw_callV (as := [_]) 126 rfl dX12_strays_123 mX12_236 vX12_tell (m_tell (d := d + 244) MN_0 (by decide)) (by first | rfl | assumption | exact rowS hh | exact mtS hm | exact ruS hr | exact mtA1 hm | exact mtA2 hm | exact mtA3 hm | exact mtA4 hm | exact mtA5 hm | exact mtA6 hm | exact mtA7 hm | exact ruA1 hr | exact ruA2 hr | exact ruA3 hr) rfl (by decide) ⟨rfl, by decide, by decide, show (parseMethodDescriptor yX12_tell.desc).map (fun d => d.parameters.length) = some 1 by decide +kernel⟩ (by omega) (by decide) (Nat.le_of_ble_eq_true rfl) rfl (fun r123 I123 J123 R123 c123 => ?_)
        obtain ⟨rfl, t1, t2, rfl⟩ := c123
        rotate_left
        refine pw_aload_n 127 rfl dX12_strays_126 rfl ?_
        refine pw_lload 129 rfl dX12_strays_127 rfl ?_
        refine pw_lload 131 rfl dX12_strays_129 rfl ?_
        refine pw_ldiv 132 rfl dX12_strays_131 hgn ?_
        refine pw_callV (as := [_]) 135 rfl dX12_strays_132 mX12_236 vX12_tell (m_tell (d := d + 244) t1 (by show (1 : Nat) < 12; decide)) (by first | rfl | assumption | exact rowS hh | exact mtS hm | exact ruS hr | exact mtA1 hm | exact mtA2 hm | exact mtA3 hm | exact mtA4 hm | exact mtA5 hm | exact mtA6 hm | exact mtA7 hm | exact ruA1 hr | exact ruA2 hr | exact ruA3 hr) rfl (by decide) ⟨rfl, by decide, by decide, show (parseMethodDescriptor yX12_tell.desc).map (fun d => d.parameters.length) = some 1 by decide +kernel⟩ (by omega) (by decide) (Nat.le_of_ble_eq_true rfl) rfl (fun r132 I132 J132 R132 c132 => ?_)
        obtain ⟨rfl, u1, u2, rfl⟩ := c132
        rotate_left
        refine pw_iconst (v := nI 0) 136 rfl dX12_strays_135 rfl ?_
        refine pw_iret dX12_strays_136 rfl ?_
        rotate_left
        have hf1 : ∀ a j, ¬ (a = 0 ∧ j = 6) → I132 a j = I a j := fun a j q => by rw [u2 a j q, t2 a j q, uI_ne (by omega)]
        exact moQ eq rfl (MA_rw hA0 (fun a j q => hf1 a j (by omega)) u1) ((MDg_f hD0 (hf1 _ _ (by omega)) (fun j => hf1 _ _ (by omega))).mono (by omega)) ⟨rd, rfl⟩
      · intro i hi2 ih x9
        by_cases hc : h ≤ i
        · have e1 : stU p T h (i + 1) = stU p T h i + stPt p T i := by rw [stU, if_pos hc]
          rw [e1] at ih
          refine pw_iload 45 rfl dX12_strays_43 rfl ?_
          refine pw_iload_n 46 rfl dX12_strays_45 rfl ?_
          refine pw_icmp_ge (tgt := 103) 49 rfl dX12_strays_46 rfl (fun h46 => absurd h46 (by (simp (disch := omega) only [nI_leI, nI_ltI, nI_eq, show (0 : Int32) = nI 0 from rfl, not_true_eq_false, not_false_eq_true] <;> omega))) (fun h46 => ?_)
          refine pw_iload_n 50 rfl dX12_strays_49 rfl ?_
          refine pw_i2l 51 rfl dX12_strays_50 ?_
          refine pw_iload 53 rfl dX12_strays_51 rfl ?_
          refine pw_callSP (as := [_, _]) 56 rfl dX12_strays_53 mX12_336 sX12_power (m_power (d := d + 244) (show i ≤ 100 by omega)) ⟨rfl, by decide, by decide, show (parseMethodDescriptor yX12_power.desc).map (fun d => d.parameters.length) = some 2 by decide +kernel⟩ (by omega) (by decide) (Nat.le_of_ble_eq_true rfl) rfl ?_
          refine pw_bipush (v := nI 10) 58 rfl dX12_strays_56 rfl ?_
          refine pw_iload_n 59 rfl dX12_strays_58 rfl ?_
          refine pw_isubN 60 rfl dX12_strays_59 (by omega) ?_
          refine pw_i2l 61 rfl dX12_strays_60 ?_
          refine pw_iload_n 62 rfl dX12_strays_61 rfl ?_
          refine pw_iconst (v := nI 1) 63 rfl dX12_strays_62 rfl ?_
          refine pw_isubN 64 rfl dX12_strays_63 (by omega) ?_
          refine pw_iload 66 rfl dX12_strays_64 rfl ?_
          refine pw_isubN 67 rfl dX12_strays_66 (by omega) ?_
          refine pw_callSP (as := [_, _]) 70 rfl dX12_strays_67 mX12_336 sX12_power (m_power (d := d + 244) (show T - 1 - i ≤ 100 by omega)) ⟨rfl, by decide, by decide, show (parseMethodDescriptor yX12_power.desc).map (fun d => d.parameters.length) = some 2 by decide +kernel⟩ (by omega) (by decide) (Nat.le_of_ble_eq_true rfl) rfl ?_
          refine pw_lmul 71 rfl dX12_strays_70 ?_
          refine pw_lstore 73 rfl dX12_strays_71 (by decide) ?_
          refine pw_lload 75 rfl dX12_strays_73 rfl ?_
          refine pw_lload 77 rfl dX12_strays_75 rfl ?_
          refine pw_ladd 78 rfl dX12_strays_77 ?_
          refine pw_lstore 80 rfl dX12_strays_78 (by decide) ?_
          refine pw_lload 82 rfl dX12_strays_80 rfl ?_
          refine pw_iload 84 rfl dX12_strays_82 rfl ?_
          refine pw_iload_n 85 rfl dX12_strays_84 rfl ?_
          refine pw_icmp_lt (tgt := 93) 88 rfl dX12_strays_85 rfl (fun h85 => absurd h85 (by (simp (disch := omega) only [nI_leI, nI_ltI, nI_eq, show (0 : Int32) = nI 0 from rfl, not_true_eq_false, not_false_eq_true] <;> omega))) (fun h85 => ?_)
          refine pw_lload 90 rfl dX12_strays_88 rfl ?_
          refine pw_goto (tgt := 94) dX12_strays_90 rfl ?_
          refine pw_ladd 95 rfl dX12_strays_94 ?_
          refine pw_lstore 97 rfl dX12_strays_95 (by decide) ?_
          refine pw_iincN 100 rfl dX12_strays_97 (by decide) rfl ?_
          refine pw_goto (tgt := 43) dX12_strays_100 rfl ?_
          rotate_left
          exact ih _
        · have e1 : stU p T h (i + 1) = stU p T h i + 0 := by rw [stU, if_neg hc]
          rw [e1] at ih
          refine pw_iload 45 rfl dX12_strays_43 rfl ?_
          refine pw_iload_n 46 rfl dX12_strays_45 rfl ?_
          refine pw_icmp_ge (tgt := 103) 49 rfl dX12_strays_46 rfl (fun h46 => absurd h46 (by (simp (disch := omega) only [nI_leI, nI_ltI, nI_eq, show (0 : Int32) = nI 0 from rfl, not_true_eq_false, not_false_eq_true] <;> omega))) (fun h46 => ?_)
          refine pw_iload_n 50 rfl dX12_strays_49 rfl ?_
          refine pw_i2l 51 rfl dX12_strays_50 ?_
          refine pw_iload 53 rfl dX12_strays_51 rfl ?_
          refine pw_callSP (as := [_, _]) 56 rfl dX12_strays_53 mX12_336 sX12_power (m_power (d := d + 244) (show i ≤ 100 by omega)) ⟨rfl, by decide, by decide, show (parseMethodDescriptor yX12_power.desc).map (fun d => d.parameters.length) = some 2 by decide +kernel⟩ (by omega) (by decide) (Nat.le_of_ble_eq_true rfl) rfl ?_
          refine pw_bipush (v := nI 10) 58 rfl dX12_strays_56 rfl ?_
          refine pw_iload_n 59 rfl dX12_strays_58 rfl ?_
          refine pw_isubN 60 rfl dX12_strays_59 (by omega) ?_
          refine pw_i2l 61 rfl dX12_strays_60 ?_
          refine pw_iload_n 62 rfl dX12_strays_61 rfl ?_
          refine pw_iconst (v := nI 1) 63 rfl dX12_strays_62 rfl ?_
          refine pw_isubN 64 rfl dX12_strays_63 (by omega) ?_
          refine pw_iload 66 rfl dX12_strays_64 rfl ?_
          refine pw_isubN 67 rfl dX12_strays_66 (by omega) ?_
          refine pw_callSP (as := [_, _]) 70 rfl dX12_strays_67 mX12_336 sX12_power (m_power (d := d + 244) (show T - 1 - i ≤ 100 by omega)) ⟨rfl, by decide, by decide, show (parseMethodDescriptor yX12_power.desc).map (fun d => d.parameters.length) = some 2 by decide +kernel⟩ (by omega) (by decide) (Nat.le_of_ble_eq_true rfl) rfl ?_
          refine pw_lmul 71 rfl dX12_strays_70 ?_
          refine pw_lstore 73 rfl dX12_strays_71 (by decide) ?_
          refine pw_lload 75 rfl dX12_strays_73 rfl ?_
          refine pw_lload 77 rfl dX12_strays_75 rfl ?_
          refine pw_ladd 78 rfl dX12_strays_77 ?_
          refine pw_lstore 80 rfl dX12_strays_78 (by decide) ?_
          refine pw_lload 82 rfl dX12_strays_80 rfl ?_
          refine pw_iload 84 rfl dX12_strays_82 rfl ?_
          refine pw_iload_n 85 rfl dX12_strays_84 rfl ?_
          refine pw_icmp_lt (tgt := 93) 88 rfl dX12_strays_85 rfl (fun h85 => ?_) (fun h85 => absurd (by (simp (disch := omega) only [nI_leI, nI_ltI, nI_eq, show (0 : Int32) = nI 0 from rfl, not_true_eq_false, not_false_eq_true] <;> omega)) h85)
          refine pw_lconst 94 rfl dX12_strays_93 rfl ?_
          refine pw_ladd 95 rfl dX12_strays_94 ?_
          refine pw_lstore 97 rfl dX12_strays_95 (by decide) ?_
          refine pw_iincN 100 rfl dX12_strays_97 (by decide) rfl ?_
          refine pw_goto (tgt := 43) dX12_strays_100 rfl ?_
          rotate_left
          exact ih _
    · refine pw_istore_n 13 rfl dX12_strays_12 (by decide) ?_
      refine pw_iload_n 14 rfl dX12_strays_13 rfl ?_
      refine pw_iconst (v := nI 0) 15 rfl dX12_strays_14 rfl ?_
      refine pw_iload_n 16 rfl dX12_strays_15 rfl ?_
      refine pw_callSP (as := [_, _, _]) 19 rfl dX12_strays_16 mX12_98 sX12_in (m_in (d := d) _ _ _) ⟨rfl, by decide, by decide, show (parseMethodDescriptor yX12_in.desc).map (fun d => d.parameters.length) = some 3 by decide +kernel⟩ (by omega) (by decide) (Nat.le_of_ble_eq_true rfl) rfl ?_
      refine pw_if_eq (tgt := 32) 22 rfl dX12_strays_19 rfl (fun h19 => absurd h19 (by rw [inV_y h1 h2 (by omega)]; decide)) (fun h19 => ?_)
      refine pw_iload_n 23 rfl dX12_strays_22 rfl ?_
      refine pw_iconst (v := nI 0) 24 rfl dX12_strays_23 rfl ?_
      refine pw_bipush (v := nI 10) 26 rfl dX12_strays_24 rfl ?_
      refine pw_callSP (as := [_, _, _]) 29 rfl dX12_strays_26 mX12_98 sX12_in (m_in (d := d) _ _ _) ⟨rfl, by decide, by decide, show (parseMethodDescriptor yX12_in.desc).map (fun d => d.parameters.length) = some 3 by decide +kernel⟩ (by omega) (by decide) (Nat.le_of_ble_eq_true rfl) rfl ?_
      refine pw_if_ne (tgt := 34) 32 rfl dX12_strays_29 rfl (fun h29 => absurd (by rw [inV_n ho]; rfl) h29) (fun h29 => ?_)
      refine pw_iconst (v := -1) 33 rfl dX12_strays_32 rfl ?_
      refine pw_iret dX12_strays_33 rfl ?_
      rotate_left
      exact moQ (by unfold qStrays; rw [hi]; show inM (inOf 0 10 v) rw _ = _; rw [hj]; rfl) rfl hA0 (hD0.mono (by omega)) ⟨rd, rfl⟩
  · refine pw_istore_n 13 rfl dX12_strays_12 (by decide) ?_
    refine pw_iload_n 14 rfl dX12_strays_13 rfl ?_
    refine pw_iconst (v := nI 0) 15 rfl dX12_strays_14 rfl ?_
    refine pw_iload_n 16 rfl dX12_strays_15 rfl ?_
    refine pw_callSP (as := [_, _, _]) 19 rfl dX12_strays_16 mX12_98 sX12_in (m_in (d := d) _ _ _) ⟨rfl, by decide, by decide, show (parseMethodDescriptor yX12_in.desc).map (fun d => d.parameters.length) = some 3 by decide +kernel⟩ (by omega) (by decide) (Nat.le_of_ble_eq_true rfl) rfl ?_
    refine pw_if_eq (tgt := 32) 22 rfl dX12_strays_19 rfl (fun h19 => ?_) (fun h19 => absurd (by rw [inV_n ho]; rfl) h19)
    refine pw_iconst (v := -1) 33 rfl dX12_strays_32 rfl ?_
    refine pw_iret dX12_strays_33 rfl ?_
    rotate_left
    exact moQ (by unfold qStrays; rw [hi]; rfl) rfl hA0 (hD0.mono (by omega)) ⟨rd, rfl⟩
theorem i32_ss (a x y : Int32) : a - x - y = a - (x + y) := Int32.sub_sub a x y
set_option maxRecDepth 100000 in
set_option maxHeartbeats 2000000 in
theorem m_gets {d x y v : Nat} {I : pI} {J : pJ} {R : pR} (hx : x < 10) (hy : y < 10) : PC SM (d + 1) yX12_gets cX12_gets 3 (some .int) [.int (nI x), .int (nI y), .int (nI v)] (I) (J) (R) (pPu (.int (wth x y v)) I J R) := by
  refine PC.of [some (.int (nI x)), some (.int (nI y)), some (.int (nI v))] rfl rfl (Nat.le_of_ble_eq_true rfl) ?_
  by_cases hc : y < x
  · rw [wth, if_pos hc]
    refine pw_iload_n 1 rfl dX12_gets_0 rfl ?_
    refine pw_iload_n 2 rfl dX12_gets_1 rfl ?_
    first | refine pw_iaddN 3 rfl dX12_gets_2 ?_ | refine pw_iadd 3 rfl dX12_gets_2 ?_
    refine pw_iconst (v := nI 2) 4 rfl dX12_gets_3 rfl ?_
    refine pw_idivN 5 rfl dX12_gets_4 (by omega) (by omega) (by omega) ?_
    refine pw_iload_n 6 rfl dX12_gets_5 rfl ?_
    refine pw_iload_n 7 rfl dX12_gets_6 rfl ?_
    refine pw_icmp_le (tgt := 14) 10 rfl dX12_gets_7 rfl (fun h7 => absurd h7 (by (simp (disch := omega) only [nI_leI, nI_ltI, nI_eq, show (0 : Int32) = nI 0 from rfl, not_true_eq_false, not_false_eq_true] <;> omega))) (fun h7 => ?_)
    refine pw_iload_n 11 rfl dX12_gets_10 rfl ?_
    refine pw_goto (tgt := 15) dX12_gets_11 rfl ?_
    refine pw_iadd 16 rfl dX12_gets_15 ?_
    refine pw_iload_n 17 rfl dX12_gets_16 rfl ?_
    refine pw_isub 18 rfl dX12_gets_17 ?_
    refine pw_iconst (v := nI 0) 19 rfl dX12_gets_18 rfl ?_
    refine pw_iload_n 20 rfl dX12_gets_19 rfl ?_
    refine pw_iconst (v := nI 4) 21 rfl dX12_gets_20 rfl ?_
    refine pw_isub 22 rfl dX12_gets_21 ?_
    refine pw_mmax 25 rfl dX12_gets_22 mX12_195 (Nat.le_of_ble_eq_true rfl) ?_
    rotate_left
    rw [nI_subm (by omega) (by omega)]
    refine pw_isub 26 rfl dX12_gets_25 ?_
    rotate_left
    rw [i32_ss, nI_add x]
    refine pw_iret dX12_gets_26 rfl ?_
    rotate_left
    exact ⟨rfl, rfl, rfl, rfl⟩
  · rw [wth, if_neg hc]
    refine pw_iload_n 1 rfl dX12_gets_0 rfl ?_
    refine pw_iload_n 2 rfl dX12_gets_1 rfl ?_
    first | refine pw_iaddN 3 rfl dX12_gets_2 ?_ | refine pw_iadd 3 rfl dX12_gets_2 ?_
    refine pw_iconst (v := nI 2) 4 rfl dX12_gets_3 rfl ?_
    refine pw_idivN 5 rfl dX12_gets_4 (by omega) (by omega) (by omega) ?_
    refine pw_iload_n 6 rfl dX12_gets_5 rfl ?_
    refine pw_iload_n 7 rfl dX12_gets_6 rfl ?_
    refine pw_icmp_le (tgt := 14) 10 rfl dX12_gets_7 rfl (fun h7 => ?_) (fun h7 => absurd (by (simp (disch := omega) only [nI_leI, nI_ltI, nI_eq, show (0 : Int32) = nI 0 from rfl, not_true_eq_false, not_false_eq_true] <;> omega)) h7)
    refine pw_iconst (v := nI 0) 15 rfl dX12_gets_14 rfl ?_
    refine pw_iadd 16 rfl dX12_gets_15 ?_
    refine pw_iload_n 17 rfl dX12_gets_16 rfl ?_
    refine pw_isub 18 rfl dX12_gets_17 ?_
    refine pw_iconst (v := nI 0) 19 rfl dX12_gets_18 rfl ?_
    refine pw_iload_n 20 rfl dX12_gets_19 rfl ?_
    refine pw_iconst (v := nI 4) 21 rfl dX12_gets_20 rfl ?_
    refine pw_isub 22 rfl dX12_gets_21 ?_
    refine pw_mmax 25 rfl dX12_gets_22 mX12_195 (Nat.le_of_ble_eq_true rfl) ?_
    rotate_left
    rw [nI_subm (by omega) (by omega)]
    refine pw_isub 26 rfl dX12_gets_25 ?_
    rotate_left
    rw [i32_ss, nI_add x]
    refine pw_iret dX12_gets_26 rfl ?_
    rotate_left
    exact ⟨rfl, rfl, rfl, rfl⟩
set_option maxRecDepth 100000 in
set_option maxHeartbeats 2000000 in
theorem m_isBest {d x y v : Nat} {I : pI} {J : pJ} {R : pR} (hx : x < 10) (hy : y < 10) : PC SM (d + 2) yX12_isBest cX12_isBest 4 (some .boolean) [.int (nI x), .int (nI y), .int (nI v)] (I) (J) (R) (pPu (.int (nI (if bstA x y v 10 = true then 1 else 0))) I J R) := by
  refine PC.of [some (.int (nI x)), some (.int (nI y)), some (.int (nI v)), none] rfl rfl (Nat.le_of_ble_eq_true rfl) ?_
  refine pw_iconst (v := nI 0) 1 rfl dX12_isBest_0 rfl ?_
  refine pw_istore_n 2 rfl dX12_isBest_1 (by decide) ?_
  rotate_left
  have L := nat_loop 10 (fun z => bstA x y v z = true → PW SM yX12_isBest.cls cX12_isBest 4 (d + 2) 2 [some (.int (nI x)), some (.int (nI y)), some (.int (nI v)), some (.int (nI z))] [] (I) (J) (R) (rX cX12_isBest (some .boolean) (pPu (.int (nI (if bstA x y v 10 = true then 1 else 0))) I J R))) ?_ ?_
  · exact L rfl
  · intro hb
    rw [if_pos hb]
    refine pw_iload_n 3 rfl dX12_isBest_2 rfl ?_
    refine pw_bipush (v := nI 9) 5 rfl dX12_isBest_3 rfl ?_
    refine pw_icmp_gt (tgt := 31) 8 rfl dX12_isBest_5 rfl (fun h5 => ?_) (fun h5 => absurd (by (simp (disch := omega) only [nI_leI, nI_ltI, nI_eq, show (0 : Int32) = nI 0 from rfl, not_true_eq_false, not_false_eq_true] <;> omega)) h5)
    refine pw_iconst (v := nI 1) 32 rfl dX12_isBest_31 rfl ?_
    refine pw_iret dX12_isBest_32 rfl ?_
    rotate_left
    exact ⟨rfl, rfl, rfl, rfl⟩
  · intro z hz ih hb
    by_cases hc : wth z y v ≤ wth x y v
    · refine pw_iload_n 3 rfl dX12_isBest_2 rfl ?_
      refine pw_bipush (v := nI 9) 5 rfl dX12_isBest_3 rfl ?_
      refine pw_icmp_gt (tgt := 31) 8 rfl dX12_isBest_5 rfl (fun h5 => absurd h5 (by (simp (disch := omega) only [nI_leI, nI_ltI, nI_eq, show (0 : Int32) = nI 0 from rfl, not_true_eq_false, not_false_eq_true] <;> omega))) (fun h5 => ?_)
      refine pw_iload_n 9 rfl dX12_isBest_8 rfl ?_
      refine pw_iload_n 10 rfl dX12_isBest_9 rfl ?_
      refine pw_iload_n 11 rfl dX12_isBest_10 rfl ?_
      refine pw_callSP (as := [_, _, _]) 14 rfl dX12_isBest_11 mX12_346 sX12_gets (m_gets (d := d) hz hy) ⟨rfl, by decide, by decide, show (parseMethodDescriptor yX12_gets.desc).map (fun d => d.parameters.length) = some 3 by decide +kernel⟩ (by omega) (by decide) (Nat.le_of_ble_eq_true rfl) rfl ?_
      refine pw_iload_n 15 rfl dX12_isBest_14 rfl ?_
      refine pw_iload_n 16 rfl dX12_isBest_15 rfl ?_
      refine pw_iload_n 17 rfl dX12_isBest_16 rfl ?_
      refine pw_callSP (as := [_, _, _]) 20 rfl dX12_isBest_17 mX12_346 sX12_gets (m_gets (d := d) hx hy) ⟨rfl, by decide, by decide, show (parseMethodDescriptor yX12_gets.desc).map (fun d => d.parameters.length) = some 3 by decide +kernel⟩ (by omega) (by decide) (Nat.le_of_ble_eq_true rfl) rfl ?_
      refine pw_icmp_le (tgt := 25) 23 rfl dX12_isBest_20 rfl (fun h20 => ?_) (fun h20 => absurd hc h20)
      refine pw_iincN 28 rfl dX12_isBest_25 (by decide) rfl ?_
      refine pw_goto (tgt := 2) dX12_isBest_28 rfl ?_
      rotate_left
      exact ih (by rw [bstA, hb, decide_eq_true hc]; rfl)
    · rw [if_neg (by rw [bst_false hc 10 hz]; decide)]
      refine pw_iload_n 3 rfl dX12_isBest_2 rfl ?_
      refine pw_bipush (v := nI 9) 5 rfl dX12_isBest_3 rfl ?_
      refine pw_icmp_gt (tgt := 31) 8 rfl dX12_isBest_5 rfl (fun h5 => absurd h5 (by (simp (disch := omega) only [nI_leI, nI_ltI, nI_eq, show (0 : Int32) = nI 0 from rfl, not_true_eq_false, not_false_eq_true] <;> omega))) (fun h5 => ?_)
      refine pw_iload_n 9 rfl dX12_isBest_8 rfl ?_
      refine pw_iload_n 10 rfl dX12_isBest_9 rfl ?_
      refine pw_iload_n 11 rfl dX12_isBest_10 rfl ?_
      refine pw_callSP (as := [_, _, _]) 14 rfl dX12_isBest_11 mX12_346 sX12_gets (m_gets (d := d) hz hy) ⟨rfl, by decide, by decide, show (parseMethodDescriptor yX12_gets.desc).map (fun d => d.parameters.length) = some 3 by decide +kernel⟩ (by omega) (by decide) (Nat.le_of_ble_eq_true rfl) rfl ?_
      refine pw_iload_n 15 rfl dX12_isBest_14 rfl ?_
      refine pw_iload_n 16 rfl dX12_isBest_15 rfl ?_
      refine pw_iload_n 17 rfl dX12_isBest_16 rfl ?_
      refine pw_callSP (as := [_, _, _]) 20 rfl dX12_isBest_17 mX12_346 sX12_gets (m_gets (d := d) hx hy) ⟨rfl, by decide, by decide, show (parseMethodDescriptor yX12_gets.desc).map (fun d => d.parameters.length) = some 3 by decide +kernel⟩ (by omega) (by decide) (Nat.le_of_ble_eq_true rfl) rfl ?_
      refine pw_icmp_le (tgt := 25) 23 rfl dX12_isBest_20 rfl (fun h20 => absurd h20 hc) (fun h20 => ?_)
      refine pw_iconst (v := nI 0) 24 rfl dX12_isBest_23 rfl ?_
      refine pw_iret dX12_isBest_24 rfl ?_
      rotate_left
      exact ⟨rfl, rfl, rfl, rfl⟩
set_option maxRecDepth 100000 in
set_option maxHeartbeats 2000000 in
theorem mo_rests {d g : Nat} {s : aSt} {rd : Option Nat} {I : pI} {J : pJ} (hA : MA I J s) (hD : MDg g I) (hg : g ≤ 500000000) (hW : WA s) (v : Int32) : PC SM (d + 245) yX12_rests cX12_rests 5 (some .int) [.ref 0, .int v] (I) (J) (RM rd (some 6)) (moP (g + 10000) (qOp (qRests v) s)) := by
  refine PC.of [some (.ref 0), some (.int v), none, none, none] rfl rfl (Nat.le_of_ble_eq_true rfl) ?_
  obtain ⟨n, pc, b, us, kp, rw, tx, rt, hd, sw⟩ := s
  refine pw_aload_n 1 rfl dX12_rests_0 rfl ?_
  refine pw_iconst (v := nI 0) 2 rfl dX12_rests_1 rfl ?_
  refine pw_putI 5 rfl dX12_rests_2 fX12_88 w12_7 (by first | rfl | assumption | exact rowS hh | exact mtS hm | exact ruS hr | exact mtA1 hm | exact mtA2 hm | exact mtA3 hm | exact mtA4 hm | exact mtA5 hm | exact mtA6 hm | exact mtA7 hm | exact ruA1 hr | exact ruA2 hr | exact ruA3 hr) rfl rfl rfl ?_
  rotate_left
  have hA0 := MA_thr (v := nI 0) hA
  have hD0 : MDg g (uI I 0 7 (nI 0)) := MDg_f hD (uI_ne (by omega)) (fun j => uI_ne (by omega))
  clear hA hD
  generalize uI I 0 7 (nI 0) = I at hA0 hD0 ⊢
  obtain ⟨mC, mB, mT, mN, mR, mU, mK, mH, mG⟩ := id hA0
  obtain ⟨aW, aU, aK⟩ := id hW
  have hE := MSt_A hA0
  have hn7 := mC.1
  have hn := mC.2.1
  rcases inOf_cases (lo := 0) (hi := 20) (by decide) v (by decide) with ⟨N, h1, h2, rfl, hi⟩ | ⟨hi, ho⟩
  · have eq : qRests (nI N) n pc b (ruE rt) rw hd sw = (nI (cntP (rsP N) 100), rsO (fstL (rsP N) 100)) := by unfold qRests; rw [hi]; rfl
    refine pw_iload_n 6 rfl dX12_rests_5 rfl ?_
    refine pw_iconst (v := nI 0) 7 rfl dX12_rests_6 rfl ?_
    refine pw_bipush (v := nI 20) 9 rfl dX12_rests_7 rfl ?_
    refine pw_callSP (as := [_, _, _]) 12 rfl dX12_rests_9 mX12_98 sX12_in (m_in (d := d) _ _ _) ⟨rfl, by decide, by decide, show (parseMethodDescriptor yX12_in.desc).map (fun d => d.parameters.length) = some 3 by decide +kernel⟩ (by omega) (by decide) (Nat.le_of_ble_eq_true rfl) rfl ?_
    refine pw_if_ne (tgt := 17) 15 rfl dX12_rests_12 rfl (fun h12 => ?_) (fun h12 => absurd h12 (by rw [inV_y h1 h2 (by decide)]; decide))
    refine pw_iconst (v := nI 0) 18 rfl dX12_rests_17 rfl ?_
    refine pw_istore_n 19 rfl dX12_rests_18 (by decide) ?_
    refine pw_aload_n 20 rfl dX12_rests_19 rfl ?_
    refine pw_iconst (v := nI 0) 21 rfl dX12_rests_20 rfl ?_
    refine pw_putI 24 rfl dX12_rests_21 fX12_92 w12_6 (by first | rfl | assumption | exact rowS hh | exact mtS hm | exact ruS hr | exact mtA1 hm | exact mtA2 hm | exact mtA3 hm | exact mtA4 hm | exact mtA5 hm | exact mtA6 hm | exact mtA7 hm | exact ruA1 hr | exact ruA2 hr | exact ruA3 hr) rfl rfl rfl ?_
    refine pw_iconst (v := nI 0) 25 rfl dX12_rests_24 rfl ?_
    refine pw_istore_n 26 rfl dX12_rests_25 (by decide) ?_
    rotate_left
    have L := nat_loop 10 (fun x => ∀ (I' : pI) (J' : pJ) (x4 : Option Value), MN I' J' (rsO (fstL (rsP N) (10 * x))) → (∀ a j, ¬ (a = 0 ∧ j = 6) → I' a j = I a j) → PW SM yX12_rests.cls cX12_rests 5 (d + 245) 26 [some (.ref 0), some (.int (nI N)), some (.int (nI (cntP (rsP N) (10 * x)))), some (.int (nI x)), x4] [] (I') (J') (RM rd (some 6)) (rX cX12_rests (some .int) (moP (g + 10000) (qOp (qRests (nI N)) (n, pc, b, us, kp, rw, tx, rt, hd, sw))))) ?_ ?_
    · exact L _ _ none MN_0 (fun a j q => uI_ne (by omega))
    · intro I' J' x4 p1 p2
      refine pw_iload_n 27 rfl dX12_rests_26 rfl ?_
      refine pw_bipush (v := nI 9) 29 rfl dX12_rests_27 rfl ?_
      refine pw_icmp_gt (tgt := 97) 32 rfl dX12_rests_29 rfl (fun h29 => ?_) (fun h29 => absurd (by (simp (disch := omega) only [nI_leI, nI_ltI, nI_eq, show (0 : Int32) = nI 0 from rfl, not_true_eq_false, not_false_eq_true] <;> omega)) h29)
      refine pw_iload_n 98 rfl dX12_rests_97 rfl ?_
      refine pw_iret dX12_rests_98 rfl ?_
      rotate_left
      exact moQ eq rfl (MA_rw hA0 (fun a j q => p2 a j (by omega)) p1) ((MDg_f hD0 (p2 _ _ (by omega)) (fun j => p2 _ _ (by omega))).mono (by omega)) ⟨rd, rfl⟩
    · intro x hx ih I' J' x4 p1 p2
      refine pw_iload_n 27 rfl dX12_rests_26 rfl ?_
      refine pw_bipush (v := nI 9) 29 rfl dX12_rests_27 rfl ?_
      refine pw_icmp_gt (tgt := 97) 32 rfl dX12_rests_29 rfl (fun h29 => absurd h29 (by (simp (disch := omega) only [nI_leI, nI_ltI, nI_eq, show (0 : Int32) = nI 0 from rfl, not_true_eq_false, not_false_eq_true] <;> omega))) (fun h29 => ?_)
      refine pw_iconst (v := nI 0) 33 rfl dX12_rests_32 rfl ?_
      refine pw_istore 35 rfl dX12_rests_33 (by decide) ?_
      rotate_left
      have L2 := nat_loop 10 (fun y => ∀ (I' : pI) (J' : pJ), MN I' J' (rsO (fstL (rsP N) (10 * x + y))) → (∀ a j, ¬ (a = 0 ∧ j = 6) → I' a j = I a j) → PW SM yX12_rests.cls cX12_rests 5 (d + 245) 35 [some (.ref 0), some (.int (nI N)), some (.int (nI (cntP (rsP N) (10 * x + y)))), some (.int (nI x)), some (.int (nI y))] [] (I') (J') (RM rd (some 6)) (rX cX12_rests (some .int) (moP (g + 10000) (qOp (qRests (nI N)) (n, pc, b, us, kp, rw, tx, rt, hd, sw))))) ?_ ?_
      · exact L2 I' J' p1 p2
      · intro I2 J2 r1 r2
        refine pw_iload 37 rfl dX12_rests_35 rfl ?_
        refine pw_bipush (v := nI 9) 39 rfl dX12_rests_37 rfl ?_
        refine pw_icmp_gt (tgt := 91) 42 rfl dX12_rests_39 rfl (fun h39 => ?_) (fun h39 => absurd (by (simp (disch := omega) only [nI_leI, nI_ltI, nI_eq, show (0 : Int32) = nI 0 from rfl, not_true_eq_false, not_false_eq_true] <;> omega)) h39)
        refine pw_iincN 94 rfl dX12_rests_91 (by decide) rfl ?_
        refine pw_goto (tgt := 26) dX12_rests_94 rfl ?_
        rotate_left
        exact ih I2 J2 _ (by rw [show 10 * (x + 1) = 10 * x + 10 by omega]; exact r1) r2
      · intro y hy ih2 I2 J2 r1 r2
        have hcl := cntP_le (rsP N) (10 * x + y)
        have hrs := rsP_at (v := N) (x := x) hy
        rw [← Nat.add_assoc] at ih2
        cases b1 : bstA x y N 10
        · have ho : rsP N (10 * x + y) = false := by rw [hrs, b1]; rfl
          rw [fstL_n ho, cntP_n ho] at ih2
          refine pw_iload 37 rfl dX12_rests_35 rfl ?_
          refine pw_bipush (v := nI 9) 39 rfl dX12_rests_37 rfl ?_
          refine pw_icmp_gt (tgt := 91) 42 rfl dX12_rests_39 rfl (fun h39 => absurd h39 (by (simp (disch := omega) only [nI_leI, nI_ltI, nI_eq, show (0 : Int32) = nI 0 from rfl, not_true_eq_false, not_false_eq_true] <;> omega))) (fun h39 => ?_)
          refine pw_iload_n 43 rfl dX12_rests_42 rfl ?_
          refine pw_iload 45 rfl dX12_rests_43 rfl ?_
          refine pw_iload_n 46 rfl dX12_rests_45 rfl ?_
          refine pw_callSP (as := [_, _, _]) 49 rfl dX12_rests_46 mX12_349 sX12_isBest (m_isBest (d := d + 242) hx hy) ⟨rfl, by decide, by decide, show (parseMethodDescriptor yX12_isBest.desc).map (fun d => d.parameters.length) = some 3 by decide +kernel⟩ (by omega) (by decide) (Nat.le_of_ble_eq_true rfl) rfl ?_
          refine pw_if_eq (tgt := 85) 52 rfl dX12_rests_49 rfl (fun h49 => ?_) (fun h49 => absurd (by rw [b1]; rfl) h49)
          refine pw_iincN 88 rfl dX12_rests_85 (by decide) rfl ?_
          refine pw_goto (tgt := 35) dX12_rests_88 rfl ?_
          rotate_left
          exact ih2 I2 J2 r1 r2
        · cases b2 : bstA y x N 10
          · have ho : rsP N (10 * x + y) = false := by rw [hrs, b1, b2]; rfl
            rw [fstL_n ho, cntP_n ho] at ih2
            refine pw_iload 37 rfl dX12_rests_35 rfl ?_
            refine pw_bipush (v := nI 9) 39 rfl dX12_rests_37 rfl ?_
            refine pw_icmp_gt (tgt := 91) 42 rfl dX12_rests_39 rfl (fun h39 => absurd h39 (by (simp (disch := omega) only [nI_leI, nI_ltI, nI_eq, show (0 : Int32) = nI 0 from rfl, not_true_eq_false, not_false_eq_true] <;> omega))) (fun h39 => ?_)
            refine pw_iload_n 43 rfl dX12_rests_42 rfl ?_
            refine pw_iload 45 rfl dX12_rests_43 rfl ?_
            refine pw_iload_n 46 rfl dX12_rests_45 rfl ?_
            refine pw_callSP (as := [_, _, _]) 49 rfl dX12_rests_46 mX12_349 sX12_isBest (m_isBest (d := d + 242) hx hy) ⟨rfl, by decide, by decide, show (parseMethodDescriptor yX12_isBest.desc).map (fun d => d.parameters.length) = some 3 by decide +kernel⟩ (by omega) (by decide) (Nat.le_of_ble_eq_true rfl) rfl ?_
            refine pw_if_eq (tgt := 85) 52 rfl dX12_rests_49 rfl (fun h49 => absurd h49 (by rw [b1]; decide)) (fun h49 => ?_)
            refine pw_iload 54 rfl dX12_rests_52 rfl ?_
            refine pw_iload_n 55 rfl dX12_rests_54 rfl ?_
            refine pw_iload_n 56 rfl dX12_rests_55 rfl ?_
            refine pw_callSP (as := [_, _, _]) 59 rfl dX12_rests_56 mX12_349 sX12_isBest (m_isBest (d := d + 242) hy hx) ⟨rfl, by decide, by decide, show (parseMethodDescriptor yX12_isBest.desc).map (fun d => d.parameters.length) = some 3 by decide +kernel⟩ (by omega) (by decide) (Nat.le_of_ble_eq_true rfl) rfl ?_
            refine pw_if_ne (tgt := 65) 62 rfl dX12_rests_59 rfl (fun h59 => absurd (by rw [b2]; rfl) h59) (fun h59 => ?_)
            refine pw_goto (tgt := 85) dX12_rests_62 rfl ?_
            refine pw_iincN 88 rfl dX12_rests_85 (by decide) rfl ?_
            refine pw_goto (tgt := 35) dX12_rests_88 rfl ?_
            rotate_left
            exact ih2 I2 J2 r1 r2
          · have ho : rsP N (10 * x + y) = true := by rw [hrs, b1, b2]; rfl
            rw [cntP_y ho] at ih2
            by_cases h0 : cntP (rsP N) (10 * x + y) = 0
            · rw [fstL_y h0 ho] at ih2
              rw [(fstL_cnt _ _).mpr h0] at r1
              refine pw_iload 37 rfl dX12_rests_35 rfl ?_
              refine pw_bipush (v := nI 9) 39 rfl dX12_rests_37 rfl ?_
              refine pw_icmp_gt (tgt := 91) 42 rfl dX12_rests_39 rfl (fun h39 => absurd h39 (by (simp (disch := omega) only [nI_leI, nI_ltI, nI_eq, show (0 : Int32) = nI 0 from rfl, not_true_eq_false, not_false_eq_true] <;> omega))) (fun h39 => ?_)
              refine pw_iload_n 43 rfl dX12_rests_42 rfl ?_
              refine pw_iload 45 rfl dX12_rests_43 rfl ?_
              refine pw_iload_n 46 rfl dX12_rests_45 rfl ?_
              refine pw_callSP (as := [_, _, _]) 49 rfl dX12_rests_46 mX12_349 sX12_isBest (m_isBest (d := d + 242) hx hy) ⟨rfl, by decide, by decide, show (parseMethodDescriptor yX12_isBest.desc).map (fun d => d.parameters.length) = some 3 by decide +kernel⟩ (by omega) (by decide) (Nat.le_of_ble_eq_true rfl) rfl ?_
              refine pw_if_eq (tgt := 85) 52 rfl dX12_rests_49 rfl (fun h49 => absurd h49 (by rw [b1]; decide)) (fun h49 => ?_)
              refine pw_iload 54 rfl dX12_rests_52 rfl ?_
              refine pw_iload_n 55 rfl dX12_rests_54 rfl ?_
              refine pw_iload_n 56 rfl dX12_rests_55 rfl ?_
              refine pw_callSP (as := [_, _, _]) 59 rfl dX12_rests_56 mX12_349 sX12_isBest (m_isBest (d := d + 242) hy hx) ⟨rfl, by decide, by decide, show (parseMethodDescriptor yX12_isBest.desc).map (fun d => d.parameters.length) = some 3 by decide +kernel⟩ (by omega) (by decide) (Nat.le_of_ble_eq_true rfl) rfl ?_
              refine pw_if_ne (tgt := 65) 62 rfl dX12_rests_59 rfl (fun h59 => ?_) (fun h59 => absurd h59 (by rw [b2]; decide))
              refine pw_iload_n 66 rfl dX12_rests_65 rfl ?_
              refine pw_if_ne (tgt := 82) 69 rfl dX12_rests_66 rfl (fun h66 => absurd (by rw [h0]; rfl) h66) (fun h66 => ?_)
              refine pw_aload_n 70 rfl dX12_rests_69 rfl ?_
              refine pw_iload_n 71 rfl dX12_rests_70 rfl ?_
              refine pw_i2l 72 rfl dX12_rests_71 ?_
              refine pw_callV (as := [_]) 75 rfl dX12_rests_72 mX12_236 vX12_tell (m_tell (d := d + 244) r1 (by decide)) (by first | rfl | assumption | exact rowS hh | exact mtS hm | exact ruS hr | exact mtA1 hm | exact mtA2 hm | exact mtA3 hm | exact mtA4 hm | exact mtA5 hm | exact mtA6 hm | exact mtA7 hm | exact ruA1 hr | exact ruA2 hr | exact ruA3 hr) rfl (by decide) ⟨rfl, by decide, by decide, show (parseMethodDescriptor yX12_tell.desc).map (fun d => d.parameters.length) = some 1 by decide +kernel⟩ (by omega) (by decide) (Nat.le_of_ble_eq_true rfl) rfl (fun r72 I72 J72 R72 c72 => ?_)
              obtain ⟨rfl, t1, t2, rfl⟩ := c72
              rotate_left
              refine pw_aload_n 76 rfl dX12_rests_75 rfl ?_
              refine pw_iload 78 rfl dX12_rests_76 rfl ?_
              refine pw_i2l 79 rfl dX12_rests_78 ?_
              refine pw_callV (as := [_]) 82 rfl dX12_rests_79 mX12_236 vX12_tell (m_tell (d := d + 244) t1 (by show (1 : Nat) < 12; decide)) (by first | rfl | assumption | exact rowS hh | exact mtS hm | exact ruS hr | exact mtA1 hm | exact mtA2 hm | exact mtA3 hm | exact mtA4 hm | exact mtA5 hm | exact mtA6 hm | exact mtA7 hm | exact ruA1 hr | exact ruA2 hr | exact ruA3 hr) rfl (by decide) ⟨rfl, by decide, by decide, show (parseMethodDescriptor yX12_tell.desc).map (fun d => d.parameters.length) = some 1 by decide +kernel⟩ (by omega) (by decide) (Nat.le_of_ble_eq_true rfl) rfl (fun r79 I79 J79 R79 c79 => ?_)
              obtain ⟨rfl, u1, u2, rfl⟩ := c79
              rotate_left
              refine pw_iincN 85 rfl dX12_rests_82 (by decide) rfl ?_
              refine pw_iincN 88 rfl dX12_rests_85 (by decide) rfl ?_
              refine pw_goto (tgt := 35) dX12_rests_88 rfl ?_
              rotate_left
              refine ih2 _ _ ?_ (fun a j q => by rw [u2 a j q, t2 a j q, r2 a j q])
              rw [show rsO (some (10 * x + y)) = [lI x, lI y] by rw [rsO, show (10 * x + y) / 10 = x by omega, show (10 * x + y) % 10 = y by omega]]
              exact u1
            · obtain ⟨f, hf⟩ : ∃ f, fstL (rsP N) (10 * x + y) = some f := by
                cases e : fstL (rsP N) (10 * x + y) with
                | none => exact absurd ((fstL_cnt _ _).mp e) h0
                | some f => exact ⟨f, rfl⟩
              rw [fstL_s hf] at ih2
              rw [hf] at r1
              refine pw_iload 37 rfl dX12_rests_35 rfl ?_
              refine pw_bipush (v := nI 9) 39 rfl dX12_rests_37 rfl ?_
              refine pw_icmp_gt (tgt := 91) 42 rfl dX12_rests_39 rfl (fun h39 => absurd h39 (by (simp (disch := omega) only [nI_leI, nI_ltI, nI_eq, show (0 : Int32) = nI 0 from rfl, not_true_eq_false, not_false_eq_true] <;> omega))) (fun h39 => ?_)
              refine pw_iload_n 43 rfl dX12_rests_42 rfl ?_
              refine pw_iload 45 rfl dX12_rests_43 rfl ?_
              refine pw_iload_n 46 rfl dX12_rests_45 rfl ?_
              refine pw_callSP (as := [_, _, _]) 49 rfl dX12_rests_46 mX12_349 sX12_isBest (m_isBest (d := d + 242) hx hy) ⟨rfl, by decide, by decide, show (parseMethodDescriptor yX12_isBest.desc).map (fun d => d.parameters.length) = some 3 by decide +kernel⟩ (by omega) (by decide) (Nat.le_of_ble_eq_true rfl) rfl ?_
              refine pw_if_eq (tgt := 85) 52 rfl dX12_rests_49 rfl (fun h49 => absurd h49 (by rw [b1]; decide)) (fun h49 => ?_)
              refine pw_iload 54 rfl dX12_rests_52 rfl ?_
              refine pw_iload_n 55 rfl dX12_rests_54 rfl ?_
              refine pw_iload_n 56 rfl dX12_rests_55 rfl ?_
              refine pw_callSP (as := [_, _, _]) 59 rfl dX12_rests_56 mX12_349 sX12_isBest (m_isBest (d := d + 242) hy hx) ⟨rfl, by decide, by decide, show (parseMethodDescriptor yX12_isBest.desc).map (fun d => d.parameters.length) = some 3 by decide +kernel⟩ (by omega) (by decide) (Nat.le_of_ble_eq_true rfl) rfl ?_
              refine pw_if_ne (tgt := 65) 62 rfl dX12_rests_59 rfl (fun h59 => ?_) (fun h59 => absurd h59 (by rw [b2]; decide))
              refine pw_iload_n 66 rfl dX12_rests_65 rfl ?_
              refine pw_if_ne (tgt := 82) 69 rfl dX12_rests_66 rfl (fun h66 => ?_) (fun h66 => absurd h66 (nI_ne0 (by omega) (by omega)))
              refine pw_iincN 85 rfl dX12_rests_82 (by decide) rfl ?_
              refine pw_iincN 88 rfl dX12_rests_85 (by decide) rfl ?_
              refine pw_goto (tgt := 35) dX12_rests_88 rfl ?_
              rotate_left
              exact ih2 I2 J2 r1 r2
  · refine pw_iload_n 6 rfl dX12_rests_5 rfl ?_
    refine pw_iconst (v := nI 0) 7 rfl dX12_rests_6 rfl ?_
    refine pw_bipush (v := nI 20) 9 rfl dX12_rests_7 rfl ?_
    refine pw_callSP (as := [_, _, _]) 12 rfl dX12_rests_9 mX12_98 sX12_in (m_in (d := d) _ _ _) ⟨rfl, by decide, by decide, show (parseMethodDescriptor yX12_in.desc).map (fun d => d.parameters.length) = some 3 by decide +kernel⟩ (by omega) (by decide) (Nat.le_of_ble_eq_true rfl) rfl ?_
    refine pw_if_ne (tgt := 17) 15 rfl dX12_rests_12 rfl (fun h12 => absurd (by rw [inV_n ho]; rfl) h12) (fun h12 => ?_)
    refine pw_iconst (v := -1) 16 rfl dX12_rests_15 rfl ?_
    refine pw_iret dX12_rests_16 rfl ?_
    rotate_left
    exact moQ (by unfold qRests; rw [hi]; rfl) rfl hA0 (hD0.mono (by omega)) ⟨rd, rfl⟩
