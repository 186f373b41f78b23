theorem all_V : ∀ n, n ≤ 7 → nI 1 <<< (nI n &&& 31) - nI 1 = nI (2 ^ n - 1) := by decide +kernel
set_option maxRecDepth 100000 in
set_option maxHeartbeats 2000000 in
theorem m_all {d n : Nat} {I : pI} {J : pJ} {R : pR} (hn : I 0 1 = nI n) (h7 : n ≤ 7) : PC SM (d) yX12_all cX12_all 1 (some .int) [.ref 0] (I) (J) (R) (pPu (.int (nI (2 ^ n - 1))) I J R) := by
  refine PC.of [some (.ref 0)] rfl rfl (Nat.le_of_ble_eq_true rfl) ?_
  refine pw_iconst (v := nI 1) 1 rfl dX12_all_0 rfl ?_
  refine pw_aload_n 2 rfl dX12_all_1 rfl ?_
  refine pw_getI 5 rfl dX12_all_2 fX12_95 (by first | rfl | assumption | exact rowS hh | exact mtS hm | exact ruS hr | exact mtA1 hm | exact mtA2 hm | exact mtA3 hm | exact mtA4 hm | exact mtA5 hm | exact mtA6 hm | exact mtA7 hm | exact ruA1 hr | exact ruA2 hr | exact ruA3 hr) rfl ?_
  rotate_left
  rw [hn]
  refine pw_ishl 6 rfl dX12_all_5 ?_
  refine pw_iconst (v := nI 1) 7 rfl dX12_all_6 rfl ?_
  refine pw_isub 8 rfl dX12_all_7 ?_
  rotate_left
  rw [all_V n h7]
  refine pw_iret dX12_all_8 rfl ?_
  rotate_left
  exact ⟨rfl, rfl, rfl, rfl⟩
theorem stW_m {b : Nat → Nat} {s n : Nat} (h : ∀ i, n ≤ i → s.testBit i = false) (hn : n ≤ 7) : stW b s n = setb b s := by
  funext k
  unfold setb stW
  by_cases c : 7 ≤ k ∧ k < 7 + n ∧ s.testBit (k - 7) = true
  · rw [if_pos c, if_pos ⟨c.1, by omega, c.2.2⟩]
  · rw [if_neg c, if_neg]
    rintro ⟨c1, c2, c3⟩
    by_cases e : k < 7 + n
    · exact c ⟨c1, e, c3⟩
    · rw [h (k - 7) (by omega)] at c3; cases c3
set_option maxRecDepth 100000 in
set_option maxHeartbeats 2000000 in
theorem mo_ousts {d g : Nat} {s : aSt} {rd : Option Nat} {I : pI} {J : pJ} (hA : MA I J s) (hD : MDg g I) (hg : g ≤ 500000000) (hW : WA s) (w v : Int32) : PC SM (d + 245) yX12_ousts cX12_ousts 7 (some .int) [.ref 0, .int w, .int v] (I) (J) (RM rd (some 6)) (moP (g + 10000) (qOp (qOusts w v) s)) := by
  refine PC.of [some (.ref 0), some (.int w), some (.int v), none, none, none, none] rfl rfl (Nat.le_of_ble_eq_true rfl) ?_
  obtain ⟨n, pc, b, us, kp, rw, tx, rt, hd, sw⟩ := s
  refine pw_aload_n 1 rfl dX12_ousts_0 rfl ?_
  refine pw_iconst (v := nI 0) 2 rfl dX12_ousts_1 rfl ?_
  refine pw_putI 5 rfl dX12_ousts_2 fX12_88 w12_7 (by first | rfl | assumption | exact rowS hh | exact mtS hm | exact ruS hr | exact mtA1 hm | exact mtA2 hm | exact mtA3 hm | exact mtA4 hm | exact mtA5 hm | exact mtA6 hm | exact mtA7 hm | exact ruA1 hr | exact ruA2 hr | exact ruA3 hr) rfl rfl rfl ?_
  rotate_left
  have hA0 := MA_thr (v := nI 0) hA
  have hD0 : MDg g (uI I 0 7 (nI 0)) := MDg_f hD (uI_ne (by omega)) (fun j => uI_ne (by omega))
  clear hA hD
  generalize uI I 0 7 (nI 0) = I at hA0 hD0 ⊢
  obtain ⟨mC, mB, mT, mN, mR, mU, mK, mH, mG⟩ := id hA0
  obtain ⟨aW, aU, aK⟩ := id hW
  have hE := MSt_A hA0
  have hn7 := mC.1
  have hn := mC.2.1
  rcases qOf_cases hn7 w with ⟨q, hq, rfl, hi, hh⟩ | ⟨hi, hh⟩
  · rcases inOf_cases (lo := 0) (hi := 60) (by decide) v (by decide) with ⟨N, h1, h2, rfl, hj⟩ | ⟨hj, ho⟩
    · have hwlt := bts_lt (fun q => decide (b (7 + q) ≠ 0)) n
      have h27 : 2 ^ n ≤ 2 ^ 7 := Nat.pow_le_pow_right (by decide) hn7
      have eq0 : qOusts (nI q) (nI N) n pc b (ruE rt) rw hd sw = fewO (few (fun s => decide (s &&& frees n b = s) && decide (hrs n pc (ruE rt) N (setb b s) 29 ≠ q)) (frees n b + 1)) rw := by unfold qOusts; rw [hi, hj]; rfl
      have hfb : ∀ s, s &&& frees n b = s → ∀ i, s.testBit i = true → i < n := fun s hs i hi => (frees_bit hs hi).1
      have hf7 : frees n b < 128 := by unfold frees; omega
      refine pw_aload_n 6 rfl dX12_ousts_5 rfl ?_
      refine pw_iload_n 7 rfl dX12_ousts_6 rfl ?_
      refine pw_callVP (as := [_]) 10 rfl dX12_ousts_7 mX12_205 vX12_isOne (m_isOne (d := d + 243) hn hn7 _) (by first | rfl | assumption | exact rowS hh | exact mtS hm | exact ruS hr | exact mtA1 hm | exact mtA2 hm | exact mtA3 hm | exact mtA4 hm | exact mtA5 hm | exact mtA6 hm | exact mtA7 hm | exact ruA1 hr | exact ruA2 hr | exact ruA3 hr) rfl (by decide) ⟨rfl, by decide, by decide, show (parseMethodDescriptor yX12_isOne.desc).map (fun d => d.parameters.length) = some 1 by decide +kernel⟩ (by omega) (by decide) (Nat.le_of_ble_eq_true rfl) rfl ?_
      refine pw_if_eq (tgt := 20) 13 rfl dX12_ousts_10 rfl (fun h10 => absurd h10 (by rw [hh]; decide)) (fun h10 => ?_)
      refine pw_iload_n 14 rfl dX12_ousts_13 rfl ?_
      refine pw_callSP (as := [_]) 17 rfl dX12_ousts_14 mX12_289 sX12_isSoon (m_isSoon (d := d + 243) _) ⟨rfl, by decide, by decide, show (parseMethodDescriptor yX12_isSoon.desc).map (fun d => d.parameters.length) = some 1 by decide +kernel⟩ (by omega) (by decide) (Nat.le_of_ble_eq_true rfl) rfl ?_
      refine pw_if_ne (tgt := 22) 20 rfl dX12_ousts_17 rfl (fun h17 => ?_) (fun h17 => absurd h17 (by rw [inV_y h1 h2 (by decide)]; decide))
      refine pw_aload_n 23 rfl dX12_ousts_22 rfl ?_
      refine pw_callVP (as := []) 26 rfl dX12_ousts_23 mX12_301 vX12_all (m_all (d := d + 244) hn hn7) (by first | rfl | assumption | exact rowS hh | exact mtS hm | exact ruS hr | exact mtA1 hm | exact mtA2 hm | exact mtA3 hm | exact mtA4 hm | exact mtA5 hm | exact mtA6 hm | exact mtA7 hm | exact ruA1 hr | exact ruA2 hr | exact ruA3 hr) rfl (by decide) ⟨rfl, by decide, by decide, show (parseMethodDescriptor yX12_all.desc).map (fun d => d.parameters.length) = some 0 by decide +kernel⟩ (by omega) (by decide) (Nat.le_of_ble_eq_true rfl) rfl ?_
      refine pw_aload_n 27 rfl dX12_ousts_26 rfl ?_
      refine pw_aload_n 28 rfl dX12_ousts_27 rfl ?_
      refine pw_getR 31 rfl dX12_ousts_28 fX12_9 (by first | rfl | assumption | exact rowS hh | exact mtS hm | exact ruS hr | exact mtA1 hm | exact mtA2 hm | exact mtA3 hm | exact mtA4 hm | exact mtA5 hm | exact mtA6 hm | exact mtA7 hm | exact ruA1 hr | exact ruA2 hr | exact ruA3 hr) rfl (by first | rfl | assumption | exact mtR0 hm | exact mtR1 hm | exact mtR2 hm | exact mtR3 hm | exact mtR4 hm | exact mtR5 hm | exact mtR6 hm | exact ruR0 hr | exact ruR1 hr | exact ruR3 hr) ?_
      refine pw_callVP (as := [_]) 34 rfl dX12_ousts_31 mX12_240 vX12_walking (m_walking (d := d + 244) (Or.inl rfl) hn hn7 (WF_way aW.1) mB) (by first | rfl | assumption | exact rowS hh | exact mtS hm | exact ruS hr | exact mtA1 hm | exact mtA2 hm | exact mtA3 hm | exact mtA4 hm | exact mtA5 hm | exact mtA6 hm | exact mtA7 hm | exact ruA1 hr | exact ruA2 hr | exact ruA3 hr) rfl (by decide) ⟨rfl, by decide, by decide, show (parseMethodDescriptor yX12_walking.desc).map (fun d => d.parameters.length) = some 1 by decide +kernel⟩ (by omega) (by decide) (Nat.le_of_ble_eq_true rfl) rfl ?_
      rotate_left
      refine pw_iconst (v := -1) 35 rfl dX12_ousts_34 rfl ?_
      refine pw_ixor 36 rfl dX12_ousts_35 ?_
      refine pw_iand 37 rfl dX12_ousts_36 ?_
      rotate_left
      rw [free_V n hn7 _ hwlt, show 2 ^ n - 1 - bts (fun q => decide (b (7 + q) ≠ 0)) n = frees n b from rfl]
      refine pw_istore_n 38 rfl dX12_ousts_37 (by decide) ?_
      refine pw_iconst (v := -1) 39 rfl dX12_ousts_38 rfl ?_
      refine pw_istore 41 rfl dX12_ousts_39 (by decide) ?_
      refine pw_iconst (v := nI 0) 42 rfl dX12_ousts_41 rfl ?_
      refine pw_istore 44 rfl dX12_ousts_42 (by decide) ?_
      rotate_left
      generalize frees n b = S at hf7 hfb eq0
      generalize hQ : (fun s => decide (s &&& S = s) && decide (hrs n pc (ruE rt) N (setb b s) 29 ≠ q)) = Q at eq0
      have hQk : ∀ s, Q s = (decide (s &&& S = s) && decide (hrs n pc (ruE rt) N (setb b s) 29 ≠ q)) := fun s => by rw [← hQ]
      have L := nat_loop (S + 1) (fun t => ∀ (I' : pI) (rd' : Option Nat) (x : Option Value), mFr 11 I I' → MDg (g + 1000) I' → PW SM yX12_ousts.cls cX12_ousts 7 (d + 245) 44 [some (.ref 0), some (.int (nI q)), some (.int (nI N)), some (.int (nI S)), some (.int (fewV (few Q t))), some (.int (nI t)), x] [] I' J (RM rd' (some 6)) (rX cX12_ousts (some .int) (moP (g + 10000) (qOp (qOusts (nI q) (nI N)) (n, pc, b, us, kp, rw, tx, rt, hd, sw))))) ?_ ?_
      · exact L I rd none (fun _ _ _ _ _ _ _ => rfl) (hD0.mono (by omega))
      · intro I' rd' x m2 m3
        refine pw_iload 46 rfl dX12_ousts_44 rfl ?_
        refine pw_iload_n 47 rfl dX12_ousts_46 rfl ?_
        refine pw_icmp_gt (tgt := 149) 50 rfl dX12_ousts_47 rfl (fun h47 => ?_) (fun h47 => absurd (by (simp (disch := omega) only [nI_leI, nI_ltI, nI_eq, show (0 : Int32) = nI 0 from rfl, not_true_eq_false, not_false_eq_true] <;> omega)) h47)
        refine pw_aload_n 150 rfl dX12_ousts_149 rfl ?_
        refine pw_iload 152 rfl dX12_ousts_150 rfl ?_
        refine pw_callV (as := [_]) 155 rfl dX12_ousts_152 mX12_298 vX12_tellFewest (m_tellFewest (d := d + 243) (MN_mFr mN m2) (fun s hs => by have := few_lt hs; omega)) (by first | rfl | assumption | exact rowS hh | exact mtS hm | exact ruS hr | exact mtA1 hm | exact mtA2 hm | exact mtA3 hm | exact mtA4 hm | exact mtA5 hm | exact mtA6 hm | exact mtA7 hm | exact ruA1 hr | exact ruA2 hr | exact ruA3 hr) rfl (by decide) ⟨rfl, by decide, by decide, show (parseMethodDescriptor yX12_tellFewest.desc).map (fun d => d.parameters.length) = some 1 by decide +kernel⟩ (by omega) (by decide) (Nat.le_of_ble_eq_true rfl) rfl (fun r152 I152 J152 R152 c152 => ?_)
        obtain ⟨rfl, t1, t2, rfl⟩ := c152
        rotate_left
        refine pw_iret dX12_ousts_155 rfl ?_
        rotate_left
        exact moQ eq0 rfl (MA_rw hA0 (fun a j q => by rw [t2 a j (by omega)]; exact fMs_mFr m2 a j q) t1) ((MDg_f m3 (t2 _ _ (by omega)) (fun j => t2 _ _ (by omega))).mono (by omega)) ⟨rd', rfl⟩
      · intro t ht ih I' rd' x m2 m3
        by_cases hsub : t &&& S = t
        · have hsz := (sub_iff S (by omega) t (by omega)).mpr hsub
          have hbt : ∀ i, n ≤ i → t.testBit i = false := fun i hi => by
            cases e : t.testBit i
            · rfl
            · have := hfb t hsub i e; omega
          refine pw_iload 46 rfl dX12_ousts_44 rfl ?_
          refine pw_iload_n 47 rfl dX12_ousts_46 rfl ?_
          refine pw_icmp_gt (tgt := 149) 50 rfl dX12_ousts_47 rfl (fun h47 => absurd h47 (by (simp (disch := omega) only [nI_leI, nI_ltI, nI_eq, show (0 : Int32) = nI 0 from rfl, not_true_eq_false, not_false_eq_true] <;> omega))) (fun h47 => ?_)
          refine pw_iload 52 rfl dX12_ousts_50 rfl ?_
          refine pw_iload_n 53 rfl dX12_ousts_52 rfl ?_
          refine pw_iconst (v := -1) 54 rfl dX12_ousts_53 rfl ?_
          refine pw_ixor 55 rfl dX12_ousts_54 ?_
          refine pw_iand 56 rfl dX12_ousts_55 ?_
          refine pw_if_eq (tgt := 62) 59 rfl dX12_ousts_56 rfl (fun h56 => ?_) (fun h56 => absurd hsz h56)
          refine pw_aload_n 63 rfl dX12_ousts_62 rfl ?_
          refine pw_getR 66 rfl dX12_ousts_63 fX12_9 (by first | rfl | assumption | exact rowS hh | exact mtS hm | exact ruS hr | exact mtA1 hm | exact mtA2 hm | exact mtA3 hm | exact mtA4 hm | exact mtA5 hm | exact mtA6 hm | exact mtA7 hm | exact ruA1 hr | exact ruA2 hr | exact ruA3 hr) rfl (by first | rfl | assumption | exact mtR0 hm | exact mtR1 hm | exact mtR2 hm | exact mtR3 hm | exact mtR4 hm | exact mtR5 hm | exact mtR6 hm | exact ruR0 hr | exact ruR1 hr | exact ruR3 hr) ?_
          refine pw_aload_n 67 rfl dX12_ousts_66 rfl ?_
          refine pw_getR 70 rfl dX12_ousts_67 fX12_42 (by first | rfl | assumption | exact rowS hh | exact mtS hm | exact ruS hr | exact mtA1 hm | exact mtA2 hm | exact mtA3 hm | exact mtA4 hm | exact mtA5 hm | exact mtA6 hm | exact mtA7 hm | exact ruA1 hr | exact ruA2 hr | exact ruA3 hr) rfl (by first | rfl | assumption | exact mtR0 hm | exact mtR1 hm | exact mtR2 hm | exact mtR3 hm | exact mtR4 hm | exact mtR5 hm | exact mtR6 hm | exact ruR0 hr | exact ruR1 hr | exact ruR3 hr) ?_
          refine pw_iconst (v := nI 0) 71 rfl dX12_ousts_70 rfl ?_
          refine pw_callS (as := [_, _, _]) 74 rfl dX12_ousts_71 mX12_219 sX12_lay (m_layT (d := d + 244) (MB_f mB (fun k => m2 _ _ (by omega) (by omega) (by omega) (by omega) (by omega)))) ⟨rfl, by decide, by decide, show (parseMethodDescriptor yX12_lay.desc).map (fun d => d.parameters.length) = some 3 by decide +kernel⟩ (by omega) (by decide) (Nat.le_of_ble_eq_true rfl) rfl (fun r71 I71 J71 R71 c71 => ?_)
          obtain ⟨rfl, k1, k2, rfl, rfl⟩ := c71
          rotate_left
          refine pw_iconst (v := nI 0) 75 rfl dX12_ousts_74 rfl ?_
          refine pw_istore 77 rfl dX12_ousts_75 (by decide) ?_
          rotate_left
          have L2 := nat_loop n (fun k => ∀ (I2 : pI), MB I2 11 (stW b t k) → mFr 11 I I2 → PW SM yX12_ousts.cls cX12_ousts 7 (d + 245) 77 [some (.ref 0), some (.int (nI q)), some (.int (nI N)), some (.int (nI S)), some (.int (fewV (few Q t))), some (.int (nI t)), some (.int (nI k))] [] I2 J (RM rd' (some 6)) (rX cX12_ousts (some .int) (moP (g + 10000) (qOp (qOusts (nI q) (nI N)) (n, pc, b, us, kp, rw, tx, rt, hd, sw))))) ?_ ?_
          · refine L2 I71 ?_ (fun a j q1 q2 q3 q4 q5 => by rw [k2 a j q1]; exact m2 a j q1 q2 q3 q4 q5)
            rw [show stW b t 0 = b from funext (fun k => if_neg (by omega))]
            exact k1
          · intro I2 n1 n2
            have hWs : WF n pc (setb b t) := WF_stW aW.1 t 7 (Nat.le_refl 7)
            rw [stW_m hbt hn7] at n1
            have hn' : I2 0 1 = nI n := by rw [n2 _ _ (by omega) (by omega) (by omega) (by omega) (by omega)]; exact hn
            refine pw_iload 79 rfl dX12_ousts_77 rfl ?_
            refine pw_aload_n 80 rfl dX12_ousts_79 rfl ?_
            refine pw_getI 83 rfl dX12_ousts_80 fX12_95 (by first | rfl | assumption | exact rowS hh | exact mtS hm | exact ruS hr | exact mtA1 hm | exact mtA2 hm | exact mtA3 hm | exact mtA4 hm | exact mtA5 hm | exact mtA6 hm | exact mtA7 hm | exact ruA1 hr | exact ruA2 hr | exact ruA3 hr) rfl ?_
            refine pw_icmp_ge (tgt := 113) 86 rfl dX12_ousts_83 rfl (fun h83 => ?_) (fun h83 => absurd (by rw [hn']; (simp (disch := omega) only [nI_leI, nI_ltI, nI_eq, show (0 : Int32) = nI 0 from rfl, not_true_eq_false, not_false_eq_true] <;> omega)) h83)
            refine pw_aload_n 114 rfl dX12_ousts_113 rfl ?_
            refine pw_aload_n 115 rfl dX12_ousts_114 rfl ?_
            refine pw_getR 118 rfl dX12_ousts_115 fX12_42 (by first | rfl | assumption | exact rowS hh | exact mtS hm | exact ruS hr | exact mtA1 hm | exact mtA2 hm | exact mtA3 hm | exact mtA4 hm | exact mtA5 hm | exact mtA6 hm | exact mtA7 hm | exact ruA1 hr | exact ruA2 hr | exact ruA3 hr) rfl (by first | rfl | assumption | exact mtR0 hm | exact mtR1 hm | exact mtR2 hm | exact mtR3 hm | exact mtR4 hm | exact mtR5 hm | exact mtR6 hm | exact ruR0 hr | exact ruR1 hr | exact ruR3 hr) ?_
            refine pw_iload_n 119 rfl dX12_ousts_118 rfl ?_
            refine pw_callV (as := [_, _]) 122 rfl dX12_ousts_119 mX12_233 vX12_goHours (m_goHours (d := d + 6) (Or.inr rfl) (mC.fr n2 (Or.inr rfl)) n1 hWs (MSt_mFr hE n2) (show N ≤ 100 by omega)) (by first | rfl | assumption | exact rowS hh | exact mtS hm | exact ruS hr | exact mtA1 hm | exact mtA2 hm | exact mtA3 hm | exact mtA4 hm | exact mtA5 hm | exact mtA6 hm | exact mtA7 hm | exact ruA1 hr | exact ruA2 hr | exact ruA3 hr) rfl (by decide) ⟨rfl, by decide, by decide, show (parseMethodDescriptor yX12_goHours.desc).map (fun d => d.parameters.length) = some 2 by decide +kernel⟩ (by omega) (by decide) (Nat.le_of_ble_eq_true rfl) rfl (fun r119 I119 J119 R119 c119 => ?_)
            obtain ⟨rfl, p1, p2, p3, rfl, rd2, rfl⟩ := c119
            rotate_left
            have eO : I119 11 29 = nI (hrs n pc (ruE rt) N (setb b t) 29) := p1 29 (by omega)
            have hO := (WF_hrs (ruE rt) hWs N).2.2.1
            have hdl := dlA_le hn7 pc (ruE rt) (setb b t) (show N ≤ 100 by omega)
            have go := ih I119 rd2 (some (.int (nI n))) (n2.trans p2) ⟨_, p3, by omega⟩
            by_cases hp : hrs n pc (ruE rt) N (setb b t) 29 = q
            · rw [fewK_n (by rw [hQk, decide_eq_false (show ¬ (hrs n pc (ruE rt) N (setb b t) 29 ≠ q) from fun z => z hp), Bool.and_false])] at go
              refine pw_aload_n 123 rfl dX12_ousts_122 rfl ?_
              refine pw_getR 126 rfl dX12_ousts_123 fX12_42 (by first | rfl | assumption | exact rowS hh | exact mtS hm | exact ruS hr | exact mtA1 hm | exact mtA2 hm | exact mtA3 hm | exact mtA4 hm | exact mtA5 hm | exact mtA6 hm | exact mtA7 hm | exact ruA1 hr | exact ruA2 hr | exact ruA3 hr) rfl (by first | rfl | assumption | exact mtR0 hm | exact mtR1 hm | exact mtR2 hm | exact mtR3 hm | exact mtR4 hm | exact mtR5 hm | exact mtR6 hm | exact ruR0 hr | exact ruR1 hr | exact ruR3 hr) ?_
              refine pw_bipush (v := nI 29) 128 rfl dX12_ousts_126 rfl ?_
              refine pw_ialdN 129 rfl dX12_ousts_128 (by first | rfl | assumption | exact rowS hh | exact mtS hm | exact ruS hr | exact mtA1 hm | exact mtA2 hm | exact mtA3 hm | exact mtA4 hm | exact mtA5 hm | exact mtA6 hm | exact mtA7 hm | exact ruA1 hr | exact ruA2 hr | exact ruA3 hr) (by omega) (by first | decide | omega) ?_
              refine pw_iload_n 130 rfl dX12_ousts_129 rfl ?_
              refine pw_icmp_eq (tgt := 143) 133 rfl dX12_ousts_130 rfl (fun h130 => ?_) (fun h130 => absurd (by rw [eO, hp]) h130)
              refine pw_iincN 146 rfl dX12_ousts_143 (by decide) rfl ?_
              refine pw_goto (tgt := 44) dX12_ousts_146 rfl ?_
              rotate_left
              exact go
            · rw [fewK_y (by rw [hQk, decide_eq_true hsub, decide_eq_true hp]; rfl)] at go
              refine pw_aload_n 123 rfl dX12_ousts_122 rfl ?_
              refine pw_getR 126 rfl dX12_ousts_123 fX12_42 (by first | rfl | assumption | exact rowS hh | exact mtS hm | exact ruS hr | exact mtA1 hm | exact mtA2 hm | exact mtA3 hm | exact mtA4 hm | exact mtA5 hm | exact mtA6 hm | exact mtA7 hm | exact ruA1 hr | exact ruA2 hr | exact ruA3 hr) rfl (by first | rfl | assumption | exact mtR0 hm | exact mtR1 hm | exact mtR2 hm | exact mtR3 hm | exact mtR4 hm | exact mtR5 hm | exact mtR6 hm | exact ruR0 hr | exact ruR1 hr | exact ruR3 hr) ?_
              refine pw_bipush (v := nI 29) 128 rfl dX12_ousts_126 rfl ?_
              refine pw_ialdN 129 rfl dX12_ousts_128 (by first | rfl | assumption | exact rowS hh | exact mtS hm | exact ruS hr | exact mtA1 hm | exact mtA2 hm | exact mtA3 hm | exact mtA4 hm | exact mtA5 hm | exact mtA6 hm | exact mtA7 hm | exact ruA1 hr | exact ruA2 hr | exact ruA3 hr) (by omega) (by first | decide | omega) ?_
              refine pw_iload_n 130 rfl dX12_ousts_129 rfl ?_
              refine pw_icmp_eq (tgt := 143) 133 rfl dX12_ousts_130 rfl (fun h130 => absurd h130 (by rw [eO, nI_eq (by omega) (by omega)]; exact hp)) (fun h130 => ?_)
              refine pw_aload_n 134 rfl dX12_ousts_133 rfl ?_
              refine pw_iload 136 rfl dX12_ousts_134 rfl ?_
              refine pw_iload 138 rfl dX12_ousts_136 rfl ?_
              refine pw_callVP (as := [_, _]) 141 rfl dX12_ousts_138 mX12_295 vX12_fewest (m_fewest (d := d + 243) (show t < 1024 by omega) (fun s hs => by have := few_lt hs; omega)) (by first | rfl | assumption | exact rowS hh | exact mtS hm | exact ruS hr | exact mtA1 hm | exact mtA2 hm | exact mtA3 hm | exact mtA4 hm | exact mtA5 hm | exact mtA6 hm | exact mtA7 hm | exact ruA1 hr | exact ruA2 hr | exact ruA3 hr) rfl (by decide) ⟨rfl, by decide, by decide, show (parseMethodDescriptor yX12_fewest.desc).map (fun d => d.parameters.length) = some 2 by decide +kernel⟩ (by omega) (by decide) (Nat.le_of_ble_eq_true rfl) rfl ?_
              refine pw_istore 143 rfl dX12_ousts_141 (by decide) ?_
              refine pw_iincN 146 rfl dX12_ousts_143 (by decide) rfl ?_
              refine pw_goto (tgt := 44) dX12_ousts_146 rfl ?_
              rotate_left
              exact go
          · intro k hk ih2 I2 n1 n2
            have hn' : I2 0 1 = nI n := by rw [n2 _ _ (by omega) (by omega) (by omega) (by omega) (by omega)]; exact hn
            by_cases hb : t.testBit k = true
            · refine pw_iload 79 rfl dX12_ousts_77 rfl ?_
              refine pw_aload_n 80 rfl dX12_ousts_79 rfl ?_
              refine pw_getI 83 rfl dX12_ousts_80 fX12_95 (by first | rfl | assumption | exact rowS hh | exact mtS hm | exact ruS hr | exact mtA1 hm | exact mtA2 hm | exact mtA3 hm | exact mtA4 hm | exact mtA5 hm | exact mtA6 hm | exact mtA7 hm | exact ruA1 hr | exact ruA2 hr | exact ruA3 hr) rfl ?_
              refine pw_icmp_ge (tgt := 113) 86 rfl dX12_ousts_83 rfl (fun h83 => absurd h83 (by rw [hn']; (simp (disch := omega) only [nI_leI, nI_ltI, nI_eq, show (0 : Int32) = nI 0 from rfl, not_true_eq_false, not_false_eq_true] <;> omega))) (fun h83 => ?_)
              refine pw_iload 88 rfl dX12_ousts_86 rfl ?_
              refine pw_iload 90 rfl dX12_ousts_88 rfl ?_
              refine pw_callSP (as := [_, _]) 93 rfl dX12_ousts_90 mX12_292 sX12_has (m_has (d := d + 244) (show t < 2147483648 by omega) (show k < 31 by omega)) ⟨rfl, by decide, by decide, show (parseMethodDescriptor yX12_has.desc).map (fun d => d.parameters.length) = some 2 by decide +kernel⟩ (by omega) (by decide) (Nat.le_of_ble_eq_true rfl) rfl ?_
              refine pw_if_eq (tgt := 107) 96 rfl dX12_ousts_93 rfl (fun h93 => absurd h93 (by rw [if_pos hb]; decide)) (fun h93 => ?_)
              refine pw_aload_n 97 rfl dX12_ousts_96 rfl ?_
              refine pw_getR 100 rfl dX12_ousts_97 fX12_42 (by first | rfl | assumption | exact rowS hh | exact mtS hm | exact ruS hr | exact mtA1 hm | exact mtA2 hm | exact mtA3 hm | exact mtA4 hm | exact mtA5 hm | exact mtA6 hm | exact mtA7 hm | exact ruA1 hr | exact ruA2 hr | exact ruA3 hr) rfl (by first | rfl | assumption | exact mtR0 hm | exact mtR1 hm | exact mtR2 hm | exact mtR3 hm | exact mtR4 hm | exact mtR5 hm | exact mtR6 hm | exact ruR0 hr | exact ruR1 hr | exact ruR3 hr) ?_
              refine pw_bipush (v := nI 7) 102 rfl dX12_ousts_100 rfl ?_
              refine pw_iload 104 rfl dX12_ousts_102 rfl ?_
              first | refine pw_iaddN 105 rfl dX12_ousts_104 ?_ | refine pw_iadd 105 rfl dX12_ousts_104 ?_
              refine pw_iconst (v := nI 1) 106 rfl dX12_ousts_105 rfl ?_
              refine pw_iastN 107 rfl dX12_ousts_106 (by first | rfl | assumption | exact rowS hh | exact mtS hm | exact ruS hr | exact mtA1 hm | exact mtA2 hm | exact mtA3 hm | exact mtA4 hm | exact mtA5 hm | exact mtA6 hm | exact mtA7 hm | exact ruA1 hr | exact ruA2 hr | exact ruA3 hr) (by omega) (by first | decide | omega) ?_
              refine pw_iincN 110 rfl dX12_ousts_107 (by decide) rfl ?_
              refine pw_goto (tgt := 77) dX12_ousts_110 rfl ?_
              rotate_left
              refine ih2 _ ?_ (fun a j q1 q2 q3 q4 q5 => by rw [uI_ne (by omega)]; exact n2 a j q1 q2 q3 q4 q5)
              rw [← stW_y hb]
              exact MB_bu n1
            · have hb' : t.testBit k = false := by cases e : t.testBit k; rfl; exact absurd e hb
              refine pw_iload 79 rfl dX12_ousts_77 rfl ?_
              refine pw_aload_n 80 rfl dX12_ousts_79 rfl ?_
              refine pw_getI 83 rfl dX12_ousts_80 fX12_95 (by first | rfl | assumption | exact rowS hh | exact mtS hm | exact ruS hr | exact mtA1 hm | exact mtA2 hm | exact mtA3 hm | exact mtA4 hm | exact mtA5 hm | exact mtA6 hm | exact mtA7 hm | exact ruA1 hr | exact ruA2 hr | exact ruA3 hr) rfl ?_
              refine pw_icmp_ge (tgt := 113) 86 rfl dX12_ousts_83 rfl (fun h83 => absurd h83 (by rw [hn']; (simp (disch := omega) only [nI_leI, nI_ltI, nI_eq, show (0 : Int32) = nI 0 from rfl, not_true_eq_false, not_false_eq_true] <;> omega))) (fun h83 => ?_)
              refine pw_iload 88 rfl dX12_ousts_86 rfl ?_
              refine pw_iload 90 rfl dX12_ousts_88 rfl ?_
              refine pw_callSP (as := [_, _]) 93 rfl dX12_ousts_90 mX12_292 sX12_has (m_has (d := d + 244) (show t < 2147483648 by omega) (show k < 31 by omega)) ⟨rfl, by decide, by decide, show (parseMethodDescriptor yX12_has.desc).map (fun d => d.parameters.length) = some 2 by decide +kernel⟩ (by omega) (by decide) (Nat.le_of_ble_eq_true rfl) rfl ?_
              refine pw_if_eq (tgt := 107) 96 rfl dX12_ousts_93 rfl (fun h93 => ?_) (fun h93 => absurd (by rw [if_neg hb]; rfl) h93)
              refine pw_iincN 110 rfl dX12_ousts_107 (by decide) rfl ?_
              refine pw_goto (tgt := 77) dX12_ousts_110 rfl ?_
              rotate_left
              exact ih2 I2 (by rw [← stW_n hb']; exact n1) n2
        · have hnz : ¬ nI t &&& (nI S ^^^ (-1)) = 0 := fun z => hsub ((sub_iff S (by omega) t (by omega)).mp z)
          rw [fewK_n (by rw [hQk, decide_eq_false hsub, Bool.false_and])] at ih
          refine pw_iload 46 rfl dX12_ousts_44 rfl ?_
          refine pw_iload_n 47 rfl dX12_ousts_46 rfl ?_
          refine pw_icmp_gt (tgt := 149) 50 rfl dX12_ousts_47 rfl (fun h47 => absurd h47 (by (simp (disch := omega) only [nI_leI, nI_ltI, nI_eq, show (0 : Int32) = nI 0 from rfl, not_true_eq_false, not_false_eq_true] <;> omega))) (fun h47 => ?_)
          refine pw_iload 52 rfl dX12_ousts_50 rfl ?_
          refine pw_iload_n 53 rfl dX12_ousts_52 rfl ?_
          refine pw_iconst (v := -1) 54 rfl dX12_ousts_53 rfl ?_
          refine pw_ixor 55 rfl dX12_ousts_54 ?_
          refine pw_iand 56 rfl dX12_ousts_55 ?_
          refine pw_if_eq (tgt := 62) 59 rfl dX12_ousts_56 rfl (fun h56 => absurd h56 hnz) (fun h56 => ?_)
          refine pw_goto (tgt := 143) dX12_ousts_59 rfl ?_
          refine pw_iincN 146 rfl dX12_ousts_143 (by decide) rfl ?_
          refine pw_goto (tgt := 44) dX12_ousts_146 rfl ?_
          rotate_left
          exact ih I' rd' x m2 m3
    · refine pw_aload_n 6 rfl dX12_ousts_5 rfl ?_
      refine pw_iload_n 7 rfl dX12_ousts_6 rfl ?_
      refine pw_callVP (as := [_]) 10 rfl dX12_ousts_7 mX12_205 vX12_isOne (m_isOne (d := d + 243) hn hn7 _) (by first | rfl | assumption | exact rowS hh | exact mtS hm | exact ruS hr | exact mtA1 hm | exact mtA2 hm | exact mtA3 hm | exact mtA4 hm | exact mtA5 hm | exact mtA6 hm | exact mtA7 hm | exact ruA1 hr | exact ruA2 hr | exact ruA3 hr) rfl (by decide) ⟨rfl, by decide, by decide, show (parseMethodDescriptor yX12_isOne.desc).map (fun d => d.parameters.length) = some 1 by decide +kernel⟩ (by omega) (by decide) (Nat.le_of_ble_eq_true rfl) rfl ?_
      refine pw_if_eq (tgt := 20) 13 rfl dX12_ousts_10 rfl (fun h10 => absurd h10 (by rw [hh]; decide)) (fun h10 => ?_)
      refine pw_iload_n 14 rfl dX12_ousts_13 rfl ?_
      refine pw_callSP (as := [_]) 17 rfl dX12_ousts_14 mX12_289 sX12_isSoon (m_isSoon (d := d + 243) _) ⟨rfl, by decide, by decide, show (parseMethodDescriptor yX12_isSoon.desc).map (fun d => d.parameters.length) = some 1 by decide +kernel⟩ (by omega) (by decide) (Nat.le_of_ble_eq_true rfl) rfl ?_
      refine pw_if_ne (tgt := 22) 20 rfl dX12_ousts_17 rfl (fun h17 => absurd (by rw [inV_n ho]; rfl) h17) (fun h17 => ?_)
      refine pw_iconst (v := -1) 21 rfl dX12_ousts_20 rfl ?_
      refine pw_iret dX12_ousts_21 rfl ?_
      rotate_left
      exact moQ (by unfold qOusts; rw [hi, hj]; rfl) rfl hA0 (hD0.mono (by omega)) ⟨rd, rfl⟩
  · refine pw_aload_n 6 rfl dX12_ousts_5 rfl ?_
    refine pw_iload_n 7 rfl dX12_ousts_6 rfl ?_
    refine pw_callVP (as := [_]) 10 rfl dX12_ousts_7 mX12_205 vX12_isOne (m_isOne (d := d + 243) hn hn7 _) (by first | rfl | assumption | exact rowS hh | exact mtS hm | exact ruS hr | exact mtA1 hm | exact mtA2 hm | exact mtA3 hm | exact mtA4 hm | exact mtA5 hm | exact mtA6 hm | exact mtA7 hm | exact ruA1 hr | exact ruA2 hr | exact ruA3 hr) rfl (by decide) ⟨rfl, by decide, by decide, show (parseMethodDescriptor yX12_isOne.desc).map (fun d => d.parameters.length) = some 1 by decide +kernel⟩ (by omega) (by decide) (Nat.le_of_ble_eq_true rfl) rfl ?_
    refine pw_if_eq (tgt := 20) 13 rfl dX12_ousts_10 rfl (fun h10 => ?_) (fun h10 => absurd (by rw [hh]; rfl) h10)
    refine pw_iconst (v := -1) 21 rfl dX12_ousts_20 rfl ?_
    refine pw_iret dX12_ousts_21 rfl ?_
    rotate_left
    exact moQ (by unfold qOusts; rw [hi]; rfl) rfl hA0 (hD0.mono (by omega)) ⟨rd, rfl⟩
set_option maxRecDepth 100000 in
set_option maxHeartbeats 2000000 in
theorem mo_goes {d g : Nat} {s : aSt} {rd : Option Nat} {I : pI} {J : pJ} (hA : MA I J s) (hD : MDg g I) (hg : g ≤ 500000000) (hW : WA s) (v : Int32) : PC SM (d + 245) yX12_goes cX12_goes 7 (some .int) [.ref 0, .int v] (I) (J) (RM rd (some 6)) (moP (g + 10000) (qOp (qGoes v) s)) := by
  refine PC.of [some (.ref 0), some (.int v), none, none, none, none, none] rfl rfl (Nat.le_of_ble_eq_true rfl) ?_
  obtain ⟨n, pc, b, us, kp, rw, tx, rt, hd, sw⟩ := s
  refine pw_aload_n 1 rfl dX12_goes_0 rfl ?_
  refine pw_iconst (v := nI 0) 2 rfl dX12_goes_1 rfl ?_
  refine pw_putI 5 rfl dX12_goes_2 fX12_88 w12_7 (by first | rfl | assumption | exact rowS hh | exact mtS hm | exact ruS hr | exact mtA1 hm | exact mtA2 hm | exact mtA3 hm | exact mtA4 hm | exact mtA5 hm | exact mtA6 hm | exact mtA7 hm | exact ruA1 hr | exact ruA2 hr | exact ruA3 hr) rfl rfl rfl ?_
  rotate_left
  have hA0 := MA_thr (v := nI 0) hA
  have hD0 : MDg g (uI I 0 7 (nI 0)) := MDg_f hD (uI_ne (by omega)) (fun j => uI_ne (by omega))
  clear hA hD
  generalize uI I 0 7 (nI 0) = I at hA0 hD0 ⊢
  obtain ⟨mC, mB, mT, mN, mR, mU, mK, mH, mG⟩ := id hA0
  obtain ⟨aW, aU, aK⟩ := id hW
  have hE := MSt_A hA0
  have hn7 := mC.1
  have hn := mC.2.1
  rcases inOf_cases (lo := 1) (hi := 60) (by decide) v (by decide) with ⟨N, h1, h2, rfl, hi⟩ | ⟨hi, ho⟩
  · generalize hoo : (fun i => cntP (fun t => decide (hrs n pc (ruE rt) (t + 1) (bu b (7 + i) 1) 29 = i)) N) = o
    have hok : ∀ i, o i = cntP (fun t => decide (hrs n pc (ruE rt) (t + 1) (bu b (7 + i) 1) 29 = i)) N := fun i => by rw [← hoo]
    have ho1 : ∀ i, o i ≤ 1000 := fun i => by rw [hok]; have := cntP_le (fun t => decide (hrs n pc (ruE rt) (t + 1) (bu b (7 + i) 1) 29 = i)) N; omega
    generalize hff : (fun i => decide (b (7 + i) = 0)) = f
    have hfk : ∀ i, f i = decide (b (7 + i) = 0) := fun i => by rw [← hff]
    have eq : qGoes (nI N) n pc b (ruE rt) rw hd sw = (gB o f (-2) n, if cntP f n = 0 then rw else [(gM o f n).toInt64]) := by unfold qGoes; rw [hi, ← hoo, ← hff]; rfl
    refine pw_iload_n 6 rfl dX12_goes_5 rfl ?_
    refine pw_iconst (v := nI 1) 7 rfl dX12_goes_6 rfl ?_
    refine pw_bipush (v := nI 60) 9 rfl dX12_goes_7 rfl ?_
    refine pw_callSP (as := [_, _, _]) 12 rfl dX12_goes_9 mX12_98 sX12_in (m_in (d := d) _ _ _) ⟨rfl, by decide, by decide, show (parseMethodDescriptor yX12_in.desc).map (fun d => d.parameters.length) = some 3 by decide +kernel⟩ (by omega) (by decide) (Nat.le_of_ble_eq_true rfl) rfl ?_
    refine pw_if_ne (tgt := 17) 15 rfl dX12_goes_12 rfl (fun h12 => ?_) (fun h12 => absurd h12 (by rw [inV_y h1 h2 (by decide)]; decide))
    refine pw_iconst (v := -1) 18 rfl dX12_goes_17 rfl ?_
    refine pw_istore_n 19 rfl dX12_goes_18 (by decide) ?_
    refine pw_iconst (v := -1) 20 rfl dX12_goes_19 rfl ?_
    refine pw_istore_n 21 rfl dX12_goes_20 (by decide) ?_
    refine pw_iconst (v := nI 0) 22 rfl dX12_goes_21 rfl ?_
    refine pw_istore 24 rfl dX12_goes_22 (by decide) ?_
    rotate_left
    have L := nat_loop n (fun k => ∀ (I' : pI) (rd' : Option Nat) (x y : Option Value), mFr 11 I I' → MDg (g + 500 * k) I' → PW SM yX12_goes.cls cX12_goes 7 (d + 245) 24 [some (.ref 0), some (.int (nI N)), some (.int (gB o f (-1) k)), some (.int (gM o f k)), some (.int (nI k)), x, y] [] I' J (RM rd' (some 6)) (rX cX12_goes (some .int) (moP (g + 10000) (qOp (qGoes (nI N)) (n, pc, b, us, kp, rw, tx, rt, hd, sw))))) ?_ ?_
    · exact L I rd none none (fun _ _ _ _ _ _ _ => rfl) hD0
    · intro I' rd' x y m2 m3
      have hn' : I' 0 1 = nI n := by rw [m2 _ _ (by omega) (by omega) (by omega) (by omega) (by omega)]; exact hn
      rcases gM_spec (f := f) ho1 n (by omega) with ⟨c0, c1, c2⟩ | ⟨c0, ⟨m, c1, c2⟩, i, c3, c4⟩
      · rw [if_pos c0, c2] at eq
        refine pw_iload 26 rfl dX12_goes_24 rfl ?_
        refine pw_aload_n 27 rfl dX12_goes_26 rfl ?_
        refine pw_getI 30 rfl dX12_goes_27 fX12_95 (by first | rfl | assumption | exact rowS hh | exact mtS hm | exact ruS hr | exact mtA1 hm | exact mtA2 hm | exact mtA3 hm | exact mtA4 hm | exact mtA5 hm | exact mtA6 hm | exact mtA7 hm | exact ruA1 hr | exact ruA2 hr | exact ruA3 hr) rfl ?_
        refine pw_icmp_ge (tgt := 141) 33 rfl dX12_goes_30 rfl (fun h30 => ?_) (fun h30 => absurd (by rw [hn']; (simp (disch := omega) only [nI_leI, nI_ltI, nI_eq, show (0 : Int32) = nI 0 from rfl, not_true_eq_false, not_false_eq_true] <;> omega)) h30)
        refine pw_iload_n 142 rfl dX12_goes_141 rfl ?_
        refine pw_iconst (v := -1) 143 rfl dX12_goes_142 rfl ?_
        refine pw_icmp_ne (tgt := 149) 146 rfl dX12_goes_143 rfl (fun h143 => absurd (c2 _) h143) (fun h143 => ?_)
        refine pw_bipush (v := -2) 148 rfl dX12_goes_146 rfl ?_
        refine pw_iret dX12_goes_148 rfl ?_
        rotate_left
        exact moQ eq rfl (MA_rw hA0 (fMs_mFr m2) (MN_mFr mN m2)) (m3.mono (by omega)) ⟨rd', rfl⟩
      · rw [if_neg c0, c4] at eq
        rw [c4 (-1)]
        have hne : ¬ nI i = -1 := fun z => nI_pos (show i < 2 ^ 31 by omega) (by rw [z]; decide)
        refine pw_iload 26 rfl dX12_goes_24 rfl ?_
        refine pw_aload_n 27 rfl dX12_goes_26 rfl ?_
        refine pw_getI 30 rfl dX12_goes_27 fX12_95 (by first | rfl | assumption | exact rowS hh | exact mtS hm | exact ruS hr | exact mtA1 hm | exact mtA2 hm | exact mtA3 hm | exact mtA4 hm | exact mtA5 hm | exact mtA6 hm | exact mtA7 hm | exact ruA1 hr | exact ruA2 hr | exact ruA3 hr) rfl ?_
        refine pw_icmp_ge (tgt := 141) 33 rfl dX12_goes_30 rfl (fun h30 => ?_) (fun h30 => absurd (by rw [hn']; (simp (disch := omega) only [nI_leI, nI_ltI, nI_eq, show (0 : Int32) = nI 0 from rfl, not_true_eq_false, not_false_eq_true] <;> omega)) h30)
        refine pw_iload_n 142 rfl dX12_goes_141 rfl ?_
        refine pw_iconst (v := -1) 143 rfl dX12_goes_142 rfl ?_
        refine pw_icmp_ne (tgt := 149) 146 rfl dX12_goes_143 rfl (fun h143 => ?_) (fun h143 => absurd h143 hne)
        refine pw_aload_n 150 rfl dX12_goes_149 rfl ?_
        refine pw_iconst (v := nI 0) 151 rfl dX12_goes_150 rfl ?_
        refine pw_putI 154 rfl dX12_goes_151 fX12_92 w12_6 (by first | rfl | assumption | exact rowS hh | exact mtS hm | exact ruS hr | exact mtA1 hm | exact mtA2 hm | exact mtA3 hm | exact mtA4 hm | exact mtA5 hm | exact mtA6 hm | exact mtA7 hm | exact ruA1 hr | exact ruA2 hr | exact ruA3 hr) rfl rfl rfl ?_
        refine pw_aload_n 155 rfl dX12_goes_154 rfl ?_
        refine pw_iload_n 156 rfl dX12_goes_155 rfl ?_
        refine pw_i2l 157 rfl dX12_goes_156 ?_
        refine pw_callV (as := [_]) 160 rfl dX12_goes_157 mX12_236 vX12_tell (m_tell (d := d + 244) MN_0 (by decide)) (by first | rfl | assumption | exact rowS hh | exact mtS hm | exact ruS hr | exact mtA1 hm | exact mtA2 hm | exact mtA3 hm | exact mtA4 hm | exact mtA5 hm | exact mtA6 hm | exact mtA7 hm | exact ruA1 hr | exact ruA2 hr | exact ruA3 hr) rfl (by decide) ⟨rfl, by decide, by decide, show (parseMethodDescriptor yX12_tell.desc).map (fun d => d.parameters.length) = some 1 by decide +kernel⟩ (by omega) (by decide) (Nat.le_of_ble_eq_true rfl) rfl (fun r157 I157 J157 R157 c157 => ?_)
        obtain ⟨rfl, t1, t2, rfl⟩ := c157
        rotate_left
        have hf1 : ∀ a j, ¬ (a = 0 ∧ j = 6) → I157 a j = I' a j := fun a j q => by rw [t2 a j q, uI_ne (by omega)]
        refine pw_iload_n 161 rfl dX12_goes_160 rfl ?_
        refine pw_iret dX12_goes_161 rfl ?_
        rotate_left
        exact moQ eq rfl (MA_rw hA0 (fun a j q => by rw [hf1 a j (by omega)]; exact fMs_mFr m2 a j q) t1) ((MDg_f m3 (hf1 _ _ (by omega)) (fun j => hf1 _ _ (by omega))).mono (by omega)) ⟨rd', rfl⟩
    · intro k hk ih I' rd' x y m2 m3
      have hn' : I' 0 1 = nI n := by rw [m2 _ _ (by omega) (by omega) (by omega) (by omega) (by omega)]; exact hn
      have mB' : MB I' 1 b := MB_f mB (fun k => m2 _ _ (by omega) (by omega) (by omega) (by omega) (by omega))
      have e7 : I' 1 (7 + k) = nI (b (7 + k)) := mB' _ (by omega)
      have hb2 := WF_way aW.1 k (by omega)
      have egM : gM o f (k + 1) = if f k = true ∧ gM o f k < nI (o k) then nI (o k) else gM o f k := rfl
      have egB : gB o f (-1) (k + 1) = if f k = true ∧ gM o f k < nI (o k) then nI k else gB o f (-1) k := rfl
      rw [egM, egB] at ih
      by_cases c0 : b (7 + k) = 0
      · have hf : f k = true := by rw [hfk]; exact decide_eq_true c0
        have hWk : WF n pc (bu b (7 + k) 1) := WF_bu aW.1 (Or.inr (Or.inl ⟨by omega, by omega, by decide⟩))
        refine pw_iload 26 rfl dX12_goes_24 rfl ?_
        refine pw_aload_n 27 rfl dX12_goes_26 rfl ?_
        refine pw_getI 30 rfl dX12_goes_27 fX12_95 (by first | rfl | assumption | exact rowS hh | exact mtS hm | exact ruS hr | exact mtA1 hm | exact mtA2 hm | exact mtA3 hm | exact mtA4 hm | exact mtA5 hm | exact mtA6 hm | exact mtA7 hm | exact ruA1 hr | exact ruA2 hr | exact ruA3 hr) rfl ?_
        refine pw_icmp_ge (tgt := 141) 33 rfl dX12_goes_30 rfl (fun h30 => absurd h30 (by rw [hn']; (simp (disch := omega) only [nI_leI, nI_ltI, nI_eq, show (0 : Int32) = nI 0 from rfl, not_true_eq_false, not_false_eq_true] <;> omega))) (fun h30 => ?_)
        refine pw_aload_n 34 rfl dX12_goes_33 rfl ?_
        refine pw_getR 37 rfl dX12_goes_34 fX12_9 (by first | rfl | assumption | exact rowS hh | exact mtS hm | exact ruS hr | exact mtA1 hm | exact mtA2 hm | exact mtA3 hm | exact mtA4 hm | exact mtA5 hm | exact mtA6 hm | exact mtA7 hm | exact ruA1 hr | exact ruA2 hr | exact ruA3 hr) rfl (by first | rfl | assumption | exact mtR0 hm | exact mtR1 hm | exact mtR2 hm | exact mtR3 hm | exact mtR4 hm | exact mtR5 hm | exact mtR6 hm | exact ruR0 hr | exact ruR1 hr | exact ruR3 hr) ?_
        refine pw_bipush (v := nI 7) 39 rfl dX12_goes_37 rfl ?_
        refine pw_iload 41 rfl dX12_goes_39 rfl ?_
        first | refine pw_iaddN 42 rfl dX12_goes_41 ?_ | refine pw_iadd 42 rfl dX12_goes_41 ?_
        refine pw_ialdN 43 rfl dX12_goes_42 (by first | rfl | assumption | exact rowS hh | exact mtS hm | exact ruS hr | exact mtA1 hm | exact mtA2 hm | exact mtA3 hm | exact mtA4 hm | exact mtA5 hm | exact mtA6 hm | exact mtA7 hm | exact ruA1 hr | exact ruA2 hr | exact ruA3 hr) (by omega) (by first | decide | omega) ?_
        refine pw_if_eq (tgt := 49) 46 rfl dX12_goes_43 rfl (fun h43 => ?_) (fun h43 => absurd (by rw [e7, c0]; rfl) h43)
        refine pw_aload_n 50 rfl dX12_goes_49 rfl ?_
        refine pw_getR 53 rfl dX12_goes_50 fX12_9 (by first | rfl | assumption | exact rowS hh | exact mtS hm | exact ruS hr | exact mtA1 hm | exact mtA2 hm | exact mtA3 hm | exact mtA4 hm | exact mtA5 hm | exact mtA6 hm | exact mtA7 hm | exact ruA1 hr | exact ruA2 hr | exact ruA3 hr) rfl (by first | rfl | assumption | exact mtR0 hm | exact mtR1 hm | exact mtR2 hm | exact mtR3 hm | exact mtR4 hm | exact mtR5 hm | exact mtR6 hm | exact ruR0 hr | exact ruR1 hr | exact ruR3 hr) ?_
        refine pw_aload_n 54 rfl dX12_goes_53 rfl ?_
        refine pw_getR 57 rfl dX12_goes_54 fX12_42 (by first | rfl | assumption | exact rowS hh | exact mtS hm | exact ruS hr | exact mtA1 hm | exact mtA2 hm | exact mtA3 hm | exact mtA4 hm | exact mtA5 hm | exact mtA6 hm | exact mtA7 hm | exact ruA1 hr | exact ruA2 hr | exact ruA3 hr) rfl (by first | rfl | assumption | exact mtR0 hm | exact mtR1 hm | exact mtR2 hm | exact mtR3 hm | exact mtR4 hm | exact mtR5 hm | exact mtR6 hm | exact ruR0 hr | exact ruR1 hr | exact ruR3 hr) ?_
        refine pw_iconst (v := nI 0) 58 rfl dX12_goes_57 rfl ?_
        refine pw_callS (as := [_, _, _]) 61 rfl dX12_goes_58 mX12_219 sX12_lay (m_layT (d := d + 244) mB') ⟨rfl, by decide, by decide, show (parseMethodDescriptor yX12_lay.desc).map (fun d => d.parameters.length) = some 3 by decide +kernel⟩ (by omega) (by decide) (Nat.le_of_ble_eq_true rfl) rfl (fun r58 I58 J58 R58 c58 => ?_)
        obtain ⟨rfl, k1, k2, rfl, rfl⟩ := c58
        rotate_left
        refine pw_aload_n 62 rfl dX12_goes_61 rfl ?_
        refine pw_getR 65 rfl dX12_goes_62 fX12_42 (by first | rfl | assumption | exact rowS hh | exact mtS hm | exact ruS hr | exact mtA1 hm | exact mtA2 hm | exact mtA3 hm | exact mtA4 hm | exact mtA5 hm | exact mtA6 hm | exact mtA7 hm | exact ruA1 hr | exact ruA2 hr | exact ruA3 hr) rfl (by first | rfl | assumption | exact mtR0 hm | exact mtR1 hm | exact mtR2 hm | exact mtR3 hm | exact mtR4 hm | exact mtR5 hm | exact mtR6 hm | exact ruR0 hr | exact ruR1 hr | exact ruR3 hr) ?_
        refine pw_bipush (v := nI 7) 67 rfl dX12_goes_65 rfl ?_
        refine pw_iload 69 rfl dX12_goes_67 rfl ?_
        first | refine pw_iaddN 70 rfl dX12_goes_69 ?_ | refine pw_iadd 70 rfl dX12_goes_69 ?_
        refine pw_iconst (v := nI 1) 71 rfl dX12_goes_70 rfl ?_
        refine pw_iastN 72 rfl dX12_goes_71 (by first | rfl | assumption | exact rowS hh | exact mtS hm | exact ruS hr | exact mtA1 hm | exact mtA2 hm | exact mtA3 hm | exact mtA4 hm | exact mtA5 hm | exact mtA6 hm | exact mtA7 hm | exact ruA1 hr | exact ruA2 hr | exact ruA3 hr) (by omega) (by first | decide | omega) ?_
        refine pw_iconst (v := nI 0) 73 rfl dX12_goes_72 rfl ?_
        refine pw_istore 75 rfl dX12_goes_73 (by decide) ?_
        refine pw_iconst (v := nI 0) 76 rfl dX12_goes_75 rfl ?_
        refine pw_istore 78 rfl dX12_goes_76 (by decide) ?_
        rotate_left
        generalize hP : (fun t => decide (hrs n pc (ruE rt) (t + 1) (bu b (7 + k) 1) 29 = k)) = P
        have hPk : ∀ t, P t = decide (hrs n pc (ruE rt) (t + 1) (bu b (7 + k) 1) 29 = k) := fun t => by rw [← hP]
        have eoN : o k = cntP P N := by rw [hok, ← hP]
        have L2 := nat_loop N (fun t => ∀ (I2 : pI) (rd2 : Option Nat), MB I2 11 (hrs n pc (ruE rt) t (bu b (7 + k) 1)) → mFr 11 I I2 → MDg (g + 500 * k + 7 * t) I2 → PW SM yX12_goes.cls cX12_goes 7 (d + 245) 78 [some (.ref 0), some (.int (nI N)), some (.int (gB o f (-1) k)), some (.int (gM o f k)), some (.int (nI k)), some (.int (nI (cntP P t))), some (.int (nI t))] [] I2 J (RM rd2 (some 6)) (rX cX12_goes (some .int) (moP (g + 10000) (qOp (qGoes (nI N)) (n, pc, b, us, kp, rw, tx, rt, hd, sw))))) ?_ ?_
        · exact L2 _ rd' (MB_bu k1) (fun a j q1 q2 q3 q4 q5 => by rw [uI_ne (by omega), k2 a j q1]; exact m2 a j q1 q2 q3 q4 q5) (MDg_f m3 (by rw [uI_ne (by omega)]; exact k2 _ _ (by decide)) (fun j => by rw [uI_ne (by omega)]; exact k2 _ _ (by decide)))
        · intro I2 rd2 n1 n2 n3
          rw [← eoN]
          by_cases hc : gM o f k < nI (o k)
          · rw [if_pos ⟨hf, hc⟩, if_pos ⟨hf, hc⟩] at ih
            refine pw_iload 80 rfl dX12_goes_78 rfl ?_
            refine pw_iload_n 81 rfl dX12_goes_80 rfl ?_
            refine pw_icmp_ge (tgt := 120) 84 rfl dX12_goes_81 rfl (fun h81 => ?_) (fun h81 => absurd (by (simp (disch := omega) only [nI_leI, nI_ltI, nI_eq, show (0 : Int32) = nI 0 from rfl, not_true_eq_false, not_false_eq_true] <;> omega)) h81)
            refine pw_iload 122 rfl dX12_goes_120 rfl ?_
            refine pw_iload_n 123 rfl dX12_goes_122 rfl ?_
            refine pw_icmp_gt (tgt := 129) 126 rfl dX12_goes_123 rfl (fun h123 => ?_) (fun h123 => absurd hc h123)
            refine pw_iload 131 rfl dX12_goes_129 rfl ?_
            refine pw_istore_n 132 rfl dX12_goes_131 (by decide) ?_
            refine pw_iload 134 rfl dX12_goes_132 rfl ?_
            refine pw_istore_n 135 rfl dX12_goes_134 (by decide) ?_
            refine pw_iincN 138 rfl dX12_goes_135 (by decide) rfl ?_
            refine pw_goto (tgt := 24) dX12_goes_138 rfl ?_
            rotate_left
            exact ih I2 rd2 _ _ n2 (n3.mono (by omega))
          · rw [if_neg (fun z => hc z.2), if_neg (fun z => hc z.2)] at ih
            refine pw_iload 80 rfl dX12_goes_78 rfl ?_
            refine pw_iload_n 81 rfl dX12_goes_80 rfl ?_
            refine pw_icmp_ge (tgt := 120) 84 rfl dX12_goes_81 rfl (fun h81 => ?_) (fun h81 => absurd (by (simp (disch := omega) only [nI_leI, nI_ltI, nI_eq, show (0 : Int32) = nI 0 from rfl, not_true_eq_false, not_false_eq_true] <;> omega)) h81)
            refine pw_iload 122 rfl dX12_goes_120 rfl ?_
            refine pw_iload_n 123 rfl dX12_goes_122 rfl ?_
            refine pw_icmp_gt (tgt := 129) 126 rfl dX12_goes_123 rfl (fun h123 => absurd h123 hc) (fun h123 => ?_)
            refine pw_goto (tgt := 135) dX12_goes_126 rfl ?_
            refine pw_iincN 138 rfl dX12_goes_135 (by decide) rfl ?_
            refine pw_goto (tgt := 24) dX12_goes_138 rfl ?_
            rotate_left
            exact ih I2 rd2 _ _ n2 (n3.mono (by omega))
        · intro t ht ih2 I2 rd2 n1 n2 n3
          have hWt := WF_hrs (ruE rt) hWk t
          have hWt1 := WF_hrs (ruE rt) hWk (t + 1)
          refine pw_iload 80 rfl dX12_goes_78 rfl ?_
          refine pw_iload_n 81 rfl dX12_goes_80 rfl ?_
          refine pw_icmp_ge (tgt := 120) 84 rfl dX12_goes_81 rfl (fun h81 => absurd h81 (by (simp (disch := omega) only [nI_leI, nI_ltI, nI_eq, show (0 : Int32) = nI 0 from rfl, not_true_eq_false, not_false_eq_true] <;> omega))) (fun h81 => ?_)
          refine pw_aload_n 85 rfl dX12_goes_84 rfl ?_
          refine pw_aload_n 86 rfl dX12_goes_85 rfl ?_
          refine pw_getR 89 rfl dX12_goes_86 fX12_42 (by first | rfl | assumption | exact rowS hh | exact mtS hm | exact ruS hr | exact mtA1 hm | exact mtA2 hm | exact mtA3 hm | exact mtA4 hm | exact mtA5 hm | exact mtA6 hm | exact mtA7 hm | exact ruA1 hr | exact ruA2 hr | exact ruA3 hr) rfl (by first | rfl | assumption | exact mtR0 hm | exact mtR1 hm | exact mtR2 hm | exact mtR3 hm | exact mtR4 hm | exact mtR5 hm | exact mtR6 hm | exact ruR0 hr | exact ruR1 hr | exact ruR3 hr) ?_
          refine pw_callV (as := [_]) 92 rfl dX12_goes_89 mX12_230 vX12_goHour (m_hour (d := d + 7) (mC.fr n2 (Or.inr rfl)) n1 hWt (MSt_mFr hE n2) n3 (by omega)) (by first | rfl | assumption | exact rowS hh | exact mtS hm | exact ruS hr | exact mtA1 hm | exact mtA2 hm | exact mtA3 hm | exact mtA4 hm | exact mtA5 hm | exact mtA6 hm | exact mtA7 hm | exact ruA1 hr | exact ruA2 hr | exact ruA3 hr) rfl (by decide) ⟨rfl, by decide, by decide, show (parseMethodDescriptor yX12_goHour.desc).map (fun d => d.parameters.length) = some 1 by decide +kernel⟩ (by omega) (by decide) (Nat.le_of_ble_eq_true rfl) rfl (fun r89 I89 J89 R89 c89 => ?_)
          obtain ⟨rfl, p1, p2, p3, rfl, rd3, rfl⟩ := c89
          rotate_left
          have eO : I89 11 29 = nI (hrs n pc (ruE rt) (t + 1) (bu b (7 + k) 1) 29) := p1 29 (by omega)
          have hO := hWt1.2.2.1
          have go := ih2 I89 rd3 p1 (n2.trans p2) (p3.mono (by omega))
          by_cases hp : hrs n pc (ruE rt) (t + 1) (bu b (7 + k) 1) 29 = k
          · rw [cntP_y (by rw [hPk]; exact decide_eq_true hp)] at go
            refine pw_iload 94 rfl dX12_goes_92 rfl ?_
            refine pw_aload_n 95 rfl dX12_goes_94 rfl ?_
            refine pw_getR 98 rfl dX12_goes_95 fX12_42 (by first | rfl | assumption | exact rowS hh | exact mtS hm | exact ruS hr | exact mtA1 hm | exact mtA2 hm | exact mtA3 hm | exact mtA4 hm | exact mtA5 hm | exact mtA6 hm | exact mtA7 hm | exact ruA1 hr | exact ruA2 hr | exact ruA3 hr) rfl (by first | rfl | assumption | exact mtR0 hm | exact mtR1 hm | exact mtR2 hm | exact mtR3 hm | exact mtR4 hm | exact mtR5 hm | exact mtR6 hm | exact ruR0 hr | exact ruR1 hr | exact ruR3 hr) ?_
            refine pw_bipush (v := nI 29) 100 rfl dX12_goes_98 rfl ?_
            refine pw_ialdN 101 rfl dX12_goes_100 (by first | rfl | assumption | exact rowS hh | exact mtS hm | exact ruS hr | exact mtA1 hm | exact mtA2 hm | exact mtA3 hm | exact mtA4 hm | exact mtA5 hm | exact mtA6 hm | exact mtA7 hm | exact ruA1 hr | exact ruA2 hr | exact ruA3 hr) (by omega) (by first | decide | omega) ?_
            refine pw_iload 103 rfl dX12_goes_101 rfl ?_
            refine pw_icmp_ne (tgt := 110) 106 rfl dX12_goes_103 rfl (fun h103 => absurd (by rw [eO, hp]) h103) (fun h103 => ?_)
            refine pw_iconst (v := nI 1) 107 rfl dX12_goes_106 rfl ?_
            refine pw_goto (tgt := 111) dX12_goes_107 rfl ?_
            first | refine pw_iaddN 112 rfl dX12_goes_111 ?_ | refine pw_iadd 112 rfl dX12_goes_111 ?_
            refine pw_istore 114 rfl dX12_goes_112 (by decide) ?_
            refine pw_iincN 117 rfl dX12_goes_114 (by decide) rfl ?_
            refine pw_goto (tgt := 78) dX12_goes_117 rfl ?_
            rotate_left
            exact go
          · rw [cntP_n (by rw [hPk]; exact decide_eq_false hp)] at go
            refine pw_iload 94 rfl dX12_goes_92 rfl ?_
            refine pw_aload_n 95 rfl dX12_goes_94 rfl ?_
            refine pw_getR 98 rfl dX12_goes_95 fX12_42 (by first | rfl | assumption | exact rowS hh | exact mtS hm | exact ruS hr | exact mtA1 hm | exact mtA2 hm | exact mtA3 hm | exact mtA4 hm | exact mtA5 hm | exact mtA6 hm | exact mtA7 hm | exact ruA1 hr | exact ruA2 hr | exact ruA3 hr) rfl (by first | rfl | assumption | exact mtR0 hm | exact mtR1 hm | exact mtR2 hm | exact mtR3 hm | exact mtR4 hm | exact mtR5 hm | exact mtR6 hm | exact ruR0 hr | exact ruR1 hr | exact ruR3 hr) ?_
            refine pw_bipush (v := nI 29) 100 rfl dX12_goes_98 rfl ?_
            refine pw_ialdN 101 rfl dX12_goes_100 (by first | rfl | assumption | exact rowS hh | exact mtS hm | exact ruS hr | exact mtA1 hm | exact mtA2 hm | exact mtA3 hm | exact mtA4 hm | exact mtA5 hm | exact mtA6 hm | exact mtA7 hm | exact ruA1 hr | exact ruA2 hr | exact ruA3 hr) (by omega) (by first | decide | omega) ?_
            refine pw_iload 103 rfl dX12_goes_101 rfl ?_
            refine pw_icmp_ne (tgt := 110) 106 rfl dX12_goes_103 rfl (fun h103 => ?_) (fun h103 => absurd h103 (by rw [eO, nI_eq (by omega) (by omega)]; exact hp))
            refine pw_iconst (v := nI 0) 111 rfl dX12_goes_110 rfl ?_
            first | refine pw_iaddN 112 rfl dX12_goes_111 ?_ | refine pw_iadd 112 rfl dX12_goes_111 ?_
            refine pw_istore 114 rfl dX12_goes_112 (by decide) ?_
            refine pw_iincN 117 rfl dX12_goes_114 (by decide) rfl ?_
            refine pw_goto (tgt := 78) dX12_goes_117 rfl ?_
            rotate_left
            exact go
      · have hf : ¬ f k = true := by rw [hfk, decide_eq_false c0]; decide
        rw [if_neg (fun z => hf z.1), if_neg (fun z => hf z.1)] at ih
        refine pw_iload 26 rfl dX12_goes_24 rfl ?_
        refine pw_aload_n 27 rfl dX12_goes_26 rfl ?_
        refine pw_getI 30 rfl dX12_goes_27 fX12_95 (by first | rfl | assumption | exact rowS hh | exact mtS hm | exact ruS hr | exact mtA1 hm | exact mtA2 hm | exact mtA3 hm | exact mtA4 hm | exact mtA5 hm | exact mtA6 hm | exact mtA7 hm | exact ruA1 hr | exact ruA2 hr | exact ruA3 hr) rfl ?_
        refine pw_icmp_ge (tgt := 141) 33 rfl dX12_goes_30 rfl (fun h30 => absurd h30 (by rw [hn']; (simp (disch := omega) only [nI_leI, nI_ltI, nI_eq, show (0 : Int32) = nI 0 from rfl, not_true_eq_false, not_false_eq_true] <;> omega))) (fun h30 => ?_)
        refine pw_aload_n 34 rfl dX12_goes_33 rfl ?_
        refine pw_getR 37 rfl dX12_goes_34 fX12_9 (by first | rfl | assumption | exact rowS hh | exact mtS hm | exact ruS hr | exact mtA1 hm | exact mtA2 hm | exact mtA3 hm | exact mtA4 hm | exact mtA5 hm | exact mtA6 hm | exact mtA7 hm | exact ruA1 hr | exact ruA2 hr | exact ruA3 hr) rfl (by first | rfl | assumption | exact mtR0 hm | exact mtR1 hm | exact mtR2 hm | exact mtR3 hm | exact mtR4 hm | exact mtR5 hm | exact mtR6 hm | exact ruR0 hr | exact ruR1 hr | exact ruR3 hr) ?_
        refine pw_bipush (v := nI 7) 39 rfl dX12_goes_37 rfl ?_
        refine pw_iload 41 rfl dX12_goes_39 rfl ?_
        first | refine pw_iaddN 42 rfl dX12_goes_41 ?_ | refine pw_iadd 42 rfl dX12_goes_41 ?_
        refine pw_ialdN 43 rfl dX12_goes_42 (by first | rfl | assumption | exact rowS hh | exact mtS hm | exact ruS hr | exact mtA1 hm | exact mtA2 hm | exact mtA3 hm | exact mtA4 hm | exact mtA5 hm | exact mtA6 hm | exact mtA7 hm | exact ruA1 hr | exact ruA2 hr | exact ruA3 hr) (by omega) (by first | decide | omega) ?_
        refine pw_if_eq (tgt := 49) 46 rfl dX12_goes_43 rfl (fun h43 => absurd h43 (by rw [e7]; exact nI_ne0 (by omega) (by omega))) (fun h43 => ?_)
        refine pw_goto (tgt := 135) dX12_goes_46 rfl ?_
        refine pw_iincN 138 rfl dX12_goes_135 (by decide) rfl ?_
        refine pw_goto (tgt := 24) dX12_goes_138 rfl ?_
        rotate_left
        exact ih I' rd' x y m2 (m3.mono (by omega))
  · refine pw_iload_n 6 rfl dX12_goes_5 rfl ?_
    refine pw_iconst (v := nI 1) 7 rfl dX12_goes_6 rfl ?_
    refine pw_bipush (v := nI 60) 9 rfl dX12_goes_7 rfl ?_
    refine pw_callSP (as := [_, _, _]) 12 rfl dX12_goes_9 mX12_98 sX12_in (m_in (d := d) _ _ _) ⟨rfl, by decide, by decide, show (parseMethodDescriptor yX12_in.desc).map (fun d => d.parameters.length) = some 3 by decide +kernel⟩ (by omega) (by decide) (Nat.le_of_ble_eq_true rfl) rfl ?_
    refine pw_if_ne (tgt := 17) 15 rfl dX12_goes_12 rfl (fun h12 => absurd (by rw [inV_n ho]; rfl) h12) (fun h12 => ?_)
    refine pw_iconst (v := -1) 16 rfl dX12_goes_15 rfl ?_
    refine pw_iret dX12_goes_16 rfl ?_
    rotate_left
    exact moQ (by unfold qGoes; rw [hi]; rfl) rfl hA0 (hD0.mono (by omega)) ⟨rd, rfl⟩
