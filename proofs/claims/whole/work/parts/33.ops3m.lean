def mFw (I I' : pI) : Prop := ∀ a j, (a = 1 ∨ a = 2 ∨ a = 3 ∨ a = 4 ∨ a = 6 ∨ a = 7 ∨ a = 9 ∨ (18 ≤ a ∧ a ≤ 21) ∨ (23 ≤ a ∧ a ≤ 25) ∨ (a = 0 ∧ (j = 1 ∨ j = 4 ∨ j = 6 ∨ j = 16 ∨ j = 20 ∨ j = 32 ∨ j = 35 ∨ j = 38))) → I' a j = I a j
theorem mFw.of {I I' : pI} (h : mFr 11 I I') : mFw I I' := fun a j q => h a j (by omega) (by omega) (by omega) (by omega) (by omega)
theorem mFw.refl {I : pI} : mFw I I := fun _ _ _ => rfl
theorem mFw.trans {I I' I'' : pI} (h : mFw I I') (k : mFw I' I'') : mFw I I'' := fun a j q => by rw [k a j q, h a j q]
theorem mFw.ms {I I' : pI} (h : mFw I I') : fMs I I' := fun a j q => h a j (by omega)
theorem mFw.mc {I I' : pI} {n : Nat} {pc : Nat → Nat} (f : mFw I I') (h : MC I n pc) : MC I' n pc := MC_f h (f _ _ (by omega)) (fun j => f _ _ (by omega))
theorem mFw.mn {I I' : pI} {J : pJ} {rw : List Int64} (f : mFw I I') (h : MN I J rw) : MN I' J rw := MN_f h (f _ _ (by omega))
theorem mFw.st {I I' : pI} {rl : Option Nat} {E : (Nat → Int32) → Nat} (f : mFw I I') (h : MSt 236 rl I E) : MSt 236 rl I' E := h.fr (f _ _ (by omega)) (fun j => f _ _ (by omega)) (fun j => f _ _ (by omega))
set_option maxRecDepth 100000 in
set_option maxHeartbeats 2000000 in
theorem mo_shares {d g : Nat} {s : aSt} {rd : Option Nat} {I : pI} {J : pJ} (hA : MA I J s) (hD : MDg g I) (hg : g ≤ 500000000) (hW : WA s) (v : Int32) : PC SM (d + 245) yX12_shares cX12_shares 3 (some .int) [.ref 0, .int v] (I) (J) (RM rd (some 6)) (moP (g + 10000) (qOp (qShares v) s)) := by
  refine PC.of [some (.ref 0), some (.int v), none] rfl rfl (Nat.le_of_ble_eq_true rfl) ?_
  obtain ⟨n, pc, b, us, kp, rw, tx, rt, hd, sw⟩ := s
  refine pw_aload_n 1 rfl dX12_shares_0 rfl ?_
  refine pw_iconst (v := nI 0) 2 rfl dX12_shares_1 rfl ?_
  refine pw_putI 5 rfl dX12_shares_2 fX12_88 w12_7 (by first | rfl | assumption | exact rowS hh | exact mtS hm | exact ruS hr | exact mtA1 hm | exact mtA2 hm | exact mtA3 hm | exact mtA4 hm | exact mtA5 hm | exact mtA6 hm | exact mtA7 hm | exact ruA1 hr | exact ruA2 hr | exact ruA3 hr) rfl rfl rfl ?_
  rotate_left
  have hA0 := MA_thr (v := nI 0) hA
  have hD0 : MDg g (uI I 0 7 (nI 0)) := MDg_f hD (uI_ne (by omega)) (fun j => uI_ne (by omega))
  clear hA hD
  generalize uI I 0 7 (nI 0) = I at hA0 hD0 ⊢
  obtain ⟨mC, mB, mT, mN, mR, mU, mK, mH, mG⟩ := id hA0
  obtain ⟨aW, aU, aK⟩ := id hW
  have hE := MSt_A hA0
  have hn7 := mC.1
  have hn := mC.2.1
  rcases inOf_cases (lo := 1) (hi := 99) (by decide) v (by decide) with ⟨N, h1, h2, rfl, hi⟩ | ⟨hi, ho⟩
  · generalize hP : (fun (q t : Nat) => decide (hrs n pc (ruE rt) (t + 1) b 29 = q)) = P
    have hPk : ∀ q t, P q t = decide (hrs n pc (ruE rt) (t + 1) b 29 = q) := fun q t => by rw [← hP]
    have eq' : qShares (nI N) n pc b (ruE rt) rw hd sw = (nI (cntP (P 7) N), nseq (fun q => lI (cntP (P q) N)) n) := by unfold qShares; rw [hi, ← hP]; rfl
    have fin : ∀ (I' : pI) (rd' : Option Nat) (x : Option Value), (∀ q, q < 8 → I' 15 q = nI (cntP (P q) N)) → mFw I I' → MDg (g + 7 * N) I' → PW SM yX12_shares.cls cX12_shares 3 (d + 245) 87 [some (.ref 0), some (.int (nI N)), x] [] I' J (RM rd' (some 6)) (rX cX12_shares (some .int) (moP (g + 10000) (qOp (qShares (nI N)) (n, pc, b, us, kp, rw, tx, rt, hd, sw)))) := by
      intro I' rd' x m1 m2 m3
      refine pw_aload_n 88 rfl dX12_shares_87 rfl ?_
      refine pw_iconst (v := nI 0) 89 rfl dX12_shares_88 rfl ?_
      refine pw_putI 92 rfl dX12_shares_89 fX12_92 w12_6 (by first | rfl | assumption | exact rowS hh | exact mtS hm | exact ruS hr | exact mtA1 hm | exact mtA2 hm | exact mtA3 hm | exact mtA4 hm | exact mtA5 hm | exact mtA6 hm | exact mtA7 hm | exact ruA1 hr | exact ruA2 hr | exact ruA3 hr) rfl rfl rfl ?_
      refine pw_iconst (v := nI 0) 93 rfl dX12_shares_92 rfl ?_
      refine pw_istore_n 94 rfl dX12_shares_93 (by decide) ?_
      rotate_left
      have L := nat_loop n (fun k => ∀ (I2 : pI) (J2 : pJ), MN I2 J2 (nseq (fun q => lI (cntP (P q) N)) k) → (∀ a j, ¬ (a = 0 ∧ j = 6) → I2 a j = I' a j) → PW SM yX12_shares.cls cX12_shares 3 (d + 245) 94 [some (.ref 0), some (.int (nI N)), some (.int (nI k))] [] I2 J2 (RM rd' (some 6)) (rX cX12_shares (some .int) (moP (g + 10000) (qOp (qShares (nI N)) (n, pc, b, us, kp, rw, tx, rt, hd, sw))))) ?_ ?_
      · exact L _ J MN_0 (fun a j q => uI_ne (by omega))
      · intro I2 J2 n1 n2
        have hn' : I2 0 1 = nI n := by rw [n2 _ _ (by omega), m2 _ _ (by omega)]; exact hn
        refine pw_iload_n 95 rfl dX12_shares_94 rfl ?_
        refine pw_aload_n 96 rfl dX12_shares_95 rfl ?_
        refine pw_getI 99 rfl dX12_shares_96 fX12_95 (by first | rfl | assumption | exact rowS hh | exact mtS hm | exact ruS hr | exact mtA1 hm | exact mtA2 hm | exact mtA3 hm | exact mtA4 hm | exact mtA5 hm | exact mtA6 hm | exact mtA7 hm | exact ruA1 hr | exact ruA2 hr | exact ruA3 hr) rfl ?_
        refine pw_icmp_ge (tgt := 119) 102 rfl dX12_shares_99 rfl (fun h99 => ?_) (fun h99 => absurd (by rw [hn']; (simp (disch := omega) only [nI_leI, nI_ltI, nI_eq, show (0 : Int32) = nI 0 from rfl, not_true_eq_false, not_false_eq_true] <;> omega)) h99)
        refine pw_aload_n 120 rfl dX12_shares_119 rfl ?_
        refine pw_getR 123 rfl dX12_shares_120 fX12_54 (by first | rfl | assumption | exact rowS hh | exact mtS hm | exact ruS hr | exact mtA1 hm | exact mtA2 hm | exact mtA3 hm | exact mtA4 hm | exact mtA5 hm | exact mtA6 hm | exact mtA7 hm | exact ruA1 hr | exact ruA2 hr | exact ruA3 hr) rfl (by first | rfl | assumption | exact mtR0 hm | exact mtR1 hm | exact mtR2 hm | exact mtR3 hm | exact mtR4 hm | exact mtR5 hm | exact mtR6 hm | exact ruR0 hr | exact ruR1 hr | exact ruR3 hr) ?_
        refine pw_bipush (v := nI 7) 125 rfl dX12_shares_123 rfl ?_
        refine pw_ialdN 126 rfl dX12_shares_125 (by first | rfl | assumption | exact rowS hh | exact mtS hm | exact ruS hr | exact mtA1 hm | exact mtA2 hm | exact mtA3 hm | exact mtA4 hm | exact mtA5 hm | exact mtA6 hm | exact mtA7 hm | exact ruA1 hr | exact ruA2 hr | exact ruA3 hr) (by omega) (by first | decide | omega) ?_
        rotate_left
        rw [n2 _ _ (by omega), m1 7 (by omega)]
        refine pw_iret dX12_shares_126 rfl ?_
        rotate_left
        exact moQ eq' rfl (MA_rw hA0 (fun a j q => by rw [n2 a j (by omega)]; exact m2.ms a j q) n1) ((MDg_f m3 (n2 _ _ (by omega)) (fun j => n2 _ _ (by omega))).mono (by omega)) ⟨rd', rfl⟩
      · intro k hk ih I2 J2 n1 n2
        have hn' : I2 0 1 = nI n := by rw [n2 _ _ (by omega), m2 _ _ (by omega)]; exact hn
        refine pw_iload_n 95 rfl dX12_shares_94 rfl ?_
        refine pw_aload_n 96 rfl dX12_shares_95 rfl ?_
        refine pw_getI 99 rfl dX12_shares_96 fX12_95 (by first | rfl | assumption | exact rowS hh | exact mtS hm | exact ruS hr | exact mtA1 hm | exact mtA2 hm | exact mtA3 hm | exact mtA4 hm | exact mtA5 hm | exact mtA6 hm | exact mtA7 hm | exact ruA1 hr | exact ruA2 hr | exact ruA3 hr) rfl ?_
        refine pw_icmp_ge (tgt := 119) 102 rfl dX12_shares_99 rfl (fun h99 => absurd h99 (by rw [hn']; (simp (disch := omega) only [nI_leI, nI_ltI, nI_eq, show (0 : Int32) = nI 0 from rfl, not_true_eq_false, not_false_eq_true] <;> omega))) (fun h99 => ?_)
        refine pw_aload_n 103 rfl dX12_shares_102 rfl ?_
        refine pw_aload_n 104 rfl dX12_shares_103 rfl ?_
        refine pw_getR 107 rfl dX12_shares_104 fX12_54 (by first | rfl | assumption | exact rowS hh | exact mtS hm | exact ruS hr | exact mtA1 hm | exact mtA2 hm | exact mtA3 hm | exact mtA4 hm | exact mtA5 hm | exact mtA6 hm | exact mtA7 hm | exact ruA1 hr | exact ruA2 hr | exact ruA3 hr) rfl (by first | rfl | assumption | exact mtR0 hm | exact mtR1 hm | exact mtR2 hm | exact mtR3 hm | exact mtR4 hm | exact mtR5 hm | exact mtR6 hm | exact ruR0 hr | exact ruR1 hr | exact ruR3 hr) ?_
        refine pw_iload_n 108 rfl dX12_shares_107 rfl ?_
        refine pw_ialdN 109 rfl dX12_shares_108 (by first | rfl | assumption | exact rowS hh | exact mtS hm | exact ruS hr | exact mtA1 hm | exact mtA2 hm | exact mtA3 hm | exact mtA4 hm | exact mtA5 hm | exact mtA6 hm | exact mtA7 hm | exact ruA1 hr | exact ruA2 hr | exact ruA3 hr) (by omega) (by first | decide | omega) ?_
        rotate_left
        rw [n2 _ _ (by omega), m1 k (by omega)]
        refine pw_i2l 110 rfl dX12_shares_109 ?_
        refine pw_callV (as := [_]) 113 rfl dX12_shares_110 mX12_236 vX12_tell (m_tell (d := d + 244) n1 (by rw [nseq_len]; omega)) (by first | rfl | assumption | exact rowS hh | exact mtS hm | exact ruS hr | exact mtA1 hm | exact mtA2 hm | exact mtA3 hm | exact mtA4 hm | exact mtA5 hm | exact mtA6 hm | exact mtA7 hm | exact ruA1 hr | exact ruA2 hr | exact ruA3 hr) rfl (by decide) ⟨rfl, by decide, by decide, show (parseMethodDescriptor yX12_tell.desc).map (fun d => d.parameters.length) = some 1 by decide +kernel⟩ (by omega) (by decide) (Nat.le_of_ble_eq_true rfl) rfl (fun r110 I110 J110 R110 c110 => ?_)
        obtain ⟨rfl, t1, t2, rfl⟩ := c110
        rotate_left
        refine pw_iincN 116 rfl dX12_shares_113 (by decide) rfl ?_
        refine pw_goto (tgt := 94) dX12_shares_116 rfl ?_
        rotate_left
        exact ih I110 J110 t1 (fun a j q => by rw [t2 a j q, n2 a j q])
    refine pw_iload_n 6 rfl dX12_shares_5 rfl ?_
    refine pw_iconst (v := nI 1) 7 rfl dX12_shares_6 rfl ?_
    refine pw_bipush (v := nI 99) 9 rfl dX12_shares_7 rfl ?_
    refine pw_callSP (as := [_, _, _]) 12 rfl dX12_shares_9 mX12_98 sX12_in (m_in (d := d) _ _ _) ⟨rfl, by decide, by decide, show (parseMethodDescriptor yX12_in.desc).map (fun d => d.parameters.length) = some 3 by decide +kernel⟩ (by omega) (by decide) (Nat.le_of_ble_eq_true rfl) rfl ?_
    refine pw_if_ne (tgt := 17) 15 rfl dX12_shares_12 rfl (fun h12 => ?_) (fun h12 => absurd h12 (by rw [inV_y h1 h2 (by decide)]; decide))
    refine pw_iconst (v := nI 0) 18 rfl dX12_shares_17 rfl ?_
    refine pw_istore_n 19 rfl dX12_shares_18 (by decide) ?_
    rotate_left
    have L1 := nat_loop 8 (fun k => ∀ (I' : pI), (∀ q, q < k → I' 15 q = nI 0) → (∀ a j, a ≠ 15 → I' a j = I a j) → PW SM yX12_shares.cls cX12_shares 3 (d + 245) 19 [some (.ref 0), some (.int (nI N)), some (.int (nI k))] [] I' J (RM rd (some 6)) (rX cX12_shares (some .int) (moP (g + 10000) (qOp (qShares (nI N)) (n, pc, b, us, kp, rw, tx, rt, hd, sw))))) ?_ ?_
    · exact L1 I (fun q hq => by omega) (fun _ _ _ => rfl)
    · intro I' m1 m2
      refine pw_iload_n 20 rfl dX12_shares_19 rfl ?_
      refine pw_bipush (v := nI 7) 22 rfl dX12_shares_20 rfl ?_
      refine pw_icmp_gt (tgt := 38) 25 rfl dX12_shares_22 rfl (fun h22 => ?_) (fun h22 => absurd (by (simp (disch := omega) only [nI_leI, nI_ltI, nI_eq, show (0 : Int32) = nI 0 from rfl, not_true_eq_false, not_false_eq_true] <;> omega)) h22)
      refine pw_aload_n 39 rfl dX12_shares_38 rfl ?_
      refine pw_getR 42 rfl dX12_shares_39 fX12_9 (by first | rfl | assumption | exact rowS hh | exact mtS hm | exact ruS hr | exact mtA1 hm | exact mtA2 hm | exact mtA3 hm | exact mtA4 hm | exact mtA5 hm | exact mtA6 hm | exact mtA7 hm | exact ruA1 hr | exact ruA2 hr | exact ruA3 hr) rfl (by first | rfl | assumption | exact mtR0 hm | exact mtR1 hm | exact mtR2 hm | exact mtR3 hm | exact mtR4 hm | exact mtR5 hm | exact mtR6 hm | exact ruR0 hr | exact ruR1 hr | exact ruR3 hr) ?_
      refine pw_aload_n 43 rfl dX12_shares_42 rfl ?_
      refine pw_getR 46 rfl dX12_shares_43 fX12_42 (by first | rfl | assumption | exact rowS hh | exact mtS hm | exact ruS hr | exact mtA1 hm | exact mtA2 hm | exact mtA3 hm | exact mtA4 hm | exact mtA5 hm | exact mtA6 hm | exact mtA7 hm | exact ruA1 hr | exact ruA2 hr | exact ruA3 hr) rfl (by first | rfl | assumption | exact mtR0 hm | exact mtR1 hm | exact mtR2 hm | exact mtR3 hm | exact mtR4 hm | exact mtR5 hm | exact mtR6 hm | exact ruR0 hr | exact ruR1 hr | exact ruR3 hr) ?_
      refine pw_iconst (v := nI 0) 47 rfl dX12_shares_46 rfl ?_
      refine pw_callS (as := [_, _, _]) 50 rfl dX12_shares_47 mX12_219 sX12_lay (m_layT (d := d + 244) (MB_f mB (fun j => m2 _ _ (by decide)))) ⟨rfl, by decide, by decide, show (parseMethodDescriptor yX12_lay.desc).map (fun d => d.parameters.length) = some 3 by decide +kernel⟩ (by omega) (by decide) (Nat.le_of_ble_eq_true rfl) rfl (fun r47 I47 J47 R47 c47 => ?_)
      obtain ⟨rfl, k1, k2, rfl, rfl⟩ := c47
      rotate_left
      refine pw_iconst (v := nI 0) 51 rfl dX12_shares_50 rfl ?_
      refine pw_istore_n 52 rfl dX12_shares_51 (by decide) ?_
      rotate_left
      have L2 := nat_loop N (fun t => ∀ (I2 : pI) (rd' : Option Nat), (∀ q, q < 8 → I2 15 q = nI (cntP (P q) t)) → MB I2 11 (hrs n pc (ruE rt) t b) → mFw I I2 → MDg (g + 7 * t) I2 → PW SM yX12_shares.cls cX12_shares 3 (d + 245) 52 [some (.ref 0), some (.int (nI N)), some (.int (nI t))] [] I2 J (RM rd' (some 6)) (rX cX12_shares (some .int) (moP (g + 10000) (qOp (qShares (nI N)) (n, pc, b, us, kp, rw, tx, rt, hd, sw))))) ?_ ?_
      · exact L2 _ rd (fun q hq => by rw [k2 _ _ (by decide)]; exact m1 q hq) k1 (fun a j q => by rw [k2 a j (by omega), m2 a j (by omega)]) (MDg_f hD0 (by rw [k2 _ _ (by decide), m2 _ _ (by decide)]) (fun j => by rw [k2 _ _ (by decide), m2 _ _ (by decide)]))
      · intro I2 rd' n1 n2 n3 n4
        refine pw_iload_n 53 rfl dX12_shares_52 rfl ?_
        refine pw_iload_n 54 rfl dX12_shares_53 rfl ?_
        refine pw_icmp_ge (tgt := 87) 57 rfl dX12_shares_54 rfl (fun h54 => ?_) (fun h54 => absurd (by (simp (disch := omega) only [nI_leI, nI_ltI, nI_eq, show (0 : Int32) = nI 0 from rfl, not_true_eq_false, not_false_eq_true] <;> omega)) h54)
        rotate_left
        exact fin I2 rd' _ n1 n3 n4
      · intro t ht ih I2 rd' n1 n2 n3 n4
        have hWt := WF_hrs (ruE rt) aW.1 t
        have hWt1 := WF_hrs (ruE rt) aW.1 (t + 1)
        refine pw_iload_n 53 rfl dX12_shares_52 rfl ?_
        refine pw_iload_n 54 rfl dX12_shares_53 rfl ?_
        refine pw_icmp_ge (tgt := 87) 57 rfl dX12_shares_54 rfl (fun h54 => absurd h54 (by (simp (disch := omega) only [nI_leI, nI_ltI, nI_eq, show (0 : Int32) = nI 0 from rfl, not_true_eq_false, not_false_eq_true] <;> omega))) (fun h54 => ?_)
        refine pw_aload_n 58 rfl dX12_shares_57 rfl ?_
        refine pw_aload_n 59 rfl dX12_shares_58 rfl ?_
        refine pw_getR 62 rfl dX12_shares_59 fX12_42 (by first | rfl | assumption | exact rowS hh | exact mtS hm | exact ruS hr | exact mtA1 hm | exact mtA2 hm | exact mtA3 hm | exact mtA4 hm | exact mtA5 hm | exact mtA6 hm | exact mtA7 hm | exact ruA1 hr | exact ruA2 hr | exact ruA3 hr) rfl (by first | rfl | assumption | exact mtR0 hm | exact mtR1 hm | exact mtR2 hm | exact mtR3 hm | exact mtR4 hm | exact mtR5 hm | exact mtR6 hm | exact ruR0 hr | exact ruR1 hr | exact ruR3 hr) ?_
        refine pw_callV (as := [_]) 65 rfl dX12_shares_62 mX12_230 vX12_goHour (m_hour (d := d + 7) (n3.mc mC) n2 hWt (n3.st hE) n4 (by omega)) (by first | rfl | assumption | exact rowS hh | exact mtS hm | exact ruS hr | exact mtA1 hm | exact mtA2 hm | exact mtA3 hm | exact mtA4 hm | exact mtA5 hm | exact mtA6 hm | exact mtA7 hm | exact ruA1 hr | exact ruA2 hr | exact ruA3 hr) rfl (by decide) ⟨rfl, by decide, by decide, show (parseMethodDescriptor yX12_goHour.desc).map (fun d => d.parameters.length) = some 1 by decide +kernel⟩ (by omega) (by decide) (Nat.le_of_ble_eq_true rfl) rfl (fun r62 I62 J62 R62 c62 => ?_)
        obtain ⟨rfl, p1, p2, p3, rfl, rd2, rfl⟩ := c62
        rotate_left
        have eO : I62 11 29 = nI (hrs n pc (ruE rt) (t + 1) b 29) := p1 29 (by omega)
        have hO := hWt1.2.2.1
        have e15 : ∀ q, q < 8 → I62 15 q = nI (cntP (P q) t) := fun q hq => by rw [p2 _ _ (by omega) (by omega) (by omega) (by omega) (by omega)]; exact n1 q hq
        refine pw_aload_n 66 rfl dX12_shares_65 rfl ?_
        refine pw_getR 69 rfl dX12_shares_66 fX12_54 (by first | rfl | assumption | exact rowS hh | exact mtS hm | exact ruS hr | exact mtA1 hm | exact mtA2 hm | exact mtA3 hm | exact mtA4 hm | exact mtA5 hm | exact mtA6 hm | exact mtA7 hm | exact ruA1 hr | exact ruA2 hr | exact ruA3 hr) rfl (by first | rfl | assumption | exact mtR0 hm | exact mtR1 hm | exact mtR2 hm | exact mtR3 hm | exact mtR4 hm | exact mtR5 hm | exact mtR6 hm | exact ruR0 hr | exact ruR1 hr | exact ruR3 hr) ?_
        refine pw_aload_n 70 rfl dX12_shares_69 rfl ?_
        refine pw_getR 73 rfl dX12_shares_70 fX12_42 (by first | rfl | assumption | exact rowS hh | exact mtS hm | exact ruS hr | exact mtA1 hm | exact mtA2 hm | exact mtA3 hm | exact mtA4 hm | exact mtA5 hm | exact mtA6 hm | exact mtA7 hm | exact ruA1 hr | exact ruA2 hr | exact ruA3 hr) rfl (by first | rfl | assumption | exact mtR0 hm | exact mtR1 hm | exact mtR2 hm | exact mtR3 hm | exact mtR4 hm | exact mtR5 hm | exact mtR6 hm | exact ruR0 hr | exact ruR1 hr | exact ruR3 hr) ?_
        refine pw_bipush (v := nI 29) 75 rfl dX12_shares_73 rfl ?_
        refine pw_ialdN 76 rfl dX12_shares_75 (by first | rfl | assumption | exact rowS hh | exact mtS hm | exact ruS hr | exact mtA1 hm | exact mtA2 hm | exact mtA3 hm | exact mtA4 hm | exact mtA5 hm | exact mtA6 hm | exact mtA7 hm | exact ruA1 hr | exact ruA2 hr | exact ruA3 hr) (by omega) (by first | decide | omega) ?_
        rotate_left
        rw [eO]
        refine pw_dup2 77 rfl dX12_shares_76 rfl rfl ?_
        refine pw_ialdN 78 rfl dX12_shares_77 (by first | rfl | assumption | exact rowS hh | exact mtS hm | exact ruS hr | exact mtA1 hm | exact mtA2 hm | exact mtA3 hm | exact mtA4 hm | exact mtA5 hm | exact mtA6 hm | exact mtA7 hm | exact ruA1 hr | exact ruA2 hr | exact ruA3 hr) (by omega) (by first | decide | omega) ?_
        rotate_left
        rw [e15 _ (by omega)]
        refine pw_iconst (v := nI 1) 79 rfl dX12_shares_78 rfl ?_
        first | refine pw_iaddN 80 rfl dX12_shares_79 ?_ | refine pw_iadd 80 rfl dX12_shares_79 ?_
        refine pw_iastN 81 rfl dX12_shares_80 (by first | rfl | assumption | exact rowS hh | exact mtS hm | exact ruS hr | exact mtA1 hm | exact mtA2 hm | exact mtA3 hm | exact mtA4 hm | exact mtA5 hm | exact mtA6 hm | exact mtA7 hm | exact ruA1 hr | exact ruA2 hr | exact ruA3 hr) (by omega) (by first | decide | omega) ?_
        refine pw_iincN 84 rfl dX12_shares_81 (by decide) rfl ?_
        refine pw_goto (tgt := 52) dX12_shares_84 rfl ?_
        rotate_left
        refine ih _ rd2 (fun q hq => ?_) (fun j hj => by rw [uI_ne (by omega)]; exact p1 j hj) (fun a j q => by rw [uI_ne (by omega)]; exact (n3.trans (mFw.of p2)) a j q) ((MDg_f p3 (uI_ne (by omega)) (fun j => uI_ne (by omega))).mono (by omega))
        by_cases e : hrs n pc (ruE rt) (t + 1) b 29 = q
        · subst e
          rw [uI_eq, cntP_y (by rw [hPk]; exact decide_eq_true rfl)]
        · rw [uI_ne (by omega), e15 q hq, cntP_n (by rw [hPk]; exact decide_eq_false e)]
    · intro k hk ih I' m1 m2
      refine pw_iload_n 20 rfl dX12_shares_19 rfl ?_
      refine pw_bipush (v := nI 7) 22 rfl dX12_shares_20 rfl ?_
      refine pw_icmp_gt (tgt := 38) 25 rfl dX12_shares_22 rfl (fun h22 => absurd h22 (by (simp (disch := omega) only [nI_leI, nI_ltI, nI_eq, show (0 : Int32) = nI 0 from rfl, not_true_eq_false, not_false_eq_true] <;> omega))) (fun h22 => ?_)
      refine pw_aload_n 26 rfl dX12_shares_25 rfl ?_
      refine pw_getR 29 rfl dX12_shares_26 fX12_54 (by first | rfl | assumption | exact rowS hh | exact mtS hm | exact ruS hr | exact mtA1 hm | exact mtA2 hm | exact mtA3 hm | exact mtA4 hm | exact mtA5 hm | exact mtA6 hm | exact mtA7 hm | exact ruA1 hr | exact ruA2 hr | exact ruA3 hr) rfl (by first | rfl | assumption | exact mtR0 hm | exact mtR1 hm | exact mtR2 hm | exact mtR3 hm | exact mtR4 hm | exact mtR5 hm | exact mtR6 hm | exact ruR0 hr | exact ruR1 hr | exact ruR3 hr) ?_
      refine pw_iload_n 30 rfl dX12_shares_29 rfl ?_
      refine pw_iconst (v := nI 0) 31 rfl dX12_shares_30 rfl ?_
      refine pw_iastN 32 rfl dX12_shares_31 (by first | rfl | assumption | exact rowS hh | exact mtS hm | exact ruS hr | exact mtA1 hm | exact mtA2 hm | exact mtA3 hm | exact mtA4 hm | exact mtA5 hm | exact mtA6 hm | exact mtA7 hm | exact ruA1 hr | exact ruA2 hr | exact ruA3 hr) (by omega) (by first | decide | omega) ?_
      refine pw_iincN 35 rfl dX12_shares_32 (by decide) rfl ?_
      refine pw_goto (tgt := 19) dX12_shares_35 rfl ?_
      rotate_left
      refine ih _ (fun q hq => ?_) (fun a j q => by rw [uI_ne (by omega)]; exact m2 a j q)
      by_cases e : q = k
      · subst e; exact uI_eq _ _ _ _
      · rw [uI_ne (by omega)]; exact m1 q (by omega)
  · refine pw_iload_n 6 rfl dX12_shares_5 rfl ?_
    refine pw_iconst (v := nI 1) 7 rfl dX12_shares_6 rfl ?_
    refine pw_bipush (v := nI 99) 9 rfl dX12_shares_7 rfl ?_
    refine pw_callSP (as := [_, _, _]) 12 rfl dX12_shares_9 mX12_98 sX12_in (m_in (d := d) _ _ _) ⟨rfl, by decide, by decide, show (parseMethodDescriptor yX12_in.desc).map (fun d => d.parameters.length) = some 3 by decide +kernel⟩ (by omega) (by decide) (Nat.le_of_ble_eq_true rfl) rfl ?_
    refine pw_if_ne (tgt := 17) 15 rfl dX12_shares_12 rfl (fun h12 => absurd (by rw [inV_n ho]; rfl) h12) (fun h12 => ?_)
    refine pw_iconst (v := -1) 16 rfl dX12_shares_15 rfl ?_
    refine pw_iret dX12_shares_16 rfl ?_
    rotate_left
    exact moQ (by unfold qShares; rw [hi]; rfl) rfl hA0 (hD0.mono (by omega)) ⟨rd, rfl⟩
/-- the k below n with P -/
def flt (P : Nat → Bool) : Nat → List Nat
  | 0 => []
  | k + 1 => if P k then flt P k ++ [k] else flt P k
theorem flt_hL (s b : Nat → Nat) : ∀ k, flt (hC s b) k = hL s b k
  | 0 => rfl
  | k + 1 => by rw [flt, hL, flt_hL s b k]
theorem flt_congr {P Q : Nat → Bool} : ∀ {k}, (∀ q, q < k → P q = Q q) → flt P k = flt Q k
  | 0, _ => rfl
  | k + 1, h => by rw [flt, flt, flt_congr (fun q hq => h q (by omega)), h k (by omega)]
theorem flt_cut {P Q : Nat → Bool} {n : Nat} (hy : ∀ q, q < n → P q = Q q) (hno : ∀ q, n ≤ q → P q = false) : ∀ k, n ≤ k → flt P k = flt Q n
  | 0, h => by
    have : n = 0 := by omega
    subst this; rfl
  | k + 1, h => by
    by_cases e : n = k + 1
    · subst e
      exact flt_congr hy
    · rw [flt, hno k (by omega), if_neg (by decide)]
      exact flt_cut hy hno k (by omega)
theorem flt_len (P : Nat → Bool) : ∀ k, (flt P k).length = cntP P k
  | 0 => rfl
  | k + 1 => by
    rw [flt, cntP]
    have := flt_len P k
    cases e : P k
    · simp [this]
    · simp [this]
theorem badd_flt (P : Nat → Bool) (l : List Nat) : ∀ k, badd P k ((l.take 12).map lI) = ((l ++ flt P k).take 12).map lI
  | 0 => by rw [badd, flt, List.append_nil]
  | k + 1 => by
    rw [badd, flt]
    cases e : P k
    · rw [if_neg (by decide), if_neg (by decide)]; exact badd_flt P l k
    · rw [if_pos rfl, if_pos rfl, badd_flt P l k, nadd, List.length_map, List.length_take, ← List.append_assoc]
      by_cases h : (l ++ flt P k).length < 12
      · rw [if_pos (by omega), List.take_of_length_le (by omega), List.take_of_length_le (by rw [List.length_append]; show _ + 1 ≤ _; omega)]; simp
      · rw [if_neg (by omega), List.take_append_of_le_length (l₁ := l ++ flt P k) (by omega)]
theorem dnb_bit (n : Nat) (pc : Nat → Nat) (E : (Nat → Int32) → Nat) (b : Nat → Nat) : flt (fun q => (dnb n pc E b).testBit q) 7 = hL (sts n pc b E) b n ∨ 7 < n := by
  by_cases h : 7 < n
  · exact Or.inr h
  · left
    rw [← flt_hL]
    refine flt_cut (fun q hq => ?_) (fun q hq => ?_) 7 (by omega)
    · rw [dnb, bts_bit, decide_eq_true hq, Bool.true_and]
    · rw [dnb, bts_bit, decide_eq_false (by omega), Bool.false_and]
theorem tdn_dlA {n : Nat} (h7 : n ≤ 7) (pc : Nat → Nat) (E : (Nat → Int32) → Nat) (b : Nat → Nat) : ∀ t, tdn n pc E b t = ((dlA n pc E b t).take 12).map lI ∧ cdq n pc E b t = (dlA n pc E b t).length
  | 0 => ⟨rfl, rfl⟩
  | t + 1 => by
    obtain ⟨h1, h2⟩ := tdn_dlA h7 pc E b t
    have e := (dnb_bit n pc E (hrs n pc E t b)).resolve_right (by omega)
    refine ⟨?_, ?_⟩
    · rw [tdn, h1, badd_flt, dlA, e]
    · rw [cdq, h2, dlA, List.length_append, ← e, flt_len]
set_option maxRecDepth 100000 in
set_option maxHeartbeats 2000000 in
theorem mo_order {d g : Nat} {s : aSt} {rd : Option Nat} {I : pI} {J : pJ} (hA : MA I J s) (hD : MDg g I) (hg : g ≤ 500000000) (hW : WA s) (v : Int32) : PC SM (d + 245) yX12_order cX12_order 3 (some .int) [.ref 0, .int v] (I) (J) (RM rd (some 6)) (moP (g + 10000) (qOp (qOrder v) s)) := by
  refine PC.of [some (.ref 0), some (.int v), none] rfl rfl (Nat.le_of_ble_eq_true rfl) ?_
  obtain ⟨n, pc, b, us, kp, rw, tx, rt, hd, sw⟩ := s
  refine pw_aload_n 1 rfl dX12_order_0 rfl ?_
  refine pw_iconst (v := nI 0) 2 rfl dX12_order_1 rfl ?_
  refine pw_putI 5 rfl dX12_order_2 fX12_88 w12_7 (by first | rfl | assumption | exact rowS hh | exact mtS hm | exact ruS hr | exact mtA1 hm | exact mtA2 hm | exact mtA3 hm | exact mtA4 hm | exact mtA5 hm | exact mtA6 hm | exact mtA7 hm | exact ruA1 hr | exact ruA2 hr | exact ruA3 hr) rfl rfl rfl ?_
  rotate_left
  have hA0 := MA_thr (v := nI 0) hA
  have hD0 : MDg g (uI I 0 7 (nI 0)) := MDg_f hD (uI_ne (by omega)) (fun j => uI_ne (by omega))
  clear hA hD
  generalize uI I 0 7 (nI 0) = I at hA0 hD0 ⊢
  obtain ⟨mC, mB, mT, mN, mR, mU, mK, mH, mG⟩ := id hA0
  obtain ⟨aW, aU, aK⟩ := id hW
  have hE := MSt_A hA0
  have hn7 := mC.1
  have hn := mC.2.1
  rcases inOf_cases (lo := 1) (hi := 99) (by decide) v (by decide) with ⟨N, h1, h2, rfl, hi⟩ | ⟨hi, ho⟩
  · have eq : qOrder (nI N) n pc b (ruE rt) rw hd sw = (nI (dlA n pc (ruE rt) b N).length, ((dlA n pc (ruE rt) b N).take 12).map lI) := by
      unfold qOrder; rw [hi]
      show (nI (cdq n pc (ruE rt) b N), tdn n pc (ruE rt) b N) = _
      rw [(tdn_dlA hn7 pc (ruE rt) b N).1, (tdn_dlA hn7 pc (ruE rt) b N).2]
    have hdl := dlA_le hn7 pc (ruE rt) b (show N ≤ 100 by omega)
    refine pw_iload_n 6 rfl dX12_order_5 rfl ?_
    refine pw_iconst (v := nI 1) 7 rfl dX12_order_6 rfl ?_
    refine pw_bipush (v := nI 99) 9 rfl dX12_order_7 rfl ?_
    refine pw_callSP (as := [_, _, _]) 12 rfl dX12_order_9 mX12_98 sX12_in (m_in (d := d) _ _ _) ⟨rfl, by decide, by decide, show (parseMethodDescriptor yX12_in.desc).map (fun d => d.parameters.length) = some 3 by decide +kernel⟩ (by omega) (by decide) (Nat.le_of_ble_eq_true rfl) rfl ?_
    refine pw_if_ne (tgt := 17) 15 rfl dX12_order_12 rfl (fun h12 => ?_) (fun h12 => absurd h12 (by rw [inV_y h1 h2 (by decide)]; decide))
    refine pw_aload_n 18 rfl dX12_order_17 rfl ?_
    refine pw_iload_n 19 rfl dX12_order_18 rfl ?_
    refine pw_callV (as := [_]) 22 rfl dX12_order_19 mX12_276 vX12_goThen (m_goThen (d := d + 5) mC mB aW.1 hE (show N ≤ 100 by omega)) (by first | rfl | assumption | exact rowS hh | exact mtS hm | exact ruS hr | exact mtA1 hm | exact mtA2 hm | exact mtA3 hm | exact mtA4 hm | exact mtA5 hm | exact mtA6 hm | exact mtA7 hm | exact ruA1 hr | exact ruA2 hr | exact ruA3 hr) rfl (by decide) ⟨rfl, by decide, by decide, show (parseMethodDescriptor yX12_goThen.desc).map (fun d => d.parameters.length) = some 1 by decide +kernel⟩ (by omega) (by decide) (Nat.le_of_ble_eq_true rfl) rfl (fun r19 I19 J19 R19 c19 => ?_)
    obtain ⟨rfl, g1, g2, g3, rfl, rd2, rfl⟩ := c19
    refine pw_aload_n 23 rfl dX12_order_22 rfl ?_
    refine pw_iconst (v := nI 0) 24 rfl dX12_order_23 rfl ?_
    refine pw_putI 27 rfl dX12_order_24 fX12_92 w12_6 (by first | rfl | assumption | exact rowS hh | exact mtS hm | exact ruS hr | exact mtA1 hm | exact mtA2 hm | exact mtA3 hm | exact mtA4 hm | exact mtA5 hm | exact mtA6 hm | exact mtA7 hm | exact ruA1 hr | exact ruA2 hr | exact ruA3 hr) rfl rfl rfl ?_
    refine pw_iconst (v := nI 0) 28 rfl dX12_order_27 rfl ?_
    refine pw_istore_n 29 rfl dX12_order_28 (by decide) ?_
    rotate_left
    generalize dlA n pc (ruE rt) b N = dl at eq hdl g3
    have L := nat_loop (min dl.length 12) (fun k => ∀ (I2 : pI) (J2 : pJ), MN I2 J2 ((dl.take k).map lI) → (∀ a j, ¬ (a = 0 ∧ j = 6) → I2 a j = I19 a j) → PW SM yX12_order.cls cX12_order 3 (d + 245) 29 [some (.ref 0), some (.int (nI N)), some (.int (nI k))] [] I2 J2 (RM rd2 (some 6)) (rX cX12_order (some .int) (moP (g + 10000) (qOp (qOrder (nI N)) (n, pc, b, us, kp, rw, tx, rt, hd, sw))))) ?_ ?_
    · exact L _ J MN_0 (fun a j q => uI_ne (by omega))
    · intro I2 J2 n1 n2
      have hd' : I2 0 24 = nI dl.length := by rw [n2 _ _ (by omega)]; exact g3.1
      have et : dl.take (min dl.length 12) = dl.take 12 := by
        by_cases h : dl.length ≤ 12
        · rw [Nat.min_eq_left h, List.take_of_length_le (Nat.le_refl _), List.take_of_length_le h]
        · rw [Nat.min_eq_right (by omega)]
      rw [et] at n1
      have fin : PW SM yX12_order.cls cX12_order 3 (d + 245) 60 [some (.ref 0), some (.int (nI N)), some (.int (nI (min dl.length 12)))] [] I2 J2 (RM rd2 (some 6)) (rX cX12_order (some .int) (moP (g + 10000) (qOp (qOrder (nI N)) (n, pc, b, us, kp, rw, tx, rt, hd, sw)))) := by
        refine pw_aload_n 61 rfl dX12_order_60 rfl ?_
        refine pw_getI 64 rfl dX12_order_61 fX12_223 (by first | rfl | assumption | exact rowS hh | exact mtS hm | exact ruS hr | exact mtA1 hm | exact mtA2 hm | exact mtA3 hm | exact mtA4 hm | exact mtA5 hm | exact mtA6 hm | exact mtA7 hm | exact ruA1 hr | exact ruA2 hr | exact ruA3 hr) rfl ?_
        rotate_left
        rw [hd']
        refine pw_iret dX12_order_64 rfl ?_
        rotate_left
        exact moQ eq rfl (MA_rw hA0 (fun a j q => by rw [n2 a j (by omega)]; exact fMs_mFr g2 a j q) n1) ⟨dl, ⟨hd', g3.2.1, fun j x hj hx => by rw [n2 _ _ (by omega)]; exact g3.2.2 j x hj hx⟩, by omega⟩ ⟨rd2, rfl⟩
      by_cases h : dl.length ≤ 12
      · rw [Nat.min_eq_left h] at fin ⊢
        refine pw_iload_n 30 rfl dX12_order_29 rfl ?_
        refine pw_aload_n 31 rfl dX12_order_30 rfl ?_
        refine pw_getI 34 rfl dX12_order_31 fX12_223 (by first | rfl | assumption | exact rowS hh | exact mtS hm | exact ruS hr | exact mtA1 hm | exact mtA2 hm | exact mtA3 hm | exact mtA4 hm | exact mtA5 hm | exact mtA6 hm | exact mtA7 hm | exact ruA1 hr | exact ruA2 hr | exact ruA3 hr) rfl ?_
        refine pw_icmp_ge (tgt := 60) 37 rfl dX12_order_34 rfl (fun h34 => ?_) (fun h34 => absurd (by rw [hd']; (simp (disch := omega) only [nI_leI, nI_ltI, nI_eq, show (0 : Int32) = nI 0 from rfl, not_true_eq_false, not_false_eq_true] <;> omega)) h34)
        rotate_left
        exact fin
      · rw [Nat.min_eq_right (by omega)] at fin ⊢
        refine pw_iload_n 30 rfl dX12_order_29 rfl ?_
        refine pw_aload_n 31 rfl dX12_order_30 rfl ?_
        refine pw_getI 34 rfl dX12_order_31 fX12_223 (by first | rfl | assumption | exact rowS hh | exact mtS hm | exact ruS hr | exact mtA1 hm | exact mtA2 hm | exact mtA3 hm | exact mtA4 hm | exact mtA5 hm | exact mtA6 hm | exact mtA7 hm | exact ruA1 hr | exact ruA2 hr | exact ruA3 hr) rfl ?_
        refine pw_icmp_ge (tgt := 60) 37 rfl dX12_order_34 rfl (fun h34 => absurd h34 (by rw [hd']; (simp (disch := omega) only [nI_leI, nI_ltI, nI_eq, show (0 : Int32) = nI 0 from rfl, not_true_eq_false, not_false_eq_true] <;> omega))) (fun h34 => ?_)
        refine pw_iload_n 38 rfl dX12_order_37 rfl ?_
        refine pw_bipush (v := nI 12) 40 rfl dX12_order_38 rfl ?_
        refine pw_icmp_ge (tgt := 60) 43 rfl dX12_order_40 rfl (fun h40 => ?_) (fun h40 => absurd (by (simp (disch := omega) only [nI_leI, nI_ltI, nI_eq, show (0 : Int32) = nI 0 from rfl, not_true_eq_false, not_false_eq_true] <;> omega)) h40)
        rotate_left
        exact fin
    · intro k hk ih I2 J2 n1 n2
      have k1 : k < dl.length := Nat.lt_of_lt_of_le hk (Nat.min_le_left _ _)
      have k2 : k < 12 := Nat.lt_of_lt_of_le hk (Nat.min_le_right _ _)
      have hd' : I2 0 24 = nI dl.length := by rw [n2 _ _ (by omega)]; exact g3.1
      have hx : I2 13 k = nI dl[k] := by rw [n2 _ _ (by omega)]; exact g3.2.2 k _ k2 (List.getElem?_eq_getElem k1)
      refine pw_iload_n 30 rfl dX12_order_29 rfl ?_
      refine pw_aload_n 31 rfl dX12_order_30 rfl ?_
      refine pw_getI 34 rfl dX12_order_31 fX12_223 (by first | rfl | assumption | exact rowS hh | exact mtS hm | exact ruS hr | exact mtA1 hm | exact mtA2 hm | exact mtA3 hm | exact mtA4 hm | exact mtA5 hm | exact mtA6 hm | exact mtA7 hm | exact ruA1 hr | exact ruA2 hr | exact ruA3 hr) rfl ?_
      refine pw_icmp_ge (tgt := 60) 37 rfl dX12_order_34 rfl (fun h34 => absurd h34 (by rw [hd']; (simp (disch := omega) only [nI_leI, nI_ltI, nI_eq, show (0 : Int32) = nI 0 from rfl, not_true_eq_false, not_false_eq_true] <;> omega))) (fun h34 => ?_)
      refine pw_iload_n 38 rfl dX12_order_37 rfl ?_
      refine pw_bipush (v := nI 12) 40 rfl dX12_order_38 rfl ?_
      refine pw_icmp_ge (tgt := 60) 43 rfl dX12_order_40 rfl (fun h40 => absurd h40 (by (simp (disch := omega) only [nI_leI, nI_ltI, nI_eq, show (0 : Int32) = nI 0 from rfl, not_true_eq_false, not_false_eq_true] <;> omega))) (fun h40 => ?_)
      refine pw_aload_n 44 rfl dX12_order_43 rfl ?_
      refine pw_aload_n 45 rfl dX12_order_44 rfl ?_
      refine pw_getR 48 rfl dX12_order_45 fX12_48 (by first | rfl | assumption | exact rowS hh | exact mtS hm | exact ruS hr | exact mtA1 hm | exact mtA2 hm | exact mtA3 hm | exact mtA4 hm | exact mtA5 hm | exact mtA6 hm | exact mtA7 hm | exact ruA1 hr | exact ruA2 hr | exact ruA3 hr) rfl (by first | rfl | assumption | exact mtR0 hm | exact mtR1 hm | exact mtR2 hm | exact mtR3 hm | exact mtR4 hm | exact mtR5 hm | exact mtR6 hm | exact ruR0 hr | exact ruR1 hr | exact ruR3 hr) ?_
      refine pw_iload_n 49 rfl dX12_order_48 rfl ?_
      refine pw_ialdN 50 rfl dX12_order_49 (by first | rfl | assumption | exact rowS hh | exact mtS hm | exact ruS hr | exact mtA1 hm | exact mtA2 hm | exact mtA3 hm | exact mtA4 hm | exact mtA5 hm | exact mtA6 hm | exact mtA7 hm | exact ruA1 hr | exact ruA2 hr | exact ruA3 hr) (by omega) (by first | decide | omega) ?_
      rotate_left
      rw [hx]
      refine pw_i2l 51 rfl dX12_order_50 ?_
      refine pw_callV (as := [_]) 54 rfl dX12_order_51 mX12_236 vX12_tell (m_tell (d := d + 244) n1 (by rw [List.length_map, List.length_take]; omega)) (by first | rfl | assumption | exact rowS hh | exact mtS hm | exact ruS hr | exact mtA1 hm | exact mtA2 hm | exact mtA3 hm | exact mtA4 hm | exact mtA5 hm | exact mtA6 hm | exact mtA7 hm | exact ruA1 hr | exact ruA2 hr | exact ruA3 hr) rfl (by decide) ⟨rfl, by decide, by decide, show (parseMethodDescriptor yX12_tell.desc).map (fun d => d.parameters.length) = some 1 by decide +kernel⟩ (by omega) (by decide) (Nat.le_of_ble_eq_true rfl) rfl (fun r51 I51 J51 R51 c51 => ?_)
      obtain ⟨rfl, t1, t2, rfl⟩ := c51
      rotate_left
      refine pw_iincN 57 rfl dX12_order_54 (by decide) rfl ?_
      refine pw_goto (tgt := 29) dX12_order_57 rfl ?_
      rotate_left
      refine ih I51 J51 ?_ (fun a j q => by rw [t2 a j q, n2 a j q])
      rw [List.take_succ_eq_append_getElem k1, List.map_append]
      exact t1
  · refine pw_iload_n 6 rfl dX12_order_5 rfl ?_
    refine pw_iconst (v := nI 1) 7 rfl dX12_order_6 rfl ?_
    refine pw_bipush (v := nI 99) 9 rfl dX12_order_7 rfl ?_
    refine pw_callSP (as := [_, _, _]) 12 rfl dX12_order_9 mX12_98 sX12_in (m_in (d := d) _ _ _) ⟨rfl, by decide, by decide, show (parseMethodDescriptor yX12_in.desc).map (fun d => d.parameters.length) = some 3 by decide +kernel⟩ (by omega) (by decide) (Nat.le_of_ble_eq_true rfl) rfl ?_
    refine pw_if_ne (tgt := 17) 15 rfl dX12_order_12 rfl (fun h12 => absurd (by rw [inV_n ho]; rfl) h12) (fun h12 => ?_)
    refine pw_iconst (v := -1) 16 rfl dX12_order_15 rfl ?_
    refine pw_iret dX12_order_16 rfl ?_
    rotate_left
    exact moQ (by unfold qOrder; rw [hi]; rfl) rfl hA0 (hD0.mono (by omega)) ⟨rd, rfl⟩
