theorem MB_bu {I : pI} {h k v : Nat} {b : Nat → Nat} (hB : MB I h b) : MB (uI I h k (nI v)) h (bu b k v) := fun j hj => by
  by_cases e : j = k
  · subst e; rw [uI_eq, bu_eq]
  · rw [uI_ne (by omega), bu_ne e]; exact hB j hj
set_option maxRecDepth 100000 in
set_option maxHeartbeats 2000000 in
theorem m_ownedBy {d n N T q g : Nat} {pc b : Nat → Nat} {E : (Nat → Int32) → Nat} {rd rl : Option Nat} {I : pI} {J : pJ} (hC : MC I n pc) (hB : MB I 1 b) (hW : WF n pc (bu b 28 T)) (hE : MSt 236 rl I E) (hD : MDg g I) (hg : g ≤ 700000000) (hN : N ≤ 60) (hq : q < 7) : PC SM (d + 238) yX12_ownedBy cX12_ownedBy 6 (some .int) [.ref 0, .int (nI T), .int (nI q), .int (nI N)] (I) (J) (RM rd rl) (fun r' I' J' R' => r' = some (.int (nI (cntP (fun t => decide (hrs n pc E (t + 1) (bu b 28 T) 29 = q)) N))) ∧ mFr 11 I I' ∧ MDg (g + 7 * N) I' ∧ J = J' ∧ ∃ rd', R' = RM rd' rl) := by
  refine PC.of [some (.ref 0), some (.int (nI T)), some (.int (nI q)), some (.int (nI N)), none, none] rfl rfl (Nat.le_of_ble_eq_true rfl) ?_
  generalize hP : (fun t => decide (hrs n pc E (t + 1) (bu b 28 T) 29 = q)) = P
  have hPk : ∀ t, P t = decide (hrs n pc E (t + 1) (bu b 28 T) 29 = q) := fun t => by rw [← hP]
  refine pw_aload_n 1 rfl dX12_ownedBy_0 rfl ?_
  refine pw_getR 4 rfl dX12_ownedBy_1 fX12_9 (by first | rfl | assumption | exact rowS hh | exact mtS hm | exact ruS hr | exact mtA1 hm | exact mtA2 hm | exact mtA3 hm | exact mtA4 hm | exact mtA5 hm | exact mtA6 hm | exact mtA7 hm | exact ruA1 hr | exact ruA2 hr | exact ruA3 hr) rfl (by first | rfl | assumption | exact mtR0 hm | exact mtR1 hm | exact mtR2 hm | exact mtR3 hm | exact mtR4 hm | exact mtR5 hm | exact mtR6 hm | exact ruR0 hr | exact ruR1 hr | exact ruR3 hr) ?_
  refine pw_aload_n 5 rfl dX12_ownedBy_4 rfl ?_
  refine pw_getR 8 rfl dX12_ownedBy_5 fX12_42 (by first | rfl | assumption | exact rowS hh | exact mtS hm | exact ruS hr | exact mtA1 hm | exact mtA2 hm | exact mtA3 hm | exact mtA4 hm | exact mtA5 hm | exact mtA6 hm | exact mtA7 hm | exact ruA1 hr | exact ruA2 hr | exact ruA3 hr) rfl (by first | rfl | assumption | exact mtR0 hm | exact mtR1 hm | exact mtR2 hm | exact mtR3 hm | exact mtR4 hm | exact mtR5 hm | exact mtR6 hm | exact ruR0 hr | exact ruR1 hr | exact ruR3 hr) ?_
  refine pw_iconst (v := nI 0) 9 rfl dX12_ownedBy_8 rfl ?_
  refine pw_callS (as := [_, _, _]) 12 rfl dX12_ownedBy_9 mX12_219 sX12_lay (m_layT (d := d + 237) hB) ⟨rfl, by decide, by decide, show (parseMethodDescriptor yX12_lay.desc).map (fun d => d.parameters.length) = some 3 by decide +kernel⟩ (by omega) (by decide) (Nat.le_of_ble_eq_true rfl) rfl (fun r9 I9 J9 R9 c9 => ?_)
  obtain ⟨rfl, k1, k2, rfl, rfl⟩ := c9
  rotate_left
  refine pw_aload_n 13 rfl dX12_ownedBy_12 rfl ?_
  refine pw_getR 16 rfl dX12_ownedBy_13 fX12_42 (by first | rfl | assumption | exact rowS hh | exact mtS hm | exact ruS hr | exact mtA1 hm | exact mtA2 hm | exact mtA3 hm | exact mtA4 hm | exact mtA5 hm | exact mtA6 hm | exact mtA7 hm | exact ruA1 hr | exact ruA2 hr | exact ruA3 hr) rfl (by first | rfl | assumption | exact mtR0 hm | exact mtR1 hm | exact mtR2 hm | exact mtR3 hm | exact mtR4 hm | exact mtR5 hm | exact mtR6 hm | exact ruR0 hr | exact ruR1 hr | exact ruR3 hr) ?_
  refine pw_bipush (v := nI 28) 18 rfl dX12_ownedBy_16 rfl ?_
  refine pw_iload_n 19 rfl dX12_ownedBy_18 rfl ?_
  refine pw_iastN 20 rfl dX12_ownedBy_19 (by first | rfl | assumption | exact rowS hh | exact mtS hm | exact ruS hr | exact mtA1 hm | exact mtA2 hm | exact mtA3 hm | exact mtA4 hm | exact mtA5 hm | exact mtA6 hm | exact mtA7 hm | exact ruA1 hr | exact ruA2 hr | exact ruA3 hr) (by omega) (by first | decide | omega) ?_
  refine pw_iconst (v := nI 0) 21 rfl dX12_ownedBy_20 rfl ?_
  refine pw_istore 23 rfl dX12_ownedBy_21 (by decide) ?_
  refine pw_iconst (v := nI 0) 24 rfl dX12_ownedBy_23 rfl ?_
  refine pw_istore 26 rfl dX12_ownedBy_24 (by decide) ?_
  rotate_left
  have L := nat_loop N (fun t => ∀ (I' : pI) (rd' : Option Nat), MB I' 11 (hrs n pc E t (bu b 28 T)) → mFr 11 I I' → MDg (g + 7 * t) I' → PW SM yX12_ownedBy.cls cX12_ownedBy 6 (d + 238) 26 [some (.ref 0), some (.int (nI T)), some (.int (nI q)), some (.int (nI N)), some (.int (nI (cntP P t))), some (.int (nI t))] [] I' J (RM rd' rl) (rX cX12_ownedBy (some .int) (fun r' I' J' R' => r' = some (.int (nI (cntP P N))) ∧ mFr 11 I I' ∧ MDg (g + 7 * N) I' ∧ J = J' ∧ ∃ rd', R' = RM rd' rl))) ?_ ?_
  · exact L _ rd (MB_bu k1) (fun a j q1 q2 q3 q4 q5 => by rw [uI_ne (by omega)]; exact k2 a j q1) (MDg_f hD (by rw [uI_ne (by omega)]; exact k2 _ _ (by decide)) (fun j => by rw [uI_ne (by omega)]; exact k2 _ _ (by decide)))
  · intro I' rd' m1 m2 m3
    refine pw_iload 28 rfl dX12_ownedBy_26 rfl ?_
    refine pw_iload_n 29 rfl dX12_ownedBy_28 rfl ?_
    refine pw_icmp_ge (tgt := 67) 32 rfl dX12_ownedBy_29 rfl (fun h29 => ?_) (fun h29 => absurd (by (simp (disch := omega) only [nI_leI, nI_ltI, nI_eq, show (0 : Int32) = nI 0 from rfl, not_true_eq_false, not_false_eq_true] <;> omega)) h29)
    refine pw_iload 69 rfl dX12_ownedBy_67 rfl ?_
    refine pw_iret dX12_ownedBy_69 rfl ?_
    rotate_left
    exact ⟨rfl, m2, m3, rfl, rd', rfl⟩
  · intro t ht ih I' rd' m1 m2 m3
    have hWt := WF_hrs E hW t
    have hWt1 := WF_hrs E hW (t + 1)
    refine pw_iload 28 rfl dX12_ownedBy_26 rfl ?_
    refine pw_iload_n 29 rfl dX12_ownedBy_28 rfl ?_
    refine pw_icmp_ge (tgt := 67) 32 rfl dX12_ownedBy_29 rfl (fun h29 => absurd h29 (by (simp (disch := omega) only [nI_leI, nI_ltI, nI_eq, show (0 : Int32) = nI 0 from rfl, not_true_eq_false, not_false_eq_true] <;> omega))) (fun h29 => ?_)
    refine pw_aload_n 33 rfl dX12_ownedBy_32 rfl ?_
    refine pw_aload_n 34 rfl dX12_ownedBy_33 rfl ?_
    refine pw_getR 37 rfl dX12_ownedBy_34 fX12_42 (by first | rfl | assumption | exact rowS hh | exact mtS hm | exact ruS hr | exact mtA1 hm | exact mtA2 hm | exact mtA3 hm | exact mtA4 hm | exact mtA5 hm | exact mtA6 hm | exact mtA7 hm | exact ruA1 hr | exact ruA2 hr | exact ruA3 hr) rfl (by first | rfl | assumption | exact mtR0 hm | exact mtR1 hm | exact mtR2 hm | exact mtR3 hm | exact mtR4 hm | exact mtR5 hm | exact mtR6 hm | exact ruR0 hr | exact ruR1 hr | exact ruR3 hr) ?_
    refine pw_callV (as := [_]) 40 rfl dX12_ownedBy_37 mX12_230 vX12_goHour (m_hour (d := d) (hC.fr m2 (Or.inr rfl)) m1 hWt (MSt_mFr hE m2) m3 (by omega)) (by first | rfl | assumption | exact rowS hh | exact mtS hm | exact ruS hr | exact mtA1 hm | exact mtA2 hm | exact mtA3 hm | exact mtA4 hm | exact mtA5 hm | exact mtA6 hm | exact mtA7 hm | exact ruA1 hr | exact ruA2 hr | exact ruA3 hr) rfl (by decide) ⟨rfl, by decide, by decide, show (parseMethodDescriptor yX12_goHour.desc).map (fun d => d.parameters.length) = some 1 by decide +kernel⟩ (by omega) (by decide) (Nat.le_of_ble_eq_true rfl) rfl (fun r37 I37 J37 R37 c37 => ?_)
    obtain ⟨rfl, p1, p2, p3, rfl, rd2, rfl⟩ := c37
    rotate_left
    have eO : I37 11 29 = nI (hrs n pc E (t + 1) (bu b 28 T) 29) := p1 29 (by omega)
    have hO := hWt1.2.2.1
    have h7 := hC.1
    have go := ih I37 rd2 p1 (m2.trans p2) (p3.mono (by omega))
    by_cases hp : hrs n pc E (t + 1) (bu b 28 T) 29 = q
    · rw [cntP_y (by rw [hPk]; exact decide_eq_true hp)] at go
      refine pw_iload 42 rfl dX12_ownedBy_40 rfl ?_
      refine pw_aload_n 43 rfl dX12_ownedBy_42 rfl ?_
      refine pw_getR 46 rfl dX12_ownedBy_43 fX12_42 (by first | rfl | assumption | exact rowS hh | exact mtS hm | exact ruS hr | exact mtA1 hm | exact mtA2 hm | exact mtA3 hm | exact mtA4 hm | exact mtA5 hm | exact mtA6 hm | exact mtA7 hm | exact ruA1 hr | exact ruA2 hr | exact ruA3 hr) rfl (by first | rfl | assumption | exact mtR0 hm | exact mtR1 hm | exact mtR2 hm | exact mtR3 hm | exact mtR4 hm | exact mtR5 hm | exact mtR6 hm | exact ruR0 hr | exact ruR1 hr | exact ruR3 hr) ?_
      refine pw_bipush (v := nI 29) 48 rfl dX12_ownedBy_46 rfl ?_
      refine pw_ialdN 49 rfl dX12_ownedBy_48 (by first | rfl | assumption | exact rowS hh | exact mtS hm | exact ruS hr | exact mtA1 hm | exact mtA2 hm | exact mtA3 hm | exact mtA4 hm | exact mtA5 hm | exact mtA6 hm | exact mtA7 hm | exact ruA1 hr | exact ruA2 hr | exact ruA3 hr) (by omega) (by first | decide | omega) ?_
      refine pw_iload_n 50 rfl dX12_ownedBy_49 rfl ?_
      refine pw_icmp_ne (tgt := 57) 53 rfl dX12_ownedBy_50 rfl (fun h50 => absurd (by rw [eO, hp]) h50) (fun h50 => ?_)
      refine pw_iconst (v := nI 1) 54 rfl dX12_ownedBy_53 rfl ?_
      refine pw_goto (tgt := 58) dX12_ownedBy_54 rfl ?_
      first | refine pw_iaddN 59 rfl dX12_ownedBy_58 ?_ | refine pw_iadd 59 rfl dX12_ownedBy_58 ?_
      refine pw_istore 61 rfl dX12_ownedBy_59 (by decide) ?_
      refine pw_iincN 64 rfl dX12_ownedBy_61 (by decide) rfl ?_
      refine pw_goto (tgt := 26) dX12_ownedBy_64 rfl ?_
      rotate_left
      exact go
    · rw [cntP_n (by rw [hPk]; exact decide_eq_false hp)] at go
      refine pw_iload 42 rfl dX12_ownedBy_40 rfl ?_
      refine pw_aload_n 43 rfl dX12_ownedBy_42 rfl ?_
      refine pw_getR 46 rfl dX12_ownedBy_43 fX12_42 (by first | rfl | assumption | exact rowS hh | exact mtS hm | exact ruS hr | exact mtA1 hm | exact mtA2 hm | exact mtA3 hm | exact mtA4 hm | exact mtA5 hm | exact mtA6 hm | exact mtA7 hm | exact ruA1 hr | exact ruA2 hr | exact ruA3 hr) rfl (by first | rfl | assumption | exact mtR0 hm | exact mtR1 hm | exact mtR2 hm | exact mtR3 hm | exact mtR4 hm | exact mtR5 hm | exact mtR6 hm | exact ruR0 hr | exact ruR1 hr | exact ruR3 hr) ?_
      refine pw_bipush (v := nI 29) 48 rfl dX12_ownedBy_46 rfl ?_
      refine pw_ialdN 49 rfl dX12_ownedBy_48 (by first | rfl | assumption | exact rowS hh | exact mtS hm | exact ruS hr | exact mtA1 hm | exact mtA2 hm | exact mtA3 hm | exact mtA4 hm | exact mtA5 hm | exact mtA6 hm | exact mtA7 hm | exact ruA1 hr | exact ruA2 hr | exact ruA3 hr) (by omega) (by first | decide | omega) ?_
      refine pw_iload_n 50 rfl dX12_ownedBy_49 rfl ?_
      refine pw_icmp_ne (tgt := 57) 53 rfl dX12_ownedBy_50 rfl (fun h50 => ?_) (fun h50 => absurd h50 (by rw [eO, nI_eq (by omega) (by omega)]; exact hp))
      refine pw_iconst (v := nI 0) 58 rfl dX12_ownedBy_57 rfl ?_
      first | refine pw_iaddN 59 rfl dX12_ownedBy_58 ?_ | refine pw_iadd 59 rfl dX12_ownedBy_58 ?_
      refine pw_istore 61 rfl dX12_ownedBy_59 (by decide) ?_
      refine pw_iincN 64 rfl dX12_ownedBy_61 (by decide) rfl ?_
      refine pw_goto (tgt := 26) dX12_ownedBy_64 rfl ?_
      rotate_left
      exact go
set_option maxRecDepth 100000 in
set_option maxHeartbeats 2000000 in
theorem mo_peaks {d g : Nat} {s : aSt} {rd : Option Nat} {I : pI} {J : pJ} (hA : MA I J s) (hD : MDg g I) (hg : g ≤ 500000000) (hW : WA s) (w v : Int32) : PC SM (d + 245) yX12_peaks cX12_peaks 7 (some .int) [.ref 0, .int w, .int v] (I) (J) (RM rd (some 6)) (moP (g + 10000) (qOp (qPeaks w v) s)) := by
  refine PC.of [some (.ref 0), some (.int w), some (.int v), none, none, none, none] rfl rfl (Nat.le_of_ble_eq_true rfl) ?_
  obtain ⟨n, pc, b, us, kp, rw, tx, rt, hd, sw⟩ := s
  refine pw_aload_n 1 rfl dX12_peaks_0 rfl ?_
  refine pw_iconst (v := nI 0) 2 rfl dX12_peaks_1 rfl ?_
  refine pw_putI 5 rfl dX12_peaks_2 fX12_88 w12_7 (by first | rfl | assumption | exact rowS hh | exact mtS hm | exact ruS hr | exact mtA1 hm | exact mtA2 hm | exact mtA3 hm | exact mtA4 hm | exact mtA5 hm | exact mtA6 hm | exact mtA7 hm | exact ruA1 hr | exact ruA2 hr | exact ruA3 hr) rfl rfl rfl ?_
  rotate_left
  have hA0 := MA_thr (v := nI 0) hA
  have hD0 : MDg g (uI I 0 7 (nI 0)) := MDg_f hD (uI_ne (by omega)) (fun j => uI_ne (by omega))
  clear hA hD
  generalize uI I 0 7 (nI 0) = I at hA0 hD0 ⊢
  obtain ⟨mC, mB, mT, mN, mR, mU, mK, mH, mG⟩ := id hA0
  obtain ⟨aW, aU, aK⟩ := id hW
  have hE := MSt_A hA0
  have hn7 := mC.1
  have hn := mC.2.1
  rcases qOf_cases hn7 w with ⟨q, hq, rfl, hi, hh⟩ | ⟨hi, hh⟩
  · rcases inOf_cases (lo := 1) (hi := 60) (by decide) v (by decide) with ⟨N, h1, h2, rfl, hj⟩ | ⟨hj, ho⟩
    · have hmx : mxf b n ≤ 9 := mxf_le (fun j hj => (WF_wh aW.1 j (by omega)).2)
      have hlow : ∀ k, k ≤ n → max 2 (mxf b k) ≤ 9 := fun k hk => Nat.max_le.mpr ⟨by decide, mxf_le (fun j hj => (WF_wh aW.1 j (by omega)).2)⟩
      have hl9 := hlow n (Nat.le_refl n)
      have hl2 : 2 ≤ max 2 (mxf b n) := Nat.le_max_left _ _
      have hlm : mxf b n ≤ max 2 (mxf b n) := Nat.le_max_right _ _
      generalize hoo : (fun j => cntP (fun t => decide (hrs n pc (ruE rt) (t + 1) (bu b 28 (max 2 (mxf b n) + j)) 29 = q)) N) = o
      have hok : ∀ j, o j = cntP (fun t => decide (hrs n pc (ruE rt) (t + 1) (bu b 28 (max 2 (mxf b n) + j)) 29 = q)) N := fun j => by rw [← hoo]
      have eq : qPeaks (nI q) (nI N) n pc b (ruE rt) rw hd sw = (pkB o (fun j => max 2 (mxf b n) + j) (-1) (10 - max 2 (mxf b n)), [(pkM o (10 - max 2 (mxf b n))).toInt64, lI (cntP (fun t => decide (hrs n pc (ruE rt) (t + 1) (bu b 28 (b 28)) 29 = q)) N)]) := by unfold qPeaks; rw [hi, hj, ← hoo]; rfl
      have hWT : ∀ T, max 2 (mxf b n) ≤ T → T ≤ 9 → WF n pc (bu b 28 T) := fun T t1 t2 => WF_top aW.1 aW.2.1 (by omega) t2 (by omega)
      refine pw_aload_n 6 rfl dX12_peaks_5 rfl ?_
      refine pw_iload_n 7 rfl dX12_peaks_6 rfl ?_
      refine pw_callVP (as := [_]) 10 rfl dX12_peaks_7 mX12_205 vX12_isOne (m_isOne (d := d + 243) hn hn7 _) (by first | rfl | assumption | exact rowS hh | exact mtS hm | exact ruS hr | exact mtA1 hm | exact mtA2 hm | exact mtA3 hm | exact mtA4 hm | exact mtA5 hm | exact mtA6 hm | exact mtA7 hm | exact ruA1 hr | exact ruA2 hr | exact ruA3 hr) rfl (by decide) ⟨rfl, by decide, by decide, show (parseMethodDescriptor yX12_isOne.desc).map (fun d => d.parameters.length) = some 1 by decide +kernel⟩ (by omega) (by decide) (Nat.le_of_ble_eq_true rfl) rfl ?_
      refine pw_if_eq (tgt := 23) 13 rfl dX12_peaks_10 rfl (fun h10 => absurd h10 (by rw [hh]; decide)) (fun h10 => ?_)
      refine pw_iload_n 14 rfl dX12_peaks_13 rfl ?_
      refine pw_iconst (v := nI 1) 15 rfl dX12_peaks_14 rfl ?_
      refine pw_bipush (v := nI 60) 17 rfl dX12_peaks_15 rfl ?_
      refine pw_callSP (as := [_, _, _]) 20 rfl dX12_peaks_17 mX12_98 sX12_in (m_in (d := d) _ _ _) ⟨rfl, by decide, by decide, show (parseMethodDescriptor yX12_in.desc).map (fun d => d.parameters.length) = some 3 by decide +kernel⟩ (by omega) (by decide) (Nat.le_of_ble_eq_true rfl) rfl ?_
      refine pw_if_ne (tgt := 25) 23 rfl dX12_peaks_20 rfl (fun h20 => ?_) (fun h20 => absurd h20 (by rw [inV_y h1 h2 (by decide)]; decide))
      refine pw_iconst (v := nI 2) 26 rfl dX12_peaks_25 rfl ?_
      refine pw_istore_n 27 rfl dX12_peaks_26 (by decide) ?_
      refine pw_iconst (v := nI 0) 28 rfl dX12_peaks_27 rfl ?_
      refine pw_istore 30 rfl dX12_peaks_28 (by decide) ?_
      rotate_left
      have L1 := nat_loop n (fun k => PW SM yX12_peaks.cls cX12_peaks 7 (d + 245) 30 [some (.ref 0), some (.int (nI q)), some (.int (nI N)), some (.int (nI (max 2 (mxf b k)))), some (.int (nI k)), none, none] [] I J (RM rd (some 6)) (rX cX12_peaks (some .int) (moP (g + 10000) (qOp (qPeaks (nI q) (nI N)) (n, pc, b, us, kp, rw, tx, rt, hd, sw))))) ?_ ?_
      · exact L1
      · refine pw_iload 32 rfl dX12_peaks_30 rfl ?_
        refine pw_aload_n 33 rfl dX12_peaks_32 rfl ?_
        refine pw_getI 36 rfl dX12_peaks_33 fX12_95 (by first | rfl | assumption | exact rowS hh | exact mtS hm | exact ruS hr | exact mtA1 hm | exact mtA2 hm | exact mtA3 hm | exact mtA4 hm | exact mtA5 hm | exact mtA6 hm | exact mtA7 hm | exact ruA1 hr | exact ruA2 hr | exact ruA3 hr) rfl ?_
        refine pw_icmp_ge (tgt := 57) 39 rfl dX12_peaks_36 rfl (fun h36 => ?_) (fun h36 => absurd (by rw [hn]; (simp (disch := omega) only [nI_leI, nI_ltI, nI_eq, show (0 : Int32) = nI 0 from rfl, not_true_eq_false, not_false_eq_true] <;> omega)) h36)
        refine pw_iconst (v := -1) 58 rfl dX12_peaks_57 rfl ?_
        refine pw_istore 60 rfl dX12_peaks_58 (by decide) ?_
        refine pw_iconst (v := -1) 61 rfl dX12_peaks_60 rfl ?_
        refine pw_istore 63 rfl dX12_peaks_61 (by decide) ?_
        refine pw_iload_n 64 rfl dX12_peaks_63 rfl ?_
        refine pw_istore 66 rfl dX12_peaks_64 (by decide) ?_
        rotate_left
        generalize max 2 (mxf b n) = lo at hl9 hl2 hlm hok eq hWT ⊢
        have L2 := nat_loop (10 - lo) (fun j => ∀ (I' : pI) (rd' : Option Nat), mFr 11 I I' → MDg (g + 1000 * j) I' → PW SM yX12_peaks.cls cX12_peaks 7 (d + 245) 66 [some (.ref 0), some (.int (nI q)), some (.int (nI N)), some (.int (nI lo)), some (.int (pkB o (fun j => lo + j) (-1) j)), some (.int (pkM o j)), some (.int (nI (lo + j)))] [] I' J (RM rd' (some 6)) (rX cX12_peaks (some .int) (moP (g + 10000) (qOp (qPeaks (nI q) (nI N)) (n, pc, b, us, kp, rw, tx, rt, hd, sw))))) ?_ ?_
        · exact L2 I rd (fun _ _ _ _ _ _ _ => rfl) hD0
        · intro I' rd' m2 m3
          have hm : mxf b n ≤ b 28 := mxf_le (fun j hj => (aW.1.2.2.2.2 j (by omega)).2.1)
          have hWb : WF n pc (bu b 28 (b 28)) := WF_top aW.1 aW.2.1 aW.1.2.1.1 aW.1.2.1.2 hm
          refine pw_iload 68 rfl dX12_peaks_66 rfl ?_
          refine pw_bipush (v := nI 9) 70 rfl dX12_peaks_68 rfl ?_
          refine pw_icmp_gt (tgt := 109) 73 rfl dX12_peaks_70 rfl (fun h70 => ?_) (fun h70 => absurd (by (simp (disch := omega) only [nI_leI, nI_ltI, nI_eq, show (0 : Int32) = nI 0 from rfl, not_true_eq_false, not_false_eq_true] <;> omega)) h70)
          refine pw_aload_n 110 rfl dX12_peaks_109 rfl ?_
          refine pw_iconst (v := nI 0) 111 rfl dX12_peaks_110 rfl ?_
          refine pw_putI 114 rfl dX12_peaks_111 fX12_92 w12_6 (by first | rfl | assumption | exact rowS hh | exact mtS hm | exact ruS hr | exact mtA1 hm | exact mtA2 hm | exact mtA3 hm | exact mtA4 hm | exact mtA5 hm | exact mtA6 hm | exact mtA7 hm | exact ruA1 hr | exact ruA2 hr | exact ruA3 hr) rfl rfl rfl ?_
          refine pw_aload_n 115 rfl dX12_peaks_114 rfl ?_
          refine pw_iload 117 rfl dX12_peaks_115 rfl ?_
          refine pw_i2l 118 rfl dX12_peaks_117 ?_
          refine pw_callV (as := [_]) 121 rfl dX12_peaks_118 mX12_236 vX12_tell (m_tell (d := d + 244) MN_0 (by decide)) (by first | rfl | assumption | exact rowS hh | exact mtS hm | exact ruS hr | exact mtA1 hm | exact mtA2 hm | exact mtA3 hm | exact mtA4 hm | exact mtA5 hm | exact mtA6 hm | exact mtA7 hm | exact ruA1 hr | exact ruA2 hr | exact ruA3 hr) rfl (by decide) ⟨rfl, by decide, by decide, show (parseMethodDescriptor yX12_tell.desc).map (fun d => d.parameters.length) = some 1 by decide +kernel⟩ (by omega) (by decide) (Nat.le_of_ble_eq_true rfl) rfl (fun r118 I118 J118 R118 c118 => ?_)
          obtain ⟨rfl, t1, t2, rfl⟩ := c118
          rotate_left
          have hf1 : ∀ a j, ¬ (a = 0 ∧ j = 6) → I118 a j = I' a j := fun a j q => by rw [t2 a j q, uI_ne (by omega)]
          have hfs : fMs I I118 := fun a j q => by rw [hf1 a j (by omega)]; exact fMs_mFr m2 a j q
          have m7 : ∀ j, I118 7 j = I 7 j := fun j => by rw [hf1 _ _ (by omega), m2 _ _ (by omega) (by omega) (by omega) (by omega) (by omega)]
          refine pw_aload_n 122 rfl dX12_peaks_121 rfl ?_
          refine pw_aload_n 123 rfl dX12_peaks_122 rfl ?_
          refine pw_aload_n 124 rfl dX12_peaks_123 rfl ?_
          refine pw_getR 127 rfl dX12_peaks_124 fX12_9 (by first | rfl | assumption | exact rowS hh | exact mtS hm | exact ruS hr | exact mtA1 hm | exact mtA2 hm | exact mtA3 hm | exact mtA4 hm | exact mtA5 hm | exact mtA6 hm | exact mtA7 hm | exact ruA1 hr | exact ruA2 hr | exact ruA3 hr) rfl (by first | rfl | assumption | exact mtR0 hm | exact mtR1 hm | exact mtR2 hm | exact mtR3 hm | exact mtR4 hm | exact mtR5 hm | exact mtR6 hm | exact ruR0 hr | exact ruR1 hr | exact ruR3 hr) ?_
          refine pw_bipush (v := nI 28) 129 rfl dX12_peaks_127 rfl ?_
          refine pw_ialdN 130 rfl dX12_peaks_129 (by first | rfl | assumption | exact rowS hh | exact mtS hm | exact ruS hr | exact mtA1 hm | exact mtA2 hm | exact mtA3 hm | exact mtA4 hm | exact mtA5 hm | exact mtA6 hm | exact mtA7 hm | exact ruA1 hr | exact ruA2 hr | exact ruA3 hr) (by omega) (by first | decide | omega) ?_
          rotate_left
          rw [hf1 _ _ (by omega), m2 _ _ (by omega) (by omega) (by omega) (by omega) (by omega), mB 28 (by omega)]
          refine pw_iload_n 131 rfl dX12_peaks_130 rfl ?_
          refine pw_iload_n 132 rfl dX12_peaks_131 rfl ?_
          refine pw_callV (as := [_, _, _]) 135 rfl dX12_peaks_132 mX12_285 vX12_ownedBy (m_ownedBy (d := d + 6) (T := b 28) (MC_f mC (hfs _ _ (by omega)) (fun j => hfs _ _ (by omega))) (MB_f mB (fun j => hfs _ _ (by omega))) hWb (hE.fr (hfs _ _ (by omega)) (fun j => hfs _ _ (by omega)) m7) (MDg_f m3 (hf1 _ _ (by omega)) (fun j => hf1 _ _ (by omega))) (by omega) h2 (show q < 7 by omega)) (by first | rfl | assumption | exact rowS hh | exact mtS hm | exact ruS hr | exact mtA1 hm | exact mtA2 hm | exact mtA3 hm | exact mtA4 hm | exact mtA5 hm | exact mtA6 hm | exact mtA7 hm | exact ruA1 hr | exact ruA2 hr | exact ruA3 hr) rfl (by decide) ⟨rfl, by decide, by decide, show (parseMethodDescriptor yX12_ownedBy.desc).map (fun d => d.parameters.length) = some 3 by decide +kernel⟩ (by omega) (by decide) (Nat.le_of_ble_eq_true rfl) rfl (fun r132 I132 J132 R132 c132 => ?_)
          obtain ⟨rfl, p2, p3, rfl, rd2, rfl⟩ := c132
          rotate_left
          refine pw_i2l 136 rfl dX12_peaks_135 ?_
          refine pw_callV (as := [_]) 139 rfl dX12_peaks_136 mX12_236 vX12_tell (m_tell (d := d + 244) (MN_mFr t1 p2) (by show (1 : Nat) < 12; decide)) (by first | rfl | assumption | exact rowS hh | exact mtS hm | exact ruS hr | exact mtA1 hm | exact mtA2 hm | exact mtA3 hm | exact mtA4 hm | exact mtA5 hm | exact mtA6 hm | exact mtA7 hm | exact ruA1 hr | exact ruA2 hr | exact ruA3 hr) rfl (by decide) ⟨rfl, by decide, by decide, show (parseMethodDescriptor yX12_tell.desc).map (fun d => d.parameters.length) = some 1 by decide +kernel⟩ (by omega) (by decide) (Nat.le_of_ble_eq_true rfl) rfl (fun r136 I136 J136 R136 c136 => ?_)
          obtain ⟨rfl, u1, u2, rfl⟩ := c136
          rotate_left
          refine pw_iload 141 rfl dX12_peaks_139 rfl ?_
          refine pw_iret dX12_peaks_141 rfl ?_
          rotate_left
          exact moQ eq rfl (MA_rw hA0 (fun a j q => by rw [u2 a j (by omega), fMs_mFr p2 a j q, hfs a j q]) u1) ((MDg_f p3 (u2 _ _ (by omega)) (fun j => u2 _ _ (by omega))).mono (by omega)) ⟨rd2, rfl⟩
        · intro j hj ih I' rd' m2 m3
          have hWj := hWT (lo + j) (by omega) (by omega)
          have cN : cntP (fun t => decide (hrs n pc (ruE rt) (t + 1) (bu b 28 (lo + j)) 29 = q)) N = o j := by rw [hok]
          have c1 := m_ownedBy (d := d + 6) (T := lo + j) (rd := rd') (J := J) (mC.fr m2 (Or.inr rfl)) (MB_f mB (fun k => m2 _ _ (by omega) (by omega) (by omega) (by omega) (by omega))) hWj (MSt_mFr hE m2) m3 (by omega) h2 (show q < 7 by omega)
          rw [cN] at c1
          refine pw_iload 68 rfl dX12_peaks_66 rfl ?_
          refine pw_bipush (v := nI 9) 70 rfl dX12_peaks_68 rfl ?_
          refine pw_icmp_gt (tgt := 109) 73 rfl dX12_peaks_70 rfl (fun h70 => absurd h70 (by (simp (disch := omega) only [nI_leI, nI_ltI, nI_eq, show (0 : Int32) = nI 0 from rfl, not_true_eq_false, not_false_eq_true] <;> omega))) (fun h70 => ?_)
          refine pw_aload_n 74 rfl dX12_peaks_73 rfl ?_
          refine pw_iload 76 rfl dX12_peaks_74 rfl ?_
          refine pw_iload_n 77 rfl dX12_peaks_76 rfl ?_
          refine pw_iload_n 78 rfl dX12_peaks_77 rfl ?_
          refine pw_callV (as := [_, _, _]) 81 rfl dX12_peaks_78 mX12_285 vX12_ownedBy c1 (by first | rfl | assumption | exact rowS hh | exact mtS hm | exact ruS hr | exact mtA1 hm | exact mtA2 hm | exact mtA3 hm | exact mtA4 hm | exact mtA5 hm | exact mtA6 hm | exact mtA7 hm | exact ruA1 hr | exact ruA2 hr | exact ruA3 hr) rfl (by decide) ⟨rfl, by decide, by decide, show (parseMethodDescriptor yX12_ownedBy.desc).map (fun d => d.parameters.length) = some 3 by decide +kernel⟩ (by omega) (by decide) (Nat.le_of_ble_eq_true rfl) rfl (fun r78 I78 J78 R78 c78 => ?_)
          obtain ⟨rfl, p2, p3, rfl, rd2, rfl⟩ := c78
          rotate_left
          have epM : pkM o (j + 1) = if pkM o j < nI (o j) then nI (o j) else pkM o j := rfl
          have epB : pkB o (fun j => lo + j) (-1) (j + 1) = if pkM o j < nI (o j) then nI (lo + j) else pkB o (fun j => lo + j) (-1) j := rfl
          rw [epM, epB] at ih
          by_cases hc : pkM o j < nI (o j)
          · rw [if_pos hc, if_pos hc] at ih
            have f2 := m2.trans p2
            have c2 := m_ownedBy (d := d + 6) (T := lo + j) (rd := rd2) (J := J) (mC.fr f2 (Or.inr rfl)) (MB_f mB (fun k => f2 _ _ (by omega) (by omega) (by omega) (by omega) (by omega))) hWj (MSt_mFr hE f2) p3 (by omega) h2 (show q < 7 by omega)
            rw [cN] at c2
            refine pw_iload 83 rfl dX12_peaks_81 rfl ?_
            refine pw_icmp_gt (tgt := 89) 86 rfl dX12_peaks_83 rfl (fun h83 => ?_) (fun h83 => absurd hc h83)
            refine pw_iload 91 rfl dX12_peaks_89 rfl ?_
            refine pw_istore 93 rfl dX12_peaks_91 (by decide) ?_
            refine pw_aload_n 94 rfl dX12_peaks_93 rfl ?_
            refine pw_iload 96 rfl dX12_peaks_94 rfl ?_
            refine pw_iload_n 97 rfl dX12_peaks_96 rfl ?_
            refine pw_iload_n 98 rfl dX12_peaks_97 rfl ?_
            refine pw_callV (as := [_, _, _]) 101 rfl dX12_peaks_98 mX12_285 vX12_ownedBy c2 (by first | rfl | assumption | exact rowS hh | exact mtS hm | exact ruS hr | exact mtA1 hm | exact mtA2 hm | exact mtA3 hm | exact mtA4 hm | exact mtA5 hm | exact mtA6 hm | exact mtA7 hm | exact ruA1 hr | exact ruA2 hr | exact ruA3 hr) rfl (by decide) ⟨rfl, by decide, by decide, show (parseMethodDescriptor yX12_ownedBy.desc).map (fun d => d.parameters.length) = some 3 by decide +kernel⟩ (by omega) (by decide) (Nat.le_of_ble_eq_true rfl) rfl (fun r98 I98 J98 R98 c98 => ?_)
            obtain ⟨rfl, q2, q3, rfl, rd3, rfl⟩ := c98
            rotate_left
            refine pw_istore 103 rfl dX12_peaks_101 (by decide) ?_
            refine pw_iincN 106 rfl dX12_peaks_103 (by decide) rfl ?_
            refine pw_goto (tgt := 66) dX12_peaks_106 rfl ?_
            rotate_left
            exact ih I98 rd3 (f2.trans q2) (q3.mono (by omega))
          · rw [if_neg hc, if_neg hc] at ih
            refine pw_iload 83 rfl dX12_peaks_81 rfl ?_
            refine pw_icmp_gt (tgt := 89) 86 rfl dX12_peaks_83 rfl (fun h83 => absurd h83 hc) (fun h83 => ?_)
            refine pw_goto (tgt := 103) dX12_peaks_86 rfl ?_
            refine pw_iincN 106 rfl dX12_peaks_103 (by decide) rfl ?_
            refine pw_goto (tgt := 66) dX12_peaks_106 rfl ?_
            rotate_left
            exact ih I78 rd2 (m2.trans p2) (p3.mono (by omega))
      · intro k hk ih
        have e : I 1 k = nI (b k) := mB k (by omega)
        have hb := (WF_wh aW.1 k (by omega)).2
        have hlk := hlow k (by omega)
        refine pw_iload 32 rfl dX12_peaks_30 rfl ?_
        refine pw_aload_n 33 rfl dX12_peaks_32 rfl ?_
        refine pw_getI 36 rfl dX12_peaks_33 fX12_95 (by first | rfl | assumption | exact rowS hh | exact mtS hm | exact ruS hr | exact mtA1 hm | exact mtA2 hm | exact mtA3 hm | exact mtA4 hm | exact mtA5 hm | exact mtA6 hm | exact mtA7 hm | exact ruA1 hr | exact ruA2 hr | exact ruA3 hr) rfl ?_
        refine pw_icmp_ge (tgt := 57) 39 rfl dX12_peaks_36 rfl (fun h36 => absurd h36 (by rw [hn]; (simp (disch := omega) only [nI_leI, nI_ltI, nI_eq, show (0 : Int32) = nI 0 from rfl, not_true_eq_false, not_false_eq_true] <;> omega))) (fun h36 => ?_)
        refine pw_iload_n 40 rfl dX12_peaks_39 rfl ?_
        refine pw_aload_n 41 rfl dX12_peaks_40 rfl ?_
        refine pw_getR 44 rfl dX12_peaks_41 fX12_9 (by first | rfl | assumption | exact rowS hh | exact mtS hm | exact ruS hr | exact mtA1 hm | exact mtA2 hm | exact mtA3 hm | exact mtA4 hm | exact mtA5 hm | exact mtA6 hm | exact mtA7 hm | exact ruA1 hr | exact ruA2 hr | exact ruA3 hr) rfl (by first | rfl | assumption | exact mtR0 hm | exact mtR1 hm | exact mtR2 hm | exact mtR3 hm | exact mtR4 hm | exact mtR5 hm | exact mtR6 hm | exact ruR0 hr | exact ruR1 hr | exact ruR3 hr) ?_
        refine pw_iload 46 rfl dX12_peaks_44 rfl ?_
        refine pw_ialdN 47 rfl dX12_peaks_46 (by first | rfl | assumption | exact rowS hh | exact mtS hm | exact ruS hr | exact mtA1 hm | exact mtA2 hm | exact mtA3 hm | exact mtA4 hm | exact mtA5 hm | exact mtA6 hm | exact mtA7 hm | exact ruA1 hr | exact ruA2 hr | exact ruA3 hr) (by omega) (by first | decide | omega) ?_
        rotate_left
        rw [e]
        refine pw_mmax 50 rfl dX12_peaks_47 mX12_195 (Nat.le_of_ble_eq_true rfl) ?_
        rotate_left
        rw [nI_max (by omega) (by omega), Nat.max_assoc]
        refine pw_istore_n 51 rfl dX12_peaks_50 (by decide) ?_
        refine pw_iincN 54 rfl dX12_peaks_51 (by decide) rfl ?_
        refine pw_goto (tgt := 30) dX12_peaks_54 rfl ?_
        rotate_left
        exact ih
    · refine pw_aload_n 6 rfl dX12_peaks_5 rfl ?_
      refine pw_iload_n 7 rfl dX12_peaks_6 rfl ?_
      refine pw_callVP (as := [_]) 10 rfl dX12_peaks_7 mX12_205 vX12_isOne (m_isOne (d := d + 243) hn hn7 _) (by first | rfl | assumption | exact rowS hh | exact mtS hm | exact ruS hr | exact mtA1 hm | exact mtA2 hm | exact mtA3 hm | exact mtA4 hm | exact mtA5 hm | exact mtA6 hm | exact mtA7 hm | exact ruA1 hr | exact ruA2 hr | exact ruA3 hr) rfl (by decide) ⟨rfl, by decide, by decide, show (parseMethodDescriptor yX12_isOne.desc).map (fun d => d.parameters.length) = some 1 by decide +kernel⟩ (by omega) (by decide) (Nat.le_of_ble_eq_true rfl) rfl ?_
      refine pw_if_eq (tgt := 23) 13 rfl dX12_peaks_10 rfl (fun h10 => absurd h10 (by rw [hh]; decide)) (fun h10 => ?_)
      refine pw_iload_n 14 rfl dX12_peaks_13 rfl ?_
      refine pw_iconst (v := nI 1) 15 rfl dX12_peaks_14 rfl ?_
      refine pw_bipush (v := nI 60) 17 rfl dX12_peaks_15 rfl ?_
      refine pw_callSP (as := [_, _, _]) 20 rfl dX12_peaks_17 mX12_98 sX12_in (m_in (d := d) _ _ _) ⟨rfl, by decide, by decide, show (parseMethodDescriptor yX12_in.desc).map (fun d => d.parameters.length) = some 3 by decide +kernel⟩ (by omega) (by decide) (Nat.le_of_ble_eq_true rfl) rfl ?_
      refine pw_if_ne (tgt := 25) 23 rfl dX12_peaks_20 rfl (fun h20 => absurd (by rw [inV_n ho]; rfl) h20) (fun h20 => ?_)
      refine pw_iconst (v := -1) 24 rfl dX12_peaks_23 rfl ?_
      refine pw_iret dX12_peaks_24 rfl ?_
      rotate_left
      exact moQ (by unfold qPeaks; rw [hi, hj]; rfl) rfl hA0 (hD0.mono (by omega)) ⟨rd, rfl⟩
  · refine pw_aload_n 6 rfl dX12_peaks_5 rfl ?_
    refine pw_iload_n 7 rfl dX12_peaks_6 rfl ?_
    refine pw_callVP (as := [_]) 10 rfl dX12_peaks_7 mX12_205 vX12_isOne (m_isOne (d := d + 243) hn hn7 _) (by first | rfl | assumption | exact rowS hh | exact mtS hm | exact ruS hr | exact mtA1 hm | exact mtA2 hm | exact mtA3 hm | exact mtA4 hm | exact mtA5 hm | exact mtA6 hm | exact mtA7 hm | exact ruA1 hr | exact ruA2 hr | exact ruA3 hr) rfl (by decide) ⟨rfl, by decide, by decide, show (parseMethodDescriptor yX12_isOne.desc).map (fun d => d.parameters.length) = some 1 by decide +kernel⟩ (by omega) (by decide) (Nat.le_of_ble_eq_true rfl) rfl ?_
    refine pw_if_eq (tgt := 23) 13 rfl dX12_peaks_10 rfl (fun h10 => ?_) (fun h10 => absurd (by rw [hh]; rfl) h10)
    refine pw_iconst (v := -1) 24 rfl dX12_peaks_23 rfl ?_
    refine pw_iret dX12_peaks_24 rfl ?_
    rotate_left
    exact moQ (by unfold qPeaks; rw [hi]; rfl) rfl hA0 (hD0.mono (by omega)) ⟨rd, rfl⟩
set_option maxRecDepth 100000 in
set_option maxHeartbeats 2000000 in
theorem m_isSoon {d : Nat} {I : pI} {J : pJ} {R : pR} (v : Int32) : PC SM (d + 1) yX12_isSoon cX12_isSoon 1 (some .boolean) [.int v] (I) (J) (R) (pPu (.int (inV v (nI 0) (nI 60))) I J R) := by
  refine PC.of [some (.int v)] rfl rfl (Nat.le_of_ble_eq_true rfl) ?_
  have hnr : narrow .boolean (.int (inV v (nI 0) (nI 60))) = .int (inV v (nI 0) (nI 60)) := by unfold inV; split <;> rfl
  refine pw_iload_n 1 rfl dX12_isSoon_0 rfl ?_
  refine pw_iconst (v := nI 0) 2 rfl dX12_isSoon_1 rfl ?_
  refine pw_bipush (v := nI 60) 4 rfl dX12_isSoon_2 rfl ?_
  refine pw_callSP (as := [_, _, _]) 7 rfl dX12_isSoon_4 mX12_98 sX12_in (m_in (d := d) _ _ _) ⟨rfl, by decide, by decide, show (parseMethodDescriptor yX12_in.desc).map (fun d => d.parameters.length) = some 3 by decide +kernel⟩ (by omega) (by decide) (Nat.le_of_ble_eq_true rfl) rfl ?_
  refine pw_iret dX12_isSoon_7 hnr ?_
  rotate_left
  exact ⟨rfl, rfl, rfl, rfl⟩
set_option maxRecDepth 100000 in
set_option maxHeartbeats 2000000 in
theorem mo_bides {d g : Nat} {s : aSt} {rd : Option Nat} {I : pI} {J : pJ} (hA : MA I J s) (hD : MDg g I) (hg : g ≤ 500000000) (hW : WA s) (w v : Int32) : PC SM (d + 245) yX12_bides cX12_bides 6 (some .int) [.ref 0, .int w, .int v] (I) (J) (RM rd (some 6)) (moP (g + 10000) (qOp (qBides w v) s)) := by
  refine PC.of [some (.ref 0), some (.int w), some (.int v), none, none, none] rfl rfl (Nat.le_of_ble_eq_true rfl) ?_
  obtain ⟨n, pc, b, us, kp, rw, tx, rt, hd, sw⟩ := s
  refine pw_aload_n 1 rfl dX12_bides_0 rfl ?_
  refine pw_iconst (v := nI 0) 2 rfl dX12_bides_1 rfl ?_
  refine pw_putI 5 rfl dX12_bides_2 fX12_88 w12_7 (by first | rfl | assumption | exact rowS hh | exact mtS hm | exact ruS hr | exact mtA1 hm | exact mtA2 hm | exact mtA3 hm | exact mtA4 hm | exact mtA5 hm | exact mtA6 hm | exact mtA7 hm | exact ruA1 hr | exact ruA2 hr | exact ruA3 hr) rfl rfl rfl ?_
  rotate_left
  have hA0 := MA_thr (v := nI 0) hA
  have hD0 : MDg g (uI I 0 7 (nI 0)) := MDg_f hD (uI_ne (by omega)) (fun j => uI_ne (by omega))
  clear hA hD
  generalize uI I 0 7 (nI 0) = I at hA0 hD0 ⊢
  obtain ⟨mC, mB, mT, mN, mR, mU, mK, mH, mG⟩ := id hA0
  obtain ⟨aW, aU, aK⟩ := id hW
  have hE := MSt_A hA0
  have hn7 := mC.1
  have hn := mC.2.1
  rcases qOf_cases hn7 w with ⟨q, hq, rfl, hi, hh⟩ | ⟨hi, hh⟩
  · rcases inOf_cases (lo := 0) (hi := 60) (by decide) v (by decide) with ⟨N, h1, h2, rfl, hj⟩ | ⟨hj, ho⟩
    · generalize hP : (fun w => decide (hrs n pc (ruE rt) N (bu b (14 + q) (b (14 + q) + w)) 29 = q)) = P
      have hPk : ∀ k, P k = decide (hrs n pc (ruE rt) N (bu b (14 + q) (b (14 + q) + k)) 29 = q) := fun k => by rw [← hP]
      have eq : qBides (nI q) (nI N) n pc b (ruE rt) rw hd sw = (fstP P id 31, if cntP P 31 = 0 then rw else [lI (cntP P 31)]) := by unfold qBides; rw [hi, hj, ← hP]; rfl
      refine pw_aload_n 6 rfl dX12_bides_5 rfl ?_
      refine pw_iload_n 7 rfl dX12_bides_6 rfl ?_
      refine pw_callVP (as := [_]) 10 rfl dX12_bides_7 mX12_205 vX12_isOne (m_isOne (d := d + 243) hn hn7 _) (by first | rfl | assumption | exact rowS hh | exact mtS hm | exact ruS hr | exact mtA1 hm | exact mtA2 hm | exact mtA3 hm | exact mtA4 hm | exact mtA5 hm | exact mtA6 hm | exact mtA7 hm | exact ruA1 hr | exact ruA2 hr | exact ruA3 hr) rfl (by decide) ⟨rfl, by decide, by decide, show (parseMethodDescriptor yX12_isOne.desc).map (fun d => d.parameters.length) = some 1 by decide +kernel⟩ (by omega) (by decide) (Nat.le_of_ble_eq_true rfl) rfl ?_
      refine pw_if_eq (tgt := 20) 13 rfl dX12_bides_10 rfl (fun h10 => absurd h10 (by rw [hh]; decide)) (fun h10 => ?_)
      refine pw_iload_n 14 rfl dX12_bides_13 rfl ?_
      refine pw_callSP (as := [_]) 17 rfl dX12_bides_14 mX12_289 sX12_isSoon (m_isSoon (d := d + 243) _) ⟨rfl, by decide, by decide, show (parseMethodDescriptor yX12_isSoon.desc).map (fun d => d.parameters.length) = some 1 by decide +kernel⟩ (by omega) (by decide) (Nat.le_of_ble_eq_true rfl) rfl ?_
      refine pw_if_ne (tgt := 22) 20 rfl dX12_bides_17 rfl (fun h17 => ?_) (fun h17 => absurd h17 (by rw [inV_y h1 h2 (by decide)]; decide))
      refine pw_bipush (v := -2) 24 rfl dX12_bides_22 rfl ?_
      refine pw_istore_n 25 rfl dX12_bides_24 (by decide) ?_
      refine pw_iconst (v := nI 0) 26 rfl dX12_bides_25 rfl ?_
      refine pw_istore 28 rfl dX12_bides_26 (by decide) ?_
      refine pw_iconst (v := nI 0) 29 rfl dX12_bides_28 rfl ?_
      refine pw_istore 31 rfl dX12_bides_29 (by decide) ?_
      rotate_left
      have L := nat_loop 31 (fun t => ∀ (I' : pI) (rd' : Option Nat), mFr 11 I I' → MDg (g + 1000) I' → PW SM yX12_bides.cls cX12_bides 6 (d + 245) 31 [some (.ref 0), some (.int (nI q)), some (.int (nI N)), some (.int (fstP P id t)), some (.int (nI (cntP P t))), some (.int (nI t))] [] I' J (RM rd' (some 6)) (rX cX12_bides (some .int) (moP (g + 10000) (qOp (qBides (nI q) (nI N)) (n, pc, b, us, kp, rw, tx, rt, hd, sw))))) ?_ ?_
      · exact L I rd (fun _ _ _ _ _ _ _ => rfl) (hD0.mono (by omega))
      · intro I' rd' m2 m3
        have hcl := cntP_le P 31
        by_cases h0 : cntP P 31 = 0
        · rw [if_pos h0] at eq
          refine pw_iload 33 rfl dX12_bides_31 rfl ?_
          refine pw_bipush (v := nI 30) 35 rfl dX12_bides_33 rfl ?_
          refine pw_icmp_gt (tgt := 109) 38 rfl dX12_bides_35 rfl (fun h35 => ?_) (fun h35 => absurd (by (simp (disch := omega) only [nI_leI, nI_ltI, nI_eq, show (0 : Int32) = nI 0 from rfl, not_true_eq_false, not_false_eq_true] <;> omega)) h35)
          refine pw_iload_n 110 rfl dX12_bides_109 rfl ?_
          refine pw_bipush (v := -2) 112 rfl dX12_bides_110 rfl ?_
          refine pw_icmp_ne (tgt := 118) 115 rfl dX12_bides_112 rfl (fun h112 => absurd (fstP_0 h0) h112) (fun h112 => ?_)
          refine pw_bipush (v := -2) 117 rfl dX12_bides_115 rfl ?_
          refine pw_iret dX12_bides_117 rfl ?_
          rotate_left
          exact moQ eq (by rw [fstP_0 h0]) (MA_rw hA0 (fMs_mFr m2) (MN_mFr mN m2)) (m3.mono (by omega)) ⟨rd', rfl⟩
        · rw [if_neg h0] at eq
          refine pw_iload 33 rfl dX12_bides_31 rfl ?_
          refine pw_bipush (v := nI 30) 35 rfl dX12_bides_33 rfl ?_
          refine pw_icmp_gt (tgt := 109) 38 rfl dX12_bides_35 rfl (fun h35 => ?_) (fun h35 => absurd (by (simp (disch := omega) only [nI_leI, nI_ltI, nI_eq, show (0 : Int32) = nI 0 from rfl, not_true_eq_false, not_false_eq_true] <;> omega)) h35)
          refine pw_iload_n 110 rfl dX12_bides_109 rfl ?_
          refine pw_bipush (v := -2) 112 rfl dX12_bides_110 rfl ?_
          refine pw_icmp_ne (tgt := 118) 115 rfl dX12_bides_112 rfl (fun h112 => ?_) (fun h112 => absurd h112 (fstP_ne (fun j hj => by show j < _; omega) (by decide) h0))
          refine pw_aload_n 119 rfl dX12_bides_118 rfl ?_
          refine pw_iconst (v := nI 0) 120 rfl dX12_bides_119 rfl ?_
          refine pw_putI 123 rfl dX12_bides_120 fX12_92 w12_6 (by first | rfl | assumption | exact rowS hh | exact mtS hm | exact ruS hr | exact mtA1 hm | exact mtA2 hm | exact mtA3 hm | exact mtA4 hm | exact mtA5 hm | exact mtA6 hm | exact mtA7 hm | exact ruA1 hr | exact ruA2 hr | exact ruA3 hr) rfl rfl rfl ?_
          refine pw_aload_n 124 rfl dX12_bides_123 rfl ?_
          refine pw_iload 126 rfl dX12_bides_124 rfl ?_
          refine pw_i2l 127 rfl dX12_bides_126 ?_
          refine pw_callV (as := [_]) 130 rfl dX12_bides_127 mX12_236 vX12_tell (m_tell (d := d + 244) MN_0 (by decide)) (by first | rfl | assumption | exact rowS hh | exact mtS hm | exact ruS hr | exact mtA1 hm | exact mtA2 hm | exact mtA3 hm | exact mtA4 hm | exact mtA5 hm | exact mtA6 hm | exact mtA7 hm | exact ruA1 hr | exact ruA2 hr | exact ruA3 hr) rfl (by decide) ⟨rfl, by decide, by decide, show (parseMethodDescriptor yX12_tell.desc).map (fun d => d.parameters.length) = some 1 by decide +kernel⟩ (by omega) (by decide) (Nat.le_of_ble_eq_true rfl) rfl (fun r127 I127 J127 R127 c127 => ?_)
          obtain ⟨rfl, t1, t2, rfl⟩ := c127
          rotate_left
          have hf1 : ∀ a j, ¬ (a = 0 ∧ j = 6) → I127 a j = I' a j := fun a j q => by rw [t2 a j q, uI_ne (by omega)]
          refine pw_iload_n 131 rfl dX12_bides_130 rfl ?_
          refine pw_iret dX12_bides_131 rfl ?_
          rotate_left
          exact moQ eq rfl (MA_rw hA0 (fun a j q => by rw [hf1 a j (by omega)]; exact fMs_mFr m2 a j q) t1) ((MDg_f m3 (hf1 _ _ (by omega)) (fun j => hf1 _ _ (by omega))).mono (by omega)) ⟨rd', rfl⟩
      · intro t ht ih I' rd' m2 m3
        have hcl := cntP_le P t
        have hb99 := aW.2.2 q (by omega)
        have hWt : WF n pc (bu b (14 + q) (b (14 + q) + t)) := WF_bu aW.1 (Or.inr (Or.inr ⟨by omega, by omega, by omega⟩))
        have hO := (WF_hrs (ruE rt) hWt N).2.2.1
        refine pw_iload 33 rfl dX12_bides_31 rfl ?_
        refine pw_bipush (v := nI 30) 35 rfl dX12_bides_33 rfl ?_
        refine pw_icmp_gt (tgt := 109) 38 rfl dX12_bides_35 rfl (fun h35 => absurd h35 (by (simp (disch := omega) only [nI_leI, nI_ltI, nI_eq, show (0 : Int32) = nI 0 from rfl, not_true_eq_false, not_false_eq_true] <;> omega))) (fun h35 => ?_)
        refine pw_aload_n 39 rfl dX12_bides_38 rfl ?_
        refine pw_getR 42 rfl dX12_bides_39 fX12_9 (by first | rfl | assumption | exact rowS hh | exact mtS hm | exact ruS hr | exact mtA1 hm | exact mtA2 hm | exact mtA3 hm | exact mtA4 hm | exact mtA5 hm | exact mtA6 hm | exact mtA7 hm | exact ruA1 hr | exact ruA2 hr | exact ruA3 hr) rfl (by first | rfl | assumption | exact mtR0 hm | exact mtR1 hm | exact mtR2 hm | exact mtR3 hm | exact mtR4 hm | exact mtR5 hm | exact mtR6 hm | exact ruR0 hr | exact ruR1 hr | exact ruR3 hr) ?_
        refine pw_aload_n 43 rfl dX12_bides_42 rfl ?_
        refine pw_getR 46 rfl dX12_bides_43 fX12_42 (by first | rfl | assumption | exact rowS hh | exact mtS hm | exact ruS hr | exact mtA1 hm | exact mtA2 hm | exact mtA3 hm | exact mtA4 hm | exact mtA5 hm | exact mtA6 hm | exact mtA7 hm | exact ruA1 hr | exact ruA2 hr | exact ruA3 hr) rfl (by first | rfl | assumption | exact mtR0 hm | exact mtR1 hm | exact mtR2 hm | exact mtR3 hm | exact mtR4 hm | exact mtR5 hm | exact mtR6 hm | exact ruR0 hr | exact ruR1 hr | exact ruR3 hr) ?_
        refine pw_iconst (v := nI 0) 47 rfl dX12_bides_46 rfl ?_
        refine pw_callS (as := [_, _, _]) 50 rfl dX12_bides_47 mX12_219 sX12_lay (m_layT (d := d + 244) (MB_f mB (fun k => m2 _ _ (by omega) (by omega) (by omega) (by omega) (by omega)))) ⟨rfl, by decide, by decide, show (parseMethodDescriptor yX12_lay.desc).map (fun d => d.parameters.length) = some 3 by decide +kernel⟩ (by omega) (by decide) (Nat.le_of_ble_eq_true rfl) rfl (fun r47 I47 J47 R47 c47 => ?_)
        obtain ⟨rfl, k1, k2, rfl, rfl⟩ := c47
        rotate_left
        refine pw_aload_n 51 rfl dX12_bides_50 rfl ?_
        refine pw_getR 54 rfl dX12_bides_51 fX12_42 (by first | rfl | assumption | exact rowS hh | exact mtS hm | exact ruS hr | exact mtA1 hm | exact mtA2 hm | exact mtA3 hm | exact mtA4 hm | exact mtA5 hm | exact mtA6 hm | exact mtA7 hm | exact ruA1 hr | exact ruA2 hr | exact ruA3 hr) rfl (by first | rfl | assumption | exact mtR0 hm | exact mtR1 hm | exact mtR2 hm | exact mtR3 hm | exact mtR4 hm | exact mtR5 hm | exact mtR6 hm | exact ruR0 hr | exact ruR1 hr | exact ruR3 hr) ?_
        refine pw_bipush (v := nI 14) 56 rfl dX12_bides_54 rfl ?_
        refine pw_iload_n 57 rfl dX12_bides_56 rfl ?_
        first | refine pw_iaddN 58 rfl dX12_bides_57 ?_ | refine pw_iadd 58 rfl dX12_bides_57 ?_
        refine pw_dup2 59 rfl dX12_bides_58 rfl rfl ?_
        refine pw_ialdN 60 rfl dX12_bides_59 (by first | rfl | assumption | exact rowS hh | exact mtS hm | exact ruS hr | exact mtA1 hm | exact mtA2 hm | exact mtA3 hm | exact mtA4 hm | exact mtA5 hm | exact mtA6 hm | exact mtA7 hm | exact ruA1 hr | exact ruA2 hr | exact ruA3 hr) (by omega) (by first | decide | omega) ?_
        rotate_left
        rw [k1 (14 + q) (by omega)]
        refine pw_iload 62 rfl dX12_bides_60 rfl ?_
        first | refine pw_iaddN 63 rfl dX12_bides_62 ?_ | refine pw_iadd 63 rfl dX12_bides_62 ?_
        refine pw_iastN 64 rfl dX12_bides_63 (by first | rfl | assumption | exact rowS hh | exact mtS hm | exact ruS hr | exact mtA1 hm | exact mtA2 hm | exact mtA3 hm | exact mtA4 hm | exact mtA5 hm | exact mtA6 hm | exact mtA7 hm | exact ruA1 hr | exact ruA2 hr | exact ruA3 hr) (by omega) (by first | decide | omega) ?_
        rotate_left
        have f1 : mFr 11 I (uI I47 11 (14 + q) (nI (b (14 + q) + t))) := fun a j q1 q2 q3 q4 q5 => by rw [uI_ne (by omega), k2 a j q1]; exact m2 a j q1 q2 q3 q4 q5
        refine pw_aload_n 65 rfl dX12_bides_64 rfl ?_
        refine pw_aload_n 66 rfl dX12_bides_65 rfl ?_
        refine pw_getR 69 rfl dX12_bides_66 fX12_42 (by first | rfl | assumption | exact rowS hh | exact mtS hm | exact ruS hr | exact mtA1 hm | exact mtA2 hm | exact mtA3 hm | exact mtA4 hm | exact mtA5 hm | exact mtA6 hm | exact mtA7 hm | exact ruA1 hr | exact ruA2 hr | exact ruA3 hr) rfl (by first | rfl | assumption | exact mtR0 hm | exact mtR1 hm | exact mtR2 hm | exact mtR3 hm | exact mtR4 hm | exact mtR5 hm | exact mtR6 hm | exact ruR0 hr | exact ruR1 hr | exact ruR3 hr) ?_
        refine pw_iload_n 70 rfl dX12_bides_69 rfl ?_
        refine pw_callV (as := [_, _]) 73 rfl dX12_bides_70 mX12_233 vX12_goHours (m_goHours (d := d + 6) (Or.inr rfl) (mC.fr f1 (Or.inr rfl)) (MB_bu k1) hWt (MSt_mFr hE f1) (show N ≤ 100 by omega)) (by first | rfl | assumption | exact rowS hh | exact mtS hm | exact ruS hr | exact mtA1 hm | exact mtA2 hm | exact mtA3 hm | exact mtA4 hm | exact mtA5 hm | exact mtA6 hm | exact mtA7 hm | exact ruA1 hr | exact ruA2 hr | exact ruA3 hr) rfl (by decide) ⟨rfl, by decide, by decide, show (parseMethodDescriptor yX12_goHours.desc).map (fun d => d.parameters.length) = some 2 by decide +kernel⟩ (by omega) (by decide) (Nat.le_of_ble_eq_true rfl) rfl (fun r70 I70 J70 R70 c70 => ?_)
        obtain ⟨rfl, p1, p2, p3, rfl, rd2, rfl⟩ := c70
        rotate_left
        have eO : I70 11 29 = nI (hrs n pc (ruE rt) N (bu b (14 + q) (b (14 + q) + t)) 29) := p1 29 (by omega)
        have hdl := dlA_le hn7 pc (ruE rt) (bu b (14 + q) (b (14 + q) + t)) (show N ≤ 100 by omega)
        have go := ih I70 rd2 (f1.trans p2) ⟨_, p3, by omega⟩
        by_cases hp : hrs n pc (ruE rt) N (bu b (14 + q) (b (14 + q) + t)) 29 = q
        · have hpt : P t = true := by rw [hPk]; exact decide_eq_true hp
          rw [fstP_y hpt, cntP_y hpt] at go
          by_cases h0 : cntP P t = 0
          · rw [if_pos h0] at go
            refine pw_aload_n 74 rfl dX12_bides_73 rfl ?_
            refine pw_getR 77 rfl dX12_bides_74 fX12_42 (by first | rfl | assumption | exact rowS hh | exact mtS hm | exact ruS hr | exact mtA1 hm | exact mtA2 hm | exact mtA3 hm | exact mtA4 hm | exact mtA5 hm | exact mtA6 hm | exact mtA7 hm | exact ruA1 hr | exact ruA2 hr | exact ruA3 hr) rfl (by first | rfl | assumption | exact mtR0 hm | exact mtR1 hm | exact mtR2 hm | exact mtR3 hm | exact mtR4 hm | exact mtR5 hm | exact mtR6 hm | exact ruR0 hr | exact ruR1 hr | exact ruR3 hr) ?_
            refine pw_bipush (v := nI 29) 79 rfl dX12_bides_77 rfl ?_
            refine pw_ialdN 80 rfl dX12_bides_79 (by first | rfl | assumption | exact rowS hh | exact mtS hm | exact ruS hr | exact mtA1 hm | exact mtA2 hm | exact mtA3 hm | exact mtA4 hm | exact mtA5 hm | exact mtA6 hm | exact mtA7 hm | exact ruA1 hr | exact ruA2 hr | exact ruA3 hr) (by omega) (by first | decide | omega) ?_
            refine pw_iload_n 81 rfl dX12_bides_80 rfl ?_
            refine pw_icmp_eq (tgt := 87) 84 rfl dX12_bides_81 rfl (fun h81 => ?_) (fun h81 => absurd (by rw [eO, hp]) h81)
            refine pw_iload_n 88 rfl dX12_bides_87 rfl ?_
            refine pw_bipush (v := -2) 90 rfl dX12_bides_88 rfl ?_
            refine pw_icmp_ne (tgt := 98) 93 rfl dX12_bides_90 rfl (fun h90 => absurd (fstP_0 h0) h90) (fun h90 => ?_)
            refine pw_iload 95 rfl dX12_bides_93 rfl ?_
            refine pw_goto (tgt := 99) dX12_bides_95 rfl ?_
            refine pw_istore_n 100 rfl dX12_bides_99 (by decide) ?_
            refine pw_iincN 103 rfl dX12_bides_100 (by decide) rfl ?_
            refine pw_iincN 106 rfl dX12_bides_103 (by decide) rfl ?_
            refine pw_goto (tgt := 31) dX12_bides_106 rfl ?_
            rotate_left
            exact go
          · rw [if_neg h0] at go
            refine pw_aload_n 74 rfl dX12_bides_73 rfl ?_
            refine pw_getR 77 rfl dX12_bides_74 fX12_42 (by first | rfl | assumption | exact rowS hh | exact mtS hm | exact ruS hr | exact mtA1 hm | exact mtA2 hm | exact mtA3 hm | exact mtA4 hm | exact mtA5 hm | exact mtA6 hm | exact mtA7 hm | exact ruA1 hr | exact ruA2 hr | exact ruA3 hr) rfl (by first | rfl | assumption | exact mtR0 hm | exact mtR1 hm | exact mtR2 hm | exact mtR3 hm | exact mtR4 hm | exact mtR5 hm | exact mtR6 hm | exact ruR0 hr | exact ruR1 hr | exact ruR3 hr) ?_
            refine pw_bipush (v := nI 29) 79 rfl dX12_bides_77 rfl ?_
            refine pw_ialdN 80 rfl dX12_bides_79 (by first | rfl | assumption | exact rowS hh | exact mtS hm | exact ruS hr | exact mtA1 hm | exact mtA2 hm | exact mtA3 hm | exact mtA4 hm | exact mtA5 hm | exact mtA6 hm | exact mtA7 hm | exact ruA1 hr | exact ruA2 hr | exact ruA3 hr) (by omega) (by first | decide | omega) ?_
            refine pw_iload_n 81 rfl dX12_bides_80 rfl ?_
            refine pw_icmp_eq (tgt := 87) 84 rfl dX12_bides_81 rfl (fun h81 => ?_) (fun h81 => absurd (by rw [eO, hp]) h81)
            refine pw_iload_n 88 rfl dX12_bides_87 rfl ?_
            refine pw_bipush (v := -2) 90 rfl dX12_bides_88 rfl ?_
            refine pw_icmp_ne (tgt := 98) 93 rfl dX12_bides_90 rfl (fun h90 => ?_) (fun h90 => absurd h90 (fstP_ne (fun j hj => by show j < _; omega) (by omega) h0))
            refine pw_iload_n 99 rfl dX12_bides_98 rfl ?_
            refine pw_istore_n 100 rfl dX12_bides_99 (by decide) ?_
            refine pw_iincN 103 rfl dX12_bides_100 (by decide) rfl ?_
            refine pw_iincN 106 rfl dX12_bides_103 (by decide) rfl ?_
            refine pw_goto (tgt := 31) dX12_bides_106 rfl ?_
            rotate_left
            exact go
        · have hpt : P t = false := by rw [hPk]; exact decide_eq_false hp
          rw [fstP_n hpt, cntP_n hpt] at go
          refine pw_aload_n 74 rfl dX12_bides_73 rfl ?_
          refine pw_getR 77 rfl dX12_bides_74 fX12_42 (by first | rfl | assumption | exact rowS hh | exact mtS hm | exact ruS hr | exact mtA1 hm | exact mtA2 hm | exact mtA3 hm | exact mtA4 hm | exact mtA5 hm | exact mtA6 hm | exact mtA7 hm | exact ruA1 hr | exact ruA2 hr | exact ruA3 hr) rfl (by first | rfl | assumption | exact mtR0 hm | exact mtR1 hm | exact mtR2 hm | exact mtR3 hm | exact mtR4 hm | exact mtR5 hm | exact mtR6 hm | exact ruR0 hr | exact ruR1 hr | exact ruR3 hr) ?_
          refine pw_bipush (v := nI 29) 79 rfl dX12_bides_77 rfl ?_
          refine pw_ialdN 80 rfl dX12_bides_79 (by first | rfl | assumption | exact rowS hh | exact mtS hm | exact ruS hr | exact mtA1 hm | exact mtA2 hm | exact mtA3 hm | exact mtA4 hm | exact mtA5 hm | exact mtA6 hm | exact mtA7 hm | exact ruA1 hr | exact ruA2 hr | exact ruA3 hr) (by omega) (by first | decide | omega) ?_
          refine pw_iload_n 81 rfl dX12_bides_80 rfl ?_
          refine pw_icmp_eq (tgt := 87) 84 rfl dX12_bides_81 rfl (fun h81 => absurd h81 (by rw [eO, nI_eq (by omega) (by omega)]; exact hp)) (fun h81 => ?_)
          refine pw_goto (tgt := 103) dX12_bides_84 rfl ?_
          refine pw_iincN 106 rfl dX12_bides_103 (by decide) rfl ?_
          refine pw_goto (tgt := 31) dX12_bides_106 rfl ?_
          rotate_left
          exact go
    · refine pw_aload_n 6 rfl dX12_bides_5 rfl ?_
      refine pw_iload_n 7 rfl dX12_bides_6 rfl ?_
      refine pw_callVP (as := [_]) 10 rfl dX12_bides_7 mX12_205 vX12_isOne (m_isOne (d := d + 243) hn hn7 _) (by first | rfl | assumption | exact rowS hh | exact mtS hm | exact ruS hr | exact mtA1 hm | exact mtA2 hm | exact mtA3 hm | exact mtA4 hm | exact mtA5 hm | exact mtA6 hm | exact mtA7 hm | exact ruA1 hr | exact ruA2 hr | exact ruA3 hr) rfl (by decide) ⟨rfl, by decide, by decide, show (parseMethodDescriptor yX12_isOne.desc).map (fun d => d.parameters.length) = some 1 by decide +kernel⟩ (by omega) (by decide) (Nat.le_of_ble_eq_true rfl) rfl ?_
      refine pw_if_eq (tgt := 20) 13 rfl dX12_bides_10 rfl (fun h10 => absurd h10 (by rw [hh]; decide)) (fun h10 => ?_)
      refine pw_iload_n 14 rfl dX12_bides_13 rfl ?_
      refine pw_callSP (as := [_]) 17 rfl dX12_bides_14 mX12_289 sX12_isSoon (m_isSoon (d := d + 243) _) ⟨rfl, by decide, by decide, show (parseMethodDescriptor yX12_isSoon.desc).map (fun d => d.parameters.length) = some 1 by decide +kernel⟩ (by omega) (by decide) (Nat.le_of_ble_eq_true rfl) rfl ?_
      refine pw_if_ne (tgt := 22) 20 rfl dX12_bides_17 rfl (fun h17 => absurd (by rw [inV_n ho]; rfl) h17) (fun h17 => ?_)
      refine pw_iconst (v := -1) 21 rfl dX12_bides_20 rfl ?_
      refine pw_iret dX12_bides_21 rfl ?_
      rotate_left
      exact moQ (by unfold qBides; rw [hi, hj]; rfl) rfl hA0 (hD0.mono (by omega)) ⟨rd, rfl⟩
  · refine pw_aload_n 6 rfl dX12_bides_5 rfl ?_
    refine pw_iload_n 7 rfl dX12_bides_6 rfl ?_
    refine pw_callVP (as := [_]) 10 rfl dX12_bides_7 mX12_205 vX12_isOne (m_isOne (d := d + 243) hn hn7 _) (by first | rfl | assumption | exact rowS hh | exact mtS hm | exact ruS hr | exact mtA1 hm | exact mtA2 hm | exact mtA3 hm | exact mtA4 hm | exact mtA5 hm | exact mtA6 hm | exact mtA7 hm | exact ruA1 hr | exact ruA2 hr | exact ruA3 hr) rfl (by decide) ⟨rfl, by decide, by decide, show (parseMethodDescriptor yX12_isOne.desc).map (fun d => d.parameters.length) = some 1 by decide +kernel⟩ (by omega) (by decide) (Nat.le_of_ble_eq_true rfl) rfl ?_
    refine pw_if_eq (tgt := 20) 13 rfl dX12_bides_10 rfl (fun h10 => ?_) (fun h10 => absurd (by rw [hh]; rfl) h10)
    refine pw_iconst (v := -1) 21 rfl dX12_bides_20 rfl ?_
    refine pw_iret dX12_bides_21 rfl ?_
    rotate_left
    exact moQ (by unfold qBides; rw [hi]; rfl) rfl hA0 (hD0.mono (by omega)) ⟨rd, rfl⟩
