theorem WN_actM {n : Nat} {pc b : Nat → Nat} (E : (Nat → Int32) → Nat) (c x y : Nat) (h : WN n pc b) : WN n pc (actA n pc E c x y b).2 := by
  unfold actA
  split
  · exact WN_hrs E h x
  · split
    · exact WN_aSet _ h
    · split
      · exact WN_aTurn _ h
      · split
        · exact WN_aWait _ _ h
        · split
          · exact WN_aSlip _ _ h
          · exact WN_aTop _ h
/-- the acts read so far -/
def actF (I : pI) (tx : List Nat) (i : Nat) : Prop := ∀ j, j < i → posA tx (j + 1) ≤ tx.length ∧ isAc (tx.getD (posA tx j) 0) = true ∧ isDg (tx.getD (posA tx j + 1) 0) = true ∧ (sgA (tx.getD (posA tx j) 0) = 3 → isDg (tx.getD (posA tx j + 2) 0) = true ∧ tx.getD (posA tx j + 2) 0 ≠ 48) ∧ I 14 (3 * j) = nI (tx.getD (posA tx j) 0) ∧ I 14 (3 * j + 1) = nI (tx.getD (posA tx j + 1) 0 - 48) ∧ (sgA (tx.getD (posA tx j) 0) = 3 → I 14 (3 * j + 2) = nI (tx.getD (posA tx j + 2) 0 - 48))
theorem actF_fr {I I' : pI} {tx : List Nat} {i : Nat} (h : actF I tx i) (f : ∀ j, I' 14 j = I 14 j) : actF I' tx i := fun j hj => by
  obtain ⟨a1, a2, a3, a4, a5, a6, a7⟩ := h j hj
  exact ⟨a1, a2, a3, a4, by rw [f]; exact a5, by rw [f]; exact a6, fun z => by rw [f]; exact a7 z⟩
theorem dayL_end {n : Nat} {pc b : Nat → Nat} {E : (Nat → Int32) → Nat} {tx : List Nat} {p k : Nat} (h : ¬ p < tx.length) : ∀ f, dayL n pc E tx f p b k = (k, false, b)
  | 0 => rfl
  | f + 1 => by rw [dayL, if_neg h]
set_option maxRecDepth 100000 in
set_option maxHeartbeats 2000000 in
theorem mo_day {d g : Nat} {s : aSt} {rd : Option Nat} {I : pI} {J : pJ} (hA : MA I J s) (hD : MDg g I) (hg : g ≤ 500000000) (hW : WA s)  : PC SM (d + 245) yX12_day cX12_day 3 (some .int) [.ref 0] (I) (J) (RM rd (some 6)) (moP (g + 10000) (oDay s)) := by
  refine PC.of [some (.ref 0), none, none] rfl rfl (Nat.le_of_ble_eq_true rfl) ?_
  obtain ⟨n, pc, b, us, kp, rw, tx, rt, hd, sw⟩ := s
  refine pw_aload_n 1 rfl dX12_day_0 rfl ?_
  refine pw_iconst (v := nI 0) 2 rfl dX12_day_1 rfl ?_
  refine pw_putI 5 rfl dX12_day_2 fX12_88 w12_7 (by first | rfl | assumption | exact rowS hh | exact mtS hm | exact ruS hr | exact mtA1 hm | exact mtA2 hm | exact mtA3 hm | exact mtA4 hm | exact mtA5 hm | exact mtA6 hm | exact mtA7 hm | exact ruA1 hr | exact ruA2 hr | exact ruA3 hr) rfl rfl rfl ?_
  rotate_left
  have hA0 := MA_thr (v := nI 0) hA
  have hD0 : MDg g (uI I 0 7 (nI 0)) := MDg_f hD (uI_ne (by omega)) (fun j => uI_ne (by omega))
  clear hA hD
  generalize uI I 0 7 (nI 0) = I at hA0 hD0 ⊢
  obtain ⟨mC, mB, mT, mN, mR, mU, mK, mH, mG⟩ := id hA0
  obtain ⟨aW, aU, aK⟩ := id hW
  have hE := MSt_A hA0
  have hn7 := mC.1
  have hn := mC.2.1
  obtain ⟨t1, t2, t3⟩ := id mT
  refine pw_aload_n 6 rfl dX12_day_5 rfl ?_
  refine pw_bipush (v := nI 60) 8 rfl dX12_day_6 rfl ?_
  refine pw_callV (as := [_]) 11 rfl dX12_day_8 mX12_144 vX12_beginText (m_beginText (d := d + 243) t1) (by first | rfl | assumption | exact rowS hh | exact mtS hm | exact ruS hr | exact mtA1 hm | exact mtA2 hm | exact mtA3 hm | exact mtA4 hm | exact mtA5 hm | exact mtA6 hm | exact mtA7 hm | exact ruA1 hr | exact ruA2 hr | exact ruA3 hr) rfl (by decide) ⟨rfl, by decide, by decide, show (parseMethodDescriptor yX12_beginText.desc).map (fun d => d.parameters.length) = some 1 by decide +kernel⟩ (by omega) (by decide) (Nat.le_of_ble_eq_true rfl) rfl (fun r8 I8 J8 R8 c8 => ?_)
  obtain ⟨rfl, rfl, rfl, rfl⟩ := c8
  refine pw_iconst (v := nI 0) 12 rfl dX12_day_11 rfl ?_
  refine pw_istore_n 13 rfl dX12_day_12 (by decide) ?_
  rotate_left
  generalize hI1 : uI (uI (uI (uI (uI I 0 9 (nI tx.length)) 0 10 (nI 60)) 0 11 (nI 0)) 0 12 (-1)) 0 4 (nI 0) = I1
  have f0 : ∀ a j, ¬ (a = 0 ∧ (j = 4 ∨ j = 9 ∨ j = 10 ∨ j = 11 ∨ j = 12)) → I1 a j = I a j := fun a j q => by rw [← hI1, uI_ne (by omega), uI_ne (by omega), uI_ne (by omega), uI_ne (by omega), uI_ne (by omega)]
  have e4 : I1 0 4 = nI 0 := by rw [← hI1, uI_eq]
  have e9 : I1 0 9 = nI tx.length := by rw [← hI1, uI_ne (by omega), uI_ne (by omega), uI_ne (by omega), uI_ne (by omega), uI_eq]
  have e10 : I1 0 10 = nI 60 := by rw [← hI1, uI_ne (by omega), uI_ne (by omega), uI_ne (by omega), uI_eq]
  have e11 : I1 0 11 = nI 0 := by rw [← hI1, uI_ne (by omega), uI_ne (by omega), uI_eq]
  have e12 : I1 0 12 = -1 := by rw [← hI1, uI_ne (by omega), uI_eq]
  clear hI1
  have hQ : mTQ I1 60 tx := ⟨e9, e10, t2, by decide, fun j c hj => by rw [f0 _ _ (by omega)]; exact t3 j c hj⟩
  have hml : min tx.length 60 ≤ tx.length := Nat.min_le_left _ _
  have hm60 : min tx.length 60 ≤ 60 := Nat.min_le_right _ _
  have exit : ∀ (I2 : pI) (m q : Nat) (w : Int32), I2 0 11 = nI q → I2 0 12 = w → q ≤ 100 → m ≤ 40 → wrW q tx.length w = rdV (wrD tx) → (wrD tx = none → posA tx m = tx.length ∧ actF I2 tx m) → (∀ a j, a ≠ 14 → ¬ (a = 0 ∧ (j = 11 ∨ j = 12)) → I2 a j = I1 a j) → PW SM yX12_day.cls cX12_day 3 (d + 245) 44 [some (.ref 0), some (.int (nI m)), none] [] I2 J (RM (some 3) (some 6)) (rX cX12_day (some .int) (moP (g + 10000) (oDay (n, pc, b, us, kp, rw, tx, rt, hd, sw)))) := by
    intro I2 m q w g1 g2 g3 gm g4 g5 g6
    refine pw_aload_n 45 rfl dX12_day_44 rfl ?_
    refine pw_callV (as := []) 48 rfl dX12_day_45 mX12_147 vX12_wasRight (m_wasRight (d := d + 242) g1 (by rw [g6 _ _ (by omega) (by omega)]; exact e9) g3 (by omega) g2) (by first | rfl | assumption | exact rowS hh | exact mtS hm | exact ruS hr | exact mtA1 hm | exact mtA2 hm | exact mtA3 hm | exact mtA4 hm | exact mtA5 hm | exact mtA6 hm | exact mtA7 hm | exact ruA1 hr | exact ruA2 hr | exact ruA3 hr) rfl (by decide) ⟨rfl, by decide, by decide, show (parseMethodDescriptor yX12_wasRight.desc).map (fun d => d.parameters.length) = some 0 by decide +kernel⟩ (by omega) (by decide) (Nat.le_of_ble_eq_true rfl) rfl (fun r45 I45 J45 R45 c45 => ?_)
    obtain ⟨rfl, p1, p2, rfl, rfl⟩ := c45
    rotate_left
    rw [g4] at p1
    rw [g4]
    have hf : ∀ a j, a ≠ 14 → ¬ (a = 0 ∧ (j = 4 ∨ j = 9 ∨ j = 10 ∨ j = 11 ∨ j = 12)) → I45 a j = I a j := fun a j q1 q2 => by rw [p2 a j (by omega), g6 a j q1 (by omega), f0 a j q2]
    have q4 : I45 0 4 = nI 0 := by rw [p2 _ _ (by omega), g6 _ _ (by omega) (by omega)]; exact e4
    cases e : wrD tx with
    | some p =>
      have hp := wrD_le t2 e
      rw [e] at p1
      have er : oDay (n, pc, b, us, kp, rw, tx, rt, hd, sw) = (-1 - nI p, (n, pc, b, us, kp, rw, [], rt, hd, sw)) := by unfold oDay; simp only [e]
      refine pw_if_ne (tgt := 58) 51 rfl dX12_day_48 rfl (fun h48 => absurd (by rw [if_neg (show ¬ rdV (some p) = -1 from rdV_ne (by omega))]; rfl) h48) (fun h48 => ?_)
      refine pw_iconst (v := -1) 52 rfl dX12_day_51 rfl ?_
      refine pw_aload_n 53 rfl dX12_day_52 rfl ?_
      refine pw_getI 56 rfl dX12_day_53 fX12_117 (by first | rfl | assumption | exact rowS hh | exact mtS hm | exact ruS hr | exact mtA1 hm | exact mtA2 hm | exact mtA3 hm | exact mtA4 hm | exact mtA5 hm | exact mtA6 hm | exact mtA7 hm | exact ruA1 hr | exact ruA2 hr | exact ruA3 hr) rfl ?_
      rotate_left
      rw [p1]
      refine pw_isub 57 rfl dX12_day_56 ?_
      refine pw_iret dX12_day_57 rfl ?_
      rotate_left
      refine moE er ⟨rfl, ?_, (MDg_f hD0 (hf _ _ (by omega) (by omega)) (fun j => hf _ _ (by omega) (by omega))).mono (by omega), some 3, rfl⟩
      exact ⟨MC_f mC (hf _ _ (by omega) (by omega)) (fun j => hf _ _ (by omega) (by omega)), MB_f mB (fun j => hf _ _ (by omega) (by omega)), MT_0 q4, MN_f mN (hf _ _ (by omega) (by omega)), MRl_f mR (hf _ _ (by omega) (by omega)) (fun j => hf _ _ (by omega) (by omega)), MU_f mU (hf _ _ (by omega) (by omega)) (fun j => hf _ _ (by omega) (by omega)), MK_f mK (hf _ _ (by omega) (by omega)) (fun j => hf _ _ (by omega) (by omega)) (fun j => hf _ _ (by omega) (by omega)) (fun j => hf _ _ (by omega) (by omega)), MH_f mH (hf _ _ (by omega) (by omega)) (fun j => hf _ _ (by omega) (by omega)) (fun j => hf _ _ (by omega) (by omega)), MG_f mG (hf _ _ (by omega) (by omega)) (fun j => hf _ _ (by omega) (by omega)) (fun j => hf _ _ (by omega) (by omega))⟩
    | none =>
      obtain ⟨hpm, hAF⟩ := g5 e
      have hAF1 : actF I45 tx m := actF_fr hAF (fun j => p2 _ _ (by omega))
      generalize hZ : dayL n pc (ruE rt) tx 80 0 b 0 = Z
      obtain ⟨K, stp, B⟩ := Z
      have er : oDay (n, pc, b, us, kp, rw, tx, rt, hd, sw) = (nI K, (n, pc, B, if 0 < K then aKeep us b else us, kp, [if stp = true then 1 else 0, lI (B 30)], [], rt, hd, sw)) := by unfold oDay; simp only [e, hZ]
      refine pw_if_ne (tgt := 58) 51 rfl dX12_day_48 rfl (fun h48 => ?_) (fun h48 => absurd h48 (by decide))
      refine pw_aload_n 59 rfl dX12_day_58 rfl ?_
      refine pw_getR 62 rfl dX12_day_59 fX12_9 (by first | rfl | assumption | exact rowS hh | exact mtS hm | exact ruS hr | exact mtA1 hm | exact mtA2 hm | exact mtA3 hm | exact mtA4 hm | exact mtA5 hm | exact mtA6 hm | exact mtA7 hm | exact ruA1 hr | exact ruA2 hr | exact ruA3 hr) rfl (by first | rfl | assumption | exact mtR0 hm | exact mtR1 hm | exact mtR2 hm | exact mtR3 hm | exact mtR4 hm | exact mtR5 hm | exact mtR6 hm | exact ruR0 hr | exact ruR1 hr | exact ruR3 hr) ?_
      refine pw_aload_n 63 rfl dX12_day_62 rfl ?_
      refine pw_getR 66 rfl dX12_day_63 fX12_39 (by first | rfl | assumption | exact rowS hh | exact mtS hm | exact ruS hr | exact mtA1 hm | exact mtA2 hm | exact mtA3 hm | exact mtA4 hm | exact mtA5 hm | exact mtA6 hm | exact mtA7 hm | exact ruA1 hr | exact ruA2 hr | exact ruA3 hr) rfl (by first | rfl | assumption | exact mtR0 hm | exact mtR1 hm | exact mtR2 hm | exact mtR3 hm | exact mtR4 hm | exact mtR5 hm | exact mtR6 hm | exact ruR0 hr | exact ruR1 hr | exact ruR3 hr) ?_
      refine pw_iconst (v := nI 0) 67 rfl dX12_day_66 rfl ?_
      refine pw_callS (as := [_, _, _]) 70 rfl dX12_day_67 mX12_219 sX12_lay (m_lay (d := d + 244) (t := 10) (k := 0) (nt := 32) (b := b) (Or.inl rfl) rfl (by decide) (by decide) (by decide) (fun j hj => by rw [hf _ _ (by omega) (by omega)]; exact mB j hj)) ⟨rfl, by decide, by decide, show (parseMethodDescriptor yX12_lay.desc).map (fun d => d.parameters.length) = some 3 by decide +kernel⟩ (by omega) (by decide) (Nat.le_of_ble_eq_true rfl) rfl (fun r67 I67 J67 R67 c67 => ?_)
      obtain ⟨rfl, k1, k2, rfl, rfl⟩ := c67
      rotate_left
      have k1' : MB I67 10 b := fun j hj => by have := k1 j hj; rw [Nat.zero_add] at this; exact this
      have k2' : ∀ a j, a ≠ 10 → I67 a j = I45 a j := fun a j q => k2 a j (by omega)
      have fin : ∀ (I' : pI) (rd' : Option Nat), MB I' 1 B → mFr 1 I67 I' → MDg (g + 1000) I' → K ≤ m → (stp = decide (K < m)) → PW SM yX12_day.cls cX12_day 3 (d + 245) 118 [some (.ref 0), some (.int (nI m)), some (.int (nI K))] [] I' J (RM rd' (some 6)) (rX cX12_day (some .int) (moP (g + 10000) (oDay (n, pc, b, us, kp, rw, tx, rt, hd, sw)))) := by
        intro I' rd' m1 m2 m3 m4 m5
        have hf2 : ∀ a j, ¬ (a = 1 ∨ a = 8 ∨ a = 10 ∨ a = 12 ∨ a = 13 ∨ a = 14) → ¬ (a = 0 ∧ (j = 4 ∨ j = 9 ∨ j = 10 ∨ j = 11 ∨ j = 12 ∨ j = 17 ∨ j = 24)) → I' a j = I a j := fun a j q1 q2 => by rw [m2 a j (by omega) (by omega) (by omega) (by omega) (by omega), k2' a j (by omega), hf a j (by omega) (by omega)]
        have b4 : I' 0 4 = nI 0 := by rw [m2 _ _ (by omega) (by omega) (by omega) (by omega) (by omega), k2' _ _ (by omega)]; exact q4
        have fin2 : ∀ (I3 : pI), MU I3 (if 0 < K then aKeep us b else us) → (∀ a j, a ≠ 9 → ¬ (a = 0 ∧ j = 20) → I3 a j = I' a j) → PW SM yX12_day.cls cX12_day 3 (d + 245) 130 [some (.ref 0), some (.int (nI m)), some (.int (nI K))] [] I3 J (RM rd' (some 6)) (rX cX12_day (some .int) (moP (g + 10000) (oDay (n, pc, b, us, kp, rw, tx, rt, hd, sw)))) := by
          intro I3 u1 u2
          have last : ∀ (I4 : pI) (J4 : pJ), MN I4 J4 [if stp = true then 1 else 0] → (∀ a j, ¬ (a = 0 ∧ j = 6) → I4 a j = I3 a j) → PW SM yX12_day.cls cX12_day 3 (d + 245) 149 [some (.ref 0), some (.int (nI m)), some (.int (nI K))] [] I4 J4 (RM rd' (some 6)) (rX cX12_day (some .int) (moP (g + 10000) (oDay (n, pc, b, us, kp, rw, tx, rt, hd, sw)))) := by
            intro I4 J4 v1 v2
            refine pw_aload_n 150 rfl dX12_day_149 rfl ?_
            refine pw_aload_n 151 rfl dX12_day_150 rfl ?_
            refine pw_getR 154 rfl dX12_day_151 fX12_9 (by first | rfl | assumption | exact rowS hh | exact mtS hm | exact ruS hr | exact mtA1 hm | exact mtA2 hm | exact mtA3 hm | exact mtA4 hm | exact mtA5 hm | exact mtA6 hm | exact mtA7 hm | exact ruA1 hr | exact ruA2 hr | exact ruA3 hr) rfl (by first | rfl | assumption | exact mtR0 hm | exact mtR1 hm | exact mtR2 hm | exact mtR3 hm | exact mtR4 hm | exact mtR5 hm | exact mtR6 hm | exact ruR0 hr | exact ruR1 hr | exact ruR3 hr) ?_
            refine pw_bipush (v := nI 30) 156 rfl dX12_day_154 rfl ?_
            refine pw_ialdN 157 rfl dX12_day_156 (by first | rfl | assumption | exact rowS hh | exact mtS hm | exact ruS hr | exact mtA1 hm | exact mtA2 hm | exact mtA3 hm | exact mtA4 hm | exact mtA5 hm | exact mtA6 hm | exact mtA7 hm | exact ruA1 hr | exact ruA2 hr | exact ruA3 hr) (by omega) (by first | decide | omega) ?_
            rotate_left
            rw [show I4 1 30 = nI (B 30) from by rw [v2 _ _ (by omega), u2 _ _ (by omega) (by omega)]; exact m1 30 (by omega)]
            refine pw_i2l 158 rfl dX12_day_157 ?_
            refine pw_callV (as := [_]) 161 rfl dX12_day_158 mX12_236 vX12_tell (m_tell (d := d + 244) v1 (by show (1 : Nat) < 12; decide)) (by first | rfl | assumption | exact rowS hh | exact mtS hm | exact ruS hr | exact mtA1 hm | exact mtA2 hm | exact mtA3 hm | exact mtA4 hm | exact mtA5 hm | exact mtA6 hm | exact mtA7 hm | exact ruA1 hr | exact ruA2 hr | exact ruA3 hr) rfl (by decide) ⟨rfl, by decide, by decide, show (parseMethodDescriptor yX12_tell.desc).map (fun d => d.parameters.length) = some 1 by decide +kernel⟩ (by omega) (by decide) (Nat.le_of_ble_eq_true rfl) rfl (fun r158 I158 J158 R158 c158 => ?_)
            obtain ⟨rfl, w1, w2, rfl⟩ := c158
            rotate_left
            refine pw_iload_n 162 rfl dX12_day_161 rfl ?_
            refine pw_iret dX12_day_162 rfl ?_
            rotate_left
            have hf3 : ∀ a j, ¬ (a = 1 ∨ a = 8 ∨ a = 9 ∨ a = 10 ∨ a = 12 ∨ a = 13 ∨ a = 14) → ¬ (a = 0 ∧ (j = 4 ∨ j = 6 ∨ j = 9 ∨ j = 10 ∨ j = 11 ∨ j = 12 ∨ j = 17 ∨ j = 20 ∨ j = 24)) → I158 a j = I a j := fun a j q1 q2 => by rw [w2 a j (by omega), v2 a j (by omega), u2 a j (by omega) (by omega), hf2 a j (by omega) (by omega)]
            have hf4 : ∀ a j, ¬ (a = 0 ∧ j = 6) → I158 a j = I3 a j := fun a j q => by rw [w2 a j q, v2 a j q]
            refine moE er ⟨rfl, ⟨MC_f mC (hf3 _ _ (by omega) (by omega)) (fun j => hf3 _ _ (by omega) (by omega)), fun j hj => by rw [hf4 _ _ (by omega), u2 _ _ (by omega) (by omega)]; exact m1 j hj, MT_0 (by rw [hf4 _ _ (by omega), u2 _ _ (by omega) (by omega)]; exact b4), w1, MRl_f mR (hf3 _ _ (by omega) (by omega)) (fun j => hf3 _ _ (by omega) (by omega)), MU_f u1 (hf4 _ _ (by omega)) (fun j => hf4 _ _ (by omega)), MK_f mK (hf3 _ _ (by omega) (by omega)) (fun j => hf3 _ _ (by omega) (by omega)) (fun j => hf3 _ _ (by omega) (by omega)) (fun j => hf3 _ _ (by omega) (by omega)), MH_f mH (hf3 _ _ (by omega) (by omega)) (fun j => hf3 _ _ (by omega) (by omega)) (fun j => hf3 _ _ (by omega) (by omega)), MG_f mG (hf3 _ _ (by omega) (by omega)) (fun j => hf3 _ _ (by omega) (by omega)) (fun j => hf3 _ _ (by omega) (by omega))⟩, (MDg_f m3 (by rw [hf4 _ _ (by omega), u2 _ _ (by omega) (by omega)]) (fun j => by rw [hf4 _ _ (by omega), u2 _ _ (by omega) (by omega)])).mono (by omega), rd', rfl⟩
          by_cases cK : K < m
          · rw [show stp = true from by rw [m5]; exact decide_eq_true cK, if_pos rfl] at last
            refine pw_aload_n 131 rfl dX12_day_130 rfl ?_
            refine pw_iconst (v := nI 0) 132 rfl dX12_day_131 rfl ?_
            refine pw_putI 135 rfl dX12_day_132 fX12_92 w12_6 (by first | rfl | assumption | exact rowS hh | exact mtS hm | exact ruS hr | exact mtA1 hm | exact mtA2 hm | exact mtA3 hm | exact mtA4 hm | exact mtA5 hm | exact mtA6 hm | exact mtA7 hm | exact ruA1 hr | exact ruA2 hr | exact ruA3 hr) rfl rfl rfl ?_
            refine pw_aload_n 136 rfl dX12_day_135 rfl ?_
            refine pw_iload_n 137 rfl dX12_day_136 rfl ?_
            refine pw_iload_n 138 rfl dX12_day_137 rfl ?_
            refine pw_icmp_ge (tgt := 145) 141 rfl dX12_day_138 rfl (fun h138 => absurd h138 (by (simp (disch := omega) only [nI_leI, nI_ltI, nI_eq, show (0 : Int32) = nI 0 from rfl, not_true_eq_false, not_false_eq_true] <;> omega))) (fun h138 => ?_)
            refine pw_lconst 142 rfl dX12_day_141 rfl ?_
            refine pw_goto (tgt := 146) dX12_day_142 rfl ?_
            refine pw_callV (as := [_]) 149 rfl dX12_day_146 mX12_236 vX12_tell (m_tell (d := d + 244) MN_0 (by decide)) (by first | rfl | assumption | exact rowS hh | exact mtS hm | exact ruS hr | exact mtA1 hm | exact mtA2 hm | exact mtA3 hm | exact mtA4 hm | exact mtA5 hm | exact mtA6 hm | exact mtA7 hm | exact ruA1 hr | exact ruA2 hr | exact ruA3 hr) rfl (by decide) ⟨rfl, by decide, by decide, show (parseMethodDescriptor yX12_tell.desc).map (fun d => d.parameters.length) = some 1 by decide +kernel⟩ (by omega) (by decide) (Nat.le_of_ble_eq_true rfl) rfl (fun r146 I146 J146 R146 c146 => ?_)
            obtain ⟨rfl, v1, v2, rfl⟩ := c146
            rotate_left
            exact last I146 J146 v1 (fun a j q => by rw [v2 a j q, uI_ne (by omega)])
          · rw [show stp = false from by rw [m5]; exact decide_eq_false cK, if_neg (by decide)] at last
            refine pw_aload_n 131 rfl dX12_day_130 rfl ?_
            refine pw_iconst (v := nI 0) 132 rfl dX12_day_131 rfl ?_
            refine pw_putI 135 rfl dX12_day_132 fX12_92 w12_6 (by first | rfl | assumption | exact rowS hh | exact mtS hm | exact ruS hr | exact mtA1 hm | exact mtA2 hm | exact mtA3 hm | exact mtA4 hm | exact mtA5 hm | exact mtA6 hm | exact mtA7 hm | exact ruA1 hr | exact ruA2 hr | exact ruA3 hr) rfl rfl rfl ?_
            refine pw_aload_n 136 rfl dX12_day_135 rfl ?_
            refine pw_iload_n 137 rfl dX12_day_136 rfl ?_
            refine pw_iload_n 138 rfl dX12_day_137 rfl ?_
            refine pw_icmp_ge (tgt := 145) 141 rfl dX12_day_138 rfl (fun h138 => ?_) (fun h138 => absurd (by (simp (disch := omega) only [nI_leI, nI_ltI, nI_eq, show (0 : Int32) = nI 0 from rfl, not_true_eq_false, not_false_eq_true] <;> omega)) h138)
            refine pw_lconst 146 rfl dX12_day_145 rfl ?_
            refine pw_callV (as := [_]) 149 rfl dX12_day_146 mX12_236 vX12_tell (m_tell (d := d + 244) MN_0 (by decide)) (by first | rfl | assumption | exact rowS hh | exact mtS hm | exact ruS hr | exact mtA1 hm | exact mtA2 hm | exact mtA3 hm | exact mtA4 hm | exact mtA5 hm | exact mtA6 hm | exact mtA7 hm | exact ruA1 hr | exact ruA2 hr | exact ruA3 hr) rfl (by decide) ⟨rfl, by decide, by decide, show (parseMethodDescriptor yX12_tell.desc).map (fun d => d.parameters.length) = some 1 by decide +kernel⟩ (by omega) (by decide) (Nat.le_of_ble_eq_true rfl) rfl (fun r146 I146 J146 R146 c146 => ?_)
            obtain ⟨rfl, v1, v2, rfl⟩ := c146
            rotate_left
            exact last I146 J146 v1 (fun a j q => by rw [v2 a j q, uI_ne (by omega)])
        have mU' : MU I' us := MU_f mU (hf2 _ _ (by omega) (by omega)) (fun j => hf2 _ _ (by omega) (by omega))
        by_cases hK : 0 < K
        · rw [if_pos hK] at fin2
          refine pw_iload_n 119 rfl dX12_day_118 rfl ?_
          refine pw_if_le (tgt := 130) 122 rfl dX12_day_119 rfl (fun h119 => absurd h119 (nI_nle hK (by omega))) (fun h119 => ?_)
          refine pw_aload_n 123 rfl dX12_day_122 rfl ?_
          refine pw_aload_n 124 rfl dX12_day_123 rfl ?_
          refine pw_getR 127 rfl dX12_day_124 fX12_39 (by first | rfl | assumption | exact rowS hh | exact mtS hm | exact ruS hr | exact mtA1 hm | exact mtA2 hm | exact mtA3 hm | exact mtA4 hm | exact mtA5 hm | exact mtA6 hm | exact mtA7 hm | exact ruA1 hr | exact ruA2 hr | exact ruA3 hr) rfl (by first | rfl | assumption | exact mtR0 hm | exact mtR1 hm | exact mtR2 hm | exact mtR3 hm | exact mtR4 hm | exact mtR5 hm | exact mtR6 hm | exact ruR0 hr | exact ruR1 hr | exact ruR3 hr) ?_
          refine pw_callV (as := [_]) 130 rfl dX12_day_127 mX12_201 vX12_remember (m_remember (d := d + 243) (h := 10) (b := b) rfl (by decide) (by decide) (fun j hj => by rw [m2 _ _ (by omega) (by omega) (by omega) (by omega) (by omega)]; exact k1' j hj) mU') (by first | rfl | assumption | exact rowS hh | exact mtS hm | exact ruS hr | exact mtA1 hm | exact mtA2 hm | exact mtA3 hm | exact mtA4 hm | exact mtA5 hm | exact mtA6 hm | exact mtA7 hm | exact ruA1 hr | exact ruA2 hr | exact ruA3 hr) rfl (by decide) ⟨rfl, by decide, by decide, show (parseMethodDescriptor yX12_remember.desc).map (fun d => d.parameters.length) = some 1 by decide +kernel⟩ (by omega) (by decide) (Nat.le_of_ble_eq_true rfl) rfl (fun r127 I127 J127 R127 c127 => ?_)
          obtain ⟨rfl, r1, r2, rfl, rfl⟩ := c127
          rotate_left
          exact fin2 I127 r1 r2
        · rw [if_neg hK] at fin2
          refine pw_iload_n 119 rfl dX12_day_118 rfl ?_
          refine pw_if_le (tgt := 130) 122 rfl dX12_day_119 rfl (fun h119 => ?_) (fun h119 => absurd (by rw [show K = 0 by omega]; decide) h119)
          rotate_left
          exact fin2 I' mU' (fun _ _ _ _ => rfl)
      refine pw_iconst (v := nI 0) 71 rfl dX12_day_70 rfl ?_
      refine pw_istore_n 72 rfl dX12_day_71 (by decide) ?_
      rotate_left
      have L := nat_loop m (fun i => ∀ (I' : pI) (rd' : Option Nat) (b' : Nat → Nat), dayL n pc (ruE rt) tx (80 - i) (posA tx i) b' i = (K, stp, B) → WN n pc b' → MB I' 1 b' → mFr 1 I67 I' → MDg (g + 1000) I' → PW SM yX12_day.cls cX12_day 3 (d + 245) 72 [some (.ref 0), some (.int (nI m)), some (.int (nI i))] [] I' J (RM rd' (some 6)) (rX cX12_day (some .int) (moP (g + 10000) (oDay (n, pc, b, us, kp, rw, tx, rt, hd, sw))))) ?_ ?_
      · exact L I67 (some 3) b hZ aW (fun j hj => by rw [k2' _ _ (by omega), hf _ _ (by omega) (by omega)]; exact mB j hj) (fun _ _ _ _ _ _ _ => rfl) ((MDg_f hD0 (by rw [k2' _ _ (by omega), hf _ _ (by omega) (by omega)]) (fun j => by rw [k2' _ _ (by omega), hf _ _ (by omega) (by omega)])).mono (by omega))
      · intro I' rd' b' z1 z2 z3 z4 z5
        rw [dayL_end (by omega)] at z1
        cases z1
        refine pw_iload_n 73 rfl dX12_day_72 rfl ?_
        refine pw_iload_n 74 rfl dX12_day_73 rfl ?_
        refine pw_icmp_ge (tgt := 118) 77 rfl dX12_day_74 rfl (fun h74 => ?_) (fun h74 => absurd (by (simp (disch := omega) only [nI_leI, nI_ltI, nI_eq, show (0 : Int32) = nI 0 from rfl, not_true_eq_false, not_false_eq_true] <;> omega)) h74)
        rotate_left
        exact fin I' rd' z3 z4 z5 (Nat.le_refl _) (by rw [decide_eq_false (Nat.lt_irrefl _)])
      · intro i hi ih I' rd' b' z1 z2 z3 z4 z5
        obtain ⟨a1, a2, a3, a4, a5, a6, a7⟩ := hAF1 i hi
        have x14 : ∀ j, I' 14 j = I45 14 j := fun j => by rw [z4 _ _ (by omega) (by omega) (by omega) (by omega) (by omega), k2' _ _ (by omega)]
        have hs := sgA_23 (tx.getD (posA tx i) 0)
        have hlt : posA tx i < tx.length := by rw [posA] at a1; omega
        have hxb := isDg_b a3
        have hC' : MC I' n pc := MC_f mC (by rw [z4 _ _ (by omega) (by omega) (by omega) (by omega) (by omega), k2' _ _ (by omega), hf _ _ (by omega) (by omega)]) (fun j => by rw [z4 _ _ (by omega) (by omega) (by omega) (by omega) (by omega), k2' _ _ (by omega), hf _ _ (by omega) (by omega)])
        have hE' : MSt 236 (some 6) I' (ruE rt) := hE.fr (by rw [z4 _ _ (by omega) (by omega) (by omega) (by omega) (by omega), k2' _ _ (by omega), hf _ _ (by omega) (by omega)]) (fun j => by rw [z4 _ _ (by omega) (by omega) (by omega) (by omega) (by omega), k2' _ _ (by omega), hf _ _ (by omega) (by omega)]) (fun j => by rw [z4 _ _ (by omega) (by omega) (by omega) (by omega) (by omega), k2' _ _ (by omega), hf _ _ (by omega) (by omega)])
        rw [show 80 - i = (80 - (i + 1)) + 1 by omega, dayL, if_pos hlt] at z1
        refine pw_iload_n 73 rfl dX12_day_72 rfl ?_
        refine pw_iload_n 74 rfl dX12_day_73 rfl ?_
        refine pw_icmp_ge (tgt := 118) 77 rfl dX12_day_74 rfl (fun h74 => absurd h74 (by (simp (disch := omega) only [nI_leI, nI_ltI, nI_eq, show (0 : Int32) = nI 0 from rfl, not_true_eq_false, not_false_eq_true] <;> omega))) (fun h74 => ?_)
        refine pw_aload_n 78 rfl dX12_day_77 rfl ?_
        refine pw_aload_n 79 rfl dX12_day_78 rfl ?_
        refine pw_getR 82 rfl dX12_day_79 fX12_51 (by first | rfl | assumption | exact rowS hh | exact mtS hm | exact ruS hr | exact mtA1 hm | exact mtA2 hm | exact mtA3 hm | exact mtA4 hm | exact mtA5 hm | exact mtA6 hm | exact mtA7 hm | exact ruA1 hr | exact ruA2 hr | exact ruA3 hr) rfl (by first | rfl | assumption | exact mtR0 hm | exact mtR1 hm | exact mtR2 hm | exact mtR3 hm | exact mtR4 hm | exact mtR5 hm | exact mtR6 hm | exact ruR0 hr | exact ruR1 hr | exact ruR3 hr) ?_
        refine pw_iconst (v := nI 3) 83 rfl dX12_day_82 rfl ?_
        refine pw_iload_n 84 rfl dX12_day_83 rfl ?_
        first | refine pw_imulN 85 rfl dX12_day_84 ?_ | refine pw_imul 85 rfl dX12_day_84 ?_
        refine pw_ialdN 86 rfl dX12_day_85 (by first | rfl | assumption | exact rowS hh | exact mtS hm | exact ruS hr | exact mtA1 hm | exact mtA2 hm | exact mtA3 hm | exact mtA4 hm | exact mtA5 hm | exact mtA6 hm | exact mtA7 hm | exact ruA1 hr | exact ruA2 hr | exact ruA3 hr) (by omega) (by first | decide | omega) ?_
        refine pw_aload_n 87 rfl dX12_day_86 rfl ?_
        refine pw_getR 90 rfl dX12_day_87 fX12_51 (by first | rfl | assumption | exact rowS hh | exact mtS hm | exact ruS hr | exact mtA1 hm | exact mtA2 hm | exact mtA3 hm | exact mtA4 hm | exact mtA5 hm | exact mtA6 hm | exact mtA7 hm | exact ruA1 hr | exact ruA2 hr | exact ruA3 hr) rfl (by first | rfl | assumption | exact mtR0 hm | exact mtR1 hm | exact mtR2 hm | exact mtR3 hm | exact mtR4 hm | exact mtR5 hm | exact mtR6 hm | exact ruR0 hr | exact ruR1 hr | exact ruR3 hr) ?_
        refine pw_iconst (v := nI 3) 91 rfl dX12_day_90 rfl ?_
        refine pw_iload_n 92 rfl dX12_day_91 rfl ?_
        first | refine pw_imulN 93 rfl dX12_day_92 ?_ | refine pw_imul 93 rfl dX12_day_92 ?_
        refine pw_iconst (v := nI 1) 94 rfl dX12_day_93 rfl ?_
        first | refine pw_iaddN 95 rfl dX12_day_94 ?_ | refine pw_iadd 95 rfl dX12_day_94 ?_
        refine pw_ialdN 96 rfl dX12_day_95 (by first | rfl | assumption | exact rowS hh | exact mtS hm | exact ruS hr | exact mtA1 hm | exact mtA2 hm | exact mtA3 hm | exact mtA4 hm | exact mtA5 hm | exact mtA6 hm | exact mtA7 hm | exact ruA1 hr | exact ruA2 hr | exact ruA3 hr) (by omega) (by first | decide | omega) ?_
        refine pw_aload_n 97 rfl dX12_day_96 rfl ?_
        refine pw_getR 100 rfl dX12_day_97 fX12_51 (by first | rfl | assumption | exact rowS hh | exact mtS hm | exact ruS hr | exact mtA1 hm | exact mtA2 hm | exact mtA3 hm | exact mtA4 hm | exact mtA5 hm | exact mtA6 hm | exact mtA7 hm | exact ruA1 hr | exact ruA2 hr | exact ruA3 hr) rfl (by first | rfl | assumption | exact mtR0 hm | exact mtR1 hm | exact mtR2 hm | exact mtR3 hm | exact mtR4 hm | exact mtR5 hm | exact mtR6 hm | exact ruR0 hr | exact ruR1 hr | exact ruR3 hr) ?_
        refine pw_iconst (v := nI 3) 101 rfl dX12_day_100 rfl ?_
        refine pw_iload_n 102 rfl dX12_day_101 rfl ?_
        first | refine pw_imulN 103 rfl dX12_day_102 ?_ | refine pw_imul 103 rfl dX12_day_102 ?_
        refine pw_iconst (v := nI 2) 104 rfl dX12_day_103 rfl ?_
        first | refine pw_iaddN 105 rfl dX12_day_104 ?_ | refine pw_iadd 105 rfl dX12_day_104 ?_
        refine pw_ialdN 106 rfl dX12_day_105 (by first | rfl | assumption | exact rowS hh | exact mtS hm | exact ruS hr | exact mtA1 hm | exact mtA2 hm | exact mtA3 hm | exact mtA4 hm | exact mtA5 hm | exact mtA6 hm | exact mtA7 hm | exact ruA1 hr | exact ruA2 hr | exact ruA3 hr) (by omega) (by first | decide | omega) ?_
        rotate_left
        rw [x14, x14, x14, a5, a6]
        have hWa := WN_actM (ruE rt) (tx.getD (posA tx i) 0) (tx.getD (posA tx i + 1) 0 - 48) (tx.getD (posA tx i + 2) 0 - 48) z2
        refine pw_callV (as := [_, _, _]) 109 rfl dX12_day_106 mX12_273 vX12_act (m_act (d := d + 5) (y := tx.getD (posA tx i + 2) 0 - 48) hC' z3 z2 hE' z5 a2 (by omega) (fun z => by have := isDg_b (a4 z).1; have := (a4 z).2; exact ⟨by omega, a7 z⟩)) (by first | rfl | assumption | exact rowS hh | exact mtS hm | exact ruS hr | exact mtA1 hm | exact mtA2 hm | exact mtA3 hm | exact mtA4 hm | exact mtA5 hm | exact mtA6 hm | exact mtA7 hm | exact ruA1 hr | exact ruA2 hr | exact ruA3 hr) rfl (by decide) ⟨rfl, by decide, by decide, show (parseMethodDescriptor yX12_act.desc).map (fun d => d.parameters.length) = some 3 by decide +kernel⟩ (by omega) (by decide) (Nat.le_of_ble_eq_true rfl) rfl (fun r106 I106 J106 R106 c106 => ?_)
        obtain ⟨rfl, c1, c2, c3, rfl, rd2, rfl⟩ := c106
        rotate_left
        generalize actA n pc (ruE rt) (tx.getD (posA tx i) 0) (tx.getD (posA tx i + 1) 0 - 48) (tx.getD (posA tx i + 2) 0 - 48) b' = y at c1 z1 hWa
        by_cases hy : y.1 < 0
        · rw [if_pos hy] at z1
          cases z1
          rw [if_pos hy]
          refine pw_if_eq (tgt := 118) 112 rfl dX12_day_109 rfl (fun h109 => ?_) (fun h109 => absurd (by rfl) h109)
          rotate_left
          exact fin I106 rd2 c1 (z4.trans c2) c3 (by omega) (by rw [decide_eq_true hi])
        · rw [if_neg hy] at z1
          rw [if_neg hy]
          refine pw_if_eq (tgt := 118) 112 rfl dX12_day_109 rfl (fun h109 => absurd h109 (by decide)) (fun h109 => ?_)
          refine pw_iincN 115 rfl dX12_day_112 (by decide) rfl ?_
          refine pw_goto (tgt := 72) dX12_day_115 rfl ?_
          rotate_left
          exact ih I106 rd2 y.2 z1 hWa c1 (z4.trans c2) c3
  have L := nat_loop 31 (fun i => ∀ (I' : pI), posA tx i ≤ min tx.length 60 → (∀ q, q < posA tx i → badD tx q = false) → I' 0 11 = nI (posA tx i) → I' 0 12 = -1 → actF I' tx i → (∀ a j, a ≠ 14 → ¬ (a = 0 ∧ (j = 11 ∨ j = 12)) → I' a j = I1 a j) → PW SM yX12_day.cls cX12_day 3 (d + 245) 13 [some (.ref 0), some (.int (nI i)), none] [] I' J (RM (some 3) (some 6)) (rX cX12_day (some .int) (moP (g + 10000) (oDay (n, pc, b, us, kp, rw, tx, rt, hd, sw))))) ?_ ?_
  · exact L I1 (Nat.zero_le _) (fun q hq => by cases hq) e11 e12 (fun j hj => by omega) (fun _ _ _ _ => rfl)
  · intro I' g1
    have := posA_ge tx 31
    omega
  · intro i hi ih I' g1 g2 g3 g4 g5 g6
    have h9 : I' 0 9 = nI tx.length := by rw [g6 _ _ (by omega) (by omega)]; exact e9
    by_cases cl : posA tx i < tx.length
    · have hQ' : mTQ I' 60 tx := hQ.fr (g6 _ _ (by omega) (by omega)) (g6 _ _ (by omega) (by omega)) (fun j => g6 _ _ (by omega) (by omega))
      refine pw_aload_n 14 rfl dX12_day_13 rfl ?_
      refine pw_callVP (as := []) 17 rfl dX12_day_14 mX12_124 vX12_fine (m_fine (d := d + 244) g4) (by first | rfl | assumption | exact rowS hh | exact mtS hm | exact ruS hr | exact mtA1 hm | exact mtA2 hm | exact mtA3 hm | exact mtA4 hm | exact mtA5 hm | exact mtA6 hm | exact mtA7 hm | exact ruA1 hr | exact ruA2 hr | exact ruA3 hr) rfl (by decide) ⟨rfl, by decide, by decide, show (parseMethodDescriptor yX12_fine.desc).map (fun d => d.parameters.length) = some 0 by decide +kernel⟩ (by omega) (by decide) (Nat.le_of_ble_eq_true rfl) rfl ?_
      refine pw_if_eq (tgt := 44) 20 rfl dX12_day_17 rfl (fun h17 => absurd h17 (by rw [if_pos rfl]; decide)) (fun h17 => ?_)
      refine pw_aload_n 21 rfl dX12_day_20 rfl ?_
      refine pw_getI 24 rfl dX12_day_21 fX12_114 (by first | rfl | assumption | exact rowS hh | exact mtS hm | exact ruS hr | exact mtA1 hm | exact mtA2 hm | exact mtA3 hm | exact mtA4 hm | exact mtA5 hm | exact mtA6 hm | exact mtA7 hm | exact ruA1 hr | exact ruA2 hr | exact ruA3 hr) rfl ?_
      refine pw_aload_n 25 rfl dX12_day_24 rfl ?_
      refine pw_getI 28 rfl dX12_day_25 fX12_108 (by first | rfl | assumption | exact rowS hh | exact mtS hm | exact ruS hr | exact mtA1 hm | exact mtA2 hm | exact mtA3 hm | exact mtA4 hm | exact mtA5 hm | exact mtA6 hm | exact mtA7 hm | exact ruA1 hr | exact ruA2 hr | exact ruA3 hr) rfl ?_
      refine pw_icmp_ge (tgt := 44) 31 rfl dX12_day_28 rfl (fun h28 => absurd h28 (by rw [g3, h9]; (simp (disch := omega) only [nI_leI, nI_ltI, nI_eq, show (0 : Int32) = nI 0 from rfl, not_true_eq_false, not_false_eq_true] <;> omega))) (fun h28 => ?_)
      refine pw_aload_n 32 rfl dX12_day_31 rfl ?_
      refine pw_iconst (v := nI 3) 33 rfl dX12_day_32 rfl ?_
      refine pw_iload_n 34 rfl dX12_day_33 rfl ?_
      first | refine pw_imulN 35 rfl dX12_day_34 ?_ | refine pw_imul 35 rfl dX12_day_34 ?_
      refine pw_callV (as := [_]) 38 rfl dX12_day_35 mX12_270 vX12_readAct (m_readAct (d := d + 241) (k := 3 * i) hQ' g1 cl (posA_dyb tx i) g2 g3 g4 (by omega)) (by first | rfl | assumption | exact rowS hh | exact mtS hm | exact ruS hr | exact mtA1 hm | exact mtA2 hm | exact mtA3 hm | exact mtA4 hm | exact mtA5 hm | exact mtA6 hm | exact mtA7 hm | exact ruA1 hr | exact ruA2 hr | exact ruA3 hr) rfl (by decide) ⟨rfl, by decide, by decide, show (parseMethodDescriptor yX12_readAct.desc).map (fun d => d.parameters.length) = some 1 by decide +kernel⟩ (by omega) (by decide) (Nat.le_of_ble_eq_true rfl) rfl (fun r35 I35 J35 R35 c35 => ?_)
      obtain ⟨rfl, hra, fr, rfl, rfl⟩ := c35
      rotate_left
      refine pw_iincN 41 rfl dX12_day_38 (by decide) rfl ?_
      refine pw_goto (tgt := 13) dX12_day_41 rfl ?_
      rotate_left
      rcases hra with ⟨o1, o2, o3, o4, o5, o6, o7, o8, o9, o10⟩ | ⟨q, r, n1, n2, n3, n4⟩
      · refine ih I35 o2 o1 o3 o4 (fun j hj => ?_) (fun a j q1 q2 => by rw [fr a j (by omega) q2]; exact g6 a j q1 q2)
        by_cases ej : j = i
        · subst ej
          exact ⟨by rw [posA]; omega, o5, o6, o7, o8, o9, o10⟩
        · obtain ⟨a1, a2, a3, a4, a5, a6, a7⟩ := g5 j (by omega)
          exact ⟨a1, a2, a3, a4, by rw [fr _ _ (by omega) (by omega)]; exact a5, by rw [fr _ _ (by omega) (by omega)]; exact a6, fun z => by rw [fr _ _ (by omega) (by omega)]; exact a7 z⟩
      · have hq := wrD_le t2 n1
        refine pw_aload_n 14 rfl dX12_day_13 rfl ?_
        refine pw_callVP (as := []) 17 rfl dX12_day_14 mX12_124 vX12_fine (m_fine (d := d + 244) n2) (by first | rfl | assumption | exact rowS hh | exact mtS hm | exact ruS hr | exact mtA1 hm | exact mtA2 hm | exact mtA3 hm | exact mtA4 hm | exact mtA5 hm | exact mtA6 hm | exact mtA7 hm | exact ruA1 hr | exact ruA2 hr | exact ruA3 hr) rfl (by decide) ⟨rfl, by decide, by decide, show (parseMethodDescriptor yX12_fine.desc).map (fun d => d.parameters.length) = some 0 by decide +kernel⟩ (by omega) (by decide) (Nat.le_of_ble_eq_true rfl) rfl ?_
        refine pw_if_eq (tgt := 44) 20 rfl dX12_day_17 rfl (fun h17 => ?_) (fun h17 => absurd (by rw [if_neg (rdV_ne (by omega))]; rfl) h17)
        rotate_left
        refine exit I35 _ r _ n3 n2 n4 (by omega) ?_ (fun z => by rw [n1] at z; cases z) (fun a j q1 q2 => by rw [fr a j (by omega) q2]; exact g6 a j q1 q2)
        rw [wrW, if_neg (fun z => rdV_ne (by omega) z.2), n1]
        rfl
    · have eL : posA tx i = tx.length := by omega
      have hw : wrD tx = none := by
        rw [wrD_e (fun q hq => g2 q (by omega)), if_neg (by omega), if_pos]
        by_cases i0 : i = 0
        · subst i0; exact Or.inl eL.symm
        · right
          obtain ⟨k, rfl⟩ : ∃ k, i = k + 1 := ⟨i - 1, by omega⟩
          have hb := posA_dyb tx k
          have hs := sgA_23 (tx.getD (posA tx k) 0)
          have ed := dyb_in hb (sgA (tx.getD (posA tx k) 0) - 1) (by omega)
          rw [posA] at eL
          rw [show posA tx k + 1 + (sgA (tx.getD (posA tx k) 0) - 1) = tx.length by omega] at ed
          rw [ed]
          exact eL.symm
      refine pw_aload_n 14 rfl dX12_day_13 rfl ?_
      refine pw_callVP (as := []) 17 rfl dX12_day_14 mX12_124 vX12_fine (m_fine (d := d + 244) g4) (by first | rfl | assumption | exact rowS hh | exact mtS hm | exact ruS hr | exact mtA1 hm | exact mtA2 hm | exact mtA3 hm | exact mtA4 hm | exact mtA5 hm | exact mtA6 hm | exact mtA7 hm | exact ruA1 hr | exact ruA2 hr | exact ruA3 hr) rfl (by decide) ⟨rfl, by decide, by decide, show (parseMethodDescriptor yX12_fine.desc).map (fun d => d.parameters.length) = some 0 by decide +kernel⟩ (by omega) (by decide) (Nat.le_of_ble_eq_true rfl) rfl ?_
      refine pw_if_eq (tgt := 44) 20 rfl dX12_day_17 rfl (fun h17 => absurd h17 (by rw [if_pos rfl]; decide)) (fun h17 => ?_)
      refine pw_aload_n 21 rfl dX12_day_20 rfl ?_
      refine pw_getI 24 rfl dX12_day_21 fX12_114 (by first | rfl | assumption | exact rowS hh | exact mtS hm | exact ruS hr | exact mtA1 hm | exact mtA2 hm | exact mtA3 hm | exact mtA4 hm | exact mtA5 hm | exact mtA6 hm | exact mtA7 hm | exact ruA1 hr | exact ruA2 hr | exact ruA3 hr) rfl ?_
      refine pw_aload_n 25 rfl dX12_day_24 rfl ?_
      refine pw_getI 28 rfl dX12_day_25 fX12_108 (by first | rfl | assumption | exact rowS hh | exact mtS hm | exact ruS hr | exact mtA1 hm | exact mtA2 hm | exact mtA3 hm | exact mtA4 hm | exact mtA5 hm | exact mtA6 hm | exact mtA7 hm | exact ruA1 hr | exact ruA2 hr | exact ruA3 hr) rfl ?_
      refine pw_icmp_ge (tgt := 44) 31 rfl dX12_day_28 rfl (fun h28 => ?_) (fun h28 => absurd (by rw [g3, h9]; (simp (disch := omega) only [nI_leI, nI_ltI, nI_eq, show (0 : Int32) = nI 0 from rfl, not_true_eq_false, not_false_eq_true] <;> omega)) h28)
      rotate_left
      refine exit I' i (posA tx i) (-1) g3 g4 (by omega) (by omega) ?_ (fun _ => ⟨eL, g5⟩) g6
      rw [wrW, if_neg (fun z => cl z.1), hw]
      rfl
