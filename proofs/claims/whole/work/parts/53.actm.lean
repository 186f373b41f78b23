/-! the reference: A DAY -/
def posA (tx : List Nat) : Nat → Nat
  | 0 => 0
  | i + 1 => posA tx i + sgA (tx.getD (posA tx i) 0)
theorem posA_dyb (tx : List Nat) : ∀ i, dyb tx (posA tx i + 1) = posA tx i
  | 0 => by show (if 0 = dyb tx 0 + sgA (tx.getD (dyb tx 0) 0) then 0 else dyb tx 0) = 0; split <;> rfl
  | i + 1 => dyb_next (posA_dyb tx i)
theorem posA_ge (tx : List Nat) : ∀ i, 2 * i ≤ posA tx i
  | 0 => Nat.le_refl _
  | i + 1 => by
    have := posA_ge tx i
    have hs := sgA_23 (tx.getD (posA tx i) 0)
    rw [posA]
    omega
theorem wrD_b {tx : List Nat} {p : Nat} (hp : p < min tx.length 60) (hg : ∀ q, q < p → badD tx q = false) (hb : badD tx p = true) : wrD tx = some p := wrD_s (fstL_at hp hg hb)
theorem wrD_e {tx : List Nat} (hg : ∀ q, q < min tx.length 60 → badD tx q = false) : wrD tx = if 60 < tx.length then some 60 else if tx.length = 0 ∨ tx.length = dyb tx tx.length + sgA (tx.getD (dyb tx tx.length) 0) then none else some tx.length := wrD_n (fstL_none hg)
theorem badD_at {tx : List Nat} {p j : Nat} (hb : dyb tx (p + 1) = p) (hj : j < sgA (tx.getD p 0)) : badD tx (p + j) = !(gdA (tx.getD (p + j) 0) j) := by
  have e : dyb tx (p + j + 1) = p := by rw [show p + j + 1 = p + 1 + j by omega]; exact dyb_in hb j hj
  rw [badD, e, show p + j - p = j by omega]
theorem wrD_at {tx : List Nat} {p j : Nat} (hb : dyb tx (p + 1) = p) (hj : j < sgA (tx.getD p 0)) (hg : ∀ q, q < p + j → badD tx q = false) (hm : p + j ≤ min tx.length 60) (hbad : p + j < min tx.length 60 → gdA (tx.getD (p + j) 0) j = false) (hl : p < tx.length) : wrD tx = some (p + j) := by
  by_cases c : p + j < min tx.length 60
  · refine wrD_b c hg ?_
    rw [badD_at hb hj, hbad c]
    rfl
  · rw [wrD_e (fun q hq => hg q (by omega))]
    by_cases c60 : 60 < tx.length
    · rw [if_pos c60]; congr 1; omega
    · rw [if_neg c60, if_neg]
      · congr 1; omega
      · rintro (z | z)
        · omega
        · by_cases j0 : j = 0
          · omega
          · have e := dyb_in hb (j - 1) (by omega)
            rw [show p + 1 + (j - 1) = tx.length by omega] at e
            rw [e] at z
            omega
theorem isAc_b {c : Nat} (h : isAc c = true) : c = 110 ∨ c = 115 ∨ c = 98 ∨ c = 119 ∨ c = 102 ∨ c = 116 := by simp [isAc] at h; omega
def raOk (I I' : pI) (tx : List Nat) (p k : Nat) : Prop := (∀ q, q < p + sgA (tx.getD p 0) → badD tx q = false) ∧ p + sgA (tx.getD p 0) ≤ min tx.length 60 ∧ I' 0 11 = nI (p + sgA (tx.getD p 0)) ∧ I' 0 12 = -1 ∧ isAc (tx.getD p 0) = true ∧ isDg (tx.getD (p + 1) 0) = true ∧ (sgA (tx.getD p 0) = 3 → isDg (tx.getD (p + 2) 0) = true ∧ tx.getD (p + 2) 0 ≠ 48) ∧ I' 14 k = nI (tx.getD p 0) ∧ I' 14 (k + 1) = nI (tx.getD (p + 1) 0 - 48) ∧ (sgA (tx.getD p 0) = 3 → I' 14 (k + 2) = nI (tx.getD (p + 2) 0 - 48))
def raNo (I' : pI) (tx : List Nat) : Prop := ∃ q r, wrD tx = some q ∧ I' 0 12 = nI q ∧ I' 0 11 = nI r ∧ r ≤ 100
def fRa (I I' : pI) (k : Nat) : Prop := ∀ a j, ¬ (a = 14 ∧ k ≤ j ∧ j ≤ k + 2) → ¬ (a = 0 ∧ (j = 11 ∨ j = 12)) → I' a j = I a j
set_option maxRecDepth 100000 in
set_option maxHeartbeats 2000000 in
theorem m_readAct {d p k : Nat} {tx : List Nat} {rl : Option Nat} {I : pI} {J : pJ} (hQ : mTQ I 60 tx) (hp : p ≤ min tx.length 60) (hl : p < tx.length) (hb : dyb tx (p + 1) = p) (hg : ∀ q, q < p → badD tx q = false) (h11 : I 0 11 = nI p) (h12 : I 0 12 = -1) (hk : k ≤ 200) : PC SM (d + 3) yX12_readAct cX12_readAct 3 none [.ref 0, .int (nI k)] (I) (J) (RM (some 3) rl) (fun r' I' J' R' => r' = none ∧ (raOk I I' tx p k ∨ raNo I' tx) ∧ fRa I I' k ∧ J = J' ∧ R' = RM (some 3) rl) := by
  refine PC.of [some (.ref 0), some (.int (nI k)), none] rfl rfl (Nat.le_of_ble_eq_true rfl) ?_
  have hP := hQ.at hp h11
  have hct : (tx.take 60).length = min tx.length 60 := by rw [List.length_take, Nat.min_comm]
  have hml : min tx.length 60 ≤ tx.length := Nat.min_le_left _ _
  have hm60 : min tx.length 60 ≤ 60 := Nat.min_le_right _ _
  have hs := sgA_23 (tx.getD p 0)
  have tail : ∀ c, tx[p]? = some c → p < min tx.length 60 → isAc c = true → PW SM yX12_readAct.cls cX12_readAct 3 (d + 3) 50 [some (.ref 0), some (.int (nI k)), some (.int (nI c))] [] (I) (J) (RM (some 3) rl) (rX cX12_readAct none (fun r' I' J' R' => r' = none ∧ (raOk I I' tx p k ∨ raNo I' tx) ∧ fRa I I' k ∧ J = J' ∧ R' = RM (some 3) rl)) := by
    intro c hc hpm hac
    have ec := getD_s hc
    have hcc := isAc_b hac
    have g0 : ∀ q, q < p + 1 → badD tx q = false := fun q hq => by
      by_cases e : q = p
      · rw [e, show p = p + 0 from rfl, badD_at hb (by omega)]
        show (!(isAc (tx.getD p 0))) = false
        rw [ec, hac]; rfl
      · exact hg q (by omega)
    refine pw_aload_n 51 rfl dX12_readAct_50 rfl ?_
    refine pw_dup 52 rfl dX12_readAct_51 rfl ?_
    refine pw_getI 55 rfl dX12_readAct_52 fX12_114 (by first | rfl | assumption | exact rowS hh | exact mtS hm | exact ruS hr | exact mtA1 hm | exact mtA2 hm | exact mtA3 hm | exact mtA4 hm | exact mtA5 hm | exact mtA6 hm | exact mtA7 hm | exact ruA1 hr | exact ruA2 hr | exact ruA3 hr) rfl ?_
    rotate_left
    rw [h11]
    refine pw_iconst (v := nI 1) 56 rfl dX12_readAct_55 rfl ?_
    first | refine pw_iaddN 57 rfl dX12_readAct_56 ?_ | refine pw_iadd 57 rfl dX12_readAct_56 ?_
    refine pw_putI 60 rfl dX12_readAct_57 fX12_114 w12_11 (by first | rfl | assumption | exact rowS hh | exact mtS hm | exact ruS hr | exact mtA1 hm | exact mtA2 hm | exact mtA3 hm | exact mtA4 hm | exact mtA5 hm | exact mtA6 hm | exact mtA7 hm | exact ruA1 hr | exact ruA2 hr | exact ruA3 hr) rfl rfl rfl ?_
    refine pw_aload_n 61 rfl dX12_readAct_60 rfl ?_
    refine pw_getR 64 rfl dX12_readAct_61 fX12_51 (by first | rfl | assumption | exact rowS hh | exact mtS hm | exact ruS hr | exact mtA1 hm | exact mtA2 hm | exact mtA3 hm | exact mtA4 hm | exact mtA5 hm | exact mtA6 hm | exact mtA7 hm | exact ruA1 hr | exact ruA2 hr | exact ruA3 hr) rfl (by first | rfl | assumption | exact mtR0 hm | exact mtR1 hm | exact mtR2 hm | exact mtR3 hm | exact mtR4 hm | exact mtR5 hm | exact mtR6 hm | exact ruR0 hr | exact ruR1 hr | exact ruR3 hr) ?_
    refine pw_iload_n 65 rfl dX12_readAct_64 rfl ?_
    refine pw_iload_n 66 rfl dX12_readAct_65 rfl ?_
    refine pw_iastN 67 rfl dX12_readAct_66 (by first | rfl | assumption | exact rowS hh | exact mtS hm | exact ruS hr | exact mtA1 hm | exact mtA2 hm | exact mtA3 hm | exact mtA4 hm | exact mtA5 hm | exact mtA6 hm | exact mtA7 hm | exact ruA1 hr | exact ruA2 hr | exact ruA3 hr) (by omega) (by first | decide | omega) ?_
    refine pw_aload_n 68 rfl dX12_readAct_67 rfl ?_
    refine pw_getR 71 rfl dX12_readAct_68 fX12_51 (by first | rfl | assumption | exact rowS hh | exact mtS hm | exact ruS hr | exact mtA1 hm | exact mtA2 hm | exact mtA3 hm | exact mtA4 hm | exact mtA5 hm | exact mtA6 hm | exact mtA7 hm | exact ruA1 hr | exact ruA2 hr | exact ruA3 hr) rfl (by first | rfl | assumption | exact mtR0 hm | exact mtR1 hm | exact mtR2 hm | exact mtR3 hm | exact mtR4 hm | exact mtR5 hm | exact mtR6 hm | exact ruR0 hr | exact ruR1 hr | exact ruR3 hr) ?_
    refine pw_iload_n 72 rfl dX12_readAct_71 rfl ?_
    refine pw_iconst (v := nI 1) 73 rfl dX12_readAct_72 rfl ?_
    first | refine pw_iaddN 74 rfl dX12_readAct_73 ?_ | refine pw_iadd 74 rfl dX12_readAct_73 ?_
    refine pw_aload_n 75 rfl dX12_readAct_74 rfl ?_
    refine pw_bipush (v := nI 48) 77 rfl dX12_readAct_75 rfl ?_
    refine pw_bipush (v := nI 10) 79 rfl dX12_readAct_77 rfl ?_
    rotate_left
    generalize hI2 : uI (uI I 0 11 (nI (p + 1))) 14 k (nI c) = I2
    have f2 : fRa I I2 k := fun a j q1 q2 => by rw [← hI2, uI_ne (by omega), uI_ne (by omega)]
    have b11 : I2 0 11 = nI (p + 1) := by rw [← hI2, uI_ne (by omega), uI_eq]
    have b12 : I2 0 12 = -1 := by rw [← hI2, uI_ne (by omega), uI_ne (by omega)]; exact h12
    have b14 : I2 14 k = nI c := by rw [← hI2, uI_eq]
    clear hI2
    have hQ2 : mTQ I2 60 tx := hQ.fr (f2 _ _ (by omega) (by omega)) (f2 _ _ (by omega) (by omega)) (fun j => f2 _ _ (by omega) (by omega))
    have hP2 := hQ2.at (show p + 1 ≤ min tx.length 60 by omega) b11
    by_cases c1 : p + 1 < min tx.length 60 ∧ isDg (tx.getD (p + 1) 0) = true
    · obtain ⟨c1, hdg⟩ := c1
      obtain ⟨x, hx⟩ : ∃ x, tx[p + 1]? = some x := ⟨_, List.getElem?_eq_getElem (by omega)⟩
      have ex := getD_s hx
      rw [ex] at hdg
      have hxb := isDg_b hdg
      rw [dropc hx (by omega)] at hP2
      have hat : (tx.take 60).length - ((tx.take 60).drop (p + 1 + 1)).length = p + 1 + 1 := at_drop (by omega)
      have g1 : ∀ q, q < p + 2 → badD tx q = false := fun q hq => by
        by_cases e : q = p + 1
        · rw [e, badD_at hb (by omega), ex, gdA, if_neg (by decide), hdg]; rfl
        · exact g0 q (by omega)
      refine pw_callV (as := [_, _]) 82 rfl dX12_readAct_79 mX12_140 vX12_oneOf (m_oneOfY (d := d + 1) (f := 48) (m := 10) hP2 b12 hxb.1 (by omega) (by decide)) (by first | rfl | assumption | exact rowS hh | exact mtS hm | exact ruS hr | exact mtA1 hm | exact mtA2 hm | exact mtA3 hm | exact mtA4 hm | exact mtA5 hm | exact mtA6 hm | exact mtA7 hm | exact ruA1 hr | exact ruA2 hr | exact ruA3 hr) rfl (by decide) ⟨rfl, by decide, by decide, show (parseMethodDescriptor yX12_oneOf.desc).map (fun d => d.parameters.length) = some 2 by decide +kernel⟩ (by omega) (by decide) (Nat.le_of_ble_eq_true rfl) rfl (fun r79 I79 J79 R79 c79 => ?_)
      obtain ⟨rfl, rfl, rfl, rfl⟩ := c79
      rotate_left
      rw [hat]
      refine pw_iastN 83 rfl dX12_readAct_82 (by first | rfl | assumption | exact rowS hh | exact mtS hm | exact ruS hr | exact mtA1 hm | exact mtA2 hm | exact mtA3 hm | exact mtA4 hm | exact mtA5 hm | exact mtA6 hm | exact mtA7 hm | exact ruA1 hr | exact ruA2 hr | exact ruA3 hr) (by omega) (by first | decide | omega) ?_
      rotate_left
      generalize hI3 : uI (mAt I2 (p + 1 + 1)) 14 (k + 1) (nI (x - 48)) = I3
      have f3 : fRa I I3 k := fun a j q1 q2 => by rw [← hI3, uI_ne (by omega), mAt, uI_ne (by omega)]; exact f2 a j q1 q2
      have d11 : I3 0 11 = nI (p + 2) := by rw [← hI3, uI_ne (by omega), mAt, uI_eq]
      have d12 : I3 0 12 = -1 := by rw [← hI3, uI_ne (by omega), mAt, uI_ne (by omega)]; exact b12
      have d14 : I3 14 k = nI c := by rw [← hI3, uI_ne (by omega), mAt, uI_ne (by omega)]; exact b14
      have d15 : I3 14 (k + 1) = nI (x - 48) := by rw [← hI3, uI_eq]
      clear hI3
      by_cases cs : c = 119 ∨ c = 102
      · have hs3 : sgA (tx.getD p 0) = 3 := by rw [ec, sgA, if_pos cs]
        have hQ3 : mTQ I3 60 tx := hQ.fr (f3 _ _ (by omega) (by omega)) (f3 _ _ (by omega) (by omega)) (fun j => f3 _ _ (by omega) (by omega))
        have hP3 := hQ3.at (show p + 2 ≤ min tx.length 60 by omega) d11
        have third : PW SM yX12_readAct.cls cX12_readAct 3 (d + 3) 95 [some (.ref 0), some (.int (nI k)), some (.int (nI c))] [] (I3) (J) (RM (some 3) rl) (rX cX12_readAct none (fun r' I' J' R' => r' = none ∧ (raOk I I' tx p k ∨ raNo I' tx) ∧ fRa I I' k ∧ J = J' ∧ R' = RM (some 3) rl)) := by
          by_cases c2 : p + 2 < min tx.length 60 ∧ isDg (tx.getD (p + 2) 0) = true ∧ tx.getD (p + 2) 0 ≠ 48
          · obtain ⟨c2, hdy, hy48⟩ := c2
            obtain ⟨y, hy⟩ : ∃ y, tx[p + 2]? = some y := ⟨_, List.getElem?_eq_getElem (by omega)⟩
            have ey := getD_s hy
            rw [ey] at hdy hy48
            have hyb := isDg_b hdy
            rw [dropc hy (by omega)] at hP3
            have hat3 : (tx.take 60).length - ((tx.take 60).drop (p + 2 + 1)).length = p + 2 + 1 := at_drop (by omega)
            have g2 : ∀ q, q < p + 3 → badD tx q = false := fun q hq => by
              by_cases e : q = p + 2
              · rw [e, badD_at hb (by omega), ey, gdA, if_neg (by decide), hdy, decide_eq_false (show ¬ y = 48 from hy48)]; rfl
              · exact g1 q (by omega)
            refine pw_aload_n 96 rfl dX12_readAct_95 rfl ?_
            refine pw_getR 99 rfl dX12_readAct_96 fX12_51 (by first | rfl | assumption | exact rowS hh | exact mtS hm | exact ruS hr | exact mtA1 hm | exact mtA2 hm | exact mtA3 hm | exact mtA4 hm | exact mtA5 hm | exact mtA6 hm | exact mtA7 hm | exact ruA1 hr | exact ruA2 hr | exact ruA3 hr) rfl (by first | rfl | assumption | exact mtR0 hm | exact mtR1 hm | exact mtR2 hm | exact mtR3 hm | exact mtR4 hm | exact mtR5 hm | exact mtR6 hm | exact ruR0 hr | exact ruR1 hr | exact ruR3 hr) ?_
            refine pw_iload_n 100 rfl dX12_readAct_99 rfl ?_
            refine pw_iconst (v := nI 2) 101 rfl dX12_readAct_100 rfl ?_
            first | refine pw_iaddN 102 rfl dX12_readAct_101 ?_ | refine pw_iadd 102 rfl dX12_readAct_101 ?_
            refine pw_aload_n 103 rfl dX12_readAct_102 rfl ?_
            refine pw_bipush (v := nI 49) 105 rfl dX12_readAct_103 rfl ?_
            refine pw_bipush (v := nI 9) 107 rfl dX12_readAct_105 rfl ?_
            refine pw_callV (as := [_, _]) 110 rfl dX12_readAct_107 mX12_140 vX12_oneOf (m_oneOfY (d := d + 1) (f := 49) (m := 9) hP3 d12 (by omega) (by omega) (by decide)) (by first | rfl | assumption | exact rowS hh | exact mtS hm | exact ruS hr | exact mtA1 hm | exact mtA2 hm | exact mtA3 hm | exact mtA4 hm | exact mtA5 hm | exact mtA6 hm | exact mtA7 hm | exact ruA1 hr | exact ruA2 hr | exact ruA3 hr) rfl (by decide) ⟨rfl, by decide, by decide, show (parseMethodDescriptor yX12_oneOf.desc).map (fun d => d.parameters.length) = some 2 by decide +kernel⟩ (by omega) (by decide) (Nat.le_of_ble_eq_true rfl) rfl (fun r107 I107 J107 R107 c107 => ?_)
            obtain ⟨rfl, rfl, rfl, rfl⟩ := c107
            rotate_left
            rw [hat3]
            refine pw_iconst (v := nI 1) 111 rfl dX12_readAct_110 rfl ?_
            first | refine pw_iaddN 112 rfl dX12_readAct_111 ?_ | refine pw_iadd 112 rfl dX12_readAct_111 ?_
            refine pw_iastN 113 rfl dX12_readAct_112 (by first | rfl | assumption | exact rowS hh | exact mtS hm | exact ruS hr | exact mtA1 hm | exact mtA2 hm | exact mtA3 hm | exact mtA4 hm | exact mtA5 hm | exact mtA6 hm | exact mtA7 hm | exact ruA1 hr | exact ruA2 hr | exact ruA3 hr) (by omega) (by first | decide | omega) ?_
            refine pw_vret dX12_readAct_113 ?_
            rotate_left
            refine ⟨rfl, Or.inl ⟨by rw [hs3]; exact g2, by rw [hs3]; omega, ?_, ?_, by rw [ec]; exact hac, by rw [ex]; exact hdg, fun _ => ⟨by rw [ey]; exact hdy, by rw [ey]; exact hy48⟩, ?_, ?_, fun _ => ?_⟩, fun a j q1 q2 => ?_, rfl, rfl⟩
            · rw [hs3, uI_ne (by omega), mAt, uI_eq]
            · rw [uI_ne (by omega), mAt, uI_ne (by omega)]; exact d12
            · rw [uI_ne (by omega), mAt, uI_ne (by omega), ec]; exact d14
            · rw [uI_ne (by omega), mAt, uI_ne (by omega), ex]; exact d15
            · rw [uI_eq, ey, show y - 49 + 1 = y - 48 by omega]
            · rw [uI_ne (by omega), mAt, uI_ne (by omega)]; exact f3 a j q1 q2
          · have hw : wrD tx = some (p + 2) := wrD_at hb (by omega) g1 (by omega) (fun cc => by
              rw [gdA, if_neg (by decide)]
              cases e1 : isDg (tx.getD (p + 2) 0)
              · rfl
              · by_cases e2 : tx.getD (p + 2) 0 = 48
                · rw [decide_eq_true e2]; rfl
                · exact absurd ⟨cc, e1, e2⟩ c2) hl
            have hnd : ∀ y, ((tx.take 60).drop (p + 2)).head? = some y → ¬ (49 ≤ y ∧ y < 49 + 9) := by
              intro y hy hyb
              by_cases cc : p + 2 < min tx.length 60
              · obtain ⟨z, hz⟩ : ∃ z, tx[p + 2]? = some z := ⟨_, List.getElem?_eq_getElem (by omega)⟩
                rw [dropc hz (by omega)] at hy
                cases hy
                refine c2 ⟨cc, ?_, ?_⟩
                · rw [getD_s hz, isDg, decide_eq_true (show 48 ≤ y by omega), decide_eq_true (show y ≤ 57 by omega)]; rfl
                · rw [getD_s hz]; omega
              · rw [List.drop_of_length_le (by omega)] at hy
                cases hy
            have hat3 : (tx.take 60).length - ((tx.take 60).drop (p + 2)).length = p + 2 := at_drop (by omega)
            refine pw_aload_n 96 rfl dX12_readAct_95 rfl ?_
            refine pw_getR 99 rfl dX12_readAct_96 fX12_51 (by first | rfl | assumption | exact rowS hh | exact mtS hm | exact ruS hr | exact mtA1 hm | exact mtA2 hm | exact mtA3 hm | exact mtA4 hm | exact mtA5 hm | exact mtA6 hm | exact mtA7 hm | exact ruA1 hr | exact ruA2 hr | exact ruA3 hr) rfl (by first | rfl | assumption | exact mtR0 hm | exact mtR1 hm | exact mtR2 hm | exact mtR3 hm | exact mtR4 hm | exact mtR5 hm | exact mtR6 hm | exact ruR0 hr | exact ruR1 hr | exact ruR3 hr) ?_
            refine pw_iload_n 100 rfl dX12_readAct_99 rfl ?_
            refine pw_iconst (v := nI 2) 101 rfl dX12_readAct_100 rfl ?_
            first | refine pw_iaddN 102 rfl dX12_readAct_101 ?_ | refine pw_iadd 102 rfl dX12_readAct_101 ?_
            refine pw_aload_n 103 rfl dX12_readAct_102 rfl ?_
            refine pw_bipush (v := nI 49) 105 rfl dX12_readAct_103 rfl ?_
            refine pw_bipush (v := nI 9) 107 rfl dX12_readAct_105 rfl ?_
            refine pw_callV (as := [_, _]) 110 rfl dX12_readAct_107 mX12_140 vX12_oneOf (m_oneOfN (d := d) hP3 d12 hnd (by decide) (by decide)) (by first | rfl | assumption | exact rowS hh | exact mtS hm | exact ruS hr | exact mtA1 hm | exact mtA2 hm | exact mtA3 hm | exact mtA4 hm | exact mtA5 hm | exact mtA6 hm | exact mtA7 hm | exact ruA1 hr | exact ruA2 hr | exact ruA3 hr) rfl (by decide) ⟨rfl, by decide, by decide, show (parseMethodDescriptor yX12_oneOf.desc).map (fun d => d.parameters.length) = some 2 by decide +kernel⟩ (by omega) (by decide) (Nat.le_of_ble_eq_true rfl) rfl (fun r107 I107 J107 R107 c107 => ?_)
            obtain ⟨rfl, rfl, rfl, rfl⟩ := c107
            rotate_left
            rw [hat3]
            refine pw_iconst (v := nI 1) 111 rfl dX12_readAct_110 rfl ?_
            first | refine pw_iaddN 112 rfl dX12_readAct_111 ?_ | refine pw_iadd 112 rfl dX12_readAct_111 ?_
            refine pw_iastN 113 rfl dX12_readAct_112 (by first | rfl | assumption | exact rowS hh | exact mtS hm | exact ruS hr | exact mtA1 hm | exact mtA2 hm | exact mtA3 hm | exact mtA4 hm | exact mtA5 hm | exact mtA6 hm | exact mtA7 hm | exact ruA1 hr | exact ruA2 hr | exact ruA3 hr) (by omega) (by first | decide | omega) ?_
            refine pw_vret dX12_readAct_113 ?_
            rotate_left
            refine ⟨rfl, Or.inr ⟨p + 2, p + 2, hw, ?_, ?_, by omega⟩, fun a j q1 q2 => ?_, rfl, rfl⟩
            · rw [uI_ne (by omega), uI_eq]
            · rw [uI_ne (by omega), uI_ne (by omega)]; exact d11
            · rw [uI_ne (by omega), uI_ne (by omega)]; exact f3 a j q1 q2
        rcases cs with rfl | rfl
        · refine pw_iload_n 84 rfl dX12_readAct_83 rfl ?_
          refine pw_bipush (v := nI 119) 86 rfl dX12_readAct_84 rfl ?_
          refine pw_icmp_eq (tgt := 95) 89 rfl dX12_readAct_86 rfl (fun h86 => ?_) (fun h86 => absurd (by rfl) h86)
          rotate_left
          exact third
        · refine pw_iload_n 84 rfl dX12_readAct_83 rfl ?_
          refine pw_bipush (v := nI 119) 86 rfl dX12_readAct_84 rfl ?_
          refine pw_icmp_eq (tgt := 95) 89 rfl dX12_readAct_86 rfl (fun h86 => absurd h86 (by decide)) (fun h86 => ?_)
          refine pw_iload_n 90 rfl dX12_readAct_89 rfl ?_
          refine pw_bipush (v := nI 102) 92 rfl dX12_readAct_90 rfl ?_
          refine pw_icmp_ne (tgt := 113) 95 rfl dX12_readAct_92 rfl (fun h92 => absurd (by rfl) h92) (fun h92 => ?_)
          rotate_left
          exact third
      · have hs2 : sgA (tx.getD p 0) = 2 := by rw [ec, sgA, if_neg cs]
        refine pw_iload_n 84 rfl dX12_readAct_83 rfl ?_
        refine pw_bipush (v := nI 119) 86 rfl dX12_readAct_84 rfl ?_
        refine pw_icmp_eq (tgt := 95) 89 rfl dX12_readAct_86 rfl (fun h86 => absurd h86 (by rw [nI_eq (by omega) (by decide)]; omega)) (fun h86 => ?_)
        refine pw_iload_n 90 rfl dX12_readAct_89 rfl ?_
        refine pw_bipush (v := nI 102) 92 rfl dX12_readAct_90 rfl ?_
        refine pw_icmp_ne (tgt := 113) 95 rfl dX12_readAct_92 rfl (fun h92 => ?_) (fun h92 => absurd h92 (by rw [nI_eq (by omega) (by decide)]; omega))
        refine pw_vret dX12_readAct_113 ?_
        rotate_left
        refine ⟨rfl, Or.inl ⟨by rw [hs2]; exact g1, by rw [hs2]; omega, by rw [hs2]; exact d11, d12, by rw [ec]; exact hac, by rw [ex]; exact hdg, fun z => by omega, by rw [ec]; exact d14, by rw [ex]; exact d15, fun z => by omega⟩, f3, rfl, rfl⟩
    · have hw : wrD tx = some (p + 1) := wrD_at hb (by omega) g0 (by omega) (fun cc => by
        rw [gdA, if_neg (by decide)]
        cases e1 : isDg (tx.getD (p + 1) 0)
        · rfl
        · exact absurd ⟨cc, e1⟩ c1) hl
      have hnd : ∀ y, ((tx.take 60).drop (p + 1)).head? = some y → ¬ (48 ≤ y ∧ y < 48 + 10) := by
        intro y hy hyb
        by_cases cc : p + 1 < min tx.length 60
        · obtain ⟨z, hz⟩ : ∃ z, tx[p + 1]? = some z := ⟨_, List.getElem?_eq_getElem (by omega)⟩
          rw [dropc hz (by omega)] at hy
          cases hy
          refine c1 ⟨cc, ?_⟩
          rw [getD_s hz, isDg, decide_eq_true (show 48 ≤ y by omega), decide_eq_true (show y ≤ 57 by omega)]; rfl
        · rw [List.drop_of_length_le (by omega)] at hy
          cases hy
      have hat : (tx.take 60).length - ((tx.take 60).drop (p + 1)).length = p + 1 := at_drop (by omega)
      refine pw_callV (as := [_, _]) 82 rfl dX12_readAct_79 mX12_140 vX12_oneOf (m_oneOfN (d := d) hP2 b12 hnd (by decide) (by decide)) (by first | rfl | assumption | exact rowS hh | exact mtS hm | exact ruS hr | exact mtA1 hm | exact mtA2 hm | exact mtA3 hm | exact mtA4 hm | exact mtA5 hm | exact mtA6 hm | exact mtA7 hm | exact ruA1 hr | exact ruA2 hr | exact ruA3 hr) rfl (by decide) ⟨rfl, by decide, by decide, show (parseMethodDescriptor yX12_oneOf.desc).map (fun d => d.parameters.length) = some 2 by decide +kernel⟩ (by omega) (by decide) (Nat.le_of_ble_eq_true rfl) rfl (fun r79 I79 J79 R79 c79 => ?_)
      obtain ⟨rfl, rfl, rfl, rfl⟩ := c79
      rotate_left
      rw [hat]
      refine pw_iastN 83 rfl dX12_readAct_82 (by first | rfl | assumption | exact rowS hh | exact mtS hm | exact ruS hr | exact mtA1 hm | exact mtA2 hm | exact mtA3 hm | exact mtA4 hm | exact mtA5 hm | exact mtA6 hm | exact mtA7 hm | exact ruA1 hr | exact ruA2 hr | exact ruA3 hr) (by omega) (by first | decide | omega) ?_
      rotate_left
      have d12 : uI (uI I2 0 12 (nI (p + 1))) 14 (k + 1) (nI 0) 0 12 = nI (p + 1) := by rw [uI_ne (by omega), uI_eq]
      have third : PW SM yX12_readAct.cls cX12_readAct 3 (d + 3) 95 [some (.ref 0), some (.int (nI k)), some (.int (nI c))] [] (uI (uI I2 0 12 (nI (p + 1))) 14 (k + 1) (nI 0)) (J) (RM (some 3) rl) (rX cX12_readAct none (fun r' I' J' R' => r' = none ∧ (raOk I I' tx p k ∨ raNo I' tx) ∧ fRa I I' k ∧ J = J' ∧ R' = RM (some 3) rl)) := by
        refine pw_aload_n 96 rfl dX12_readAct_95 rfl ?_
        refine pw_getR 99 rfl dX12_readAct_96 fX12_51 (by first | rfl | assumption | exact rowS hh | exact mtS hm | exact ruS hr | exact mtA1 hm | exact mtA2 hm | exact mtA3 hm | exact mtA4 hm | exact mtA5 hm | exact mtA6 hm | exact mtA7 hm | exact ruA1 hr | exact ruA2 hr | exact ruA3 hr) rfl (by first | rfl | assumption | exact mtR0 hm | exact mtR1 hm | exact mtR2 hm | exact mtR3 hm | exact mtR4 hm | exact mtR5 hm | exact mtR6 hm | exact ruR0 hr | exact ruR1 hr | exact ruR3 hr) ?_
        refine pw_iload_n 100 rfl dX12_readAct_99 rfl ?_
        refine pw_iconst (v := nI 2) 101 rfl dX12_readAct_100 rfl ?_
        first | refine pw_iaddN 102 rfl dX12_readAct_101 ?_ | refine pw_iadd 102 rfl dX12_readAct_101 ?_
        refine pw_aload_n 103 rfl dX12_readAct_102 rfl ?_
        refine pw_bipush (v := nI 49) 105 rfl dX12_readAct_103 rfl ?_
        refine pw_bipush (v := nI 9) 107 rfl dX12_readAct_105 rfl ?_
        refine pw_callVP (as := [_, _]) 110 rfl dX12_readAct_107 mX12_140 vX12_oneOf (m_oneOfBad (d := d + 1) d12 (rdV_ne (by omega))) (by first | rfl | assumption | exact rowS hh | exact mtS hm | exact ruS hr | exact mtA1 hm | exact mtA2 hm | exact mtA3 hm | exact mtA4 hm | exact mtA5 hm | exact mtA6 hm | exact mtA7 hm | exact ruA1 hr | exact ruA2 hr | exact ruA3 hr) rfl (by decide) ⟨rfl, by decide, by decide, show (parseMethodDescriptor yX12_oneOf.desc).map (fun d => d.parameters.length) = some 2 by decide +kernel⟩ (by omega) (by decide) (Nat.le_of_ble_eq_true rfl) rfl ?_
        refine pw_iconst (v := nI 1) 111 rfl dX12_readAct_110 rfl ?_
        first | refine pw_iaddN 112 rfl dX12_readAct_111 ?_ | refine pw_iadd 112 rfl dX12_readAct_111 ?_
        refine pw_iastN 113 rfl dX12_readAct_112 (by first | rfl | assumption | exact rowS hh | exact mtS hm | exact ruS hr | exact mtA1 hm | exact mtA2 hm | exact mtA3 hm | exact mtA4 hm | exact mtA5 hm | exact mtA6 hm | exact mtA7 hm | exact ruA1 hr | exact ruA2 hr | exact ruA3 hr) (by omega) (by first | decide | omega) ?_
        refine pw_vret dX12_readAct_113 ?_
        rotate_left
        refine ⟨rfl, Or.inr ⟨p + 1, p + 1, hw, by rw [uI_ne (by omega)]; exact d12, by rw [uI_ne (by omega), uI_ne (by omega), uI_ne (by omega)]; exact b11, by omega⟩, fun a j q1 q2 => by rw [uI_ne (by omega), uI_ne (by omega), uI_ne (by omega)]; exact f2 a j q1 q2, rfl, rfl⟩
      by_cases cs : c = 119 ∨ c = 102
      · rcases cs with rfl | rfl
        · refine pw_iload_n 84 rfl dX12_readAct_83 rfl ?_
          refine pw_bipush (v := nI 119) 86 rfl dX12_readAct_84 rfl ?_
          refine pw_icmp_eq (tgt := 95) 89 rfl dX12_readAct_86 rfl (fun h86 => ?_) (fun h86 => absurd (by rfl) h86)
          rotate_left
          exact third
        · refine pw_iload_n 84 rfl dX12_readAct_83 rfl ?_
          refine pw_bipush (v := nI 119) 86 rfl dX12_readAct_84 rfl ?_
          refine pw_icmp_eq (tgt := 95) 89 rfl dX12_readAct_86 rfl (fun h86 => absurd h86 (by decide)) (fun h86 => ?_)
          refine pw_iload_n 90 rfl dX12_readAct_89 rfl ?_
          refine pw_bipush (v := nI 102) 92 rfl dX12_readAct_90 rfl ?_
          refine pw_icmp_ne (tgt := 113) 95 rfl dX12_readAct_92 rfl (fun h92 => absurd (by rfl) h92) (fun h92 => ?_)
          rotate_left
          exact third
      · refine pw_iload_n 84 rfl dX12_readAct_83 rfl ?_
        refine pw_bipush (v := nI 119) 86 rfl dX12_readAct_84 rfl ?_
        refine pw_icmp_eq (tgt := 95) 89 rfl dX12_readAct_86 rfl (fun h86 => absurd h86 (by rw [nI_eq (by omega) (by decide)]; omega)) (fun h86 => ?_)
        refine pw_iload_n 90 rfl dX12_readAct_89 rfl ?_
        refine pw_bipush (v := nI 102) 92 rfl dX12_readAct_90 rfl ?_
        refine pw_icmp_ne (tgt := 113) 95 rfl dX12_readAct_92 rfl (fun h92 => ?_) (fun h92 => absurd h92 (by rw [nI_eq (by omega) (by decide)]; omega))
        refine pw_vret dX12_readAct_113 ?_
        rotate_left
        refine ⟨rfl, Or.inr ⟨p + 1, p + 1, hw, d12, by rw [uI_ne (by omega), uI_ne (by omega)]; exact b11, by omega⟩, fun a j q1 q2 => by rw [uI_ne (by omega), uI_ne (by omega)]; exact f2 a j q1 q2, rfl, rfl⟩
  by_cases c0 : p < min tx.length 60 ∧ isAc (tx.getD p 0) = true
  · obtain ⟨c0, hac⟩ := c0
    obtain ⟨c, hc⟩ : ∃ c, tx[p]? = some c := ⟨_, List.getElem?_eq_getElem hl⟩
    rw [getD_s hc] at hac
    have go := tail c hc c0 hac
    rw [dropc hc (by omega)] at hP
    refine pw_aload_n 1 rfl dX12_readAct_0 rfl ?_
    refine pw_callVP (as := []) 4 rfl dX12_readAct_1 mX12_128 vX12_here (m_here (d := d + 2) hP) (by first | rfl | assumption | exact rowS hh | exact mtS hm | exact ruS hr | exact mtA1 hm | exact mtA2 hm | exact mtA3 hm | exact mtA4 hm | exact mtA5 hm | exact mtA6 hm | exact mtA7 hm | exact ruA1 hr | exact ruA2 hr | exact ruA3 hr) rfl (by decide) ⟨rfl, by decide, by decide, show (parseMethodDescriptor yX12_here.desc).map (fun d => d.parameters.length) = some 0 by decide +kernel⟩ (by omega) (by decide) (Nat.le_of_ble_eq_true rfl) rfl ?_
    rotate_left
    show PW _ _ _ _ _ _ _ [.int (nI c)] _ _ _ _
    rcases isAc_b hac with rfl | rfl | rfl | rfl | rfl | rfl
    · refine pw_istore_n 5 rfl dX12_readAct_4 (by decide) ?_
      refine pw_iload_n 6 rfl dX12_readAct_5 rfl ?_
      refine pw_bipush (v := nI 110) 8 rfl dX12_readAct_6 rfl ?_
      refine pw_icmp_eq (tgt := 50) 11 rfl dX12_readAct_8 rfl (fun h8 => ?_) (fun h8 => absurd (by rfl) h8)
      rotate_left
      exact go
    · refine pw_istore_n 5 rfl dX12_readAct_4 (by decide) ?_
      refine pw_iload_n 6 rfl dX12_readAct_5 rfl ?_
      refine pw_bipush (v := nI 110) 8 rfl dX12_readAct_6 rfl ?_
      refine pw_icmp_eq (tgt := 50) 11 rfl dX12_readAct_8 rfl (fun h8 => absurd h8 (by decide)) (fun h8 => ?_)
      refine pw_iload_n 12 rfl dX12_readAct_11 rfl ?_
      refine pw_bipush (v := nI 115) 14 rfl dX12_readAct_12 rfl ?_
      refine pw_icmp_eq (tgt := 50) 17 rfl dX12_readAct_14 rfl (fun h14 => ?_) (fun h14 => absurd (by rfl) h14)
      rotate_left
      exact go
    · refine pw_istore_n 5 rfl dX12_readAct_4 (by decide) ?_
      refine pw_iload_n 6 rfl dX12_readAct_5 rfl ?_
      refine pw_bipush (v := nI 110) 8 rfl dX12_readAct_6 rfl ?_
      refine pw_icmp_eq (tgt := 50) 11 rfl dX12_readAct_8 rfl (fun h8 => absurd h8 (by decide)) (fun h8 => ?_)
      refine pw_iload_n 12 rfl dX12_readAct_11 rfl ?_
      refine pw_bipush (v := nI 115) 14 rfl dX12_readAct_12 rfl ?_
      refine pw_icmp_eq (tgt := 50) 17 rfl dX12_readAct_14 rfl (fun h14 => absurd h14 (by decide)) (fun h14 => ?_)
      refine pw_iload_n 18 rfl dX12_readAct_17 rfl ?_
      refine pw_bipush (v := nI 98) 20 rfl dX12_readAct_18 rfl ?_
      refine pw_icmp_eq (tgt := 50) 23 rfl dX12_readAct_20 rfl (fun h20 => ?_) (fun h20 => absurd (by rfl) h20)
      rotate_left
      exact go
    · refine pw_istore_n 5 rfl dX12_readAct_4 (by decide) ?_
      refine pw_iload_n 6 rfl dX12_readAct_5 rfl ?_
      refine pw_bipush (v := nI 110) 8 rfl dX12_readAct_6 rfl ?_
      refine pw_icmp_eq (tgt := 50) 11 rfl dX12_readAct_8 rfl (fun h8 => absurd h8 (by decide)) (fun h8 => ?_)
      refine pw_iload_n 12 rfl dX12_readAct_11 rfl ?_
      refine pw_bipush (v := nI 115) 14 rfl dX12_readAct_12 rfl ?_
      refine pw_icmp_eq (tgt := 50) 17 rfl dX12_readAct_14 rfl (fun h14 => absurd h14 (by decide)) (fun h14 => ?_)
      refine pw_iload_n 18 rfl dX12_readAct_17 rfl ?_
      refine pw_bipush (v := nI 98) 20 rfl dX12_readAct_18 rfl ?_
      refine pw_icmp_eq (tgt := 50) 23 rfl dX12_readAct_20 rfl (fun h20 => absurd h20 (by decide)) (fun h20 => ?_)
      refine pw_iload_n 24 rfl dX12_readAct_23 rfl ?_
      refine pw_bipush (v := nI 119) 26 rfl dX12_readAct_24 rfl ?_
      refine pw_icmp_eq (tgt := 50) 29 rfl dX12_readAct_26 rfl (fun h26 => ?_) (fun h26 => absurd (by rfl) h26)
      rotate_left
      exact go
    · refine pw_istore_n 5 rfl dX12_readAct_4 (by decide) ?_
      refine pw_iload_n 6 rfl dX12_readAct_5 rfl ?_
      refine pw_bipush (v := nI 110) 8 rfl dX12_readAct_6 rfl ?_
      refine pw_icmp_eq (tgt := 50) 11 rfl dX12_readAct_8 rfl (fun h8 => absurd h8 (by decide)) (fun h8 => ?_)
      refine pw_iload_n 12 rfl dX12_readAct_11 rfl ?_
      refine pw_bipush (v := nI 115) 14 rfl dX12_readAct_12 rfl ?_
      refine pw_icmp_eq (tgt := 50) 17 rfl dX12_readAct_14 rfl (fun h14 => absurd h14 (by decide)) (fun h14 => ?_)
      refine pw_iload_n 18 rfl dX12_readAct_17 rfl ?_
      refine pw_bipush (v := nI 98) 20 rfl dX12_readAct_18 rfl ?_
      refine pw_icmp_eq (tgt := 50) 23 rfl dX12_readAct_20 rfl (fun h20 => absurd h20 (by decide)) (fun h20 => ?_)
      refine pw_iload_n 24 rfl dX12_readAct_23 rfl ?_
      refine pw_bipush (v := nI 119) 26 rfl dX12_readAct_24 rfl ?_
      refine pw_icmp_eq (tgt := 50) 29 rfl dX12_readAct_26 rfl (fun h26 => absurd h26 (by decide)) (fun h26 => ?_)
      refine pw_iload_n 30 rfl dX12_readAct_29 rfl ?_
      refine pw_bipush (v := nI 102) 32 rfl dX12_readAct_30 rfl ?_
      refine pw_icmp_eq (tgt := 50) 35 rfl dX12_readAct_32 rfl (fun h32 => ?_) (fun h32 => absurd (by rfl) h32)
      rotate_left
      exact go
    · refine pw_istore_n 5 rfl dX12_readAct_4 (by decide) ?_
      refine pw_iload_n 6 rfl dX12_readAct_5 rfl ?_
      refine pw_bipush (v := nI 110) 8 rfl dX12_readAct_6 rfl ?_
      refine pw_icmp_eq (tgt := 50) 11 rfl dX12_readAct_8 rfl (fun h8 => absurd h8 (by decide)) (fun h8 => ?_)
      refine pw_iload_n 12 rfl dX12_readAct_11 rfl ?_
      refine pw_bipush (v := nI 115) 14 rfl dX12_readAct_12 rfl ?_
      refine pw_icmp_eq (tgt := 50) 17 rfl dX12_readAct_14 rfl (fun h14 => absurd h14 (by decide)) (fun h14 => ?_)
      refine pw_iload_n 18 rfl dX12_readAct_17 rfl ?_
      refine pw_bipush (v := nI 98) 20 rfl dX12_readAct_18 rfl ?_
      refine pw_icmp_eq (tgt := 50) 23 rfl dX12_readAct_20 rfl (fun h20 => absurd h20 (by decide)) (fun h20 => ?_)
      refine pw_iload_n 24 rfl dX12_readAct_23 rfl ?_
      refine pw_bipush (v := nI 119) 26 rfl dX12_readAct_24 rfl ?_
      refine pw_icmp_eq (tgt := 50) 29 rfl dX12_readAct_26 rfl (fun h26 => absurd h26 (by decide)) (fun h26 => ?_)
      refine pw_iload_n 30 rfl dX12_readAct_29 rfl ?_
      refine pw_bipush (v := nI 102) 32 rfl dX12_readAct_30 rfl ?_
      refine pw_icmp_eq (tgt := 50) 35 rfl dX12_readAct_32 rfl (fun h32 => absurd h32 (by decide)) (fun h32 => ?_)
      refine pw_iload_n 36 rfl dX12_readAct_35 rfl ?_
      refine pw_bipush (v := nI 116) 38 rfl dX12_readAct_36 rfl ?_
      refine pw_icmp_eq (tgt := 50) 41 rfl dX12_readAct_38 rfl (fun h38 => ?_) (fun h38 => absurd (by rfl) h38)
      rotate_left
      exact go
  · have hw : wrD tx = some p := wrD_at (j := 0) hb (by omega) hg hp (fun cc => by
      show isAc (tx.getD p 0) = false
      cases e1 : isAc (tx.getD p 0)
      · rfl
      · exact absurd ⟨cc, e1⟩ c0) hl
    have hv : ∀ x, isAc x = true → x < 256 → ¬ hdV ((tx.take 60).drop p) = nI x := by
      intro x hx hx2 z
      by_cases cc : p < min tx.length 60
      · obtain ⟨y, hy⟩ : ∃ y, tx[p]? = some y := ⟨_, List.getElem?_eq_getElem hl⟩
        rw [dropc hy (by omega)] at z hP
        have hy2 := MP_lt hP
        have z' : nI y = nI x := z
        rw [nI_eq (by omega) (by omega)] at z'
        exact c0 ⟨cc, by rw [getD_s hy, z']; exact hx⟩
      · rw [List.drop_of_length_le (by omega)] at z
        exact nI_pos (show x < 2 ^ 31 by omega) (by rw [← z]; show (-1 : Int32) < 0; decide)
    refine pw_aload_n 1 rfl dX12_readAct_0 rfl ?_
    refine pw_callVP (as := []) 4 rfl dX12_readAct_1 mX12_128 vX12_here (m_here (d := d + 2) hP) (by first | rfl | assumption | exact rowS hh | exact mtS hm | exact ruS hr | exact mtA1 hm | exact mtA2 hm | exact mtA3 hm | exact mtA4 hm | exact mtA5 hm | exact mtA6 hm | exact mtA7 hm | exact ruA1 hr | exact ruA2 hr | exact ruA3 hr) rfl (by decide) ⟨rfl, by decide, by decide, show (parseMethodDescriptor yX12_here.desc).map (fun d => d.parameters.length) = some 0 by decide +kernel⟩ (by omega) (by decide) (Nat.le_of_ble_eq_true rfl) rfl ?_
    refine pw_istore_n 5 rfl dX12_readAct_4 (by decide) ?_
    refine pw_iload_n 6 rfl dX12_readAct_5 rfl ?_
    refine pw_bipush (v := nI 110) 8 rfl dX12_readAct_6 rfl ?_
    refine pw_icmp_eq (tgt := 50) 11 rfl dX12_readAct_8 rfl (fun h8 => absurd h8 (hv 110 rfl (by decide))) (fun h8 => ?_)
    refine pw_iload_n 12 rfl dX12_readAct_11 rfl ?_
    refine pw_bipush (v := nI 115) 14 rfl dX12_readAct_12 rfl ?_
    refine pw_icmp_eq (tgt := 50) 17 rfl dX12_readAct_14 rfl (fun h14 => absurd h14 (hv 115 rfl (by decide))) (fun h14 => ?_)
    refine pw_iload_n 18 rfl dX12_readAct_17 rfl ?_
    refine pw_bipush (v := nI 98) 20 rfl dX12_readAct_18 rfl ?_
    refine pw_icmp_eq (tgt := 50) 23 rfl dX12_readAct_20 rfl (fun h20 => absurd h20 (hv 98 rfl (by decide))) (fun h20 => ?_)
    refine pw_iload_n 24 rfl dX12_readAct_23 rfl ?_
    refine pw_bipush (v := nI 119) 26 rfl dX12_readAct_24 rfl ?_
    refine pw_icmp_eq (tgt := 50) 29 rfl dX12_readAct_26 rfl (fun h26 => absurd h26 (hv 119 rfl (by decide))) (fun h26 => ?_)
    refine pw_iload_n 30 rfl dX12_readAct_29 rfl ?_
    refine pw_bipush (v := nI 102) 32 rfl dX12_readAct_30 rfl ?_
    refine pw_icmp_eq (tgt := 50) 35 rfl dX12_readAct_32 rfl (fun h32 => absurd h32 (hv 102 rfl (by decide))) (fun h32 => ?_)
    refine pw_iload_n 36 rfl dX12_readAct_35 rfl ?_
    refine pw_bipush (v := nI 116) 38 rfl dX12_readAct_36 rfl ?_
    refine pw_icmp_eq (tgt := 50) 41 rfl dX12_readAct_38 rfl (fun h38 => absurd h38 (hv 116 rfl (by decide))) (fun h38 => ?_)
    refine pw_aload_n 42 rfl dX12_readAct_41 rfl ?_
    refine pw_aload_n 43 rfl dX12_readAct_42 rfl ?_
    refine pw_getI 46 rfl dX12_readAct_43 fX12_114 (by first | rfl | assumption | exact rowS hh | exact mtS hm | exact ruS hr | exact mtA1 hm | exact mtA2 hm | exact mtA3 hm | exact mtA4 hm | exact mtA5 hm | exact mtA6 hm | exact mtA7 hm | exact ruA1 hr | exact ruA2 hr | exact ruA3 hr) rfl ?_
    rotate_left
    rw [h11]
    refine pw_callV (as := [_]) 49 rfl dX12_readAct_46 mX12_136 vX12_fault (m_fault (d := d + 1) h12) (by first | rfl | assumption | exact rowS hh | exact mtS hm | exact ruS hr | exact mtA1 hm | exact mtA2 hm | exact mtA3 hm | exact mtA4 hm | exact mtA5 hm | exact mtA6 hm | exact mtA7 hm | exact ruA1 hr | exact ruA2 hr | exact ruA3 hr) rfl (by decide) ⟨rfl, by decide, by decide, show (parseMethodDescriptor yX12_fault.desc).map (fun d => d.parameters.length) = some 1 by decide +kernel⟩ (by omega) (by decide) (Nat.le_of_ble_eq_true rfl) rfl (fun r46 I46 J46 R46 c46 => ?_)
    obtain ⟨rfl, rfl, rfl, rfl⟩ := c46
    refine pw_vret dX12_readAct_49 ?_
    rotate_left
    refine ⟨rfl, Or.inr ⟨p, p, hw, uI_eq _ _ _ _, by rw [uI_ne (by omega)]; exact h11, by omega⟩, fun a j q1 q2 => uI_ne (by omega), rfl, rfl⟩
set_option maxRecDepth 100000 in
set_option maxHeartbeats 2000000 in
theorem m_act {d n c x y g : Nat} {v3 : Int32} {pc b : Nat → Nat} {E : (Nat → Int32) → Nat} {rd : Option Nat} {I : pI} {J : pJ} (hC : MC I n pc) (hB : MB I 1 b) (hW : WN n pc b) (hE : MSt 236 (some 6) I E) (hD : MDg (g + 1000) I) (hc : isAc c = true) (hx : x ≤ 9) (hy : sgA c = 3 → (1 ≤ y ∧ y ≤ 9) ∧ v3 = nI y) : PC SM (d + 239) yX12_act cX12_act 4 (some .boolean) [.ref 0, .int (nI c), .int (nI x), .int v3] (I) (J) (RM rd (some 6)) (fun r' I' J' R' => r' = some (.int (nI (if (actA n pc E c x y b).1 < 0 then 0 else 1))) ∧ MB I' 1 (actA n pc E c x y b).2 ∧ mFr 1 I I' ∧ MDg (g + 1000) I' ∧ J = J' ∧ ∃ rd', R' = RM rd' (some 6)) := by
  refine PC.of [some (.ref 0), some (.int (nI c)), some (.int (nI x)), some (.int v3)] rfl rfl (Nat.le_of_ble_eq_true rfl) ?_
  have h7 := hC.1
  have hn := hC.2.1
  have same : mFr 1 I I := fun _ _ _ _ _ _ _ => rfl
  have ht := hW.1.2.1
  have f1 : ∀ {I' : pI}, (∀ a j, a ≠ 1 → I' a j = I a j) → mFr 1 I I' ∧ MDg (g + 1000) I' := fun {I'} h => ⟨fun a j q1 _ _ _ _ => h a j q1, MDg_f hD (h _ _ (by omega)) (fun j => h _ _ (by omega))⟩
  rcases isAc_b hc with rfl | rfl | rfl | rfl | rfl | rfl
  · have ea : actA n pc E 110 x y b = (nI (cdn n pc E b x), hrs n pc E x b) := if_pos rfl
    have hcl := cdn_le n pc E b x
    rw [ea, if_neg (show ¬ (nI (cdn n pc E b x), hrs n pc E x b).1 < 0 from nI_pos (by omega))]
    refine pw_iload_n 1 rfl dX12_act_0 rfl ?_
    refine pw_lookup (tgt := 52) (off := 51) dX12_act_1 (by decide) (by decide) rfl ?_
    refine pw_aload_n 53 rfl dX12_act_52 rfl ?_
    refine pw_aload_n 54 rfl dX12_act_53 rfl ?_
    refine pw_getR 57 rfl dX12_act_54 fX12_9 (by first | rfl | assumption | exact rowS hh | exact mtS hm | exact ruS hr | exact mtA1 hm | exact mtA2 hm | exact mtA3 hm | exact mtA4 hm | exact mtA5 hm | exact mtA6 hm | exact mtA7 hm | exact ruA1 hr | exact ruA2 hr | exact ruA3 hr) rfl (by first | rfl | assumption | exact mtR0 hm | exact mtR1 hm | exact mtR2 hm | exact mtR3 hm | exact mtR4 hm | exact mtR5 hm | exact mtR6 hm | exact ruR0 hr | exact ruR1 hr | exact ruR3 hr) ?_
    refine pw_iload_n 58 rfl dX12_act_57 rfl ?_
    refine pw_callV (as := [_, _]) 61 rfl dX12_act_58 mX12_233 vX12_goHours (m_goHours (d := d) (Or.inl rfl) hC hB hW.1 hE (show x ≤ 100 by omega)) (by first | rfl | assumption | exact rowS hh | exact mtS hm | exact ruS hr | exact mtA1 hm | exact mtA2 hm | exact mtA3 hm | exact mtA4 hm | exact mtA5 hm | exact mtA6 hm | exact mtA7 hm | exact ruA1 hr | exact ruA2 hr | exact ruA3 hr) rfl (by decide) ⟨rfl, by decide, by decide, show (parseMethodDescriptor yX12_goHours.desc).map (fun d => d.parameters.length) = some 2 by decide +kernel⟩ (by omega) (by decide) (Nat.le_of_ble_eq_true rfl) rfl (fun r58 I58 J58 R58 c58 => ?_)
    obtain ⟨rfl, p1, p2, p3, rfl, rd2, rfl⟩ := c58
    rotate_left
    refine pw_iconst (v := nI 1) 62 rfl dX12_act_61 rfl ?_
    refine pw_iret dX12_act_62 rfl ?_
    rotate_left
    have hdl := dlA_le h7 pc E b (show x ≤ 100 by omega)
    exact ⟨rfl, p1, p2, ⟨_, p3, by omega⟩, rfl, rd2, rfl⟩
  · have ea : actA n pc E 115 x y b = aSet n b (nI x) := rfl
    rw [ea]
    refine pw_iload_n 1 rfl dX12_act_0 rfl ?_
    refine pw_lookup (tgt := 63) (off := 62) dX12_act_1 (by decide) (by decide) rfl ?_
    refine pw_aload_n 64 rfl dX12_act_63 rfl ?_
    refine pw_aload_n 65 rfl dX12_act_64 rfl ?_
    refine pw_getR 68 rfl dX12_act_65 fX12_9 (by first | rfl | assumption | exact rowS hh | exact mtS hm | exact ruS hr | exact mtA1 hm | exact mtA2 hm | exact mtA3 hm | exact mtA4 hm | exact mtA5 hm | exact mtA6 hm | exact mtA7 hm | exact ruA1 hr | exact ruA2 hr | exact ruA3 hr) rfl (by first | rfl | assumption | exact mtR0 hm | exact mtR1 hm | exact mtR2 hm | exact mtR3 hm | exact mtR4 hm | exact mtR5 hm | exact mtR6 hm | exact ruR0 hr | exact ruR1 hr | exact ruR3 hr) ?_
    refine pw_iload_n 69 rfl dX12_act_68 rfl ?_
    refine pw_callVP (as := [_, _]) 72 rfl dX12_act_69 mX12_249 vX12_refusesStart (m_refusesStart (d := d + 236) (Or.inl rfl) hn h7 (WF_way hW.1) hB _) (by first | rfl | assumption | exact rowS hh | exact mtS hm | exact ruS hr | exact mtA1 hm | exact mtA2 hm | exact mtA3 hm | exact mtA4 hm | exact mtA5 hm | exact mtA6 hm | exact mtA7 hm | exact ruA1 hr | exact ruA2 hr | exact ruA3 hr) rfl (by decide) ⟨rfl, by decide, by decide, show (parseMethodDescriptor yX12_refusesStart.desc).map (fun d => d.parameters.length) = some 2 by decide +kernel⟩ (by omega) (by decide) (Nat.le_of_ble_eq_true rfl) rfl ?_
    rotate_left
    rcases qOf_cases h7 (nI x) with ⟨q, hq, e, hi, hv⟩ | ⟨hi, hv⟩
    · have eq : x = q := (nI_eq (by omega) (by omega)).mp e
      subst eq
      rw [show rfS n b (nI x) = if b (7 + x) = 0 then nI 0 else -2 from by unfold rfS; rw [hi], aSet_q hi]
      by_cases c : b (7 + x) = 0
      · rw [if_pos c, if_pos c, if_neg (show ¬ (nI (onW n (bu b (7 + x) 1)), bu b (7 + x) 1).1 < 0 from nI_pos (Nat.lt_of_le_of_lt (popc_le _) (by decide)))]
        refine pw_if_ge (tgt := 77) 75 rfl dX12_act_72 rfl (fun h72 => ?_) (fun h72 => absurd (by decide) h72)
        refine pw_aload_n 78 rfl dX12_act_77 rfl ?_
        refine pw_getR 81 rfl dX12_act_78 fX12_9 (by first | rfl | assumption | exact rowS hh | exact mtS hm | exact ruS hr | exact mtA1 hm | exact mtA2 hm | exact mtA3 hm | exact mtA4 hm | exact mtA5 hm | exact mtA6 hm | exact mtA7 hm | exact ruA1 hr | exact ruA2 hr | exact ruA3 hr) rfl (by first | rfl | assumption | exact mtR0 hm | exact mtR1 hm | exact mtR2 hm | exact mtR3 hm | exact mtR4 hm | exact mtR5 hm | exact mtR6 hm | exact ruR0 hr | exact ruR1 hr | exact ruR3 hr) ?_
        refine pw_bipush (v := nI 7) 83 rfl dX12_act_81 rfl ?_
        refine pw_iload_n 84 rfl dX12_act_83 rfl ?_
        first | refine pw_iaddN 85 rfl dX12_act_84 ?_ | refine pw_iadd 85 rfl dX12_act_84 ?_
        refine pw_iconst (v := nI 1) 86 rfl dX12_act_85 rfl ?_
        refine pw_iastN 87 rfl dX12_act_86 (by first | rfl | assumption | exact rowS hh | exact mtS hm | exact ruS hr | exact mtA1 hm | exact mtA2 hm | exact mtA3 hm | exact mtA4 hm | exact mtA5 hm | exact mtA6 hm | exact mtA7 hm | exact ruA1 hr | exact ruA2 hr | exact ruA3 hr) (by omega) (by first | decide | omega) ?_
        refine pw_iconst (v := nI 1) 88 rfl dX12_act_87 rfl ?_
        refine pw_iret dX12_act_88 rfl ?_
        rotate_left
        obtain ⟨u1, u2⟩ := f1 (I' := uI I 1 (7 + x) (nI 1)) (fun a j q => uI_ne (by omega))
        exact ⟨rfl, MB_bu hB, u1, u2, rfl, rd, rfl⟩
      · rw [if_neg c, if_neg c, if_pos (show ((-2 : Int32), b).1 < 0 by show (-2 : Int32) < 0; decide)]
        refine pw_if_ge (tgt := 77) 75 rfl dX12_act_72 rfl (fun h72 => absurd h72 (by decide)) (fun h72 => ?_)
        refine pw_iconst (v := nI 0) 76 rfl dX12_act_75 rfl ?_
        refine pw_iret dX12_act_76 rfl ?_
        rotate_left
        exact ⟨rfl, hB, same, hD, rfl, rd, rfl⟩
    · rw [show rfS n b (nI x) = -1 from by unfold rfS; rw [hi], aSet_0 hi, if_pos (show ((-1 : Int32), b).1 < 0 by show (-1 : Int32) < 0; decide)]
      refine pw_if_ge (tgt := 77) 75 rfl dX12_act_72 rfl (fun h72 => absurd h72 (by decide)) (fun h72 => ?_)
      refine pw_iconst (v := nI 0) 76 rfl dX12_act_75 rfl ?_
      refine pw_iret dX12_act_76 rfl ?_
      rotate_left
      exact ⟨rfl, hB, same, hD, rfl, rd, rfl⟩
  · have ea : actA n pc E 98 x y b = aTurn n b (nI x) := rfl
    rw [ea]
    refine pw_iload_n 1 rfl dX12_act_0 rfl ?_
    refine pw_lookup (tgt := 89) (off := 88) dX12_act_1 (by decide) (by decide) rfl ?_
    refine pw_aload_n 90 rfl dX12_act_89 rfl ?_
    refine pw_aload_n 91 rfl dX12_act_90 rfl ?_
    refine pw_getR 94 rfl dX12_act_91 fX12_9 (by first | rfl | assumption | exact rowS hh | exact mtS hm | exact ruS hr | exact mtA1 hm | exact mtA2 hm | exact mtA3 hm | exact mtA4 hm | exact mtA5 hm | exact mtA6 hm | exact mtA7 hm | exact ruA1 hr | exact ruA2 hr | exact ruA3 hr) rfl (by first | rfl | assumption | exact mtR0 hm | exact mtR1 hm | exact mtR2 hm | exact mtR3 hm | exact mtR4 hm | exact mtR5 hm | exact mtR6 hm | exact ruR0 hr | exact ruR1 hr | exact ruR3 hr) ?_
    refine pw_iload_n 95 rfl dX12_act_94 rfl ?_
    refine pw_callVP (as := [_, _]) 98 rfl dX12_act_95 mX12_252 vX12_refusesWay (m_refusesWay (d := d + 236) (Or.inl rfl) hn h7 (WF_way hW.1) hB _) (by first | rfl | assumption | exact rowS hh | exact mtS hm | exact ruS hr | exact mtA1 hm | exact mtA2 hm | exact mtA3 hm | exact mtA4 hm | exact mtA5 hm | exact mtA6 hm | exact mtA7 hm | exact ruA1 hr | exact ruA2 hr | exact ruA3 hr) rfl (by decide) ⟨rfl, by decide, by decide, show (parseMethodDescriptor yX12_refusesWay.desc).map (fun d => d.parameters.length) = some 2 by decide +kernel⟩ (by omega) (by decide) (Nat.le_of_ble_eq_true rfl) rfl ?_
    rotate_left
    rcases qOf_cases h7 (nI x) with ⟨q, hq, e, hi, hv⟩ | ⟨hi, hv⟩
    · have eq : x = q := (nI_eq (by omega) (by omega)).mp e
      subst eq
      have hb2 := WF_way hW.1 x (by omega)
      rw [show rfW n b (nI x) = if b (7 + x) = 0 then -2 else nI 0 from by unfold rfW; rw [hi], aTurn_q hi]
      by_cases c : b (7 + x) = 0
      · rw [if_pos c, if_pos c, if_pos (show ((-2 : Int32), b).1 < 0 by show (-2 : Int32) < 0; decide)]
        refine pw_if_ge (tgt := 103) 101 rfl dX12_act_98 rfl (fun h98 => absurd h98 (by decide)) (fun h98 => ?_)
        refine pw_iconst (v := nI 0) 102 rfl dX12_act_101 rfl ?_
        refine pw_iret dX12_act_102 rfl ?_
        rotate_left
        exact ⟨rfl, hB, same, hD, rfl, rd, rfl⟩
      · rw [if_neg c, if_neg c]
        have ea' : (if b (7 + x) = 1 then (nI 2, bu b (7 + x) 2) else (nI 1, bu b (7 + x) 1)) = (nI (3 - b (7 + x)), bu b (7 + x) (3 - b (7 + x))) := by
          by_cases c1 : b (7 + x) = 1
          · rw [if_pos c1, c1]
          · rw [if_neg c1, show b (7 + x) = 2 by omega]
        rw [ea', if_neg (show ¬ (nI (3 - b (7 + x)), bu b (7 + x) (3 - b (7 + x))).1 < 0 from nI_pos (by omega))]
        refine pw_if_ge (tgt := 103) 101 rfl dX12_act_98 rfl (fun h98 => ?_) (fun h98 => absurd (by decide) h98)
        refine pw_aload_n 104 rfl dX12_act_103 rfl ?_
        refine pw_getR 107 rfl dX12_act_104 fX12_9 (by first | rfl | assumption | exact rowS hh | exact mtS hm | exact ruS hr | exact mtA1 hm | exact mtA2 hm | exact mtA3 hm | exact mtA4 hm | exact mtA5 hm | exact mtA6 hm | exact mtA7 hm | exact ruA1 hr | exact ruA2 hr | exact ruA3 hr) rfl (by first | rfl | assumption | exact mtR0 hm | exact mtR1 hm | exact mtR2 hm | exact mtR3 hm | exact mtR4 hm | exact mtR5 hm | exact mtR6 hm | exact ruR0 hr | exact ruR1 hr | exact ruR3 hr) ?_
        refine pw_bipush (v := nI 7) 109 rfl dX12_act_107 rfl ?_
        refine pw_iload_n 110 rfl dX12_act_109 rfl ?_
        first | refine pw_iaddN 111 rfl dX12_act_110 ?_ | refine pw_iadd 111 rfl dX12_act_110 ?_
        refine pw_iconst (v := nI 3) 112 rfl dX12_act_111 rfl ?_
        refine pw_aload_n 113 rfl dX12_act_112 rfl ?_
        refine pw_getR 116 rfl dX12_act_113 fX12_9 (by first | rfl | assumption | exact rowS hh | exact mtS hm | exact ruS hr | exact mtA1 hm | exact mtA2 hm | exact mtA3 hm | exact mtA4 hm | exact mtA5 hm | exact mtA6 hm | exact mtA7 hm | exact ruA1 hr | exact ruA2 hr | exact ruA3 hr) rfl (by first | rfl | assumption | exact mtR0 hm | exact mtR1 hm | exact mtR2 hm | exact mtR3 hm | exact mtR4 hm | exact mtR5 hm | exact mtR6 hm | exact ruR0 hr | exact ruR1 hr | exact ruR3 hr) ?_
        refine pw_bipush (v := nI 7) 118 rfl dX12_act_116 rfl ?_
        refine pw_iload_n 119 rfl dX12_act_118 rfl ?_
        first | refine pw_iaddN 120 rfl dX12_act_119 ?_ | refine pw_iadd 120 rfl dX12_act_119 ?_
        refine pw_ialdN 121 rfl dX12_act_120 (by first | rfl | assumption | exact rowS hh | exact mtS hm | exact ruS hr | exact mtA1 hm | exact mtA2 hm | exact mtA3 hm | exact mtA4 hm | exact mtA5 hm | exact mtA6 hm | exact mtA7 hm | exact ruA1 hr | exact ruA2 hr | exact ruA3 hr) (by omega) (by first | decide | omega) ?_
        rotate_left
        rw [hB (7 + x) (by omega)]
        refine pw_isubN 122 rfl dX12_act_121 (by omega) ?_
        refine pw_iastN 123 rfl dX12_act_122 (by first | rfl | assumption | exact rowS hh | exact mtS hm | exact ruS hr | exact mtA1 hm | exact mtA2 hm | exact mtA3 hm | exact mtA4 hm | exact mtA5 hm | exact mtA6 hm | exact mtA7 hm | exact ruA1 hr | exact ruA2 hr | exact ruA3 hr) (by omega) (by first | decide | omega) ?_
        refine pw_iconst (v := nI 1) 124 rfl dX12_act_123 rfl ?_
        refine pw_iret dX12_act_124 rfl ?_
        rotate_left
        obtain ⟨u1, u2⟩ := f1 (I' := uI I 1 (7 + x) (nI (3 - b (7 + x)))) (fun a j q => uI_ne (by omega))
        exact ⟨rfl, MB_bu hB, u1, u2, rfl, rd, rfl⟩
    · rw [show rfW n b (nI x) = -1 from by unfold rfW; rw [hi], aTurn_0 hi, if_pos (show ((-1 : Int32), b).1 < 0 by show (-1 : Int32) < 0; decide)]
      refine pw_if_ge (tgt := 103) 101 rfl dX12_act_98 rfl (fun h98 => absurd h98 (by decide)) (fun h98 => ?_)
      refine pw_iconst (v := nI 0) 102 rfl dX12_act_101 rfl ?_
      refine pw_iret dX12_act_102 rfl ?_
      rotate_left
      exact ⟨rfl, hB, same, hD, rfl, rd, rfl⟩
  · have ea : actA n pc E 119 x y b = aWait n b (nI x) (nI y) := rfl
    obtain ⟨⟨y1, y9⟩, rfl⟩ := hy rfl
    rw [ea]
    refine pw_iload_n 1 rfl dX12_act_0 rfl ?_
    refine pw_lookup (tgt := 125) (off := 124) dX12_act_1 (by decide) (by decide) rfl ?_
    refine pw_aload_n 126 rfl dX12_act_125 rfl ?_
    refine pw_iload_n 127 rfl dX12_act_126 rfl ?_
    refine pw_iload_n 128 rfl dX12_act_127 rfl ?_
    refine pw_callVP (as := [_, _]) 131 rfl dX12_act_128 mX12_255 vX12_canWait (m_canWait (d := d + 236) hn h7 _ _) (by first | rfl | assumption | exact rowS hh | exact mtS hm | exact ruS hr | exact mtA1 hm | exact mtA2 hm | exact mtA3 hm | exact mtA4 hm | exact mtA5 hm | exact mtA6 hm | exact mtA7 hm | exact ruA1 hr | exact ruA2 hr | exact ruA3 hr) rfl (by decide) ⟨rfl, by decide, by decide, show (parseMethodDescriptor yX12_canWait.desc).map (fun d => d.parameters.length) = some 2 by decide +kernel⟩ (by omega) (by decide) (Nat.le_of_ble_eq_true rfl) rfl ?_
    rotate_left
    rcases qOf_cases h7 (nI x) with ⟨q, hq, e, hi, hv⟩ | ⟨hi, hv⟩
    · have eq : x = q := (nI_eq (by omega) (by omega)).mp e
      subst eq
      have hw14 := (hW.1.2.2.2.2 x (by omega)).2.2.2.1
      rw [if_pos ⟨(by rw [hi]; exact (fun z => by cases z)), (by rw [nOf_y y1 y9]; exact (fun z => by cases z))⟩, aWait_q hi (nOf_y y1 y9), if_neg (show ¬ (nI (min 99 (b (14 + x) + y)), bu b (14 + x) (min 99 (b (14 + x) + y))).1 < 0 from nI_pos (by omega))]
      refine pw_if_ne (tgt := 136) 134 rfl dX12_act_131 rfl (fun h131 => ?_) (fun h131 => absurd h131 (by decide))
      refine pw_aload_n 137 rfl dX12_act_136 rfl ?_
      refine pw_getR 140 rfl dX12_act_137 fX12_9 (by first | rfl | assumption | exact rowS hh | exact mtS hm | exact ruS hr | exact mtA1 hm | exact mtA2 hm | exact mtA3 hm | exact mtA4 hm | exact mtA5 hm | exact mtA6 hm | exact mtA7 hm | exact ruA1 hr | exact ruA2 hr | exact ruA3 hr) rfl (by first | rfl | assumption | exact mtR0 hm | exact mtR1 hm | exact mtR2 hm | exact mtR3 hm | exact mtR4 hm | exact mtR5 hm | exact mtR6 hm | exact ruR0 hr | exact ruR1 hr | exact ruR3 hr) ?_
      refine pw_iload_n 141 rfl dX12_act_140 rfl ?_
      refine pw_iload_n 142 rfl dX12_act_141 rfl ?_
      refine pw_callS (as := [_, _, _]) 145 rfl dX12_act_142 mX12_259 sX12_goWait (m_goWait (d := d + 237) (Or.inl rfl) (show x < 7 by omega) (by omega) (by omega) hB) ⟨rfl, by decide, by decide, show (parseMethodDescriptor yX12_goWait.desc).map (fun d => d.parameters.length) = some 3 by decide +kernel⟩ (by omega) (by decide) (Nat.le_of_ble_eq_true rfl) rfl (fun r142 I142 J142 R142 c142 => ?_)
      obtain ⟨rfl, t1, t2, rfl, rfl⟩ := c142
      rotate_left
      refine pw_iconst (v := nI 1) 146 rfl dX12_act_145 rfl ?_
      refine pw_iret dX12_act_146 rfl ?_
      rotate_left
      obtain ⟨u1, u2⟩ := f1 t2
      exact ⟨rfl, t1, u1, u2, rfl, rd, rfl⟩
    · rw [if_neg (fun z => z.1 hi), aWait_0 hi, if_pos (show ((-1 : Int32), b).1 < 0 by show (-1 : Int32) < 0; decide)]
      refine pw_if_ne (tgt := 136) 134 rfl dX12_act_131 rfl (fun h131 => absurd (by rfl) h131) (fun h131 => ?_)
      refine pw_iconst (v := nI 0) 135 rfl dX12_act_134 rfl ?_
      refine pw_iret dX12_act_135 rfl ?_
      rotate_left
      exact ⟨rfl, hB, same, hD, rfl, rd, rfl⟩
  · have ea : actA n pc E 102 x y b = aSlip n b (nI x) (nI y) := rfl
    obtain ⟨⟨y1, y9⟩, rfl⟩ := hy rfl
    rw [ea]
    refine pw_iload_n 1 rfl dX12_act_0 rfl ?_
    refine pw_lookup (tgt := 147) (off := 146) dX12_act_1 (by decide) (by decide) rfl ?_
    refine pw_aload_n 148 rfl dX12_act_147 rfl ?_
    refine pw_aload_n 149 rfl dX12_act_148 rfl ?_
    refine pw_getR 152 rfl dX12_act_149 fX12_9 (by first | rfl | assumption | exact rowS hh | exact mtS hm | exact ruS hr | exact mtA1 hm | exact mtA2 hm | exact mtA3 hm | exact mtA4 hm | exact mtA5 hm | exact mtA6 hm | exact mtA7 hm | exact ruA1 hr | exact ruA2 hr | exact ruA3 hr) rfl (by first | rfl | assumption | exact mtR0 hm | exact mtR1 hm | exact mtR2 hm | exact mtR3 hm | exact mtR4 hm | exact mtR5 hm | exact mtR6 hm | exact ruR0 hr | exact ruR1 hr | exact ruR3 hr) ?_
    refine pw_iload_n 153 rfl dX12_act_152 rfl ?_
    refine pw_iload_n 154 rfl dX12_act_153 rfl ?_
    refine pw_callVP (as := [_, _, _]) 157 rfl dX12_act_154 mX12_263 vX12_refusesSlip (m_refusesSlip (d := d + 236) (Or.inl rfl) hn h7 (WF_way hW.1) hB _ _) (by first | rfl | assumption | exact rowS hh | exact mtS hm | exact ruS hr | exact mtA1 hm | exact mtA2 hm | exact mtA3 hm | exact mtA4 hm | exact mtA5 hm | exact mtA6 hm | exact mtA7 hm | exact ruA1 hr | exact ruA2 hr | exact ruA3 hr) rfl (by decide) ⟨rfl, by decide, by decide, show (parseMethodDescriptor yX12_refusesSlip.desc).map (fun d => d.parameters.length) = some 3 by decide +kernel⟩ (by omega) (by decide) (Nat.le_of_ble_eq_true rfl) rfl ?_
    rotate_left
    rcases qOf_cases h7 (nI x) with ⟨q, hq, e, hi, hv⟩ | ⟨hi, hv⟩
    · have eq : x = q := (nI_eq (by omega) (by omega)).mp e
      subst eq
      have hbq := (hW.1.2.2.2.2 x (by omega)).2.1
      have hno := nOf_y y1 y9
      rw [show rfF n b (nI x) (nI y) = if b (7 + x) = 0 then -2 else nI 0 from by unfold rfF; simp only [hi, hno], aSlip_q hi hno]
      by_cases c : b (7 + x) = 0
      · rw [if_pos c, if_pos c, if_pos (show ((-2 : Int32), b).1 < 0 by show (-2 : Int32) < 0; decide)]
        refine pw_if_ge (tgt := 162) 160 rfl dX12_act_157 rfl (fun h157 => absurd h157 (by decide)) (fun h157 => ?_)
        refine pw_iconst (v := nI 0) 161 rfl dX12_act_160 rfl ?_
        refine pw_iret dX12_act_161 rfl ?_
        rotate_left
        exact ⟨rfl, hB, same, hD, rfl, rd, rfl⟩
      · rw [if_neg c, if_neg c, if_neg (show ¬ (nI (b x - y), bu (bu b x (b x - y)) (7 + x) 2).1 < 0 from nI_pos (by omega))]
        refine pw_if_ge (tgt := 162) 160 rfl dX12_act_157 rfl (fun h157 => ?_) (fun h157 => absurd (by decide) h157)
        refine pw_aload_n 163 rfl dX12_act_162 rfl ?_
        refine pw_getR 166 rfl dX12_act_163 fX12_9 (by first | rfl | assumption | exact rowS hh | exact mtS hm | exact ruS hr | exact mtA1 hm | exact mtA2 hm | exact mtA3 hm | exact mtA4 hm | exact mtA5 hm | exact mtA6 hm | exact mtA7 hm | exact ruA1 hr | exact ruA2 hr | exact ruA3 hr) rfl (by first | rfl | assumption | exact mtR0 hm | exact mtR1 hm | exact mtR2 hm | exact mtR3 hm | exact mtR4 hm | exact mtR5 hm | exact mtR6 hm | exact ruR0 hr | exact ruR1 hr | exact ruR3 hr) ?_
        refine pw_iload_n 167 rfl dX12_act_166 rfl ?_
        refine pw_iload_n 168 rfl dX12_act_167 rfl ?_
        refine pw_callS (as := [_, _, _]) 171 rfl dX12_act_168 mX12_267 sX12_goSlip (m_goSlip (d := d + 237) (Or.inl rfl) (show x < 7 by omega) (by omega) (by omega) hB) ⟨rfl, by decide, by decide, show (parseMethodDescriptor yX12_goSlip.desc).map (fun d => d.parameters.length) = some 3 by decide +kernel⟩ (by omega) (by decide) (Nat.le_of_ble_eq_true rfl) rfl (fun r168 I168 J168 R168 c168 => ?_)
        obtain ⟨rfl, t1, t2, rfl, rfl⟩ := c168
        rotate_left
        refine pw_iconst (v := nI 1) 172 rfl dX12_act_171 rfl ?_
        refine pw_iret dX12_act_172 rfl ?_
        rotate_left
        obtain ⟨u1, u2⟩ := f1 t2
        exact ⟨rfl, t1, u1, u2, rfl, rd, rfl⟩
    · rw [show rfF n b (nI x) (nI y) = -1 from by unfold rfF; rw [hi], aSlip_0 hi, if_pos (show ((-1 : Int32), b).1 < 0 by show (-1 : Int32) < 0; decide)]
      refine pw_if_ge (tgt := 162) 160 rfl dX12_act_157 rfl (fun h157 => absurd h157 (by decide)) (fun h157 => ?_)
      refine pw_iconst (v := nI 0) 161 rfl dX12_act_160 rfl ?_
      refine pw_iret dX12_act_161 rfl ?_
      rotate_left
      exact ⟨rfl, hB, same, hD, rfl, rd, rfl⟩
  · have ea : actA n pc E 116 x y b = aTop n b (nI x) := rfl
    rw [ea]
    refine pw_iload_n 1 rfl dX12_act_0 rfl ?_
    refine pw_lookup (tgt := 173) (off := 172) dX12_act_1 (by decide) (by decide) rfl ?_
    refine pw_aload_n 174 rfl dX12_act_173 rfl ?_
    refine pw_iload_n 175 rfl dX12_act_174 rfl ?_
    refine pw_callVP (as := [_]) 178 rfl dX12_act_175 mX12_198 vX12_refusesTop (m_refusesTop (d := d + 237) hn hW.1 hB _) (by first | rfl | assumption | exact rowS hh | exact mtS hm | exact ruS hr | exact mtA1 hm | exact mtA2 hm | exact mtA3 hm | exact mtA4 hm | exact mtA5 hm | exact mtA6 hm | exact mtA7 hm | exact ruA1 hr | exact ruA2 hr | exact ruA3 hr) rfl (by decide) ⟨rfl, by decide, by decide, show (parseMethodDescriptor yX12_refusesTop.desc).map (fun d => d.parameters.length) = some 1 by decide +kernel⟩ (by omega) (by decide) (Nat.le_of_ble_eq_true rfl) rfl ?_
    rotate_left
    rcases tOf_cases (nI x) with ⟨t, h2, h9, e, hi⟩ | ⟨hi, ho⟩
    · have eq : x = t := (nI_eq (by omega) (by omega)).mp e
      subst eq
      rw [show rfT n b (nI x) = if x = b 28 then -2 else if x < mxf b n then -3 else nI 0 from by unfold rfT; rw [hi], aTop_q hi]
      by_cases c1 : x = b 28
      · rw [if_pos c1, if_pos c1, if_pos (show ((-2 : Int32), b).1 < 0 by show (-2 : Int32) < 0; decide)]
        refine pw_if_ge (tgt := 183) 181 rfl dX12_act_178 rfl (fun h178 => absurd h178 (by decide)) (fun h178 => ?_)
        refine pw_iconst (v := nI 0) 182 rfl dX12_act_181 rfl ?_
        refine pw_iret dX12_act_182 rfl ?_
        rotate_left
        exact ⟨rfl, hB, same, hD, rfl, rd, rfl⟩
      · rw [if_neg c1, if_neg c1]
        by_cases c2 : x < mxf b n
        · rw [if_pos c2, if_pos c2, if_pos (show ((-3 : Int32), b).1 < 0 by show (-3 : Int32) < 0; decide)]
          refine pw_if_ge (tgt := 183) 181 rfl dX12_act_178 rfl (fun h178 => absurd h178 (by decide)) (fun h178 => ?_)
          refine pw_iconst (v := nI 0) 182 rfl dX12_act_181 rfl ?_
          refine pw_iret dX12_act_182 rfl ?_
          rotate_left
          exact ⟨rfl, hB, same, hD, rfl, rd, rfl⟩
        · rw [if_neg c2, if_neg c2, if_neg (show ¬ (nI (10 + b 28), bu b 28 x).1 < 0 from nI_pos (by omega))]
          refine pw_if_ge (tgt := 183) 181 rfl dX12_act_178 rfl (fun h178 => ?_) (fun h178 => absurd (by decide) h178)
          refine pw_aload_n 184 rfl dX12_act_183 rfl ?_
          refine pw_getR 187 rfl dX12_act_184 fX12_9 (by first | rfl | assumption | exact rowS hh | exact mtS hm | exact ruS hr | exact mtA1 hm | exact mtA2 hm | exact mtA3 hm | exact mtA4 hm | exact mtA5 hm | exact mtA6 hm | exact mtA7 hm | exact ruA1 hr | exact ruA2 hr | exact ruA3 hr) rfl (by first | rfl | assumption | exact mtR0 hm | exact mtR1 hm | exact mtR2 hm | exact mtR3 hm | exact mtR4 hm | exact mtR5 hm | exact mtR6 hm | exact ruR0 hr | exact ruR1 hr | exact ruR3 hr) ?_
          refine pw_bipush (v := nI 28) 189 rfl dX12_act_187 rfl ?_
          refine pw_iload_n 190 rfl dX12_act_189 rfl ?_
          refine pw_iastN 191 rfl dX12_act_190 (by first | rfl | assumption | exact rowS hh | exact mtS hm | exact ruS hr | exact mtA1 hm | exact mtA2 hm | exact mtA3 hm | exact mtA4 hm | exact mtA5 hm | exact mtA6 hm | exact mtA7 hm | exact ruA1 hr | exact ruA2 hr | exact ruA3 hr) (by omega) (by first | decide | omega) ?_
          refine pw_iconst (v := nI 1) 192 rfl dX12_act_191 rfl ?_
          refine pw_iret dX12_act_192 rfl ?_
          rotate_left
          obtain ⟨u1, u2⟩ := f1 (I' := uI I 1 28 (nI x)) (fun a j q => uI_ne (by omega))
          exact ⟨rfl, MB_bu hB, u1, u2, rfl, rd, rfl⟩
    · rw [show rfT n b (nI x) = -1 from by unfold rfT; rw [hi], aTop_0 hi, if_pos (show ((-1 : Int32), b).1 < 0 by show (-1 : Int32) < 0; decide)]
      refine pw_if_ge (tgt := 183) 181 rfl dX12_act_178 rfl (fun h178 => absurd h178 (by decide)) (fun h178 => ?_)
      refine pw_iconst (v := nI 0) 182 rfl dX12_act_181 rfl ?_
      refine pw_iret dX12_act_182 rfl ?_
      rotate_left
      exact ⟨rfl, hB, same, hD, rfl, rd, rfl⟩
