theorem XM_fr5 {I I' : pI} {m n : Nat} {pc b : Nat → Nat} (hM : XM I m n pc b) (h : ∀ a, m ≤ a → a ≤ m + 5 → I' a = I a) : XM I' m n pc b := by
  unfold XM at *
  rw [h m (by omega) (by omega), h (m + 1) (by omega) (by omega), h (m + 2) (by omega) (by omega), h (m + 3) (by omega) (by omega), h (m + 4) (by omega) (by omega), h (m + 5) (by omega) (by omega)]
  exact hM
/-- the RULE at r: how many STEPS by the letters -/
def XE (I : pI) (r : Nat) (E : (Nat → Int32) → Nat) : Prop := ∃ cs, XR I r cs ∧ ∀ lt, withF (evC lt cs []) = nI (E lt) ∧ E lt ≤ 3
theorem XE_fr {I I' : pI} {r : Nat} {E : (Nat → Int32) → Nat} (h : XE I r E) (h0 : I' r = I r) (h1 : I' (r + 1) = I (r + 1)) : XE I' r E := by
  obtain ⟨cs, a1, a2⟩ := h
  exact ⟨cs, XR_fr a1 h0 h1, a2⟩
theorem x_steps {m r d n q : Nat} {pc b : Nat → Nat} {E : (Nat → Int32) → Nat} (hm : isMt m) (hr : isRu r) {I : pI} {J : pJ} (hM : XM I m n pc b) (hW : WF n pc b) (hq : q < n) (hE : XE I r E) :
    PC SX (d + 3) yX6_stepsOf cX6_stepsOf 6 (some .int) [.ref r, .ref m, .int (nI q)] I J RX (fun r' I' J' R' => r' = some (.int (nI (E (lett n pc b q)))) ∧ (∀ h, h ≠ r + 2 → I' h = I h) ∧ J = J' ∧ R' = RX) := by
  obtain ⟨cs, a1, a2⟩ := hE
  refine (x_stepsOf hm hr hM hW hq a1).mono (fun r' I' J' R' h => ?_)
  rw [(a2 _).1] at h
  exact h
/-- the STEPS of all in an hour -/
def sts (n : Nat) (pc b : Nat → Nat) (E : (Nat → Int32) → Nat) : Nat → Nat := fun q => if b (7 + q) ≠ 0 ∧ b (14 + q) = 0 then E (lett n pc b q) else 0
def hInv (I : pI) (m r n : Nat) (s b : Nat → Nat) (k k2 : Nat) (fw : Nat → Nat) (I' : pI) : Prop :=
  (∀ a, a ≠ r + 2 → ¬ (m ≤ a ∧ a ≤ m + 7) → I' a = I a) ∧ (∀ j, j ≠ 9 → j ≠ 11 → j ≠ 12 → I' m j = I m j) ∧ (∀ j, I' (m + 1) j = I (m + 1) j) ∧ (∀ j, I' (m + 5) j = I (m + 5) j) ∧
  I' m 9 = nI (hO s b k) ∧ I' m 11 = nI (hD s b k) ∧ I' m 12 = nI (bts (hC s b) k) ∧
  (∀ q, q < 7 → I' (m + 2) q = nI (if q < k2 then hH s b q else b q) ∧ I' (m + 3) q = nI (fw q) ∧ I' (m + 4) q = nI (if q < k2 then b (14 + q) - 1 else b (14 + q))) ∧
  (∀ q, q < n → I' (m + 6) q = nI (s q)) ∧ (∀ q, q < k2 → I' (m + 7) q = nI (dist (hH s b q) (b q)))
theorem hD_le {s b : Nat → Nat} (h : b 31 ≤ 9999) : ∀ k, hD s b k ≤ 9999
  | 0 => h
  | k + 1 => by
    rw [hD]
    split
    · exact Nat.min_le_left _ _
    · exact hD_le h k
theorem hO_or {n : Nat} {s b : Nat → Nat} (h : b 29 < n ∨ b 29 = 7) : ∀ k, k ≤ n → hO s b k < n ∨ hO s b k = 7
  | 0, _ => h
  | k + 1, hk => by
    rw [hO]
    split
    · exact Or.inl (by omega)
    · exact hO_or h k (by omega)
theorem hH_le {n : Nat} {pc s b : Nat → Nat} (hW : WF n pc b) {q : Nat} (hq : q < 7) : hH s b q ≤ b 28 := by
  have := hW.2.2.2.2 q hq
  unfold hH
  split
  · exact Nat.min_le_left _ _
  · split <;> omega
theorem hV_le {n : Nat} {pc s b : Nat → Nat} (hW : WF n pc b) {q : Nat} (hq : q < 7) : hV s b q ≤ 2 := by
  have := hW.2.2.2.2 q hq
  unfold hV
  split <;> omega
theorem hrow_h {n : Nat} {s b : Nat → Nat} {k : Nat} (hk : k < 7) : hrow n s b k = if k < n then hH s b k else b k := by rw [hrow, if_pos hk]
theorem hrow_w {n : Nat} {s b : Nat → Nat} {k : Nat} (hk : k < 7) : hrow n s b (7 + k) = if k < n then hY s b k else b (7 + k) := by
  unfold hrow
  rw [if_neg (show ¬ 7 + k < 7 by omega), if_pos (show 7 + k < 14 by omega), show 7 + k - 7 = k by omega]
theorem hrow_u {n : Nat} {s b : Nat → Nat} {k : Nat} (hk : k < 7) : hrow n s b (14 + k) = if k < n then b (14 + k) - 1 else b (14 + k) := by
  unfold hrow
  rw [if_neg (show ¬ 14 + k < 7 by omega), if_neg (show ¬ 14 + k < 14 by omega), if_pos (show 14 + k < 21 by omega), show 14 + k - 14 = k by omega]
theorem hrow_b {n : Nat} {s b : Nat → Nat} {k : Nat} (hk : k < 7) : hrow n s b (21 + k) = if hO s b n = k then min 999 (b (21 + k) + 1) else b (21 + k) := by
  unfold hrow
  rw [if_neg (show ¬ 21 + k < 7 by omega), if_neg (show ¬ 21 + k < 14 by omega), if_neg (show ¬ 21 + k < 21 by omega), if_pos (show 21 + k < 28 by omega), show 21 + k - 21 = k by omega]
set_option maxRecDepth 100000 in
set_option maxHeartbeats 2000000 in
theorem x_passHour {m r d n : Nat} {pc b : Nat → Nat} {E : (Nat → Int32) → Nat} {s : Nat → Nat} (hse : s = sts n pc b E) (hm : isMt m) (hr : isRu r) {I : pI} {J : pJ} (hM : XM I m n pc b) (hW : WF n pc b) (hE : XE I r E) : PC SX (d + 5) yX1_passHour cX1_passHour 4 none [.ref m, .ref r] (I) (J) (RX) (fun r' I' J' R' => r' = none ∧ XM I' m n pc (hrow n s b) ∧ I' m 12 = nI (bts (hC s b) n) ∧ (∀ q, q < n → I' (m + 7) q = nI (dist (hH s b q) (b q))) ∧ (∀ a, a ≠ r + 2 → ¬ (m ≤ a ∧ a ≤ m + 7) → I' a = I a) ∧ J = J' ∧ R' = RX) := by
  refine PC.of [some (.ref m), some (.ref r), none, none] rfl rfl (Nat.le_of_ble_eq_true rfl) ?_
  obtain ⟨h7, hn, i8, i9, i10, i11, hA⟩ := id hM
  obtain ⟨-, ⟨t1, t2⟩, hOw, hDn, hB⟩ := id hW
  have hE3 : ∀ lt, E lt ≤ 3 := by obtain ⟨cs, -, a2⟩ := hE; exact fun lt => (a2 lt).2
  have hs3 : ∀ q, s q ≤ 3 := fun q => by rw [hse]; unfold sts; split; exact hE3 _; omega
  have hsu : ∀ q, b (14 + q) ≠ 0 → s q = 0 := fun q h => by rw [hse]; unfold sts; rw [if_neg (fun z => h z.2)]
  have fin : ∀ (I' : pI) (x2 x3 : Option Value), hInv I m r n s b n n (fun q => if q < n then hY s b q else b (7 + q)) I' → PW SX yX1_passHour.cls cX1_passHour 4 (d + 5) 152 [some (.ref m), some (.ref r), x2, x3] [] (I') (J) (RX) (rX cX1_passHour none (fun r' I' J' R' => r' = none ∧ XM I' m n pc (hrow n s b) ∧ I' m 12 = nI (bts (hC s b) n) ∧ (∀ q, q < n → I' (m + 7) q = nI (dist (hH s b q) (b q))) ∧ (∀ a, a ≠ r + 2 → ¬ (m ≤ a ∧ a ≤ m + 7) → I' a = I a) ∧ J = J' ∧ R' = RX)) := by
    intro I' x2 x3 ⟨f1, f2, f3, f4, f5, f6, f7, f8, f9, f10⟩
    have hn' : I' m 7 = nI n := by rw [f2 7 (by omega) (by omega) (by omega)]; exact hn
    have hOo := hO_or (s := s) hOw n (Nat.le_refl n)
    have goal : ∀ (I2 : pI), (∀ a j, ¬ (a = m ∧ j = 10) → ¬ (a = m + 5) → I2 a j = I' a j) → I2 m 10 = nI (b 30 + 1) → (∀ q, q < 7 → I2 (m + 5) q = nI (if hO s b n = q then min 999 (b (21 + q) + 1) else b (21 + q))) →
        XM I2 m n pc (hrow n s b) ∧ I2 m 12 = nI (bts (hC s b) n) ∧ (∀ q, q < n → I2 (m + 7) q = nI (dist (hH s b q) (b q))) ∧ (∀ a, a ≠ r + 2 → ¬ (m ≤ a ∧ a ≤ m + 7) → I2 a = I a) := by
      intro I2 g1 g2 g3
      refine ⟨⟨h7, ?_, ?_, ?_, ?_, ?_, fun k hk => ⟨?_, ?_, ?_, ?_, ?_⟩⟩, ?_, fun q hq => ?_, fun a h1 h2 => ?_⟩
      · rw [g1 _ _ (by omega) (by omega)]; exact hn'
      · rw [g1 _ _ (by omega) (by omega), f2 8 (by omega) (by omega) (by omega)]; exact i8
      · rw [g1 _ _ (by omega) (by omega)]; exact f5
      · exact g2
      · rw [g1 _ _ (by omega) (by omega)]; exact f6
      · rw [g1 _ _ (by omega) (by omega), f3]; exact (hA k hk).1
      · rw [g1 _ _ (by omega) (by omega), (f8 k hk).1, hrow_h hk]
      · rw [g1 _ _ (by omega) (by omega), (f8 k hk).2.1]
        rw [hrow_w hk]
      · rw [g1 _ _ (by omega) (by omega), (f8 k hk).2.2, hrow_u hk]
      · rw [g3 k hk, hrow_b hk]
      · rw [g1 _ _ (by omega) (by omega)]; exact f7
      · rw [g1 _ _ (by omega) (by omega)]; exact f10 q hq
      · funext j
        rw [g1 _ _ (by omega) (by omega), f1 a h1 h2]
    refine pw_aload_n 153 rfl dX1_passHour_152 rfl ?_
    refine pw_aload_n 154 rfl dX1_passHour_153 rfl ?_
    refine pw_getI 157 rfl dX1_passHour_154 fX1_40 (by first | rfl | assumption | exact rowS hh | exact mtS hm | exact ruS hr | exact mtA1 hm | exact mtA2 hm | exact mtA3 hm | exact mtA4 hm | exact mtA5 hm | exact mtA6 hm | exact mtA7 hm | exact ruA1 hr | exact ruA2 hr | exact ruA3 hr) rfl ?_
    refine pw_callVP (as := [_]) 160 rfl dX1_passHour_157 mX1_68 vX1_has (x_has (d := d) hm hn' h7 _) (by first | rfl | assumption | exact rowS hh | exact mtS hm | exact ruS hr | exact mtA1 hm | exact mtA2 hm | exact mtA3 hm | exact mtA4 hm | exact mtA5 hm | exact mtA6 hm | exact mtA7 hm | exact ruA1 hr | exact ruA2 hr | exact ruA3 hr) rfl (by decide) ⟨rfl, by decide, by decide, show (parseMethodDescriptor yX1_has.desc).map (fun d => d.parameters.length) = some 1 by decide +kernel⟩ (by omega) (by decide) (Nat.le_of_ble_eq_true rfl) rfl ?_
    rotate_left
    rw [f5]
    rcases hOo with ho | ho
    · rw [hasV_y ho h7]
      have hb := hB _ (show hO s b n < 7 by omega)
      refine pw_if_eq (tgt := 189) 163 rfl dX1_passHour_160 rfl (fun h160 => absurd h160 (by decide)) (fun h160 => ?_)
      refine pw_aload_n 164 rfl dX1_passHour_163 rfl ?_
      refine pw_getR 167 rfl dX1_passHour_164 fX1_24 (by first | rfl | assumption | exact rowS hh | exact mtS hm | exact ruS hr | exact mtA1 hm | exact mtA2 hm | exact mtA3 hm | exact mtA4 hm | exact mtA5 hm | exact mtA6 hm | exact mtA7 hm | exact ruA1 hr | exact ruA2 hr | exact ruA3 hr) rfl (by first | rfl | assumption | exact mtR0 hm | exact mtR1 hm | exact mtR2 hm | exact mtR3 hm | exact mtR4 hm | exact mtR5 hm | exact mtR6 hm | exact ruR0 hr | exact ruR1 hr | exact ruR3 hr) ?_
      refine pw_aload_n 168 rfl dX1_passHour_167 rfl ?_
      refine pw_getI 171 rfl dX1_passHour_168 fX1_40 (by first | rfl | assumption | exact rowS hh | exact mtS hm | exact ruS hr | exact mtA1 hm | exact mtA2 hm | exact mtA3 hm | exact mtA4 hm | exact mtA5 hm | exact mtA6 hm | exact mtA7 hm | exact ruA1 hr | exact ruA2 hr | exact ruA3 hr) rfl ?_
      refine pw_sipush (v := nI 999) 174 rfl dX1_passHour_171 rfl ?_
      refine pw_aload_n 175 rfl dX1_passHour_174 rfl ?_
      refine pw_getR 178 rfl dX1_passHour_175 fX1_24 (by first | rfl | assumption | exact rowS hh | exact mtS hm | exact ruS hr | exact mtA1 hm | exact mtA2 hm | exact mtA3 hm | exact mtA4 hm | exact mtA5 hm | exact mtA6 hm | exact mtA7 hm | exact ruA1 hr | exact ruA2 hr | exact ruA3 hr) rfl (by first | rfl | assumption | exact mtR0 hm | exact mtR1 hm | exact mtR2 hm | exact mtR3 hm | exact mtR4 hm | exact mtR5 hm | exact mtR6 hm | exact ruR0 hr | exact ruR1 hr | exact ruR3 hr) ?_
      refine pw_aload_n 179 rfl dX1_passHour_178 rfl ?_
      refine pw_getI 182 rfl dX1_passHour_179 fX1_40 (by first | rfl | assumption | exact rowS hh | exact mtS hm | exact ruS hr | exact mtA1 hm | exact mtA2 hm | exact mtA3 hm | exact mtA4 hm | exact mtA5 hm | exact mtA6 hm | exact mtA7 hm | exact ruA1 hr | exact ruA2 hr | exact ruA3 hr) rfl ?_
      rotate_left
      rw [f5]
      refine pw_ialdN 183 rfl dX1_passHour_182 (by first | rfl | assumption | exact rowS hh | exact mtS hm | exact ruS hr | exact mtA1 hm | exact mtA2 hm | exact mtA3 hm | exact mtA4 hm | exact mtA5 hm | exact mtA6 hm | exact mtA7 hm | exact ruA1 hr | exact ruA2 hr | exact ruA3 hr) (by omega) (by decide) ?_
      refine pw_iconst (v := nI 1) 184 rfl dX1_passHour_183 rfl ?_
      first | refine pw_iaddN 185 rfl dX1_passHour_184 ?_ | refine pw_iadd 185 rfl dX1_passHour_184 ?_
      rotate_left
      rw [f4, (hA _ (by omega)).2.2.2.2, nI_add]
      refine pw_mmin 188 rfl dX1_passHour_185 mX1_75 (Nat.le_of_ble_eq_true rfl) ?_
      rotate_left
      rw [nI_min (by omega) (by omega)]
      refine pw_iastN 189 rfl dX1_passHour_188 (by first | rfl | assumption | exact rowS hh | exact mtS hm | exact ruS hr | exact mtA1 hm | exact mtA2 hm | exact mtA3 hm | exact mtA4 hm | exact mtA5 hm | exact mtA6 hm | exact mtA7 hm | exact ruA1 hr | exact ruA2 hr | exact ruA3 hr) (by omega) (by decide) ?_
      refine pw_aload_n 190 rfl dX1_passHour_189 rfl ?_
      refine pw_dup 191 rfl dX1_passHour_190 rfl ?_
      refine pw_getI 194 rfl dX1_passHour_191 fX1_43 (by first | rfl | assumption | exact rowS hh | exact mtS hm | exact ruS hr | exact mtA1 hm | exact mtA2 hm | exact mtA3 hm | exact mtA4 hm | exact mtA5 hm | exact mtA6 hm | exact mtA7 hm | exact ruA1 hr | exact ruA2 hr | exact ruA3 hr) rfl ?_
      refine pw_iconst (v := nI 1) 195 rfl dX1_passHour_194 rfl ?_
      first | refine pw_iaddN 196 rfl dX1_passHour_195 ?_ | refine pw_iadd 196 rfl dX1_passHour_195 ?_
      rotate_left
      rw [uI_ne (by omega), f2 10 (by omega) (by omega) (by omega), i10, nI_add]
      refine pw_putI 199 rfl dX1_passHour_196 fX1_43 w1_10 (by first | rfl | assumption | exact rowS hh | exact mtS hm | exact ruS hr | exact mtA1 hm | exact mtA2 hm | exact mtA3 hm | exact mtA4 hm | exact mtA5 hm | exact mtA6 hm | exact mtA7 hm | exact ruA1 hr | exact ruA2 hr | exact ruA3 hr) rfl rfl rfl ?_
      refine pw_vret dX1_passHour_199 ?_
      rotate_left
      obtain ⟨e1, e2, e3, e4⟩ := goal (uI (uI I' (m + 5) (hO s b n) (nI (min 999 (b (21 + hO s b n) + 1)))) m 10 (nI (b 30 + 1))) (fun a j h1 h2 => by rw [uI_ne (by omega), uI_ne (by omega)]) (uI_eq _ _ _ _) (fun q hq => by
        rw [uI_ne (by omega)]
        by_cases e : hO s b n = q
        · rw [if_pos e, ← e, uI_eq]
        · rw [uI_ne (by omega), if_neg e, f4]; exact (hA q hq).2.2.2.2)
      exact ⟨rfl, e1, e2, e3, e4, rfl, rfl⟩
    · rw [ho, hasV_n (by omega) (by decide)]
      refine pw_if_eq (tgt := 189) 163 rfl dX1_passHour_160 rfl (fun h160 => ?_) (fun h160 => absurd rfl h160)
      refine pw_aload_n 190 rfl dX1_passHour_189 rfl ?_
      refine pw_dup 191 rfl dX1_passHour_190 rfl ?_
      refine pw_getI 194 rfl dX1_passHour_191 fX1_43 (by first | rfl | assumption | exact rowS hh | exact mtS hm | exact ruS hr | exact mtA1 hm | exact mtA2 hm | exact mtA3 hm | exact mtA4 hm | exact mtA5 hm | exact mtA6 hm | exact mtA7 hm | exact ruA1 hr | exact ruA2 hr | exact ruA3 hr) rfl ?_
      refine pw_iconst (v := nI 1) 195 rfl dX1_passHour_194 rfl ?_
      first | refine pw_iaddN 196 rfl dX1_passHour_195 ?_ | refine pw_iadd 196 rfl dX1_passHour_195 ?_
      rotate_left
      rw [f2 10 (by omega) (by omega) (by omega), i10, nI_add]
      refine pw_putI 199 rfl dX1_passHour_196 fX1_43 w1_10 (by first | rfl | assumption | exact rowS hh | exact mtS hm | exact ruS hr | exact mtA1 hm | exact mtA2 hm | exact mtA3 hm | exact mtA4 hm | exact mtA5 hm | exact mtA6 hm | exact mtA7 hm | exact ruA1 hr | exact ruA2 hr | exact ruA3 hr) rfl rfl rfl ?_
      refine pw_vret dX1_passHour_199 ?_
      rotate_left
      obtain ⟨e1, e2, e3, e4⟩ := goal (uI I' m 10 (nI (b 30 + 1))) (fun a j h1 h2 => by rw [uI_ne (by omega)]) (uI_eq _ _ _ _) (fun q hq => by
        rw [uI_ne (by omega), if_neg (by omega), f4]; exact (hA q hq).2.2.2.2)
      exact ⟨rfl, e1, e2, e3, e4, rfl, rfl⟩
  have turn : ∀ (k : Nat) (I' : pI) (x3 : Option Value), k < n → hInv I m r n s b k (k + 1) (fun q => if q < k then hY s b q else if q = k then hV s b k else b (7 + q)) I' →
      (∀ (I2 : pI) (x3 : Option Value), hInv I m r n s b (k + 1) (k + 1) (fun q => if q < k + 1 then hY s b q else b (7 + q)) I2 → PW SX yX1_passHour.cls cX1_passHour 4 (d + 5) 73 [some (.ref m), some (.ref r), some (.int (nI (k + 1))), x3] [] (I2) (J) (RX) (rX cX1_passHour none (fun r' I' J' R' => r' = none ∧ XM I' m n pc (hrow n s b) ∧ I' m 12 = nI (bts (hC s b) n) ∧ (∀ q, q < n → I' (m + 7) q = nI (dist (hH s b q) (b q))) ∧ (∀ a, a ≠ r + 2 → ¬ (m ≤ a ∧ a ≤ m + 7) → I' a = I a) ∧ J = J' ∧ R' = RX))) →
      PW SX yX1_passHour.cls cX1_passHour 4 (d + 5) 122 [some (.ref m), some (.ref r), some (.int (nI k)), x3] [] (I') (J) (RX) (rX cX1_passHour none (fun r' I' J' R' => r' = none ∧ XM I' m n pc (hrow n s b) ∧ I' m 12 = nI (bts (hC s b) n) ∧ (∀ q, q < n → I' (m + 7) q = nI (dist (hH s b q) (b q))) ∧ (∀ a, a ≠ r + 2 → ¬ (m ≤ a ∧ a ≤ m + 7) → I' a = I a) ∧ J = J' ∧ R' = RX)) := by
    intro k I' x3 hk ⟨f1, f2, f3, f4, f5, f6, f7, f8, f9, f10⟩ ih
    have hHk : I' (m + 2) k = nI (hH s b k) := by rw [(f8 k (by omega)).1, if_pos (by omega)]
    have hVk : I' (m + 3) k = nI (hV s b k) := by
      rw [(f8 k (by omega)).2.1]
      show nI (if k < k then hY s b k else if k = k then hV s b k else b (7 + k)) = _
      rw [if_neg (by omega), if_pos rfl]
    have l1 := hH_le (s := s) hW (show k < 7 by omega)
    have l2 := hV_le (s := s) hW (show k < 7 by omega)
    have hn' : I' m 7 = nI n := by rw [f2 7 (by omega) (by omega) (by omega)]; exact hn
    have no : hC s b k = false → hInv I m r n s b (k + 1) (k + 1) (fun q => if q < k + 1 then hY s b q else b (7 + q)) I' := by
      intro hc
      refine ⟨f1, f2, f3, f4, ?_, ?_, ?_, fun q hq => ⟨(f8 q hq).1, ?_, (f8 q hq).2.2⟩, f9, f10⟩
      · rw [f5, hO, hc]; rfl
      · rw [f6, hD, hc]; rfl
      · rw [f7, bts, hc]; rfl
      · rw [(f8 q hq).2.1]
        show nI (if q < k then hY s b q else if q = k then hV s b k else b (7 + q)) = nI (if q < k + 1 then hY s b q else b (7 + q))
        by_cases e1 : q < k
        · rw [if_pos e1, if_pos (by omega)]
        · by_cases e2 : q = k
          · subst e2
            rw [if_neg (by omega), if_pos rfl, if_pos (by omega), hY, hc]; rfl
          · rw [if_neg e1, if_neg e2, if_neg (by omega)]
    by_cases h0 : hH s b k = 0
    · by_cases h2 : hV s b k = 2
      · have hc : hC s b k = true := by rw [hC, decide_eq_true_eq]; exact ⟨h2, h0⟩
        refine pw_aload_n 123 rfl dX1_passHour_122 rfl ?_
        refine pw_getR 126 rfl dX1_passHour_123 fX1_15 (by first | rfl | assumption | exact rowS hh | exact mtS hm | exact ruS hr | exact mtA1 hm | exact mtA2 hm | exact mtA3 hm | exact mtA4 hm | exact mtA5 hm | exact mtA6 hm | exact mtA7 hm | exact ruA1 hr | exact ruA2 hr | exact ruA3 hr) rfl (by first | rfl | assumption | exact mtR0 hm | exact mtR1 hm | exact mtR2 hm | exact mtR3 hm | exact mtR4 hm | exact mtR5 hm | exact mtR6 hm | exact ruR0 hr | exact ruR1 hr | exact ruR3 hr) ?_
        refine pw_iload_n 127 rfl dX1_passHour_126 rfl ?_
        refine pw_ialdN 128 rfl dX1_passHour_127 (by first | rfl | assumption | exact rowS hh | exact mtS hm | exact ruS hr | exact mtA1 hm | exact mtA2 hm | exact mtA3 hm | exact mtA4 hm | exact mtA5 hm | exact mtA6 hm | exact mtA7 hm | exact ruA1 hr | exact ruA2 hr | exact ruA3 hr) (by omega) (by decide) ?_
        refine pw_if_ne (tgt := 146) 131 rfl dX1_passHour_128 rfl (fun h128 => absurd (by rw [hHk, h0]; rfl) h128) (fun h128 => ?_)
        refine pw_aload_n 132 rfl dX1_passHour_131 rfl ?_
        refine pw_getR 135 rfl dX1_passHour_132 fX1_18 (by first | rfl | assumption | exact rowS hh | exact mtS hm | exact ruS hr | exact mtA1 hm | exact mtA2 hm | exact mtA3 hm | exact mtA4 hm | exact mtA5 hm | exact mtA6 hm | exact mtA7 hm | exact ruA1 hr | exact ruA2 hr | exact ruA3 hr) rfl (by first | rfl | assumption | exact mtR0 hm | exact mtR1 hm | exact mtR2 hm | exact mtR3 hm | exact mtR4 hm | exact mtR5 hm | exact mtR6 hm | exact ruR0 hr | exact ruR1 hr | exact ruR3 hr) ?_
        refine pw_iload_n 136 rfl dX1_passHour_135 rfl ?_
        refine pw_ialdN 137 rfl dX1_passHour_136 (by first | rfl | assumption | exact rowS hh | exact mtS hm | exact ruS hr | exact mtA1 hm | exact mtA2 hm | exact mtA3 hm | exact mtA4 hm | exact mtA5 hm | exact mtA6 hm | exact mtA7 hm | exact ruA1 hr | exact ruA2 hr | exact ruA3 hr) (by omega) (by decide) ?_
        refine pw_iconst (v := nI 2) 138 rfl dX1_passHour_137 rfl ?_
        refine pw_icmp_ne (tgt := 146) 141 rfl dX1_passHour_138 rfl (fun h138 => absurd (by rw [hVk, h2]) h138) (fun h138 => ?_)
        refine pw_aload_n 142 rfl dX1_passHour_141 rfl ?_
        refine pw_iload_n 143 rfl dX1_passHour_142 rfl ?_
        refine pw_callV (as := [_]) 146 rfl dX1_passHour_143 mX1_103 vX1_comeDown (x_comeDown (d := d) hm hn' h7 hk f6 (hD_le hDn k) f7 (bts_lt _ k)) (by first | rfl | assumption | exact rowS hh | exact mtS hm | exact ruS hr | exact mtA1 hm | exact mtA2 hm | exact mtA3 hm | exact mtA4 hm | exact mtA5 hm | exact mtA6 hm | exact mtA7 hm | exact ruA1 hr | exact ruA2 hr | exact ruA3 hr) rfl (by decide) ⟨rfl, by decide, by decide, show (parseMethodDescriptor yX1_comeDown.desc).map (fun d => d.parameters.length) = some 1 by decide +kernel⟩ (by omega) (by decide) (Nat.le_of_ble_eq_true rfl) rfl (fun r143 I143 J143 R143 c143 => ?_)
        rotate_left
        obtain ⟨rfl, c1, c2, c3, c4, c5, rfl, rfl⟩ := c143
        refine pw_iincN 149 rfl dX1_passHour_146 (by decide) rfl ?_
        refine pw_goto (tgt := 73) dX1_passHour_149 rfl ?_
        rotate_left
        refine ih I143 _ ⟨fun a h3 h4 => ?_, fun j h3 h4 h5 => ?_, fun j => ?_, fun j => ?_, ?_, ?_, ?_, fun q hq => ⟨?_, ?_, ?_⟩, fun q hq => ?_, fun q hq => ?_⟩
        · funext j; rw [c1 _ _ (by omega) (by omega), f1 a h3 h4]
        · rw [c1 _ _ (by omega) (by omega)]; exact f2 j h3 h4 h5
        · rw [c1 _ _ (by omega) (by omega)]; exact f3 j
        · rw [c1 _ _ (by omega) (by omega)]; exact f4 j
        · rw [c3, hO, hc]; rfl
        · rw [c4, hD, hc]; rfl
        · rw [c5, bts, hc]; rfl
        · rw [c1 _ _ (by omega) (by omega)]; exact (f8 q hq).1
        · show I143 (m + 3) q = nI (if q < k + 1 then hY s b q else b (7 + q))
          by_cases e2 : q = k
          · subst e2
            rw [c2, if_pos (by omega), hY, hc]; rfl
          · rw [c1 _ _ (by omega) (by omega), (f8 q hq).2.1]
            show nI (if q < k then hY s b q else if q = k then hV s b k else b (7 + q)) = _
            by_cases e1 : q < k
            · rw [if_pos e1, if_pos (by omega)]
            · rw [if_neg e1, if_neg e2, if_neg (by omega)]
        · rw [c1 _ _ (by omega) (by omega)]; exact (f8 q hq).2.2
        · rw [c1 _ _ (by omega) (by omega)]; exact f9 q hq
        · rw [c1 _ _ (by omega) (by omega)]; exact f10 q hq
      · have hc : hC s b k = false := by rw [hC, decide_eq_false_iff_not]; exact fun z => h2 z.1
        refine pw_aload_n 123 rfl dX1_passHour_122 rfl ?_
        refine pw_getR 126 rfl dX1_passHour_123 fX1_15 (by first | rfl | assumption | exact rowS hh | exact mtS hm | exact ruS hr | exact mtA1 hm | exact mtA2 hm | exact mtA3 hm | exact mtA4 hm | exact mtA5 hm | exact mtA6 hm | exact mtA7 hm | exact ruA1 hr | exact ruA2 hr | exact ruA3 hr) rfl (by first | rfl | assumption | exact mtR0 hm | exact mtR1 hm | exact mtR2 hm | exact mtR3 hm | exact mtR4 hm | exact mtR5 hm | exact mtR6 hm | exact ruR0 hr | exact ruR1 hr | exact ruR3 hr) ?_
        refine pw_iload_n 127 rfl dX1_passHour_126 rfl ?_
        refine pw_ialdN 128 rfl dX1_passHour_127 (by first | rfl | assumption | exact rowS hh | exact mtS hm | exact ruS hr | exact mtA1 hm | exact mtA2 hm | exact mtA3 hm | exact mtA4 hm | exact mtA5 hm | exact mtA6 hm | exact mtA7 hm | exact ruA1 hr | exact ruA2 hr | exact ruA3 hr) (by omega) (by decide) ?_
        refine pw_if_ne (tgt := 146) 131 rfl dX1_passHour_128 rfl (fun h128 => absurd (by rw [hHk, h0]; rfl) h128) (fun h128 => ?_)
        refine pw_aload_n 132 rfl dX1_passHour_131 rfl ?_
        refine pw_getR 135 rfl dX1_passHour_132 fX1_18 (by first | rfl | assumption | exact rowS hh | exact mtS hm | exact ruS hr | exact mtA1 hm | exact mtA2 hm | exact mtA3 hm | exact mtA4 hm | exact mtA5 hm | exact mtA6 hm | exact mtA7 hm | exact ruA1 hr | exact ruA2 hr | exact ruA3 hr) rfl (by first | rfl | assumption | exact mtR0 hm | exact mtR1 hm | exact mtR2 hm | exact mtR3 hm | exact mtR4 hm | exact mtR5 hm | exact mtR6 hm | exact ruR0 hr | exact ruR1 hr | exact ruR3 hr) ?_
        refine pw_iload_n 136 rfl dX1_passHour_135 rfl ?_
        refine pw_ialdN 137 rfl dX1_passHour_136 (by first | rfl | assumption | exact rowS hh | exact mtS hm | exact ruS hr | exact mtA1 hm | exact mtA2 hm | exact mtA3 hm | exact mtA4 hm | exact mtA5 hm | exact mtA6 hm | exact mtA7 hm | exact ruA1 hr | exact ruA2 hr | exact ruA3 hr) (by omega) (by decide) ?_
        refine pw_iconst (v := nI 2) 138 rfl dX1_passHour_137 rfl ?_
        refine pw_icmp_ne (tgt := 146) 141 rfl dX1_passHour_138 rfl (fun h138 => ?_) (fun h138 => absurd h138 (by rw [hVk, nI_eq (by omega) (by decide)]; exact h2))
        refine pw_iincN 149 rfl dX1_passHour_146 (by decide) rfl ?_
        refine pw_goto (tgt := 73) dX1_passHour_149 rfl ?_
        rotate_left
        exact ih I' _ (no hc)
    · have hc : hC s b k = false := by rw [hC, decide_eq_false_iff_not]; exact fun z => h0 z.2
      refine pw_aload_n 123 rfl dX1_passHour_122 rfl ?_
      refine pw_getR 126 rfl dX1_passHour_123 fX1_15 (by first | rfl | assumption | exact rowS hh | exact mtS hm | exact ruS hr | exact mtA1 hm | exact mtA2 hm | exact mtA3 hm | exact mtA4 hm | exact mtA5 hm | exact mtA6 hm | exact mtA7 hm | exact ruA1 hr | exact ruA2 hr | exact ruA3 hr) rfl (by first | rfl | assumption | exact mtR0 hm | exact mtR1 hm | exact mtR2 hm | exact mtR3 hm | exact mtR4 hm | exact mtR5 hm | exact mtR6 hm | exact ruR0 hr | exact ruR1 hr | exact ruR3 hr) ?_
      refine pw_iload_n 127 rfl dX1_passHour_126 rfl ?_
      refine pw_ialdN 128 rfl dX1_passHour_127 (by first | rfl | assumption | exact rowS hh | exact mtS hm | exact ruS hr | exact mtA1 hm | exact mtA2 hm | exact mtA3 hm | exact mtA4 hm | exact mtA5 hm | exact mtA6 hm | exact mtA7 hm | exact ruA1 hr | exact ruA2 hr | exact ruA3 hr) (by omega) (by decide) ?_
      refine pw_if_ne (tgt := 146) 131 rfl dX1_passHour_128 rfl (fun h128 => ?_) (fun h128 => absurd h128 (by rw [hHk]; exact nI_ne0 (by omega) (by omega)))
      refine pw_iincN 149 rfl dX1_passHour_146 (by decide) rfl ?_
      refine pw_goto (tgt := 73) dX1_passHour_149 rfl ?_
      rotate_left
      exact ih I' _ (no hc)
  have loop2 : ∀ (I' : pI) (x3 : Option Value), hInv I m r n s b 0 0 (fun q => b (7 + q)) I' → PW SX yX1_passHour.cls cX1_passHour 4 (d + 5) 73 [some (.ref m), some (.ref r), some (.int (nI 0)), x3] [] (I') (J) (RX) (rX cX1_passHour none (fun r' I' J' R' => r' = none ∧ XM I' m n pc (hrow n s b) ∧ I' m 12 = nI (bts (hC s b) n) ∧ (∀ q, q < n → I' (m + 7) q = nI (dist (hH s b q) (b q))) ∧ (∀ a, a ≠ r + 2 → ¬ (m ≤ a ∧ a ≤ m + 7) → I' a = I a) ∧ J = J' ∧ R' = RX)) := by
    have L := nat_loop n (fun k => ∀ (I' : pI) (x3 : Option Value), hInv I m r n s b k k (fun q => if q < k then hY s b q else b (7 + q)) I' → PW SX yX1_passHour.cls cX1_passHour 4 (d + 5) 73 [some (.ref m), some (.ref r), some (.int (nI k)), x3] [] (I') (J) (RX) (rX cX1_passHour none (fun r' I' J' R' => r' = none ∧ XM I' m n pc (hrow n s b) ∧ I' m 12 = nI (bts (hC s b) n) ∧ (∀ q, q < n → I' (m + 7) q = nI (dist (hH s b q) (b q))) ∧ (∀ a, a ≠ r + 2 → ¬ (m ≤ a ∧ a ≤ m + 7) → I' a = I a) ∧ J = J' ∧ R' = RX))) ?_ ?_
    · exact fun I' x3 h => L I' x3 h
    · intro I' x3 h
      have hn' : I' m 7 = nI n := by rw [h.2.1 7 (by omega) (by omega) (by omega)]; exact hn
      refine pw_iload_n 74 rfl dX1_passHour_73 rfl ?_
      refine pw_bipush (v := nI 7) 76 rfl dX1_passHour_74 rfl ?_
      refine pw_icmp_ge (tgt := 152) 79 rfl dX1_passHour_76 rfl (fun h76 => ?_) (fun h76 => ?_)
      rotate_left
      refine pw_iload_n 80 rfl dX1_passHour_79 rfl ?_
      refine pw_aload_n 81 rfl dX1_passHour_80 rfl ?_
      refine pw_getI 84 rfl dX1_passHour_81 fX1_33 (by first | rfl | assumption | exact rowS hh | exact mtS hm | exact ruS hr | exact mtA1 hm | exact mtA2 hm | exact mtA3 hm | exact mtA4 hm | exact mtA5 hm | exact mtA6 hm | exact mtA7 hm | exact ruA1 hr | exact ruA2 hr | exact ruA3 hr) rfl ?_
      refine pw_icmp_ge (tgt := 152) 87 rfl dX1_passHour_84 rfl (fun h84 => ?_) (fun h84 => absurd (by rw [hn']; (simp (disch := omega) only [nI_leI, nI_ltI, nI_eq, show (0 : Int32) = nI 0 from rfl, not_true_eq_false, not_false_eq_true] <;> omega)) h84)
      rotate_left
      · exact fin I' _ _ h
      · exact fin I' _ _ h
    · intro k hk ih I' x3 h
      obtain ⟨f1, f2, f3, f4, f5, f6, f7, f8, f9, f10⟩ := h
      have hn' : I' m 7 = nI n := by rw [f2 7 (by omega) (by omega) (by omega)]; exact hn
      have hb := hB k (by omega)
      have e2 : I' (m + 2) k = nI (b k) := by rw [(f8 k (by omega)).1, if_neg (by omega)]
      have e3 : I' (m + 3) k = nI (b (7 + k)) := by
        rw [(f8 k (by omega)).2.1]
        show nI (if k < k then hY s b k else b (7 + k)) = _
        rw [if_neg (by omega)]
      have e4 : I' (m + 4) k = nI (b (14 + k)) := by rw [(f8 k (by omega)).2.2, if_neg (by omega)]
      have e8 : I' m 8 = nI (b 28) := by rw [f2 8 (by omega) (by omega) (by omega)]; exact i8
      refine pw_iload_n 74 rfl dX1_passHour_73 rfl ?_
      refine pw_bipush (v := nI 7) 76 rfl dX1_passHour_74 rfl ?_
      refine pw_icmp_ge (tgt := 152) 79 rfl dX1_passHour_76 rfl (fun h76 => absurd h76 (by (simp (disch := omega) only [nI_leI, nI_ltI, nI_eq, show (0 : Int32) = nI 0 from rfl, not_true_eq_false, not_false_eq_true] <;> omega))) (fun h76 => ?_)
      refine pw_iload_n 80 rfl dX1_passHour_79 rfl ?_
      refine pw_aload_n 81 rfl dX1_passHour_80 rfl ?_
      refine pw_getI 84 rfl dX1_passHour_81 fX1_33 (by first | rfl | assumption | exact rowS hh | exact mtS hm | exact ruS hr | exact mtA1 hm | exact mtA2 hm | exact mtA3 hm | exact mtA4 hm | exact mtA5 hm | exact mtA6 hm | exact mtA7 hm | exact ruA1 hr | exact ruA2 hr | exact ruA3 hr) rfl ?_
      refine pw_icmp_ge (tgt := 152) 87 rfl dX1_passHour_84 rfl (fun h84 => absurd h84 (by rw [hn']; (simp (disch := omega) only [nI_leI, nI_ltI, nI_eq, show (0 : Int32) = nI 0 from rfl, not_true_eq_false, not_false_eq_true] <;> omega))) (fun h84 => ?_)
      refine pw_aload_n 88 rfl dX1_passHour_87 rfl ?_
      refine pw_iload_n 89 rfl dX1_passHour_88 rfl ?_
      refine pw_callV (as := [_]) 92 rfl dX1_passHour_89 mX1_99 vX1_move (x_move (d := d) hm hn' h7 hk e2 e3 e4 (f9 k hk) e8 t2 (by omega) (by omega) (by omega) (hs3 k) (hsu k)) (by first | rfl | assumption | exact rowS hh | exact mtS hm | exact ruS hr | exact mtA1 hm | exact mtA2 hm | exact mtA3 hm | exact mtA4 hm | exact mtA5 hm | exact mtA6 hm | exact mtA7 hm | exact ruA1 hr | exact ruA2 hr | exact ruA3 hr) rfl (by decide) ⟨rfl, by decide, by decide, show (parseMethodDescriptor yX1_move.desc).map (fun d => d.parameters.length) = some 1 by decide +kernel⟩ (by omega) (by decide) (Nat.le_of_ble_eq_true rfl) rfl (fun r89 I89 J89 R89 c89 => ?_)
      rotate_left
      obtain ⟨rfl, c1, c2, c3, c4, rfl, rfl⟩ := c89
      have c2' : I89 (m + 2) k = nI (hH s b k) := c2
      have w3 : I89 (m + 3) k = nI (b (7 + k)) := by rw [c1 _ _ (by omega)]; exact e3
      have w8 : I89 m 8 = nI (b 28) := by rw [c1 _ _ (by omega)]; exact e8
      have l1 := hH_le (s := s) hW (show k < 7 by omega)
      have inv : ∀ (I2 : pI), (∀ a j, ¬ (a = m + 3 ∧ j = k) → I2 a j = I89 a j) → I2 (m + 3) k = nI (hV s b k) → hInv I m r n s b k (k + 1) (fun q => if q < k then hY s b q else if q = k then hV s b k else b (7 + q)) I2 := by
        intro I2 g1 g2
        refine ⟨fun a h3 h4 => ?_, fun j h3 h4 h5 => ?_, fun j => ?_, fun j => ?_, ?_, ?_, ?_, fun q hq => ⟨?_, ?_, ?_⟩, fun q hq => ?_, fun q hq => ?_⟩
        · funext j; rw [g1 _ _ (by omega), c1 _ _ (by omega), f1 a h3 h4]
        · rw [g1 _ _ (by omega), c1 _ _ (by omega)]; exact f2 j h3 h4 h5
        · rw [g1 _ _ (by omega), c1 _ _ (by omega)]; exact f3 j
        · rw [g1 _ _ (by omega), c1 _ _ (by omega)]; exact f4 j
        · rw [g1 _ _ (by omega), c1 _ _ (by omega)]; exact f5
        · rw [g1 _ _ (by omega), c1 _ _ (by omega)]; exact f6
        · rw [g1 _ _ (by omega), c1 _ _ (by omega)]; exact f7
        · by_cases e : q = k
          · subst e
            rw [g1 _ _ (by omega), c2', if_pos (by omega)]
          · rw [g1 _ _ (by omega), c1 _ _ (by omega), (f8 q hq).1]
            by_cases e1 : q < k
            · rw [if_pos e1, if_pos (by omega)]
            · rw [if_neg e1, if_neg (by omega)]
        · show I2 (m + 3) q = nI (if q < k then hY s b q else if q = k then hV s b k else b (7 + q))
          by_cases e : q = k
          · subst e
            rw [g2, if_neg (by omega), if_pos rfl]
          · rw [g1 _ _ (by omega), c1 _ _ (by omega), (f8 q hq).2.1, if_neg e]
        · by_cases e : q = k
          · subst e
            rw [g1 _ _ (by omega), c3, if_pos (by omega)]
          · rw [g1 _ _ (by omega), c1 _ _ (by omega), (f8 q hq).2.2]
            by_cases e1 : q < k
            · rw [if_pos e1, if_pos (by omega)]
            · rw [if_neg e1, if_neg (by omega)]
        · rw [g1 _ _ (by omega), c1 _ _ (by omega)]; exact f9 q hq
        · by_cases e : q = k
          · subst e
            rw [g1 _ _ (by omega), c4]; rfl
          · rw [g1 _ _ (by omega), c1 _ _ (by omega)]; exact f10 q (by omega)
      by_cases hu : b (7 + k) = 1 ∧ hH s b k = b 28
      · have hv : hV s b k = 2 := if_pos hu
        refine pw_aload_n 93 rfl dX1_passHour_92 rfl ?_
        refine pw_getR 96 rfl dX1_passHour_93 fX1_15 (by first | rfl | assumption | exact rowS hh | exact mtS hm | exact ruS hr | exact mtA1 hm | exact mtA2 hm | exact mtA3 hm | exact mtA4 hm | exact mtA5 hm | exact mtA6 hm | exact mtA7 hm | exact ruA1 hr | exact ruA2 hr | exact ruA3 hr) rfl (by first | rfl | assumption | exact mtR0 hm | exact mtR1 hm | exact mtR2 hm | exact mtR3 hm | exact mtR4 hm | exact mtR5 hm | exact mtR6 hm | exact ruR0 hr | exact ruR1 hr | exact ruR3 hr) ?_
        refine pw_iload_n 97 rfl dX1_passHour_96 rfl ?_
        refine pw_ialdN 98 rfl dX1_passHour_97 (by first | rfl | assumption | exact rowS hh | exact mtS hm | exact ruS hr | exact mtA1 hm | exact mtA2 hm | exact mtA3 hm | exact mtA4 hm | exact mtA5 hm | exact mtA6 hm | exact mtA7 hm | exact ruA1 hr | exact ruA2 hr | exact ruA3 hr) (by omega) (by decide) ?_
        refine pw_aload_n 99 rfl dX1_passHour_98 rfl ?_
        refine pw_getI 102 rfl dX1_passHour_99 fX1_37 (by first | rfl | assumption | exact rowS hh | exact mtS hm | exact ruS hr | exact mtA1 hm | exact mtA2 hm | exact mtA3 hm | exact mtA4 hm | exact mtA5 hm | exact mtA6 hm | exact mtA7 hm | exact ruA1 hr | exact ruA2 hr | exact ruA3 hr) rfl ?_
        refine pw_icmp_ne (tgt := 122) 105 rfl dX1_passHour_102 rfl (fun h102 => absurd (by rw [c2', w8, hu.2]) h102) (fun h102 => ?_)
        refine pw_aload_n 106 rfl dX1_passHour_105 rfl ?_
        refine pw_getR 109 rfl dX1_passHour_106 fX1_18 (by first | rfl | assumption | exact rowS hh | exact mtS hm | exact ruS hr | exact mtA1 hm | exact mtA2 hm | exact mtA3 hm | exact mtA4 hm | exact mtA5 hm | exact mtA6 hm | exact mtA7 hm | exact ruA1 hr | exact ruA2 hr | exact ruA3 hr) rfl (by first | rfl | assumption | exact mtR0 hm | exact mtR1 hm | exact mtR2 hm | exact mtR3 hm | exact mtR4 hm | exact mtR5 hm | exact mtR6 hm | exact ruR0 hr | exact ruR1 hr | exact ruR3 hr) ?_
        refine pw_iload_n 110 rfl dX1_passHour_109 rfl ?_
        refine pw_ialdN 111 rfl dX1_passHour_110 (by first | rfl | assumption | exact rowS hh | exact mtS hm | exact ruS hr | exact mtA1 hm | exact mtA2 hm | exact mtA3 hm | exact mtA4 hm | exact mtA5 hm | exact mtA6 hm | exact mtA7 hm | exact ruA1 hr | exact ruA2 hr | exact ruA3 hr) (by omega) (by decide) ?_
        refine pw_iconst (v := nI 1) 112 rfl dX1_passHour_111 rfl ?_
        refine pw_icmp_ne (tgt := 122) 115 rfl dX1_passHour_112 rfl (fun h112 => absurd (by rw [w3, hu.1]) h112) (fun h112 => ?_)
        refine pw_aload_n 116 rfl dX1_passHour_115 rfl ?_
        refine pw_getR 119 rfl dX1_passHour_116 fX1_18 (by first | rfl | assumption | exact rowS hh | exact mtS hm | exact ruS hr | exact mtA1 hm | exact mtA2 hm | exact mtA3 hm | exact mtA4 hm | exact mtA5 hm | exact mtA6 hm | exact mtA7 hm | exact ruA1 hr | exact ruA2 hr | exact ruA3 hr) rfl (by first | rfl | assumption | exact mtR0 hm | exact mtR1 hm | exact mtR2 hm | exact mtR3 hm | exact mtR4 hm | exact mtR5 hm | exact mtR6 hm | exact ruR0 hr | exact ruR1 hr | exact ruR3 hr) ?_
        refine pw_iload_n 120 rfl dX1_passHour_119 rfl ?_
        refine pw_iconst (v := nI 2) 121 rfl dX1_passHour_120 rfl ?_
        refine pw_iastN 122 rfl dX1_passHour_121 (by first | rfl | assumption | exact rowS hh | exact mtS hm | exact ruS hr | exact mtA1 hm | exact mtA2 hm | exact mtA3 hm | exact mtA4 hm | exact mtA5 hm | exact mtA6 hm | exact mtA7 hm | exact ruA1 hr | exact ruA2 hr | exact ruA3 hr) (by omega) (by decide) ?_
        rotate_left
        exact turn k _ _ hk (inv _ (fun a j h => uI_ne h) (by rw [uI_eq, hv])) ih
      · have hv : hV s b k = b (7 + k) := if_neg hu
        by_cases ht : hH s b k = b 28
        · refine pw_aload_n 93 rfl dX1_passHour_92 rfl ?_
          refine pw_getR 96 rfl dX1_passHour_93 fX1_15 (by first | rfl | assumption | exact rowS hh | exact mtS hm | exact ruS hr | exact mtA1 hm | exact mtA2 hm | exact mtA3 hm | exact mtA4 hm | exact mtA5 hm | exact mtA6 hm | exact mtA7 hm | exact ruA1 hr | exact ruA2 hr | exact ruA3 hr) rfl (by first | rfl | assumption | exact mtR0 hm | exact mtR1 hm | exact mtR2 hm | exact mtR3 hm | exact mtR4 hm | exact mtR5 hm | exact mtR6 hm | exact ruR0 hr | exact ruR1 hr | exact ruR3 hr) ?_
          refine pw_iload_n 97 rfl dX1_passHour_96 rfl ?_
          refine pw_ialdN 98 rfl dX1_passHour_97 (by first | rfl | assumption | exact rowS hh | exact mtS hm | exact ruS hr | exact mtA1 hm | exact mtA2 hm | exact mtA3 hm | exact mtA4 hm | exact mtA5 hm | exact mtA6 hm | exact mtA7 hm | exact ruA1 hr | exact ruA2 hr | exact ruA3 hr) (by omega) (by decide) ?_
          refine pw_aload_n 99 rfl dX1_passHour_98 rfl ?_
          refine pw_getI 102 rfl dX1_passHour_99 fX1_37 (by first | rfl | assumption | exact rowS hh | exact mtS hm | exact ruS hr | exact mtA1 hm | exact mtA2 hm | exact mtA3 hm | exact mtA4 hm | exact mtA5 hm | exact mtA6 hm | exact mtA7 hm | exact ruA1 hr | exact ruA2 hr | exact ruA3 hr) rfl ?_
          refine pw_icmp_ne (tgt := 122) 105 rfl dX1_passHour_102 rfl (fun h102 => absurd (by rw [c2', w8, ht]) h102) (fun h102 => ?_)
          refine pw_aload_n 106 rfl dX1_passHour_105 rfl ?_
          refine pw_getR 109 rfl dX1_passHour_106 fX1_18 (by first | rfl | assumption | exact rowS hh | exact mtS hm | exact ruS hr | exact mtA1 hm | exact mtA2 hm | exact mtA3 hm | exact mtA4 hm | exact mtA5 hm | exact mtA6 hm | exact mtA7 hm | exact ruA1 hr | exact ruA2 hr | exact ruA3 hr) rfl (by first | rfl | assumption | exact mtR0 hm | exact mtR1 hm | exact mtR2 hm | exact mtR3 hm | exact mtR4 hm | exact mtR5 hm | exact mtR6 hm | exact ruR0 hr | exact ruR1 hr | exact ruR3 hr) ?_
          refine pw_iload_n 110 rfl dX1_passHour_109 rfl ?_
          refine pw_ialdN 111 rfl dX1_passHour_110 (by first | rfl | assumption | exact rowS hh | exact mtS hm | exact ruS hr | exact mtA1 hm | exact mtA2 hm | exact mtA3 hm | exact mtA4 hm | exact mtA5 hm | exact mtA6 hm | exact mtA7 hm | exact ruA1 hr | exact ruA2 hr | exact ruA3 hr) (by omega) (by decide) ?_
          refine pw_iconst (v := nI 1) 112 rfl dX1_passHour_111 rfl ?_
          refine pw_icmp_ne (tgt := 122) 115 rfl dX1_passHour_112 rfl (fun h112 => ?_) (fun h112 => absurd h112 (by rw [w3, nI_eq (by omega) (by decide)]; exact fun z => hu ⟨z, ht⟩))
          rotate_left
          exact turn k _ _ hk (inv _ (fun a j h => rfl) (by rw [w3, hv])) ih
        · refine pw_aload_n 93 rfl dX1_passHour_92 rfl ?_
          refine pw_getR 96 rfl dX1_passHour_93 fX1_15 (by first | rfl | assumption | exact rowS hh | exact mtS hm | exact ruS hr | exact mtA1 hm | exact mtA2 hm | exact mtA3 hm | exact mtA4 hm | exact mtA5 hm | exact mtA6 hm | exact mtA7 hm | exact ruA1 hr | exact ruA2 hr | exact ruA3 hr) rfl (by first | rfl | assumption | exact mtR0 hm | exact mtR1 hm | exact mtR2 hm | exact mtR3 hm | exact mtR4 hm | exact mtR5 hm | exact mtR6 hm | exact ruR0 hr | exact ruR1 hr | exact ruR3 hr) ?_
          refine pw_iload_n 97 rfl dX1_passHour_96 rfl ?_
          refine pw_ialdN 98 rfl dX1_passHour_97 (by first | rfl | assumption | exact rowS hh | exact mtS hm | exact ruS hr | exact mtA1 hm | exact mtA2 hm | exact mtA3 hm | exact mtA4 hm | exact mtA5 hm | exact mtA6 hm | exact mtA7 hm | exact ruA1 hr | exact ruA2 hr | exact ruA3 hr) (by omega) (by decide) ?_
          refine pw_aload_n 99 rfl dX1_passHour_98 rfl ?_
          refine pw_getI 102 rfl dX1_passHour_99 fX1_37 (by first | rfl | assumption | exact rowS hh | exact mtS hm | exact ruS hr | exact mtA1 hm | exact mtA2 hm | exact mtA3 hm | exact mtA4 hm | exact mtA5 hm | exact mtA6 hm | exact mtA7 hm | exact ruA1 hr | exact ruA2 hr | exact ruA3 hr) rfl ?_
          refine pw_icmp_ne (tgt := 122) 105 rfl dX1_passHour_102 rfl (fun h102 => ?_) (fun h102 => absurd h102 (by rw [c2', w8, nI_eq (by omega) (by omega)]; exact ht))
          rotate_left
          exact turn k _ _ hk (inv _ (fun a j h => rfl) (by rw [w3, hv])) ih
  have mid : ∀ (I' : pI) (x2 x3 : Option Value), (∀ a, a ≠ m + 6 → a ≠ r + 2 → I' a = I a) → (∀ q, q < n → I' (m + 6) q = nI (s q)) → PW SX yX1_passHour.cls cX1_passHour 4 (d + 5) 66 [some (.ref m), some (.ref r), x2, x3] [] (I') (J) (RX) (rX cX1_passHour none (fun r' I' J' R' => r' = none ∧ XM I' m n pc (hrow n s b) ∧ I' m 12 = nI (bts (hC s b) n) ∧ (∀ q, q < n → I' (m + 7) q = nI (dist (hH s b q) (b q))) ∧ (∀ a, a ≠ r + 2 → ¬ (m ≤ a ∧ a ≤ m + 7) → I' a = I a) ∧ J = J' ∧ R' = RX)) := by
    intro I' x2 x3 g1 g2
    refine pw_aload_n 67 rfl dX1_passHour_66 rfl ?_
    refine pw_iconst (v := nI 0) 68 rfl dX1_passHour_67 rfl ?_
    refine pw_putI 71 rfl dX1_passHour_68 fX1_49 w1_12 (by first | rfl | assumption | exact rowS hh | exact mtS hm | exact ruS hr | exact mtA1 hm | exact mtA2 hm | exact mtA3 hm | exact mtA4 hm | exact mtA5 hm | exact mtA6 hm | exact mtA7 hm | exact ruA1 hr | exact ruA2 hr | exact ruA3 hr) rfl rfl rfl ?_
    refine pw_iconst (v := nI 0) 72 rfl dX1_passHour_71 rfl ?_
    refine pw_istore_n 73 rfl dX1_passHour_72 (by decide) ?_
    rotate_left
    have e : ∀ a, m ≤ a → a ≤ m + 5 → I' a = I a := fun a h1 h2 => g1 a (by omega) (ru_mt hm hr h1 (by omega)).2.2.1
    have em := e m (by omega) (by omega)
    refine loop2 _ _ ⟨fun a h1 h2 => ?_, fun j h1 h2 h3 => ?_, fun j => ?_, fun j => ?_, ?_, ?_, ?_, fun q hq => ⟨?_, ?_, ?_⟩, fun q hq => ?_, fun q hq => by omega⟩
    · funext j; rw [uI_ne (by omega), g1 a (by omega) h1]
    · rw [uI_ne (by omega), em]
    · rw [uI_ne (by omega), e _ (by omega) (by omega)]
    · rw [uI_ne (by omega), e _ (by omega) (by omega)]
    · rw [uI_ne (by omega), em]; exact i9
    · rw [uI_ne (by omega), em]; exact i11
    · rw [uI_eq]; rfl
    · rw [uI_ne (by omega), e _ (by omega) (by omega), if_neg (by omega)]; exact (hA q hq).2.1
    · rw [uI_ne (by omega), e _ (by omega) (by omega)]; exact (hA q hq).2.2.1
    · rw [uI_ne (by omega), e _ (by omega) (by omega), if_neg (by omega)]; exact (hA q hq).2.2.2.1
    · rw [uI_ne (by omega)]; exact g2 q hq
  refine pw_iconst (v := nI 0) 1 rfl dX1_passHour_0 rfl ?_
  refine pw_istore_n 2 rfl dX1_passHour_1 (by decide) ?_
  rotate_left
  have L := nat_loop n (fun k => ∀ (I' : pI) (x3 : Option Value), (∀ a, a ≠ m + 6 → a ≠ r + 2 → I' a = I a) → (∀ q, q < k → I' (m + 6) q = nI (s q)) → PW SX yX1_passHour.cls cX1_passHour 4 (d + 5) 2 [some (.ref m), some (.ref r), some (.int (nI k)), x3] [] (I') (J) (RX) (rX cX1_passHour none (fun r' I' J' R' => r' = none ∧ XM I' m n pc (hrow n s b) ∧ I' m 12 = nI (bts (hC s b) n) ∧ (∀ q, q < n → I' (m + 7) q = nI (dist (hH s b q) (b q))) ∧ (∀ a, a ≠ r + 2 → ¬ (m ≤ a ∧ a ≤ m + 7) → I' a = I a) ∧ J = J' ∧ R' = RX))) ?_ ?_
  · exact L I none (fun _ _ _ => rfl) (fun q hq => by omega)
  · intro I' x3 g1 g2
    have hn' : I' m 7 = nI n := by rw [g1 m (by omega) (ru_mt hm hr (Nat.le_refl m) (by omega)).2.2.1]; exact hn
    refine pw_iload_n 3 rfl dX1_passHour_2 rfl ?_
    refine pw_bipush (v := nI 7) 5 rfl dX1_passHour_3 rfl ?_
    refine pw_icmp_ge (tgt := 66) 8 rfl dX1_passHour_5 rfl (fun h5 => ?_) (fun h5 => ?_)
    rotate_left
    refine pw_iload_n 9 rfl dX1_passHour_8 rfl ?_
    refine pw_aload_n 10 rfl dX1_passHour_9 rfl ?_
    refine pw_getI 13 rfl dX1_passHour_10 fX1_33 (by first | rfl | assumption | exact rowS hh | exact mtS hm | exact ruS hr | exact mtA1 hm | exact mtA2 hm | exact mtA3 hm | exact mtA4 hm | exact mtA5 hm | exact mtA6 hm | exact mtA7 hm | exact ruA1 hr | exact ruA2 hr | exact ruA3 hr) rfl ?_
    refine pw_icmp_ge (tgt := 66) 16 rfl dX1_passHour_13 rfl (fun h13 => ?_) (fun h13 => absurd (by rw [hn']; (simp (disch := omega) only [nI_leI, nI_ltI, nI_eq, show (0 : Int32) = nI 0 from rfl, not_true_eq_false, not_false_eq_true] <;> omega)) h13)
    rotate_left
    · exact mid I' _ _ g1 g2
    · exact mid I' _ _ g1 g2
  · intro k hk ih I' x3 g1 g2
    have e : ∀ a, m ≤ a → a ≤ m + 5 → I' a = I a := fun a h1 h2 => g1 a (by omega) (ru_mt hm hr h1 (by omega)).2.2.1
    have hn' : I' m 7 = nI n := by rw [e m (by omega) (by omega)]; exact hn
    have hb := hB k (by omega)
    have e3 : I' (m + 3) k = nI (b (7 + k)) := by rw [e _ (by omega) (by omega)]; exact (hA k (by omega)).2.2.1
    have e4 : I' (m + 4) k = nI (b (14 + k)) := by rw [e _ (by omega) (by omega)]; exact (hA k (by omega)).2.2.2.1
    have hrm : ∀ a, a = r ∨ a = r + 1 → a ≠ m + 6 := fun a ha hb2 => by have := ru_mt hm hr (a := m + 6) (by omega) (by omega); omega
    have stop : ∀ (x3 : Option Value), s k = 0 → PW SX yX1_passHour.cls cX1_passHour 4 (d + 5) 2 [some (.ref m), some (.ref r), some (.int (nI (k + 1))), x3] [] ((uI I' (m + 6) k (nI 0))) (J) (RX) (rX cX1_passHour none (fun r' I' J' R' => r' = none ∧ XM I' m n pc (hrow n s b) ∧ I' m 12 = nI (bts (hC s b) n) ∧ (∀ q, q < n → I' (m + 7) q = nI (dist (hH s b q) (b q))) ∧ (∀ a, a ≠ r + 2 → ¬ (m ≤ a ∧ a ≤ m + 7) → I' a = I a) ∧ J = J' ∧ R' = RX)) := fun x3 h0 => ih _ x3 (fun a h1 h2 => by funext j; rw [uI_ne (by omega), g1 a h1 h2]) (fun q hq => by
      by_cases eq : q = k
      · subst eq; rw [uI_eq, h0]
      · rw [uI_ne (by omega)]; exact g2 q (by omega))
    refine pw_iload_n 3 rfl dX1_passHour_2 rfl ?_
    refine pw_bipush (v := nI 7) 5 rfl dX1_passHour_3 rfl ?_
    refine pw_icmp_ge (tgt := 66) 8 rfl dX1_passHour_5 rfl (fun h5 => absurd h5 (by (simp (disch := omega) only [nI_leI, nI_ltI, nI_eq, show (0 : Int32) = nI 0 from rfl, not_true_eq_false, not_false_eq_true] <;> omega))) (fun h5 => ?_)
    refine pw_iload_n 9 rfl dX1_passHour_8 rfl ?_
    refine pw_aload_n 10 rfl dX1_passHour_9 rfl ?_
    refine pw_getI 13 rfl dX1_passHour_10 fX1_33 (by first | rfl | assumption | exact rowS hh | exact mtS hm | exact ruS hr | exact mtA1 hm | exact mtA2 hm | exact mtA3 hm | exact mtA4 hm | exact mtA5 hm | exact mtA6 hm | exact mtA7 hm | exact ruA1 hr | exact ruA2 hr | exact ruA3 hr) rfl ?_
    refine pw_icmp_ge (tgt := 66) 16 rfl dX1_passHour_13 rfl (fun h13 => absurd h13 (by rw [hn']; (simp (disch := omega) only [nI_leI, nI_ltI, nI_eq, show (0 : Int32) = nI 0 from rfl, not_true_eq_false, not_false_eq_true] <;> omega))) (fun h13 => ?_)
    refine pw_aload_n 17 rfl dX1_passHour_16 rfl ?_
    refine pw_getR 20 rfl dX1_passHour_17 fX1_18 (by first | rfl | assumption | exact rowS hh | exact mtS hm | exact ruS hr | exact mtA1 hm | exact mtA2 hm | exact mtA3 hm | exact mtA4 hm | exact mtA5 hm | exact mtA6 hm | exact mtA7 hm | exact ruA1 hr | exact ruA2 hr | exact ruA3 hr) rfl (by first | rfl | assumption | exact mtR0 hm | exact mtR1 hm | exact mtR2 hm | exact mtR3 hm | exact mtR4 hm | exact mtR5 hm | exact mtR6 hm | exact ruR0 hr | exact ruR1 hr | exact ruR3 hr) ?_
    refine pw_iload_n 21 rfl dX1_passHour_20 rfl ?_
    refine pw_ialdN 22 rfl dX1_passHour_21 (by first | rfl | assumption | exact rowS hh | exact mtS hm | exact ruS hr | exact mtA1 hm | exact mtA2 hm | exact mtA3 hm | exact mtA4 hm | exact mtA5 hm | exact mtA6 hm | exact mtA7 hm | exact ruA1 hr | exact ruA2 hr | exact ruA3 hr) (by omega) (by decide) ?_
    refine pw_if_eq (tgt := 38) 25 rfl dX1_passHour_22 rfl (fun h22 => ?_) (fun h22 => ?_)
    refine pw_iconst (v := nI 0) 39 rfl dX1_passHour_38 rfl ?_
    rotate_left
    refine pw_aload_n 26 rfl dX1_passHour_25 rfl ?_
    refine pw_getR 29 rfl dX1_passHour_26 fX1_21 (by first | rfl | assumption | exact rowS hh | exact mtS hm | exact ruS hr | exact mtA1 hm | exact mtA2 hm | exact mtA3 hm | exact mtA4 hm | exact mtA5 hm | exact mtA6 hm | exact mtA7 hm | exact ruA1 hr | exact ruA2 hr | exact ruA3 hr) rfl (by first | rfl | assumption | exact mtR0 hm | exact mtR1 hm | exact mtR2 hm | exact mtR3 hm | exact mtR4 hm | exact mtR5 hm | exact mtR6 hm | exact ruR0 hr | exact ruR1 hr | exact ruR3 hr) ?_
    refine pw_iload_n 30 rfl dX1_passHour_29 rfl ?_
    refine pw_ialdN 31 rfl dX1_passHour_30 (by first | rfl | assumption | exact rowS hh | exact mtS hm | exact ruS hr | exact mtA1 hm | exact mtA2 hm | exact mtA3 hm | exact mtA4 hm | exact mtA5 hm | exact mtA6 hm | exact mtA7 hm | exact ruA1 hr | exact ruA2 hr | exact ruA3 hr) (by omega) (by decide) ?_
    refine pw_if_ne (tgt := 38) 34 rfl dX1_passHour_31 rfl (fun h31 => ?_) (fun h31 => ?_)
    refine pw_iconst (v := nI 0) 39 rfl dX1_passHour_38 rfl ?_
    rotate_left
    refine pw_iconst (v := nI 1) 35 rfl dX1_passHour_34 rfl ?_
    refine pw_goto (tgt := 39) dX1_passHour_35 rfl ?_
    rotate_left
    · rw [e3, show (0 : Int32) = nI 0 from rfl, nI_eq (by omega) (by decide)] at h22
      refine pw_istore_n 40 rfl dX1_passHour_39 (by decide) ?_
      refine pw_aload_n 41 rfl dX1_passHour_40 rfl ?_
      refine pw_getR 44 rfl dX1_passHour_41 fX1_27 (by first | rfl | assumption | exact rowS hh | exact mtS hm | exact ruS hr | exact mtA1 hm | exact mtA2 hm | exact mtA3 hm | exact mtA4 hm | exact mtA5 hm | exact mtA6 hm | exact mtA7 hm | exact ruA1 hr | exact ruA2 hr | exact ruA3 hr) rfl (by first | rfl | assumption | exact mtR0 hm | exact mtR1 hm | exact mtR2 hm | exact mtR3 hm | exact mtR4 hm | exact mtR5 hm | exact mtR6 hm | exact ruR0 hr | exact ruR1 hr | exact ruR3 hr) ?_
      refine pw_iload_n 45 rfl dX1_passHour_44 rfl ?_
      refine pw_iload_n 46 rfl dX1_passHour_45 rfl ?_
      refine pw_if_eq (tgt := 58) 49 rfl dX1_passHour_46 rfl (fun h46 => ?_) (fun h46 => absurd rfl h46)
      refine pw_iconst (v := nI 0) 59 rfl dX1_passHour_58 rfl ?_
      refine pw_iastN 60 rfl dX1_passHour_59 (by first | rfl | assumption | exact rowS hh | exact mtS hm | exact ruS hr | exact mtA1 hm | exact mtA2 hm | exact mtA3 hm | exact mtA4 hm | exact mtA5 hm | exact mtA6 hm | exact mtA7 hm | exact ruA1 hr | exact ruA2 hr | exact ruA3 hr) (by omega) (by decide) ?_
      refine pw_iincN 63 rfl dX1_passHour_60 (by decide) rfl ?_
      refine pw_goto (tgt := 2) dX1_passHour_63 rfl ?_
      rotate_left
      exact stop _ (by rw [hse]; unfold sts; rw [if_neg (fun z => z.1 h22)])
    · rw [e4, show (0 : Int32) = nI 0 from rfl, nI_eq (by omega) (by decide)] at h31
      refine pw_istore_n 40 rfl dX1_passHour_39 (by decide) ?_
      refine pw_aload_n 41 rfl dX1_passHour_40 rfl ?_
      refine pw_getR 44 rfl dX1_passHour_41 fX1_27 (by first | rfl | assumption | exact rowS hh | exact mtS hm | exact ruS hr | exact mtA1 hm | exact mtA2 hm | exact mtA3 hm | exact mtA4 hm | exact mtA5 hm | exact mtA6 hm | exact mtA7 hm | exact ruA1 hr | exact ruA2 hr | exact ruA3 hr) rfl (by first | rfl | assumption | exact mtR0 hm | exact mtR1 hm | exact mtR2 hm | exact mtR3 hm | exact mtR4 hm | exact mtR5 hm | exact mtR6 hm | exact ruR0 hr | exact ruR1 hr | exact ruR3 hr) ?_
      refine pw_iload_n 45 rfl dX1_passHour_44 rfl ?_
      refine pw_iload_n 46 rfl dX1_passHour_45 rfl ?_
      refine pw_if_eq (tgt := 58) 49 rfl dX1_passHour_46 rfl (fun h46 => ?_) (fun h46 => absurd rfl h46)
      refine pw_iconst (v := nI 0) 59 rfl dX1_passHour_58 rfl ?_
      refine pw_iastN 60 rfl dX1_passHour_59 (by first | rfl | assumption | exact rowS hh | exact mtS hm | exact ruS hr | exact mtA1 hm | exact mtA2 hm | exact mtA3 hm | exact mtA4 hm | exact mtA5 hm | exact mtA6 hm | exact mtA7 hm | exact ruA1 hr | exact ruA2 hr | exact ruA3 hr) (by omega) (by decide) ?_
      refine pw_iincN 63 rfl dX1_passHour_60 (by decide) rfl ?_
      refine pw_goto (tgt := 2) dX1_passHour_63 rfl ?_
      rotate_left
      exact stop _ (hsu k h31)
    · rw [e3, show (0 : Int32) = nI 0 from rfl, nI_eq (by omega) (by decide)] at h22
      rw [e4, show (0 : Int32) = nI 0 from rfl, nI_eq (by omega) (by decide)] at h31
      refine pw_istore_n 40 rfl dX1_passHour_39 (by decide) ?_
      refine pw_aload_n 41 rfl dX1_passHour_40 rfl ?_
      refine pw_getR 44 rfl dX1_passHour_41 fX1_27 (by first | rfl | assumption | exact rowS hh | exact mtS hm | exact ruS hr | exact mtA1 hm | exact mtA2 hm | exact mtA3 hm | exact mtA4 hm | exact mtA5 hm | exact mtA6 hm | exact mtA7 hm | exact ruA1 hr | exact ruA2 hr | exact ruA3 hr) rfl (by first | rfl | assumption | exact mtR0 hm | exact mtR1 hm | exact mtR2 hm | exact mtR3 hm | exact mtR4 hm | exact mtR5 hm | exact mtR6 hm | exact ruR0 hr | exact ruR1 hr | exact ruR3 hr) ?_
      refine pw_iload_n 45 rfl dX1_passHour_44 rfl ?_
      refine pw_iload_n 46 rfl dX1_passHour_45 rfl ?_
      refine pw_if_eq (tgt := 58) 49 rfl dX1_passHour_46 rfl (fun h46 => absurd h46 (by decide)) (fun h46 => ?_)
      refine pw_aload_n 50 rfl dX1_passHour_49 rfl ?_
      refine pw_aload_n 51 rfl dX1_passHour_50 rfl ?_
      refine pw_iload_n 52 rfl dX1_passHour_51 rfl ?_
      refine pw_callV (as := [_, _]) 55 rfl dX1_passHour_52 mX1_93 vX6_stepsOf (x_steps (d := d) hm hr (XM_fr5 hM e) hW hk (XE_fr hE (g1 r (hrm r (Or.inl rfl)) (by omega)) (g1 (r + 1) (hrm _ (Or.inr rfl)) (by omega)))) (by first | rfl | assumption | exact rowS hh | exact mtS hm | exact ruS hr | exact mtA1 hm | exact mtA2 hm | exact mtA3 hm | exact mtA4 hm | exact mtA5 hm | exact mtA6 hm | exact mtA7 hm | exact ruA1 hr | exact ruA2 hr | exact ruA3 hr) rfl (by decide) ⟨rfl, by decide, by decide, show (parseMethodDescriptor yX6_stepsOf.desc).map (fun d => d.parameters.length) = some 2 by decide +kernel⟩ (by omega) (by decide) (Nat.le_of_ble_eq_true rfl) rfl (fun r52 I52 J52 R52 c52 => ?_)
      rotate_left
      obtain ⟨rfl, c1, rfl, rfl⟩ := c52
      refine pw_goto (tgt := 59) dX1_passHour_55 rfl ?_
      refine pw_iastN 60 rfl dX1_passHour_59 (by first | rfl | assumption | exact rowS hh | exact mtS hm | exact ruS hr | exact mtA1 hm | exact mtA2 hm | exact mtA3 hm | exact mtA4 hm | exact mtA5 hm | exact mtA6 hm | exact mtA7 hm | exact ruA1 hr | exact ruA2 hr | exact ruA3 hr) (by omega) (by decide) ?_
      refine pw_iincN 63 rfl dX1_passHour_60 (by decide) rfl ?_
      refine pw_goto (tgt := 2) dX1_passHour_63 rfl ?_
      rotate_left
      refine ih _ _ (fun a h1 h2 => ?_) (fun q hq => ?_)
      · funext j; rw [uI_ne (by omega), c1 a h2, g1 a h1 h2]
      · by_cases eq : q = k
        · subst eq; rw [uI_eq, hse]; unfold sts; rw [if_pos ⟨h22, h31⟩]
        · rw [uI_ne (by omega), c1 _ (fun z => (ru_mt hm hr (a := m + 6) (by omega) (by omega)).2.2.1 z)]; exact g2 q (by omega)
