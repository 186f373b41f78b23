/-! years drawn by a seed -/
def drw (x : Int32) : Int32 := x * 1103515245 + nI 12345
def dN (x : Int32) : Nat := x.toBitVec.toNat / 65536
theorem nI_self (x : Int32) : nI x.toBitVec.toNat = x := by
  unfold nI
  apply Int32.toBitVec_inj.mp
  apply BitVec.eq_of_toNat_eq
  simp [BitVec.toNat_ofNat]
theorem ush_16 (x : Int32) : (x.toUInt32 >>> ((nI 16).toUInt32 &&& Int32.toUInt32 31)).toInt32 = nI (dN x) := by
  have h := pk_ushrN (n := x.toBitVec.toNat) (BitVec.isLt _) (nI 16) 16 (by decide)
  rw [nI_self] at h
  exact h
theorem dN_lt (x : Int32) : dN x < 65536 := by
  have := BitVec.isLt x.toBitVec
  unfold dN
  omega
set_option maxRecDepth 100000 in
set_option maxHeartbeats 2000000 in
theorem x_draw {d k : Nat} {I : pI} {J : pJ} (x : Int32) (hx : I 51 4 = x) (hk : 0 < k) (hk7 : k ≤ 7) : PC SX (d) yX5_draw cX5_draw 2 (some .int) [.ref 51, .int (nI k)] (I) (J) (RX) (fun r' I' J' R' => r' = some (.int (nI (dN (drw x) % k))) ∧ I' 51 4 = drw x ∧ (∀ a, a ≠ 51 → I' a = I a) ∧ J = J' ∧ R' = RX) := by
  refine PC.of [some (.ref 51), some (.int (nI k))] rfl rfl (Nat.le_of_ble_eq_true rfl) ?_
  have hd := dN_lt (drw x)
  refine pw_aload_n 1 rfl dX5_draw_0 rfl ?_
  refine pw_aload_n 2 rfl dX5_draw_1 rfl ?_
  refine pw_getI 5 rfl dX5_draw_2 fX5_18 (by first | rfl | assumption | exact rowS hh | exact mtS hm | exact ruS hr | exact mtA1 hm | exact mtA2 hm | exact mtA3 hm | exact mtA4 hm | exact mtA5 hm | exact mtA6 hm | exact mtA7 hm | exact ruA1 hr | exact ruA2 hr | exact ruA3 hr) rfl ?_
  refine pw_ldc 7 rfl dX5_draw_5 kX5_128 ?_
  first | refine pw_imulN 8 rfl dX5_draw_7 ?_ | refine pw_imul 8 rfl dX5_draw_7 ?_
  refine pw_sipush (v := nI 12345) 11 rfl dX5_draw_8 rfl ?_
  refine pw_iadd 12 rfl dX5_draw_11 ?_
  rotate_left
  rw [hx]
  show PW _ _ _ _ _ _ _ [.int (drw x), .ref 51] _ _ _ _
  refine pw_putI 15 rfl dX5_draw_12 fX5_18 w5_4 (by first | rfl | assumption | exact rowS hh | exact mtS hm | exact ruS hr | exact mtA1 hm | exact mtA2 hm | exact mtA3 hm | exact mtA4 hm | exact mtA5 hm | exact mtA6 hm | exact mtA7 hm | exact ruA1 hr | exact ruA2 hr | exact ruA3 hr) rfl rfl rfl ?_
  refine pw_iload_n 16 rfl dX5_draw_15 rfl ?_
  refine pw_if_le (tgt := 31) 19 rfl dX5_draw_16 rfl (fun h16 => absurd h16 (nI_nle hk (by omega))) (fun h16 => ?_)
  refine pw_aload_n 20 rfl dX5_draw_19 rfl ?_
  refine pw_getI 23 rfl dX5_draw_20 fX5_18 (by first | rfl | assumption | exact rowS hh | exact mtS hm | exact ruS hr | exact mtA1 hm | exact mtA2 hm | exact mtA3 hm | exact mtA4 hm | exact mtA5 hm | exact mtA6 hm | exact mtA7 hm | exact ruA1 hr | exact ruA2 hr | exact ruA3 hr) rfl ?_
  refine pw_bipush (v := nI 16) 25 rfl dX5_draw_23 rfl ?_
  rotate_left
  rw [uI_eq]
  refine pw_iushr 26 rfl dX5_draw_25 rfl ?_
  rotate_left
  rw [ush_16]
  refine pw_iload_n 27 rfl dX5_draw_26 rfl ?_
  refine pw_iremN 28 rfl dX5_draw_27 (by omega) (by omega) (by omega) ?_
  refine pw_goto (tgt := 32) dX5_draw_28 rfl ?_
  refine pw_iret dX5_draw_32 rfl ?_
  rotate_left
  exact ⟨rfl, uI_eq _ _ _ _, fun a ha => by rw [uI, if_neg ha], rfl, rfl⟩
/-- the contract of draw, whatever is drawn -/
def pDr (D : Int32 → Int32) (Q : Int32 → Nat) : Prop := ∀ (d k : Nat) (I : pI) (J : pJ) (x : Int32), I 51 4 = x → 0 < k → k ≤ 7 → PC SX d yX5_draw cX5_draw 2 (some .int) [.ref 51, .int (nI k)] I J RX (fun r' I' J' R' => r' = some (.int (nI (Q (D x) % k))) ∧ I' 51 4 = D x ∧ (∀ a, a ≠ 51 → I' a = I a) ∧ J = J' ∧ R' = RX)
theorem pDr_ok : pDr drw dN := fun _ _ _ _ x hx h1 h2 => x_draw x hx h1 h2
/-- one act drawn: the seed, the row, how many came down -/
def yst (D : Int32 → Int32) (Q : Int32 → Nat) (n : Nat) (pc : Nat → Nat) (E : (Nat → Int32) → Nat) (z : Int32 × (Nat → Nat) × Nat) : Int32 × (Nat → Nat) × Nat :=
  if Q (D z.1) % 4 < 2 then (D z.1, hr n pc E z.2.1, z.2.2 + popc (dnb n pc E z.2.1))
  else if n = 0 then (D z.1, z.2.1, z.2.2)
  else if Q (D z.1) % 4 = 2 then (D (D z.1), (aSet n z.2.1 (nI (Q (D (D z.1)) % n))).2, z.2.2)
  else (D (D (D z.1)), (aSlip n z.2.1 (nI (Q (D (D z.1)) % n)) (nI (Q (D (D (D z.1))) % 3 + 1))).2, z.2.2)
def yrs (D : Int32 → Int32) (Q : Int32 → Nat) (n : Nat) (pc : Nat → Nat) (E : (Nat → Int32) → Nat) (z : Int32 × (Nat → Nat) × Nat) : Nat → Int32 × (Nat → Nat) × Nat
  | 0 => z
  | k + 1 => yst D Q n pc E (yrs D Q n pc E z k)
set_option maxRecDepth 100000 in
set_option maxHeartbeats 2000000 in
theorem x_drawnAct2 {D : Int32 → Int32} {Q : Int32 → Nat} (hD : pDr D Q) {d n : Nat} {pc b : Nat → Nat} {I : pI} {J : pJ} (x : Int32) (hx : I 51 4 = x) (hM : XM I 52 n pc b) (hW : WF n pc b) (hn : n ≠ 0) : PC SX (d + 3) yX5_drawnAct cX5_drawnAct 3 none [.ref 51, .int (nI 2)] (I) (J) (RX) (fun r' I' J' R' => r' = none ∧ I' 51 4 = D x ∧ XM I' 52 n pc (aSet n b (nI (Q (D x) % n))).2 ∧ WF n pc (aSet n b (nI (Q (D x) % n))).2 ∧ (∀ a, a ≠ 51 → ¬ (52 ≤ a ∧ a ≤ 59) → I' a = I a) ∧ J = J' ∧ R' = RX) := by
  refine PC.of [some (.ref 51), some (.int (nI 2)), none] rfl rfl (Nat.le_of_ble_eq_true rfl) ?_
  have h7 := hW.1
  have hdr := hD d n I J x hx (show 0 < n by omega) h7
  generalize D x = y at hdr ⊢
  generalize Q y % n = q at hdr ⊢
  refine pw_aload_n 1 rfl dX5_drawnAct_0 rfl ?_
  refine pw_aload_n 2 rfl dX5_drawnAct_1 rfl ?_
  refine pw_getR 5 rfl dX5_drawnAct_2 fX5_12 (by first | rfl | assumption | exact rowS hh | exact mtS hm | exact ruS hr | exact mtA1 hm | exact mtA2 hm | exact mtA3 hm | exact mtA4 hm | exact mtA5 hm | exact mtA6 hm | exact mtA7 hm | exact ruA1 hr | exact ruA2 hr | exact ruA3 hr) rfl (by first | rfl | assumption | exact mtR0 hm | exact mtR1 hm | exact mtR2 hm | exact mtR3 hm | exact mtR4 hm | exact mtR5 hm | exact mtR6 hm | exact ruR0 hr | exact ruR1 hr | exact ruR3 hr) ?_
  refine pw_getI 8 rfl dX5_drawnAct_5 fX5_94 (by first | rfl | assumption | exact rowS hh | exact mtS hm | exact ruS hr | exact mtA1 hm | exact mtA2 hm | exact mtA3 hm | exact mtA4 hm | exact mtA5 hm | exact mtA6 hm | exact mtA7 hm | exact ruA1 hr | exact ruA2 hr | exact ruA3 hr) rfl ?_
  rotate_left
  rw [hM.2.1]
  refine pw_callV (as := [_]) 11 rfl dX5_drawnAct_8 mX5_116 vX5_draw hdr (by first | rfl | assumption | exact rowS hh | exact mtS hm | exact ruS hr | exact mtA1 hm | exact mtA2 hm | exact mtA3 hm | exact mtA4 hm | exact mtA5 hm | exact mtA6 hm | exact mtA7 hm | exact ruA1 hr | exact ruA2 hr | exact ruA3 hr) rfl (by decide) ⟨rfl, by decide, by decide, show (parseMethodDescriptor yX5_draw.desc).map (fun d => d.parameters.length) = some 1 by decide +kernel⟩ (by omega) (by decide) (Nat.le_of_ble_eq_true rfl) rfl (fun r8 I8 J8 R8 c8 => ?_)
  obtain ⟨rfl, a1, a2, rfl, rfl⟩ := c8
  refine pw_istore_n 12 rfl dX5_drawnAct_11 (by decide) ?_
  refine pw_iload_n 13 rfl dX5_drawnAct_12 rfl ?_
  refine pw_iconst (v := nI 2) 14 rfl dX5_drawnAct_13 rfl ?_
  refine pw_icmp_ne (tgt := 29) 17 rfl dX5_drawnAct_14 rfl (fun h14 => absurd rfl h14) (fun h14 => ?_)
  refine pw_aload_n 18 rfl dX5_drawnAct_17 rfl ?_
  refine pw_getR 21 rfl dX5_drawnAct_18 fX5_12 (by first | rfl | assumption | exact rowS hh | exact mtS hm | exact ruS hr | exact mtA1 hm | exact mtA2 hm | exact mtA3 hm | exact mtA4 hm | exact mtA5 hm | exact mtA6 hm | exact mtA7 hm | exact ruA1 hr | exact ruA2 hr | exact ruA3 hr) rfl (by first | rfl | assumption | exact mtR0 hm | exact mtR1 hm | exact mtR2 hm | exact mtR3 hm | exact mtR4 hm | exact mtR5 hm | exact mtR6 hm | exact ruR0 hr | exact ruR1 hr | exact ruR3 hr) ?_
  refine pw_iload_n 22 rfl dX5_drawnAct_21 rfl ?_
  refine pw_callV (as := [_]) 25 rfl dX5_drawnAct_22 mX5_100 vX1_setOut (x_setOut (d := d) (Or.inr (Or.inr rfl)) (XM_fr hM (fun a h1 h2 => a2 a (by omega))) hW _) (by first | rfl | assumption | exact rowS hh | exact mtS hm | exact ruS hr | exact mtA1 hm | exact mtA2 hm | exact mtA3 hm | exact mtA4 hm | exact mtA5 hm | exact mtA6 hm | exact mtA7 hm | exact ruA1 hr | exact ruA2 hr | exact ruA3 hr) rfl (by decide) ⟨rfl, by decide, by decide, show (parseMethodDescriptor yX1_setOut.desc).map (fun d => d.parameters.length) = some 1 by decide +kernel⟩ (by omega) (by decide) (Nat.le_of_ble_eq_true rfl) rfl (fun r22 I22 J22 R22 c22 => ?_)
  obtain ⟨rfl, s1, s2, s3, rfl, rfl⟩ := c22
  rotate_left
  refine pw_pop 26 rfl dX5_drawnAct_25 rfl ?_
  refine pw_goto (tgt := 45) dX5_drawnAct_26 rfl ?_
  refine pw_vret dX5_drawnAct_45 ?_
  rotate_left
  exact ⟨rfl, by rw [s3 51 (by omega)]; exact a1, s1, s2, fun a h1 h2 => by rw [s3 a h2, a2 a h1], rfl, rfl⟩
set_option maxRecDepth 100000 in
set_option maxHeartbeats 2000000 in
theorem x_drawnAct3 {D : Int32 → Int32} {Q : Int32 → Nat} (hD : pDr D Q) {d n : Nat} {pc b : Nat → Nat} {I : pI} {J : pJ} (x : Int32) (hx : I 51 4 = x) (hM : XM I 52 n pc b) (hW : WF n pc b) (hn : n ≠ 0) : PC SX (d + 3) yX5_drawnAct cX5_drawnAct 3 none [.ref 51, .int (nI 3)] (I) (J) (RX) (fun r' I' J' R' => r' = none ∧ I' 51 4 = D (D x) ∧ XM I' 52 n pc (aSlip n b (nI (Q (D x) % n)) (nI (Q (D (D x)) % 3 + 1))).2 ∧ WF n pc (aSlip n b (nI (Q (D x) % n)) (nI (Q (D (D x)) % 3 + 1))).2 ∧ (∀ a, a ≠ 51 → ¬ (52 ≤ a ∧ a ≤ 59) → I' a = I a) ∧ J = J' ∧ R' = RX) := by
  refine PC.of [some (.ref 51), some (.int (nI 3)), none] rfl rfl (Nat.le_of_ble_eq_true rfl) ?_
  have h7 := hW.1
  have hdr := hD d n I J x hx (show 0 < n by omega) h7
  generalize D x = y at hdr ⊢
  have hdr2 := fun (I : pI) (J : pJ) (hy : I 51 4 = y) => hD d 3 I J y hy (show 0 < 3 by omega) (by omega)
  generalize D y = y2 at hdr2 ⊢
  generalize Q y % n = q at hdr ⊢
  generalize Q y2 % 3 = q2 at hdr2 ⊢
  refine pw_aload_n 1 rfl dX5_drawnAct_0 rfl ?_
  refine pw_aload_n 2 rfl dX5_drawnAct_1 rfl ?_
  refine pw_getR 5 rfl dX5_drawnAct_2 fX5_12 (by first | rfl | assumption | exact rowS hh | exact mtS hm | exact ruS hr | exact mtA1 hm | exact mtA2 hm | exact mtA3 hm | exact mtA4 hm | exact mtA5 hm | exact mtA6 hm | exact mtA7 hm | exact ruA1 hr | exact ruA2 hr | exact ruA3 hr) rfl (by first | rfl | assumption | exact mtR0 hm | exact mtR1 hm | exact mtR2 hm | exact mtR3 hm | exact mtR4 hm | exact mtR5 hm | exact mtR6 hm | exact ruR0 hr | exact ruR1 hr | exact ruR3 hr) ?_
  refine pw_getI 8 rfl dX5_drawnAct_5 fX5_94 (by first | rfl | assumption | exact rowS hh | exact mtS hm | exact ruS hr | exact mtA1 hm | exact mtA2 hm | exact mtA3 hm | exact mtA4 hm | exact mtA5 hm | exact mtA6 hm | exact mtA7 hm | exact ruA1 hr | exact ruA2 hr | exact ruA3 hr) rfl ?_
  rotate_left
  rw [hM.2.1]
  refine pw_callV (as := [_]) 11 rfl dX5_drawnAct_8 mX5_116 vX5_draw hdr (by first | rfl | assumption | exact rowS hh | exact mtS hm | exact ruS hr | exact mtA1 hm | exact mtA2 hm | exact mtA3 hm | exact mtA4 hm | exact mtA5 hm | exact mtA6 hm | exact mtA7 hm | exact ruA1 hr | exact ruA2 hr | exact ruA3 hr) rfl (by decide) ⟨rfl, by decide, by decide, show (parseMethodDescriptor yX5_draw.desc).map (fun d => d.parameters.length) = some 1 by decide +kernel⟩ (by omega) (by decide) (Nat.le_of_ble_eq_true rfl) rfl (fun r8 I8 J8 R8 c8 => ?_)
  obtain ⟨rfl, a1, a2, rfl, rfl⟩ := c8
  refine pw_istore_n 12 rfl dX5_drawnAct_11 (by decide) ?_
  refine pw_iload_n 13 rfl dX5_drawnAct_12 rfl ?_
  refine pw_iconst (v := nI 2) 14 rfl dX5_drawnAct_13 rfl ?_
  refine pw_icmp_ne (tgt := 29) 17 rfl dX5_drawnAct_14 rfl (fun h14 => ?_) (fun h14 => absurd h14 (by decide))
  refine pw_aload_n 30 rfl dX5_drawnAct_29 rfl ?_
  refine pw_getR 33 rfl dX5_drawnAct_30 fX5_12 (by first | rfl | assumption | exact rowS hh | exact mtS hm | exact ruS hr | exact mtA1 hm | exact mtA2 hm | exact mtA3 hm | exact mtA4 hm | exact mtA5 hm | exact mtA6 hm | exact mtA7 hm | exact ruA1 hr | exact ruA2 hr | exact ruA3 hr) rfl (by first | rfl | assumption | exact mtR0 hm | exact mtR1 hm | exact mtR2 hm | exact mtR3 hm | exact mtR4 hm | exact mtR5 hm | exact mtR6 hm | exact ruR0 hr | exact ruR1 hr | exact ruR3 hr) ?_
  refine pw_iload_n 34 rfl dX5_drawnAct_33 rfl ?_
  refine pw_aload_n 35 rfl dX5_drawnAct_34 rfl ?_
  refine pw_iconst (v := nI 3) 36 rfl dX5_drawnAct_35 rfl ?_
  refine pw_callV (as := [_]) 39 rfl dX5_drawnAct_36 mX5_116 vX5_draw (hdr2 _ _ a1) (by first | rfl | assumption | exact rowS hh | exact mtS hm | exact ruS hr | exact mtA1 hm | exact mtA2 hm | exact mtA3 hm | exact mtA4 hm | exact mtA5 hm | exact mtA6 hm | exact mtA7 hm | exact ruA1 hr | exact ruA2 hr | exact ruA3 hr) rfl (by decide) ⟨rfl, by decide, by decide, show (parseMethodDescriptor yX5_draw.desc).map (fun d => d.parameters.length) = some 1 by decide +kernel⟩ (by omega) (by decide) (Nat.le_of_ble_eq_true rfl) rfl (fun r36 I36 J36 R36 c36 => ?_)
  obtain ⟨rfl, e1, e2, rfl, rfl⟩ := c36
  refine pw_iconst (v := nI 1) 40 rfl dX5_drawnAct_39 rfl ?_
  first | refine pw_iaddN 41 rfl dX5_drawnAct_40 ?_ | refine pw_iadd 41 rfl dX5_drawnAct_40 ?_
  refine pw_callV (as := [_, _]) 44 rfl dX5_drawnAct_41 mX5_125 vX1_slipDown (x_slipDown (d := d) (Or.inr (Or.inr rfl)) (XM_fr hM (fun a h1 h2 => by rw [e2 a (by omega), a2 a (by omega)])) hW _ _) (by first | rfl | assumption | exact rowS hh | exact mtS hm | exact ruS hr | exact mtA1 hm | exact mtA2 hm | exact mtA3 hm | exact mtA4 hm | exact mtA5 hm | exact mtA6 hm | exact mtA7 hm | exact ruA1 hr | exact ruA2 hr | exact ruA3 hr) rfl (by decide) ⟨rfl, by decide, by decide, show (parseMethodDescriptor yX1_slipDown.desc).map (fun d => d.parameters.length) = some 2 by decide +kernel⟩ (by omega) (by decide) (Nat.le_of_ble_eq_true rfl) rfl (fun r41 I41 J41 R41 c41 => ?_)
  obtain ⟨rfl, s1, s2, s3, rfl, rfl⟩ := c41
  rotate_left
  refine pw_pop 45 rfl dX5_drawnAct_44 rfl ?_
  refine pw_vret dX5_drawnAct_45 ?_
  rotate_left
  exact ⟨rfl, by rw [s3 51 (by omega)]; exact e1, s1, s2, fun a h1 h2 => by rw [s3 a h2, e2 a h1, a2 a h1], rfl, rfl⟩
set_option maxRecDepth 100000 in
set_option maxHeartbeats 2000000 in
theorem x_drawnYears {D : Int32 → Int32} {Q : Int32 → Nat} (hD : pDr D Q) {d n N : Nat} {pc b : Nat → Nat} {E : (Nat → Int32) → Nat} {I : pI} {J : pJ} (hM : XM I 1 n pc b) (hW : WF n pc b) (hE : XE I 9 E) (hN : N ≤ 60) (x : Int32) : PC SX (d + 8) yX5_drawnYears cX5_drawnYears 6 (some .int) [.ref 51, .int x, .int (nI N)] (I) (J) (RX) (fun r' I' J' R' => r' = some (.int (nI ((yrs D Q n pc E (x, b, 0) N).2.1 29))) ∧ XN I' J' [lI (yrs D Q n pc E (x, b, 0) N).2.2, lI (onW n (yrs D Q n pc E (x, b, 0) N).2.1)] ∧ (∀ a, a ≠ 11 → a ≠ 19 → ¬ (51 ≤ a ∧ a ≤ 59) → I' a = I a) ∧ R' = RX) := by
  refine PC.of [some (.ref 51), some (.int x), some (.int (nI N)), none, none, none] rfl rfl (Nat.le_of_ble_eq_true rfl) ?_
  have h7 := hW.1
  refine pw_aload_n 1 rfl dX5_drawnYears_0 rfl ?_
  refine pw_getR 4 rfl dX5_drawnYears_1 fX5_12 (by first | rfl | assumption | exact rowS hh | exact mtS hm | exact ruS hr | exact mtA1 hm | exact mtA2 hm | exact mtA3 hm | exact mtA4 hm | exact mtA5 hm | exact mtA6 hm | exact mtA7 hm | exact ruA1 hr | exact ruA2 hr | exact ruA3 hr) rfl (by first | rfl | assumption | exact mtR0 hm | exact mtR1 hm | exact mtR2 hm | exact mtR3 hm | exact mtR4 hm | exact mtR5 hm | exact mtR6 hm | exact ruR0 hr | exact ruR1 hr | exact ruR3 hr) ?_
  refine pw_aload_n 5 rfl dX5_drawnYears_4 rfl ?_
  refine pw_getR 8 rfl dX5_drawnYears_5 fX5_22 (by first | rfl | assumption | exact rowS hh | exact mtS hm | exact ruS hr | exact mtA1 hm | exact mtA2 hm | exact mtA3 hm | exact mtA4 hm | exact mtA5 hm | exact mtA6 hm | exact mtA7 hm | exact ruA1 hr | exact ruA2 hr | exact ruA3 hr) rfl (by first | rfl | assumption | exact mtR0 hm | exact mtR1 hm | exact mtR2 hm | exact mtR3 hm | exact mtR4 hm | exact mtR5 hm | exact mtR6 hm | exact ruR0 hr | exact ruR1 hr | exact ruR3 hr) ?_
  refine pw_callV (as := [_]) 11 rfl dX5_drawnYears_8 mX5_53 vX1_copyFrom (x_copyFrom (d := d) (Or.inr rfl) hM) (by first | rfl | assumption | exact rowS hh | exact mtS hm | exact ruS hr | exact mtA1 hm | exact mtA2 hm | exact mtA3 hm | exact mtA4 hm | exact mtA5 hm | exact mtA6 hm | exact mtA7 hm | exact ruA1 hr | exact ruA2 hr | exact ruA3 hr) rfl (by decide) ⟨rfl, by decide, by decide, show (parseMethodDescriptor yX1_copyFrom.desc).map (fun d => d.parameters.length) = some 1 by decide +kernel⟩ (by omega) (by decide) (Nat.le_of_ble_eq_true rfl) rfl (fun r8 I8 J8 R8 c8 => ?_)
  obtain ⟨rfl, a1, a2, a3, rfl, rfl⟩ := c8
  refine pw_aload_n 12 rfl dX5_drawnYears_11 rfl ?_
  refine pw_iload_n 13 rfl dX5_drawnYears_12 rfl ?_
  refine pw_putI 16 rfl dX5_drawnYears_13 fX5_18 w5_4 (by first | rfl | assumption | exact rowS hh | exact mtS hm | exact ruS hr | exact mtA1 hm | exact mtA2 hm | exact mtA3 hm | exact mtA4 hm | exact mtA5 hm | exact mtA6 hm | exact mtA7 hm | exact ruA1 hr | exact ruA2 hr | exact ruA3 hr) rfl rfl rfl ?_
  refine pw_iconst (v := nI 0) 17 rfl dX5_drawnYears_16 rfl ?_
  refine pw_istore_n 18 rfl dX5_drawnYears_17 (by decide) ?_
  refine pw_iconst (v := nI 0) 19 rfl dX5_drawnYears_18 rfl ?_
  refine pw_istore 21 rfl dX5_drawnYears_19 (by decide) ?_
  rotate_left
  have L := nat_loop N (fun t => ∀ (I' : pI) (x5 : Option Value), XM I' 52 n pc (yrs D Q n pc E (x, b, 0) t).2.1 → WF n pc (yrs D Q n pc E (x, b, 0) t).2.1 → XE I' 9 E → I' 51 4 = (yrs D Q n pc E (x, b, 0) t).1 → (∀ a, a ≠ 11 → ¬ (51 ≤ a ∧ a ≤ 59) → I' a = I a) → PW SX yX5_drawnYears.cls cX5_drawnYears 6 (d + 8) 21 [some (.ref 51), some (.int x), some (.int (nI N)), some (.int (nI (yrs D Q n pc E (x, b, 0) t).2.2)), some (.int (nI t)), x5] [] (I') (J) (RX) (rX cX5_drawnYears (some .int) (fun r' I' J' R' => r' = some (.int (nI ((yrs D Q n pc E (x, b, 0) N).2.1 29))) ∧ XN I' J' [lI (yrs D Q n pc E (x, b, 0) N).2.2, lI (onW n (yrs D Q n pc E (x, b, 0) N).2.1)] ∧ (∀ a, a ≠ 11 → a ≠ 19 → ¬ (51 ≤ a ∧ a ≤ 59) → I' a = I a) ∧ R' = RX))) ?_ ?_
  · exact L _ _ (XM_fr a1 (fun a h1 h2 => by rw [uI, if_neg (by omega)])) hW (XE_fr hE (by rw [uI, if_neg (by omega), a3 9 (by omega)]) (by rw [uI, if_neg (by omega), a3 10 (by omega)])) (uI_eq _ _ _ _) (fun a h1 h2 => by rw [uI, if_neg (by omega), a3 a (by omega)])
  · intro I' x5 g1 g2 g3 g4 g5
    refine pw_iload 23 rfl dX5_drawnYears_21 rfl ?_
    refine pw_iload_n 24 rfl dX5_drawnYears_23 rfl ?_
    refine pw_icmp_ge (tgt := 80) 27 rfl dX5_drawnYears_24 rfl (fun h24 => ?_) (fun h24 => absurd (by (simp (disch := omega) only [nI_leI, nI_ltI, nI_eq, show (0 : Int32) = nI 0 from rfl, not_true_eq_false, not_false_eq_true] <;> omega)) h24)
    refine pw_aload_n 81 rfl dX5_drawnYears_80 rfl ?_
    refine pw_getR 84 rfl dX5_drawnYears_81 fX5_29 (by first | rfl | assumption | exact rowS hh | exact mtS hm | exact ruS hr | exact mtA1 hm | exact mtA2 hm | exact mtA3 hm | exact mtA4 hm | exact mtA5 hm | exact mtA6 hm | exact mtA7 hm | exact ruA1 hr | exact ruA2 hr | exact ruA3 hr) rfl (by first | rfl | assumption | exact mtR0 hm | exact mtR1 hm | exact mtR2 hm | exact mtR3 hm | exact mtR4 hm | exact mtR5 hm | exact mtR6 hm | exact ruR0 hr | exact ruR1 hr | exact ruR3 hr) ?_
    refine pw_iload_n 85 rfl dX5_drawnYears_84 rfl ?_
    refine pw_i2l 86 rfl dX5_drawnYears_85 ?_
    refine pw_aload_n 87 rfl dX5_drawnYears_86 rfl ?_
    refine pw_getR 90 rfl dX5_drawnYears_87 fX5_12 (by first | rfl | assumption | exact rowS hh | exact mtS hm | exact ruS hr | exact mtA1 hm | exact mtA2 hm | exact mtA3 hm | exact mtA4 hm | exact mtA5 hm | exact mtA6 hm | exact mtA7 hm | exact ruA1 hr | exact ruA2 hr | exact ruA3 hr) rfl (by first | rfl | assumption | exact mtR0 hm | exact mtR1 hm | exact mtR2 hm | exact mtR3 hm | exact mtR4 hm | exact mtR5 hm | exact mtR6 hm | exact ruR0 hr | exact ruR1 hr | exact ruR3 hr) ?_
    refine pw_callVP (as := []) 93 rfl dX5_drawnYears_90 mX5_122 vX1_howManyOnWay (x_howManyOnWay (d := d) (Or.inr (Or.inr rfl)) g1 g2) (by first | rfl | assumption | exact rowS hh | exact mtS hm | exact ruS hr | exact mtA1 hm | exact mtA2 hm | exact mtA3 hm | exact mtA4 hm | exact mtA5 hm | exact mtA6 hm | exact mtA7 hm | exact ruA1 hr | exact ruA2 hr | exact ruA3 hr) rfl (by decide) ⟨rfl, by decide, by decide, show (parseMethodDescriptor yX1_howManyOnWay.desc).map (fun d => d.parameters.length) = some 0 by decide +kernel⟩ (by omega) (by decide) (Nat.le_of_ble_eq_true rfl) rfl ?_
    refine pw_i2l 94 rfl dX5_drawnYears_93 ?_
    refine pw_callV (as := [_, _]) 97 rfl dX5_drawnYears_94 mX5_63 vX2_tellTwo (x_tellTwo (d := d) _ _) (by first | rfl | assumption | exact rowS hh | exact mtS hm | exact ruS hr | exact mtA1 hm | exact mtA2 hm | exact mtA3 hm | exact mtA4 hm | exact mtA5 hm | exact mtA6 hm | exact mtA7 hm | exact ruA1 hr | exact ruA2 hr | exact ruA3 hr) rfl (by decide) ⟨rfl, by decide, by decide, show (parseMethodDescriptor yX2_tellTwo.desc).map (fun d => d.parameters.length) = some 2 by decide +kernel⟩ (by omega) (by decide) (Nat.le_of_ble_eq_true rfl) rfl (fun r94 I94 J94 R94 c94 => ?_)
    obtain ⟨rfl, n1, n2, rfl⟩ := c94
    rotate_left
    refine pw_aload_n 98 rfl dX5_drawnYears_97 rfl ?_
    refine pw_getR 101 rfl dX5_drawnYears_98 fX5_12 (by first | rfl | assumption | exact rowS hh | exact mtS hm | exact ruS hr | exact mtA1 hm | exact mtA2 hm | exact mtA3 hm | exact mtA4 hm | exact mtA5 hm | exact mtA6 hm | exact mtA7 hm | exact ruA1 hr | exact ruA2 hr | exact ruA3 hr) rfl (by first | rfl | assumption | exact mtR0 hm | exact mtR1 hm | exact mtR2 hm | exact mtR3 hm | exact mtR4 hm | exact mtR5 hm | exact mtR6 hm | exact ruR0 hr | exact ruR1 hr | exact ruR3 hr) ?_
    refine pw_getI 104 rfl dX5_drawnYears_101 fX5_37 (by first | rfl | assumption | exact rowS hh | exact mtS hm | exact ruS hr | exact mtA1 hm | exact mtA2 hm | exact mtA3 hm | exact mtA4 hm | exact mtA5 hm | exact mtA6 hm | exact mtA7 hm | exact ruA1 hr | exact ruA2 hr | exact ruA3 hr) rfl ?_
    refine pw_iret dX5_drawnYears_104 rfl ?_
    rotate_left
    refine ⟨?_, n1, fun a h1 h2 h3 => by rw [n2 a h2, g5 a h1 h3], rfl⟩
    rw [n2 52 (by omega), g1.2.2.2.1]
  · intro t ht ih I' x5 g1 g2 g3 g4 g5
    generalize hz : yrs D Q n pc E (x, b, 0) t = z at g1 g2 g4
    have hz1 : yrs D Q n pc E (x, b, 0) (t + 1) = yst D Q n pc E z := by rw [← hz]; rfl
    rw [hz1] at ih
    refine pw_iload 23 rfl dX5_drawnYears_21 rfl ?_
    refine pw_iload_n 24 rfl dX5_drawnYears_23 rfl ?_
    refine pw_icmp_ge (tgt := 80) 27 rfl dX5_drawnYears_24 rfl (fun h24 => absurd h24 (by (simp (disch := omega) only [nI_leI, nI_ltI, nI_eq, show (0 : Int32) = nI 0 from rfl, not_true_eq_false, not_false_eq_true] <;> omega))) (fun h24 => ?_)
    refine pw_aload_n 28 rfl dX5_drawnYears_27 rfl ?_
    refine pw_iconst (v := nI 4) 29 rfl dX5_drawnYears_28 rfl ?_
    refine pw_callV (as := [_]) 32 rfl dX5_drawnYears_29 mX5_116 vX5_draw (hD d 4 _ _ z.1 g4 (by omega) (by omega)) (by first | rfl | assumption | exact rowS hh | exact mtS hm | exact ruS hr | exact mtA1 hm | exact mtA2 hm | exact mtA3 hm | exact mtA4 hm | exact mtA5 hm | exact mtA6 hm | exact mtA7 hm | exact ruA1 hr | exact ruA2 hr | exact ruA3 hr) rfl (by decide) ⟨rfl, by decide, by decide, show (parseMethodDescriptor yX5_draw.desc).map (fun d => d.parameters.length) = some 1 by decide +kernel⟩ (by omega) (by decide) (Nat.le_of_ble_eq_true rfl) rfl (fun r29 I29 J29 R29 c29 => ?_)
    obtain ⟨rfl, e1, e2, rfl, rfl⟩ := c29
    refine pw_istore 34 rfl dX5_drawnYears_32 (by decide) ?_
    rotate_left
    have m1 : XM I29 52 n pc z.2.1 := XM_fr g1 (fun a h1 h2 => e2 a (by omega))
    have m3 : XE I29 9 E := XE_fr g3 (e2 9 (by omega)) (e2 10 (by omega))
    by_cases hw : Q (D z.1) % 4 < 2
    · rw [yst, if_pos hw] at ih
      refine pw_iload 36 rfl dX5_drawnYears_34 rfl ?_
      refine pw_iconst (v := nI 2) 37 rfl dX5_drawnYears_36 rfl ?_
      refine pw_icmp_ge (tgt := 58) 40 rfl dX5_drawnYears_37 rfl (fun h37 => absurd h37 (by (simp (disch := omega) only [nI_leI, nI_ltI, nI_eq, show (0 : Int32) = nI 0 from rfl, not_true_eq_false, not_false_eq_true] <;> omega))) (fun h37 => ?_)
      refine pw_iload_n 41 rfl dX5_drawnYears_40 rfl ?_
      refine pw_aload_n 42 rfl dX5_drawnYears_41 rfl ?_
      refine pw_getR 45 rfl dX5_drawnYears_42 fX5_12 (by first | rfl | assumption | exact rowS hh | exact mtS hm | exact ruS hr | exact mtA1 hm | exact mtA2 hm | exact mtA3 hm | exact mtA4 hm | exact mtA5 hm | exact mtA6 hm | exact mtA7 hm | exact ruA1 hr | exact ruA2 hr | exact ruA3 hr) rfl (by first | rfl | assumption | exact mtR0 hm | exact mtR1 hm | exact mtR2 hm | exact mtR3 hm | exact mtR4 hm | exact mtR5 hm | exact mtR6 hm | exact ruR0 hr | exact ruR1 hr | exact ruR3 hr) ?_
      refine pw_aload_n 46 rfl dX5_drawnYears_45 rfl ?_
      refine pw_getR 49 rfl dX5_drawnYears_46 fX5_25 (by first | rfl | assumption | exact rowS hh | exact mtS hm | exact ruS hr | exact mtA1 hm | exact mtA2 hm | exact mtA3 hm | exact mtA4 hm | exact mtA5 hm | exact mtA6 hm | exact mtA7 hm | exact ruA1 hr | exact ruA2 hr | exact ruA3 hr) rfl (by first | rfl | assumption | exact mtR0 hm | exact mtR1 hm | exact mtR2 hm | exact mtR3 hm | exact mtR4 hm | exact mtR5 hm | exact mtR6 hm | exact ruR0 hr | exact ruR1 hr | exact ruR3 hr) ?_
      refine pw_iconst (v := nI 1) 50 rfl dX5_drawnYears_49 rfl ?_
      refine pw_callV (as := [_, _]) 53 rfl dX5_drawnYears_50 mX5_109 vX1_passHours (x_passHours (d := d) (N := 1) (Or.inr (Or.inr rfl)) (Or.inl rfl) m1 g2 m3 (by omega)) (by first | rfl | assumption | exact rowS hh | exact mtS hm | exact ruS hr | exact mtA1 hm | exact mtA2 hm | exact mtA3 hm | exact mtA4 hm | exact mtA5 hm | exact mtA6 hm | exact mtA7 hm | exact ruA1 hr | exact ruA2 hr | exact ruA3 hr) rfl (by decide) ⟨rfl, by decide, by decide, show (parseMethodDescriptor yX1_passHours.desc).map (fun d => d.parameters.length) = some 2 by decide +kernel⟩ (by omega) (by decide) (Nat.le_of_ble_eq_true rfl) rfl (fun r50 I50 J50 R50 c50 => ?_)
      obtain ⟨rfl, b1, b2, b3, rfl, rfl⟩ := c50
      rotate_left
      first | refine pw_iaddN 54 rfl dX5_drawnYears_53 ?_ | refine pw_iadd 54 rfl dX5_drawnYears_53 ?_
      refine pw_istore_n 55 rfl dX5_drawnYears_54 (by decide) ?_
      refine pw_goto (tgt := 74) dX5_drawnYears_55 rfl ?_
      refine pw_iincN 77 rfl dX5_drawnYears_74 (by decide) rfl ?_
      refine pw_goto (tgt := 21) dX5_drawnYears_77 rfl ?_
      rotate_left
      have hc : cdn n pc E z.2.1 1 = popc (dnb n pc E z.2.1) := Nat.zero_add _
      rw [hc]
      exact ih I50 _ b1 (WF_hr E g2) b2 (by rw [b3 51 (by omega) (by omega)]; exact e1) (fun a h1 h2 => by rw [b3 a h1 (by omega), e2 a (by omega), g5 a h1 h2])
    · rw [yst, if_neg hw] at ih
      by_cases hn0 : n = 0
      · rw [if_pos hn0] at ih
        refine pw_iload 36 rfl dX5_drawnYears_34 rfl ?_
        refine pw_iconst (v := nI 2) 37 rfl dX5_drawnYears_36 rfl ?_
        refine pw_icmp_ge (tgt := 58) 40 rfl dX5_drawnYears_37 rfl (fun h37 => ?_) (fun h37 => absurd (by (simp (disch := omega) only [nI_leI, nI_ltI, nI_eq, show (0 : Int32) = nI 0 from rfl, not_true_eq_false, not_false_eq_true] <;> omega)) h37)
        refine pw_aload_n 59 rfl dX5_drawnYears_58 rfl ?_
        refine pw_getR 62 rfl dX5_drawnYears_59 fX5_12 (by first | rfl | assumption | exact rowS hh | exact mtS hm | exact ruS hr | exact mtA1 hm | exact mtA2 hm | exact mtA3 hm | exact mtA4 hm | exact mtA5 hm | exact mtA6 hm | exact mtA7 hm | exact ruA1 hr | exact ruA2 hr | exact ruA3 hr) rfl (by first | rfl | assumption | exact mtR0 hm | exact mtR1 hm | exact mtR2 hm | exact mtR3 hm | exact mtR4 hm | exact mtR5 hm | exact mtR6 hm | exact ruR0 hr | exact ruR1 hr | exact ruR3 hr) ?_
        refine pw_getI 65 rfl dX5_drawnYears_62 fX5_94 (by first | rfl | assumption | exact rowS hh | exact mtS hm | exact ruS hr | exact mtA1 hm | exact mtA2 hm | exact mtA3 hm | exact mtA4 hm | exact mtA5 hm | exact mtA6 hm | exact mtA7 hm | exact ruA1 hr | exact ruA2 hr | exact ruA3 hr) rfl ?_
        refine pw_if_le (tgt := 74) 68 rfl dX5_drawnYears_65 rfl (fun h65 => ?_) (fun h65 => absurd (by rw [m1.2.1, hn0]; decide) h65)
        refine pw_iincN 77 rfl dX5_drawnYears_74 (by decide) rfl ?_
        refine pw_goto (tgt := 21) dX5_drawnYears_77 rfl ?_
        rotate_left
        exact ih I29 _ m1 g2 m3 e1 (fun a h1 h2 => by rw [e2 a (by omega), g5 a h1 h2])
      · rw [if_neg hn0] at ih
        by_cases h2 : Q (D z.1) % 4 = 2
        · rw [if_pos h2] at ih
          rw [h2]
          refine pw_iload 36 rfl dX5_drawnYears_34 rfl ?_
          refine pw_iconst (v := nI 2) 37 rfl dX5_drawnYears_36 rfl ?_
          refine pw_icmp_ge (tgt := 58) 40 rfl dX5_drawnYears_37 rfl (fun h37 => ?_) (fun h37 => absurd (by decide) h37)
          refine pw_aload_n 59 rfl dX5_drawnYears_58 rfl ?_
          refine pw_getR 62 rfl dX5_drawnYears_59 fX5_12 (by first | rfl | assumption | exact rowS hh | exact mtS hm | exact ruS hr | exact mtA1 hm | exact mtA2 hm | exact mtA3 hm | exact mtA4 hm | exact mtA5 hm | exact mtA6 hm | exact mtA7 hm | exact ruA1 hr | exact ruA2 hr | exact ruA3 hr) rfl (by first | rfl | assumption | exact mtR0 hm | exact mtR1 hm | exact mtR2 hm | exact mtR3 hm | exact mtR4 hm | exact mtR5 hm | exact mtR6 hm | exact ruR0 hr | exact ruR1 hr | exact ruR3 hr) ?_
          refine pw_getI 65 rfl dX5_drawnYears_62 fX5_94 (by first | rfl | assumption | exact rowS hh | exact mtS hm | exact ruS hr | exact mtA1 hm | exact mtA2 hm | exact mtA3 hm | exact mtA4 hm | exact mtA5 hm | exact mtA6 hm | exact mtA7 hm | exact ruA1 hr | exact ruA2 hr | exact ruA3 hr) rfl ?_
          refine pw_if_le (tgt := 74) 68 rfl dX5_drawnYears_65 rfl (fun h65 => absurd h65 (by rw [m1.2.1]; exact nI_nle (by omega) (by omega))) (fun h65 => ?_)
          refine pw_aload_n 69 rfl dX5_drawnYears_68 rfl ?_
          refine pw_iload 71 rfl dX5_drawnYears_69 rfl ?_
          refine pw_callV (as := [_]) 74 rfl dX5_drawnYears_71 mX5_119 vX5_drawnAct (x_drawnAct2 hD (d := d) (D z.1) e1 m1 g2 hn0) (by first | rfl | assumption | exact rowS hh | exact mtS hm | exact ruS hr | exact mtA1 hm | exact mtA2 hm | exact mtA3 hm | exact mtA4 hm | exact mtA5 hm | exact mtA6 hm | exact mtA7 hm | exact ruA1 hr | exact ruA2 hr | exact ruA3 hr) rfl (by decide) ⟨rfl, by decide, by decide, show (parseMethodDescriptor yX5_drawnAct.desc).map (fun d => d.parameters.length) = some 1 by decide +kernel⟩ (by omega) (by decide) (Nat.le_of_ble_eq_true rfl) rfl (fun r71 I71 J71 R71 c71 => ?_)
          obtain ⟨rfl, b1, b2, b3, b4, rfl, rfl⟩ := c71
          refine pw_iincN 77 rfl dX5_drawnYears_74 (by decide) rfl ?_
          refine pw_goto (tgt := 21) dX5_drawnYears_77 rfl ?_
          rotate_left
          exact ih I71 _ b2 b3 (XE_fr m3 (b4 9 (by omega) (by omega)) (b4 10 (by omega) (by omega))) b1 (fun a h1 h2 => by rw [b4 a (by omega) (by omega), e2 a (by omega), g5 a h1 h2])
        · rw [if_neg h2] at ih
          rw [show Q (D z.1) % 4 = 3 by omega]
          refine pw_iload 36 rfl dX5_drawnYears_34 rfl ?_
          refine pw_iconst (v := nI 2) 37 rfl dX5_drawnYears_36 rfl ?_
          refine pw_icmp_ge (tgt := 58) 40 rfl dX5_drawnYears_37 rfl (fun h37 => ?_) (fun h37 => absurd (by decide) h37)
          refine pw_aload_n 59 rfl dX5_drawnYears_58 rfl ?_
          refine pw_getR 62 rfl dX5_drawnYears_59 fX5_12 (by first | rfl | assumption | exact rowS hh | exact mtS hm | exact ruS hr | exact mtA1 hm | exact mtA2 hm | exact mtA3 hm | exact mtA4 hm | exact mtA5 hm | exact mtA6 hm | exact mtA7 hm | exact ruA1 hr | exact ruA2 hr | exact ruA3 hr) rfl (by first | rfl | assumption | exact mtR0 hm | exact mtR1 hm | exact mtR2 hm | exact mtR3 hm | exact mtR4 hm | exact mtR5 hm | exact mtR6 hm | exact ruR0 hr | exact ruR1 hr | exact ruR3 hr) ?_
          refine pw_getI 65 rfl dX5_drawnYears_62 fX5_94 (by first | rfl | assumption | exact rowS hh | exact mtS hm | exact ruS hr | exact mtA1 hm | exact mtA2 hm | exact mtA3 hm | exact mtA4 hm | exact mtA5 hm | exact mtA6 hm | exact mtA7 hm | exact ruA1 hr | exact ruA2 hr | exact ruA3 hr) rfl ?_
          refine pw_if_le (tgt := 74) 68 rfl dX5_drawnYears_65 rfl (fun h65 => absurd h65 (by rw [m1.2.1]; exact nI_nle (by omega) (by omega))) (fun h65 => ?_)
          refine pw_aload_n 69 rfl dX5_drawnYears_68 rfl ?_
          refine pw_iload 71 rfl dX5_drawnYears_69 rfl ?_
          refine pw_callV (as := [_]) 74 rfl dX5_drawnYears_71 mX5_119 vX5_drawnAct (x_drawnAct3 hD (d := d) (D z.1) e1 m1 g2 hn0) (by first | rfl | assumption | exact rowS hh | exact mtS hm | exact ruS hr | exact mtA1 hm | exact mtA2 hm | exact mtA3 hm | exact mtA4 hm | exact mtA5 hm | exact mtA6 hm | exact mtA7 hm | exact ruA1 hr | exact ruA2 hr | exact ruA3 hr) rfl (by decide) ⟨rfl, by decide, by decide, show (parseMethodDescriptor yX5_drawnAct.desc).map (fun d => d.parameters.length) = some 1 by decide +kernel⟩ (by omega) (by decide) (Nat.le_of_ble_eq_true rfl) rfl (fun r71 I71 J71 R71 c71 => ?_)
          obtain ⟨rfl, b1, b2, b3, b4, rfl, rfl⟩ := c71
          refine pw_iincN 77 rfl dX5_drawnYears_74 (by decide) rfl ?_
          refine pw_goto (tgt := 21) dX5_drawnYears_77 rfl ?_
          rotate_left
          exact ih I71 _ b2 b3 (XE_fr m3 (b4 9 (by omega) (by omega)) (b4 10 (by omega) (by omega))) b1 (fun a h1 h2 => by rw [b4 a (by omega) (by omega), e2 a (by omega), g5 a h1 h2])
