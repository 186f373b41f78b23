/-! the two cases that may throw -/
theorem agr_lx {o : Option Int64} {s : aSt} {I I' I2 : pI} {J J' J2 : pJ} {R R' R2 : pR} {r : Option Value} (h : lxP o s I J R r I' J' R') (hg : agr 70 SM I2 J2 R2 I J R) : agr 70 SM I2 J2 R2 I' J' R' := fun k hk => by
  obtain ⟨a1, a2, a3⟩ := hg k hk
  have hk' : k < 26 := hk
  obtain ⟨b1, b2, b3⟩ := h.2.1 (70 + k) (by omega)
  exact ⟨b1.trans a1, (b3 (by omega)).trans a2, b2.trans a3⟩
theorem lg_cmp_self (x : Int64) : lg_cmp x x = 0 := by
  unfold lg_cmp
  simp
set_option maxRecDepth 100000 in
set_option maxHeartbeats 2000000 in
theorem lc_climber {B L : Nat} {xs : Nat → Int32} (hL : L ≤ 2560) {s : aSt} {g i : Nat} {I : pI} {J : pJ} {R : pR} {x5 x6 x7 : Option Value} {X : pXt} (hI : LI s g I J R) (hW : WA s) (hi : i + 5 ≤ L) (k : ∀ (s' : aSt) (I' : pI) (J' : pJ) (R' : pR) (x5 x6 x7 : Option Value), WA s' → LI s' (g + 10000) I' J' R' → LW B L xs SL yL_law.cls cL_law 8 260 1621 [some (.ref 200), some (.ref 0), some (.ref 70), some (.ref 96), some (.int (nI i)), x5, x6, x7] [] I' J' R' X) : LW (B + 1) L xs SL yL_law.cls cL_law 8 260 361 [some (.ref 200), some (.ref 0), some (.ref 70), some (.ref 96), some (.int (nI i)), x5, x6, x7] [] I J R X := by
  obtain ⟨⟨I1, J1, hX, hgX⟩, I2, J2, rd, hM, hD, hgM⟩ := hI
  refine lw_pw (fun _ kk => pw_aload_n 362 rfl dL_law_361 rfl kk) ?_
  refine lw_pw (fun _ kk => pw_aload_n 363 rfl dL_law_362 rfl kk) ?_
  refine lw_pw (fun _ kk => pw_iload 365 rfl dL_law_363 rfl kk) ?_
  refine lw_pw (fun _ kk => pw_iconst (v := nI 1) 366 rfl dL_law_365 rfl kk) ?_
  first | refine lw_pw (fun _ kk => pw_iaddN 367 rfl dL_law_366 kk) ?_ | refine lw_pw (fun _ kk => pw_iadd 367 rfl dL_law_366 kk) ?_
  refine lw_sldN 368 rfl dL_law_367 (by omega) (by omega) ?_
  refine lw_pw (fun _ kk => pw_aload_n 369 rfl dL_law_368 rfl kk) ?_
  refine lw_pw (fun _ kk => pw_iload 371 rfl dL_law_369 rfl kk) ?_
  refine lw_pw (fun _ kk => pw_iconst (v := nI 2) 372 rfl dL_law_371 rfl kk) ?_
  first | refine lw_pw (fun _ kk => pw_iaddN 373 rfl dL_law_372 kk) ?_ | refine lw_pw (fun _ kk => pw_iadd 373 rfl dL_law_372 kk) ?_
  refine lw_sldN 374 rfl dL_law_373 (by omega) (by omega) ?_
  refine lw_pw (fun _ kk => pw_aload_n 375 rfl dL_law_374 rfl kk) ?_
  rotate_left
  refine lw_callX (as := [.ref 0, .int (xs (i + 1)), .int (xs (i + 2)), .ref 96]) (rest := []) 378 rfl dL_law_375 mL_46 lk_climber (lx_climber hX hW hgX) ⟨by decide, by decide, show (parseMethodDescriptor yL_climber.desc).map (fun d => d.parameters.length) = some 4 by decide +kernel⟩ (by decide) (by decide) (Nat.le_of_ble_eq_true rfl) rfl (fun r IA JA RA c => ?_)
  have hgM' := agr_lx c hgM
  obtain ⟨⟨I1', J1', hX', hgX'⟩, -, hres⟩ := id c
  cases e : clAt (xs (i + 1)) (xs (i + 2)) s with
  | none =>
    rw [e] at hres
    obtain rfl : r = some (.int (nI 1)) := hres
    show LW _ _ _ _ _ _ _ _ _ _ [.int _] _ _ _ _
    refine lw_pw (fun _ kk => pw_istore 380 rfl dL_law_378 (by decide) kk) ?_
    refine lw_pw (fun _ kk => pw_aload_n 381 rfl dL_law_380 rfl kk) ?_
    refine lw_pw (fun _ kk => pw_aload_n 382 rfl dL_law_381 rfl kk) ?_
    refine lw_pw (fun _ kk => pw_iload 384 rfl dL_law_382 rfl kk) ?_
    refine lw_pw (fun _ kk => pw_iconst (v := nI 1) 385 rfl dL_law_384 rfl kk) ?_
    first | refine lw_pw (fun _ kk => pw_iaddN 386 rfl dL_law_385 kk) ?_ | refine lw_pw (fun _ kk => pw_iadd 386 rfl dL_law_385 kk) ?_
    refine lw_sldN 387 rfl dL_law_386 (by omega) (by omega) ?_
    refine lw_pw (fun _ kk => pw_aload_n 388 rfl dL_law_387 rfl kk) ?_
    refine lw_pw (fun _ kk => pw_iload 390 rfl dL_law_388 rfl kk) ?_
    refine lw_pw (fun _ kk => pw_iconst (v := nI 2) 391 rfl dL_law_390 rfl kk) ?_
    first | refine lw_pw (fun _ kk => pw_iaddN 392 rfl dL_law_391 kk) ?_ | refine lw_pw (fun _ kk => pw_iadd 392 rfl dL_law_391 kk) ?_
    refine lw_sldN 393 rfl dL_law_392 (by omega) (by omega) ?_
    refine lw_call (fun _ kk => pw_callV (as := [_, _]) 396 rfl dL_law_393 mL_51 vX12_climber (PC.lift (S' := SL) (o := 70) sl_m (by decide) (mo_climber (d := 0) hM hD hW _ _) hgM') (by first | rfl | assumption | exact rowS hh | exact mtS hm | exact ruS hr | exact mtA1 hm | exact mtA2 hm | exact mtA3 hm | exact mtA4 hm | exact mtA5 hm | exact mtA6 hm | exact mtA7 hm | exact ruA1 hr | exact ruA2 hr | exact ruA3 hr) rfl (by decide) ⟨rfl, by decide, by decide, show (parseMethodDescriptor yX12_climber.desc).map (fun d => d.parameters.length) = some 2 by decide +kernel⟩ (by omega) (by decide) (Nat.le_of_ble_eq_true rfl) rfl kk) (fun r393 I393 J393 R393 c393 => ?_)
    obtain ⟨r2, IB, JB, RB, hmc, rfl, hgM2, hout2⟩ := c393; rw [e] at hmc; obtain ⟨⟨⟨y2, rfl⟩, h7⟩, hM2, hD2, rd', rfl⟩ := hmc; have hgX2 := agr_out hgX' hout2 (Or.inl (by decide)); show LW _ _ _ _ _ _ _ _ _ _ [.int _] _ _ _ _
    refine lw_pw (fun _ kk => pw_istore 398 rfl dL_law_396 (by decide) kk) ?_
    refine lw_pw (fun _ kk => pw_aload_n 399 rfl dL_law_398 rfl kk) ?_
    refine lw_call (fun _ kk => pw_callV (as := []) 402 rfl dL_law_399 mL_52 vX12_thrown (PC.lift (S' := SL) (o := 70) sl_m (by decide) (m_thrown (d := 0)) hgM2) (by first | rfl | assumption | exact rowS hh | exact mtS hm | exact ruS hr | exact mtA1 hm | exact mtA2 hm | exact mtA3 hm | exact mtA4 hm | exact mtA5 hm | exact mtA6 hm | exact mtA7 hm | exact ruA1 hr | exact ruA2 hr | exact ruA3 hr) rfl (by decide) ⟨rfl, by decide, by decide, show (parseMethodDescriptor yX12_thrown.desc).map (fun d => d.parameters.length) = some 0 by decide +kernel⟩ (by omega) (by decide) (Nat.le_of_ble_eq_true rfl) rfl kk) (fun r399 I399 J399 R399 c399 => ?_)
    obtain ⟨r3, IC, JC, RC, ⟨rfl, rfl, rfl, rfl⟩, rfl, hgM3, hout3⟩ := c399; have hgX3 := agr_out hgX2 hout3 (Or.inl (by decide)); show LW _ _ _ _ _ _ _ _ _ _ [.int _] _ _ _ _
    refine lw_pw (fun _ kk => pw_iload 404 rfl dL_law_402 rfl kk) ?_
    refine lw_pw (fun _ kk => pw_icmp_eq (tgt := 409) 407 rfl dL_law_404 rfl (fun h404 => kk) (fun h404 => absurd h7 h404)) ?_
    refine lw_pw (fun _ kk => pw_iload 411 rfl dL_law_409 rfl kk) ?_
    refine lw_pw (fun _ kk => pw_if_ne (tgt := 426) 414 rfl dL_law_411 rfl (fun h411 => kk) (fun h411 => absurd h411 (by decide))) ?_
    refine lw_pw (fun _ kk => pw_goto (tgt := 1621) dL_law_426 rfl kk) ?_
    rotate_left
    exact k _ _ _ _ _ _ _ hW ⟨⟨_, _, hX', hgX3⟩, _, _, rd', hM2, hD2, hgM3⟩
  | some x =>
    rw [e] at hres
    obtain ⟨rfl, h96⟩ : r = some (.int (nI 0)) ∧ JA 96 0 = x.toInt64 := hres
    show LW _ _ _ _ _ _ _ _ _ _ [.int _] _ _ _ _
    refine lw_pw (fun _ kk => pw_istore 380 rfl dL_law_378 (by decide) kk) ?_
    refine lw_pw (fun _ kk => pw_aload_n 381 rfl dL_law_380 rfl kk) ?_
    refine lw_pw (fun _ kk => pw_aload_n 382 rfl dL_law_381 rfl kk) ?_
    refine lw_pw (fun _ kk => pw_iload 384 rfl dL_law_382 rfl kk) ?_
    refine lw_pw (fun _ kk => pw_iconst (v := nI 1) 385 rfl dL_law_384 rfl kk) ?_
    first | refine lw_pw (fun _ kk => pw_iaddN 386 rfl dL_law_385 kk) ?_ | refine lw_pw (fun _ kk => pw_iadd 386 rfl dL_law_385 kk) ?_
    refine lw_sldN 387 rfl dL_law_386 (by omega) (by omega) ?_
    refine lw_pw (fun _ kk => pw_aload_n 388 rfl dL_law_387 rfl kk) ?_
    refine lw_pw (fun _ kk => pw_iload 390 rfl dL_law_388 rfl kk) ?_
    refine lw_pw (fun _ kk => pw_iconst (v := nI 2) 391 rfl dL_law_390 rfl kk) ?_
    first | refine lw_pw (fun _ kk => pw_iaddN 392 rfl dL_law_391 kk) ?_ | refine lw_pw (fun _ kk => pw_iadd 392 rfl dL_law_391 kk) ?_
    refine lw_sldN 393 rfl dL_law_392 (by omega) (by omega) ?_
    refine lw_call (fun _ kk => pw_callV (as := [_, _]) 396 rfl dL_law_393 mL_51 vX12_climber (PC.lift (S' := SL) (o := 70) sl_m (by decide) (mo_climber (d := 0) hM hD hW _ _) hgM') (by first | rfl | assumption | exact rowS hh | exact mtS hm | exact ruS hr | exact mtA1 hm | exact mtA2 hm | exact mtA3 hm | exact mtA4 hm | exact mtA5 hm | exact mtA6 hm | exact mtA7 hm | exact ruA1 hr | exact ruA2 hr | exact ruA3 hr) rfl (by decide) ⟨rfl, by decide, by decide, show (parseMethodDescriptor yX12_climber.desc).map (fun d => d.parameters.length) = some 2 by decide +kernel⟩ (by omega) (by decide) (Nat.le_of_ble_eq_true rfl) rfl kk) (fun r393 I393 J393 R393 c393 => ?_)
    obtain ⟨r2, IB, JB, RB, hmc, rfl, hgM2, hout2⟩ := c393; rw [e] at hmc; obtain ⟨⟨rfl, h7⟩, hM2, hD2, rd', rfl⟩ := hmc; have hgX2 := agr_out hgX' hout2 (Or.inl (by decide)); show LW _ _ _ _ _ _ _ _ _ _ [.int _] _ _ _ _
    refine lw_pw (fun _ kk => pw_istore 398 rfl dL_law_396 (by decide) kk) ?_
    refine lw_pw (fun _ kk => pw_aload_n 399 rfl dL_law_398 rfl kk) ?_
    refine lw_call (fun _ kk => pw_callV (as := []) 402 rfl dL_law_399 mL_52 vX12_thrown (PC.lift (S' := SL) (o := 70) sl_m (by decide) (m_thrown (d := 0)) hgM2) (by first | rfl | assumption | exact rowS hh | exact mtS hm | exact ruS hr | exact mtA1 hm | exact mtA2 hm | exact mtA3 hm | exact mtA4 hm | exact mtA5 hm | exact mtA6 hm | exact mtA7 hm | exact ruA1 hr | exact ruA2 hr | exact ruA3 hr) rfl (by decide) ⟨rfl, by decide, by decide, show (parseMethodDescriptor yX12_thrown.desc).map (fun d => d.parameters.length) = some 0 by decide +kernel⟩ (by omega) (by decide) (Nat.le_of_ble_eq_true rfl) rfl kk) (fun r399 I399 J399 R399 c399 => ?_)
    obtain ⟨r3, IC, JC, RC, ⟨rfl, rfl, rfl, rfl⟩, rfl, hgM3, hout3⟩ := c399; have hgX3 := agr_out hgX2 hout3 (Or.inl (by decide)); have h96' := (congrFun (hout3 96 (by decide)).2.1 0).trans ((congrFun (hout2 96 (by decide)).2.1 0).trans h96); show LW _ _ _ _ _ _ _ _ _ _ [.int _] _ _ _ _
    refine lw_pw (fun _ kk => pw_iload 404 rfl dL_law_402 rfl kk) ?_
    refine lw_pw (fun _ kk => pw_icmp_eq (tgt := 409) 407 rfl dL_law_404 rfl (fun h404 => kk) (fun h404 => absurd h7 h404)) ?_
    refine lw_pw (fun _ kk => pw_iload 411 rfl dL_law_409 rfl kk) ?_
    refine lw_pw (fun _ kk => pw_if_ne (tgt := 426) 414 rfl dL_law_411 rfl (fun h411 => absurd rfl h411) (fun h411 => kk)) ?_
    refine lw_pw (fun _ kk => pw_aload_n 415 rfl dL_law_414 rfl kk) ?_
    refine lw_pw (fun _ kk => pw_iconst (v := nI 0) 416 rfl dL_law_415 rfl kk) ?_
    refine lw_pw (fun _ kk => pw_laldN 417 rfl dL_law_416 (by first | rfl | assumption | exact rowS hh | exact mtS hm | exact ruS hr | exact mtA1 hm | exact mtA2 hm | exact mtA3 hm | exact mtA4 hm | exact mtA5 hm | exact mtA6 hm | exact mtA7 hm | exact ruA1 hr | exact ruA2 hr | exact ruA3 hr) (by omega) (by first | decide | omega) kk) ?_
    refine lw_pw (fun _ kk => pw_iload 419 rfl dL_law_417 rfl kk) ?_
    refine lw_pw (fun _ kk => pw_i2l 420 rfl dL_law_419 kk) ?_
    refine lw_pw (fun _ kk => pw_lcmp 421 rfl dL_law_420 kk) ?_
    refine lw_pw (fun _ kk => pw_if_eq (tgt := 426) 424 rfl dL_law_421 rfl (fun h421 => kk) (fun h421 => absurd (by rw [h96']; exact lg_cmp_self _) h421)) ?_
    refine lw_pw (fun _ kk => pw_goto (tgt := 1621) dL_law_426 rfl kk) ?_
    rotate_left
    exact k _ _ _ _ _ _ _ hW ⟨⟨_, _, hX', hgX3⟩, _, _, rd', hM2, hD2, hgM3⟩
set_option maxRecDepth 100000 in
set_option maxHeartbeats 2000000 in
theorem lc_row {B L : Nat} {xs : Nat → Int32} (hL : L ≤ 2560) {s : aSt} {g i : Nat} {I : pI} {J : pJ} {R : pR} {x5 x6 x7 : Option Value} {X : pXt} (hI : LI s g I J R) (hW : WA s) (hi : i + 5 ≤ L) (k : ∀ (s' : aSt) (I' : pI) (J' : pJ) (R' : pR) (x5 x6 x7 : Option Value), WA s' → LI s' (g + 10000) I' J' R' → LW B L xs SL yL_law.cls cL_law 8 260 1621 [some (.ref 200), some (.ref 0), some (.ref 70), some (.ref 96), some (.int (nI i)), x5, x6, x7] [] I' J' R' X) : LW (B + 1) L xs SL yL_law.cls cL_law 8 260 1566 [some (.ref 200), some (.ref 0), some (.ref 70), some (.ref 96), some (.int (nI i)), x5, x6, x7] [] I J R X := by
  obtain ⟨⟨I1, J1, hX, hgX⟩, I2, J2, rd, hM, hD, hgM⟩ := hI
  refine lw_pw (fun _ kk => pw_aload_n 1567 rfl dL_law_1566 rfl kk) ?_
  refine lw_pw (fun _ kk => pw_aload_n 1568 rfl dL_law_1567 rfl kk) ?_
  refine lw_pw (fun _ kk => pw_iload 1570 rfl dL_law_1568 rfl kk) ?_
  refine lw_pw (fun _ kk => pw_iconst (v := nI 1) 1571 rfl dL_law_1570 rfl kk) ?_
  first | refine lw_pw (fun _ kk => pw_iaddN 1572 rfl dL_law_1571 kk) ?_ | refine lw_pw (fun _ kk => pw_iadd 1572 rfl dL_law_1571 kk) ?_
  refine lw_sldN 1573 rfl dL_law_1572 (by omega) (by omega) ?_
  refine lw_pw (fun _ kk => pw_aload_n 1574 rfl dL_law_1573 rfl kk) ?_
  rotate_left
  refine lw_callX (as := [.ref 0, .int (xs (i + 1)), .ref 96]) (rest := []) 1577 rfl dL_law_1574 mL_236 lk_row (lx_row hX hgX) ⟨by decide, by decide, show (parseMethodDescriptor yL_row.desc).map (fun d => d.parameters.length) = some 3 by decide +kernel⟩ (by decide) (by decide) (Nat.le_of_ble_eq_true rfl) rfl (fun r IA JA RA c => ?_)
  have hgM' := agr_lx c hgM
  obtain ⟨⟨I1', J1', hX', hgX'⟩, -, hres⟩ := id c
  cases e : rwAt s.2.2.2.2.2.1 (xs (i + 1)) with
  | none =>
    rw [e] at hres
    obtain rfl : r = some (.int (nI 1)) := hres
    show LW _ _ _ _ _ _ _ _ _ _ [.int _] _ _ _ _
    refine lw_pw (fun _ kk => pw_istore 1579 rfl dL_law_1577 (by decide) kk) ?_
    refine lw_pw (fun _ kk => pw_aload_n 1580 rfl dL_law_1579 rfl kk) ?_
    refine lw_pw (fun _ kk => pw_aload_n 1581 rfl dL_law_1580 rfl kk) ?_
    refine lw_pw (fun _ kk => pw_iload 1583 rfl dL_law_1581 rfl kk) ?_
    refine lw_pw (fun _ kk => pw_iconst (v := nI 1) 1584 rfl dL_law_1583 rfl kk) ?_
    first | refine lw_pw (fun _ kk => pw_iaddN 1585 rfl dL_law_1584 kk) ?_ | refine lw_pw (fun _ kk => pw_iadd 1585 rfl dL_law_1584 kk) ?_
    refine lw_sldN 1586 rfl dL_law_1585 (by omega) (by omega) ?_
    refine lw_call (fun _ kk => pw_callV (as := [_]) 1589 rfl dL_law_1586 mL_239 vX12_row (PC.lift (S' := SL) (o := 70) sl_m (by decide) (mo_row (d := 0) hM hD _) hgM') (by first | rfl | assumption | exact rowS hh | exact mtS hm | exact ruS hr | exact mtA1 hm | exact mtA2 hm | exact mtA3 hm | exact mtA4 hm | exact mtA5 hm | exact mtA6 hm | exact mtA7 hm | exact ruA1 hr | exact ruA2 hr | exact ruA3 hr) rfl (by decide) ⟨rfl, by decide, by decide, show (parseMethodDescriptor yX12_row.desc).map (fun d => d.parameters.length) = some 1 by decide +kernel⟩ (by omega) (by decide) (Nat.le_of_ble_eq_true rfl) rfl kk) (fun r1586 I1586 J1586 R1586 c1586 => ?_)
    obtain ⟨r2, IB, JB, RB, hmc, rfl, hgM2, hout2⟩ := c1586; rw [e] at hmc; obtain ⟨⟨⟨y2, rfl⟩, h7⟩, hM2, hD2, rd', rfl⟩ := hmc; have hgX2 := agr_out hgX' hout2 (Or.inl (by decide)); show LW _ _ _ _ _ _ _ _ _ _ [.long _] _ _ _ _
    refine lw_pw (fun _ kk => pw_lstore 1591 rfl dL_law_1589 (by decide) kk) ?_
    refine lw_pw (fun _ kk => pw_aload_n 1592 rfl dL_law_1591 rfl kk) ?_
    refine lw_call (fun _ kk => pw_callV (as := []) 1595 rfl dL_law_1592 mL_52 vX12_thrown (PC.lift (S' := SL) (o := 70) sl_m (by decide) (m_thrown (d := 0)) hgM2) (by first | rfl | assumption | exact rowS hh | exact mtS hm | exact ruS hr | exact mtA1 hm | exact mtA2 hm | exact mtA3 hm | exact mtA4 hm | exact mtA5 hm | exact mtA6 hm | exact mtA7 hm | exact ruA1 hr | exact ruA2 hr | exact ruA3 hr) rfl (by decide) ⟨rfl, by decide, by decide, show (parseMethodDescriptor yX12_thrown.desc).map (fun d => d.parameters.length) = some 0 by decide +kernel⟩ (by omega) (by decide) (Nat.le_of_ble_eq_true rfl) rfl kk) (fun r1592 I1592 J1592 R1592 c1592 => ?_)
    obtain ⟨r3, IC, JC, RC, ⟨rfl, rfl, rfl, rfl⟩, rfl, hgM3, hout3⟩ := c1592; have hgX3 := agr_out hgX2 hout3 (Or.inl (by decide)); show LW _ _ _ _ _ _ _ _ _ _ [.int _] _ _ _ _
    refine lw_pw (fun _ kk => pw_iload 1597 rfl dL_law_1595 rfl kk) ?_
    refine lw_pw (fun _ kk => pw_icmp_eq (tgt := 1602) 1600 rfl dL_law_1597 rfl (fun h1597 => kk) (fun h1597 => absurd h7 h1597)) ?_
    refine lw_pw (fun _ kk => pw_iload 1604 rfl dL_law_1602 rfl kk) ?_
    refine lw_pw (fun _ kk => pw_if_ne (tgt := 1618) 1607 rfl dL_law_1604 rfl (fun h1604 => kk) (fun h1604 => absurd h1604 (by decide))) ?_
    refine lw_pw (fun _ kk => pw_goto (tgt := 1621) dL_law_1618 rfl kk) ?_
    rotate_left
    exact k _ _ _ _ _ _ _ hW ⟨⟨_, _, hX', hgX3⟩, _, _, rd', hM2, hD2, hgM3⟩
  | some x =>
    rw [e] at hres
    obtain ⟨rfl, h96⟩ : r = some (.int (nI 0)) ∧ JA 96 0 = x := hres
    show LW _ _ _ _ _ _ _ _ _ _ [.int _] _ _ _ _
    refine lw_pw (fun _ kk => pw_istore 1579 rfl dL_law_1577 (by decide) kk) ?_
    refine lw_pw (fun _ kk => pw_aload_n 1580 rfl dL_law_1579 rfl kk) ?_
    refine lw_pw (fun _ kk => pw_aload_n 1581 rfl dL_law_1580 rfl kk) ?_
    refine lw_pw (fun _ kk => pw_iload 1583 rfl dL_law_1581 rfl kk) ?_
    refine lw_pw (fun _ kk => pw_iconst (v := nI 1) 1584 rfl dL_law_1583 rfl kk) ?_
    first | refine lw_pw (fun _ kk => pw_iaddN 1585 rfl dL_law_1584 kk) ?_ | refine lw_pw (fun _ kk => pw_iadd 1585 rfl dL_law_1584 kk) ?_
    refine lw_sldN 1586 rfl dL_law_1585 (by omega) (by omega) ?_
    refine lw_call (fun _ kk => pw_callV (as := [_]) 1589 rfl dL_law_1586 mL_239 vX12_row (PC.lift (S' := SL) (o := 70) sl_m (by decide) (mo_row (d := 0) hM hD _) hgM') (by first | rfl | assumption | exact rowS hh | exact mtS hm | exact ruS hr | exact mtA1 hm | exact mtA2 hm | exact mtA3 hm | exact mtA4 hm | exact mtA5 hm | exact mtA6 hm | exact mtA7 hm | exact ruA1 hr | exact ruA2 hr | exact ruA3 hr) rfl (by decide) ⟨rfl, by decide, by decide, show (parseMethodDescriptor yX12_row.desc).map (fun d => d.parameters.length) = some 1 by decide +kernel⟩ (by omega) (by decide) (Nat.le_of_ble_eq_true rfl) rfl kk) (fun r1586 I1586 J1586 R1586 c1586 => ?_)
    obtain ⟨r2, IB, JB, RB, hmc, rfl, hgM2, hout2⟩ := c1586; rw [e] at hmc; obtain ⟨⟨rfl, h7⟩, hM2, hD2, rd', rfl⟩ := hmc; have hgX2 := agr_out hgX' hout2 (Or.inl (by decide)); show LW _ _ _ _ _ _ _ _ _ _ [.long _] _ _ _ _
    refine lw_pw (fun _ kk => pw_lstore 1591 rfl dL_law_1589 (by decide) kk) ?_
    refine lw_pw (fun _ kk => pw_aload_n 1592 rfl dL_law_1591 rfl kk) ?_
    refine lw_call (fun _ kk => pw_callV (as := []) 1595 rfl dL_law_1592 mL_52 vX12_thrown (PC.lift (S' := SL) (o := 70) sl_m (by decide) (m_thrown (d := 0)) hgM2) (by first | rfl | assumption | exact rowS hh | exact mtS hm | exact ruS hr | exact mtA1 hm | exact mtA2 hm | exact mtA3 hm | exact mtA4 hm | exact mtA5 hm | exact mtA6 hm | exact mtA7 hm | exact ruA1 hr | exact ruA2 hr | exact ruA3 hr) rfl (by decide) ⟨rfl, by decide, by decide, show (parseMethodDescriptor yX12_thrown.desc).map (fun d => d.parameters.length) = some 0 by decide +kernel⟩ (by omega) (by decide) (Nat.le_of_ble_eq_true rfl) rfl kk) (fun r1592 I1592 J1592 R1592 c1592 => ?_)
    obtain ⟨r3, IC, JC, RC, ⟨rfl, rfl, rfl, rfl⟩, rfl, hgM3, hout3⟩ := c1592; have hgX3 := agr_out hgX2 hout3 (Or.inl (by decide)); have h96' := (congrFun (hout3 96 (by decide)).2.1 0).trans ((congrFun (hout2 96 (by decide)).2.1 0).trans h96); show LW _ _ _ _ _ _ _ _ _ _ [.int _] _ _ _ _
    refine lw_pw (fun _ kk => pw_iload 1597 rfl dL_law_1595 rfl kk) ?_
    refine lw_pw (fun _ kk => pw_icmp_eq (tgt := 1602) 1600 rfl dL_law_1597 rfl (fun h1597 => kk) (fun h1597 => absurd h7 h1597)) ?_
    refine lw_pw (fun _ kk => pw_iload 1604 rfl dL_law_1602 rfl kk) ?_
    refine lw_pw (fun _ kk => pw_if_ne (tgt := 1618) 1607 rfl dL_law_1604 rfl (fun h1604 => absurd rfl h1604) (fun h1604 => kk)) ?_
    refine lw_pw (fun _ kk => pw_aload_n 1608 rfl dL_law_1607 rfl kk) ?_
    refine lw_pw (fun _ kk => pw_iconst (v := nI 0) 1609 rfl dL_law_1608 rfl kk) ?_
    refine lw_pw (fun _ kk => pw_laldN 1610 rfl dL_law_1609 (by first | rfl | assumption | exact rowS hh | exact mtS hm | exact ruS hr | exact mtA1 hm | exact mtA2 hm | exact mtA3 hm | exact mtA4 hm | exact mtA5 hm | exact mtA6 hm | exact mtA7 hm | exact ruA1 hr | exact ruA2 hr | exact ruA3 hr) (by omega) (by first | decide | omega) kk) ?_
    refine lw_pw (fun _ kk => pw_lload 1612 rfl dL_law_1610 rfl kk) ?_
    refine lw_pw (fun _ kk => pw_lcmp 1613 rfl dL_law_1612 kk) ?_
    refine lw_pw (fun _ kk => pw_if_eq (tgt := 1618) 1616 rfl dL_law_1613 rfl (fun h1613 => kk) (fun h1613 => absurd (by rw [h96']; exact lg_cmp_self _) h1613)) ?_
    refine lw_pw (fun _ kk => pw_goto (tgt := 1621) dL_law_1618 rfl kk) ?_
    rotate_left
    exact k _ _ _ _ _ _ _ hW ⟨⟨_, _, hX', hgX3⟩, _, _, rd', hM2, hD2, hgM3⟩
