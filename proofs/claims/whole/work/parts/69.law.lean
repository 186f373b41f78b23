/-! the cases of the law -/
set_option maxRecDepth 100000 in
set_option maxHeartbeats 2000000 in
theorem lc_sign {B L : Nat} {xs : Nat → Int32} (hL : L ≤ 2560) {s : aSt} {g i : Nat} {I : pI} {J : pJ} {R : pR} {x5 x6 x7 : Option Value} {X : pXt} (hI : LI s g I J R) (hW : WA s) (hg : g ≤ 400000000) (hi : i + 5 ≤ L) (k : ∀ (s' : aSt) (I' : pI) (J' : pJ) (R' : pR) (x5 x6 x7 : Option Value), WA s' → LI s' (g + 10000) I' J' R' → LW B L xs SL yL_law.cls cL_law 8 260 1621 [some (.ref 200), some (.ref 0), some (.ref 70), some (.ref 96), some (.int (nI i)), x5, x6, x7] [] I' J' R' X) : LW B L xs SL yL_law.cls cL_law 8 260 260 [some (.ref 200), some (.ref 0), some (.ref 70), some (.ref 96), some (.int (nI i)), x5, x6, x7] [] I J R X := by
  obtain ⟨⟨I1, J1, hX, hgX⟩, I2, J2, rd, hM, hD, hgM⟩ := hI
  refine lw_pw (fun _ kk => pw_aload_n 261 rfl dL_law_260 rfl kk) ?_
  refine lw_pw (fun _ kk => pw_aload_n 262 rfl dL_law_261 rfl kk) ?_
  refine lw_pw (fun _ kk => pw_iload 264 rfl dL_law_262 rfl kk) ?_
  refine lw_pw (fun _ kk => pw_iconst (v := nI 1) 265 rfl dL_law_264 rfl kk) ?_
  first | refine lw_pw (fun _ kk => pw_iaddN 266 rfl dL_law_265 kk) ?_ | refine lw_pw (fun _ kk => pw_iadd 266 rfl dL_law_265 kk) ?_
  refine lw_sldN 267 rfl dL_law_266 (by omega) (by omega) ?_
  refine lw_call (fun _ kk => pw_callV (as := [_]) 270 rfl dL_law_267 mL_23 vX11_sign (PC.lift (S' := SL) (o := 0) sl_x (by decide) (xo_sign (d := 20) hX _) hgX) (by first | rfl | assumption | exact rowS hh | exact mtS hm | exact ruS hr | exact mtA1 hm | exact mtA2 hm | exact mtA3 hm | exact mtA4 hm | exact mtA5 hm | exact mtA6 hm | exact mtA7 hm | exact ruA1 hr | exact ruA2 hr | exact ruA3 hr) rfl (by decide) ⟨rfl, by decide, by decide, show (parseMethodDescriptor yX11_sign.desc).map (fun d => d.parameters.length) = some 1 by decide +kernel⟩ (by omega) (by decide) (Nat.le_of_ble_eq_true rfl) rfl kk) (fun r267 I267 J267 R267 c267 => ?_)
  obtain ⟨r1, IA, JA, RA, ⟨rfl, hX', rfl⟩, rfl, hgX', hout⟩ := c267; have hgM' := agr_out hgM hout (Or.inr (by decide)); show LW _ _ _ _ _ _ _ _ _ _ [.int _] _ _ _ _
  refine lw_pw (fun _ kk => pw_aload_n 271 rfl dL_law_270 rfl kk) ?_
  refine lw_pw (fun _ kk => pw_aload_n 272 rfl dL_law_271 rfl kk) ?_
  refine lw_pw (fun _ kk => pw_iload 274 rfl dL_law_272 rfl kk) ?_
  refine lw_pw (fun _ kk => pw_iconst (v := nI 1) 275 rfl dL_law_274 rfl kk) ?_
  first | refine lw_pw (fun _ kk => pw_iaddN 276 rfl dL_law_275 kk) ?_ | refine lw_pw (fun _ kk => pw_iadd 276 rfl dL_law_275 kk) ?_
  refine lw_sldN 277 rfl dL_law_276 (by omega) (by omega) ?_
  refine lw_call (fun _ kk => pw_callV (as := [_]) 280 rfl dL_law_277 mL_27 vX12_sign (PC.lift (S' := SL) (o := 70) sl_m (by decide) (mo_sign (d := 0) hM hD (by omega) hW _) hgM') (by first | rfl | assumption | exact rowS hh | exact mtS hm | exact ruS hr | exact mtA1 hm | exact mtA2 hm | exact mtA3 hm | exact mtA4 hm | exact mtA5 hm | exact mtA6 hm | exact mtA7 hm | exact ruA1 hr | exact ruA2 hr | exact ruA3 hr) rfl (by decide) ⟨rfl, by decide, by decide, show (parseMethodDescriptor yX12_sign.desc).map (fun d => d.parameters.length) = some 1 by decide +kernel⟩ (by omega) (by decide) (Nat.le_of_ble_eq_true rfl) rfl kk) (fun r277 I277 J277 R277 c277 => ?_)
  obtain ⟨r2, IB, JB, RB, ⟨rfl, hM', hD', rd', rfl⟩, rfl, hgM2, hout2⟩ := c277; have hgX2 := agr_out hgX' hout2 (Or.inl (by decide)); show LW _ _ _ _ _ _ _ _ _ _ [.int _, .int _] _ _ _ _
  refine lw_pw (fun _ kk => pw_icmp_eq (tgt := 1621) 283 rfl dL_law_280 rfl (fun h280 => kk) (fun h280 => absurd rfl h280)) ?_
  rotate_left
  exact k _ _ _ _ _ _ _ (WA_sign hW) ⟨⟨_, _, hX', hgX2⟩, _, _, rd', hM', hD', hgM2⟩
set_option maxRecDepth 100000 in
set_option maxHeartbeats 2000000 in
theorem lc_end {B L : Nat} {xs : Nat → Int32} (hL : L ≤ 2560) {s : aSt} {g i : Nat} {I : pI} {J : pJ} {R : pR} {x5 x6 x7 : Option Value} {X : pXt} (hI : LI s g I J R) (hW : WA s) (hg : g ≤ 400000000) (hi : i + 5 ≤ L) (k : ∀ (s' : aSt) (I' : pI) (J' : pJ) (R' : pR) (x5 x6 x7 : Option Value), WA s' → LI s' (g + 10000) I' J' R' → LW B L xs SL yL_law.cls cL_law 8 260 1621 [some (.ref 200), some (.ref 0), some (.ref 70), some (.ref 96), some (.int (nI i)), x5, x6, x7] [] I' J' R' X) : LW B L xs SL yL_law.cls cL_law 8 260 285 [some (.ref 200), some (.ref 0), some (.ref 70), some (.ref 96), some (.int (nI i)), x5, x6, x7] [] I J R X := by
  obtain ⟨⟨I1, J1, hX, hgX⟩, I2, J2, rd, hM, hD, hgM⟩ := hI
  refine lw_pw (fun _ kk => pw_aload_n 286 rfl dL_law_285 rfl kk) ?_
  refine lw_pw (fun _ kk => pw_aload_n 287 rfl dL_law_286 rfl kk) ?_
  refine lw_pw (fun _ kk => pw_iload 289 rfl dL_law_287 rfl kk) ?_
  refine lw_pw (fun _ kk => pw_iconst (v := nI 1) 290 rfl dL_law_289 rfl kk) ?_
  first | refine lw_pw (fun _ kk => pw_iaddN 291 rfl dL_law_290 kk) ?_ | refine lw_pw (fun _ kk => pw_iadd 291 rfl dL_law_290 kk) ?_
  refine lw_sldN 292 rfl dL_law_291 (by omega) (by omega) ?_
  refine lw_call (fun _ kk => pw_callV (as := [_]) 295 rfl dL_law_292 mL_28 vX11_end (PC.lift (S' := SL) (o := 0) sl_x (by decide) (xo_end (d := 20) hX _) hgX) (by first | rfl | assumption | exact rowS hh | exact mtS hm | exact ruS hr | exact mtA1 hm | exact mtA2 hm | exact mtA3 hm | exact mtA4 hm | exact mtA5 hm | exact mtA6 hm | exact mtA7 hm | exact ruA1 hr | exact ruA2 hr | exact ruA3 hr) rfl (by decide) ⟨rfl, by decide, by decide, show (parseMethodDescriptor yX11_end.desc).map (fun d => d.parameters.length) = some 1 by decide +kernel⟩ (by omega) (by decide) (Nat.le_of_ble_eq_true rfl) rfl kk) (fun r292 I292 J292 R292 c292 => ?_)
  obtain ⟨r1, IA, JA, RA, ⟨rfl, hX', rfl⟩, rfl, hgX', hout⟩ := c292; have hgM' := agr_out hgM hout (Or.inr (by decide)); show LW _ _ _ _ _ _ _ _ _ _ [.int _] _ _ _ _
  refine lw_pw (fun _ kk => pw_aload_n 296 rfl dL_law_295 rfl kk) ?_
  refine lw_pw (fun _ kk => pw_aload_n 297 rfl dL_law_296 rfl kk) ?_
  refine lw_pw (fun _ kk => pw_iload 299 rfl dL_law_297 rfl kk) ?_
  refine lw_pw (fun _ kk => pw_iconst (v := nI 1) 300 rfl dL_law_299 rfl kk) ?_
  first | refine lw_pw (fun _ kk => pw_iaddN 301 rfl dL_law_300 kk) ?_ | refine lw_pw (fun _ kk => pw_iadd 301 rfl dL_law_300 kk) ?_
  refine lw_sldN 302 rfl dL_law_301 (by omega) (by omega) ?_
  refine lw_call (fun _ kk => pw_callV (as := [_]) 305 rfl dL_law_302 mL_32 vX12_end (PC.lift (S' := SL) (o := 70) sl_m (by decide) (mo_end (d := 0) hM hD (by omega) hW _) hgM') (by first | rfl | assumption | exact rowS hh | exact mtS hm | exact ruS hr | exact mtA1 hm | exact mtA2 hm | exact mtA3 hm | exact mtA4 hm | exact mtA5 hm | exact mtA6 hm | exact mtA7 hm | exact ruA1 hr | exact ruA2 hr | exact ruA3 hr) rfl (by decide) ⟨rfl, by decide, by decide, show (parseMethodDescriptor yX12_end.desc).map (fun d => d.parameters.length) = some 1 by decide +kernel⟩ (by omega) (by decide) (Nat.le_of_ble_eq_true rfl) rfl kk) (fun r302 I302 J302 R302 c302 => ?_)
  obtain ⟨r2, IB, JB, RB, ⟨rfl, hM', hD', rd', rfl⟩, rfl, hgM2, hout2⟩ := c302; have hgX2 := agr_out hgX' hout2 (Or.inl (by decide)); show LW _ _ _ _ _ _ _ _ _ _ [.int _, .int _] _ _ _ _
  refine lw_pw (fun _ kk => pw_icmp_eq (tgt := 1621) 308 rfl dL_law_305 rfl (fun h305 => kk) (fun h305 => absurd rfl h305)) ?_
  rotate_left
  exact k _ _ _ _ _ _ _ (WA_end hW) ⟨⟨_, _, hX', hgX2⟩, _, _, rd', hM', hD', hgM2⟩
set_option maxRecDepth 100000 in
set_option maxHeartbeats 2000000 in
theorem lc_climbers {B L : Nat} {xs : Nat → Int32} (hL : L ≤ 2560) {s : aSt} {g i : Nat} {I : pI} {J : pJ} {R : pR} {x5 x6 x7 : Option Value} {X : pXt} (hI : LI s g I J R) (hW : WA s) (hg : g ≤ 400000000) (hi : i + 5 ≤ L) (k : ∀ (s' : aSt) (I' : pI) (J' : pJ) (R' : pR) (x5 x6 x7 : Option Value), WA s' → LI s' (g + 10000) I' J' R' → LW B L xs SL yL_law.cls cL_law 8 260 1621 [some (.ref 200), some (.ref 0), some (.ref 70), some (.ref 96), some (.int (nI i)), x5, x6, x7] [] I' J' R' X) : LW B L xs SL yL_law.cls cL_law 8 260 310 [some (.ref 200), some (.ref 0), some (.ref 70), some (.ref 96), some (.int (nI i)), x5, x6, x7] [] I J R X := by
  obtain ⟨⟨I1, J1, hX, hgX⟩, I2, J2, rd, hM, hD, hgM⟩ := hI
  refine lw_pw (fun _ kk => pw_aload_n 311 rfl dL_law_310 rfl kk) ?_
  refine lw_call (fun _ kk => pw_callV (as := []) 314 rfl dL_law_311 mL_33 vX11_climbers (PC.lift (S' := SL) (o := 0) sl_x (by decide) (xo_climbers (d := 20) hX hW ) hgX) (by first | rfl | assumption | exact rowS hh | exact mtS hm | exact ruS hr | exact mtA1 hm | exact mtA2 hm | exact mtA3 hm | exact mtA4 hm | exact mtA5 hm | exact mtA6 hm | exact mtA7 hm | exact ruA1 hr | exact ruA2 hr | exact ruA3 hr) rfl (by decide) ⟨rfl, by decide, by decide, show (parseMethodDescriptor yX11_climbers.desc).map (fun d => d.parameters.length) = some 0 by decide +kernel⟩ (by omega) (by decide) (Nat.le_of_ble_eq_true rfl) rfl kk) (fun r311 I311 J311 R311 c311 => ?_)
  obtain ⟨r1, IA, JA, RA, ⟨rfl, hX', rfl⟩, rfl, hgX', hout⟩ := c311; have hgM' := agr_out hgM hout (Or.inr (by decide)); show LW _ _ _ _ _ _ _ _ _ _ [.int _] _ _ _ _
  refine lw_pw (fun _ kk => pw_aload_n 315 rfl dL_law_314 rfl kk) ?_
  refine lw_call (fun _ kk => pw_callV (as := []) 318 rfl dL_law_315 mL_37 vX12_climbers (PC.lift (S' := SL) (o := 70) sl_m (by decide) (mo_climbers (d := 0) hM hD (by omega) hW ) hgM') (by first | rfl | assumption | exact rowS hh | exact mtS hm | exact ruS hr | exact mtA1 hm | exact mtA2 hm | exact mtA3 hm | exact mtA4 hm | exact mtA5 hm | exact mtA6 hm | exact mtA7 hm | exact ruA1 hr | exact ruA2 hr | exact ruA3 hr) rfl (by decide) ⟨rfl, by decide, by decide, show (parseMethodDescriptor yX12_climbers.desc).map (fun d => d.parameters.length) = some 0 by decide +kernel⟩ (by omega) (by decide) (Nat.le_of_ble_eq_true rfl) rfl kk) (fun r315 I315 J315 R315 c315 => ?_)
  obtain ⟨r2, IB, JB, RB, ⟨rfl, hM', hD', rd', rfl⟩, rfl, hgM2, hout2⟩ := c315; have hgX2 := agr_out hgX' hout2 (Or.inl (by decide)); show LW _ _ _ _ _ _ _ _ _ _ [.int _, .int _] _ _ _ _
  refine lw_pw (fun _ kk => pw_icmp_eq (tgt := 1621) 321 rfl dL_law_318 rfl (fun h318 => kk) (fun h318 => absurd rfl h318)) ?_
  rotate_left
  exact k _ _ _ _ _ _ _ (WA_climbers hW) ⟨⟨_, _, hX', hgX2⟩, _, _, rd', hM', hD', hgM2⟩
set_option maxRecDepth 100000 in
set_option maxHeartbeats 2000000 in
theorem lc_rule {B L : Nat} {xs : Nat → Int32} (hL : L ≤ 2560) {s : aSt} {g i : Nat} {I : pI} {J : pJ} {R : pR} {x5 x6 x7 : Option Value} {X : pXt} (hI : LI s g I J R) (hW : WA s) (hg : g ≤ 400000000) (hi : i + 5 ≤ L) (k : ∀ (s' : aSt) (I' : pI) (J' : pJ) (R' : pR) (x5 x6 x7 : Option Value), WA s' → LI s' (g + 10000) I' J' R' → LW B L xs SL yL_law.cls cL_law 8 260 1621 [some (.ref 200), some (.ref 0), some (.ref 70), some (.ref 96), some (.int (nI i)), x5, x6, x7] [] I' J' R' X) : LW B L xs SL yL_law.cls cL_law 8 260 323 [some (.ref 200), some (.ref 0), some (.ref 70), some (.ref 96), some (.int (nI i)), x5, x6, x7] [] I J R X := by
  obtain ⟨⟨I1, J1, hX, hgX⟩, I2, J2, rd, hM, hD, hgM⟩ := hI
  refine lw_pw (fun _ kk => pw_aload_n 324 rfl dL_law_323 rfl kk) ?_
  refine lw_call (fun _ kk => pw_callV (as := []) 327 rfl dL_law_324 mL_38 vX11_rule (PC.lift (S' := SL) (o := 0) sl_x (by decide) (xo_rule (d := 20) hX ) hgX) (by first | rfl | assumption | exact rowS hh | exact mtS hm | exact ruS hr | exact mtA1 hm | exact mtA2 hm | exact mtA3 hm | exact mtA4 hm | exact mtA5 hm | exact mtA6 hm | exact mtA7 hm | exact ruA1 hr | exact ruA2 hr | exact ruA3 hr) rfl (by decide) ⟨rfl, by decide, by decide, show (parseMethodDescriptor yX11_rule.desc).map (fun d => d.parameters.length) = some 0 by decide +kernel⟩ (by omega) (by decide) (Nat.le_of_ble_eq_true rfl) rfl kk) (fun r324 I324 J324 R324 c324 => ?_)
  obtain ⟨r1, IA, JA, RA, ⟨rfl, hX', rfl⟩, rfl, hgX', hout⟩ := c324; have hgM' := agr_out hgM hout (Or.inr (by decide)); show LW _ _ _ _ _ _ _ _ _ _ [.int _] _ _ _ _
  refine lw_pw (fun _ kk => pw_aload_n 328 rfl dL_law_327 rfl kk) ?_
  refine lw_call (fun _ kk => pw_callV (as := []) 331 rfl dL_law_328 mL_41 vX12_rule (PC.lift (S' := SL) (o := 70) sl_m (by decide) (mo_rule (d := 0) hM hD (by omega) hW ) hgM') (by first | rfl | assumption | exact rowS hh | exact mtS hm | exact ruS hr | exact mtA1 hm | exact mtA2 hm | exact mtA3 hm | exact mtA4 hm | exact mtA5 hm | exact mtA6 hm | exact mtA7 hm | exact ruA1 hr | exact ruA2 hr | exact ruA3 hr) rfl (by decide) ⟨rfl, by decide, by decide, show (parseMethodDescriptor yX12_rule.desc).map (fun d => d.parameters.length) = some 0 by decide +kernel⟩ (by omega) (by decide) (Nat.le_of_ble_eq_true rfl) rfl kk) (fun r328 I328 J328 R328 c328 => ?_)
  obtain ⟨r2, IB, JB, RB, ⟨rfl, hM', hD', rd', rfl⟩, rfl, hgM2, hout2⟩ := c328; have hgX2 := agr_out hgX' hout2 (Or.inl (by decide)); show LW _ _ _ _ _ _ _ _ _ _ [.int _, .int _] _ _ _ _
  refine lw_pw (fun _ kk => pw_icmp_eq (tgt := 1621) 334 rfl dL_law_331 rfl (fun h331 => kk) (fun h331 => absurd rfl h331)) ?_
  rotate_left
  exact k _ _ _ _ _ _ _ (WA_rule hW) ⟨⟨_, _, hX', hgX2⟩, _, _, rd', hM', hD', hgM2⟩
set_option maxRecDepth 100000 in
set_option maxHeartbeats 2000000 in
theorem lc_top {B L : Nat} {xs : Nat → Int32} (hL : L ≤ 2560) {s : aSt} {g i : Nat} {I : pI} {J : pJ} {R : pR} {x5 x6 x7 : Option Value} {X : pXt} (hI : LI s g I J R) (hW : WA s) (hg : g ≤ 400000000) (hi : i + 5 ≤ L) (k : ∀ (s' : aSt) (I' : pI) (J' : pJ) (R' : pR) (x5 x6 x7 : Option Value), WA s' → LI s' (g + 10000) I' J' R' → LW B L xs SL yL_law.cls cL_law 8 260 1621 [some (.ref 200), some (.ref 0), some (.ref 70), some (.ref 96), some (.int (nI i)), x5, x6, x7] [] I' J' R' X) : LW B L xs SL yL_law.cls cL_law 8 260 336 [some (.ref 200), some (.ref 0), some (.ref 70), some (.ref 96), some (.int (nI i)), x5, x6, x7] [] I J R X := by
  obtain ⟨⟨I1, J1, hX, hgX⟩, I2, J2, rd, hM, hD, hgM⟩ := hI
  refine lw_pw (fun _ kk => pw_aload_n 337 rfl dL_law_336 rfl kk) ?_
  refine lw_pw (fun _ kk => pw_aload_n 338 rfl dL_law_337 rfl kk) ?_
  refine lw_pw (fun _ kk => pw_iload 340 rfl dL_law_338 rfl kk) ?_
  refine lw_pw (fun _ kk => pw_iconst (v := nI 1) 341 rfl dL_law_340 rfl kk) ?_
  first | refine lw_pw (fun _ kk => pw_iaddN 342 rfl dL_law_341 kk) ?_ | refine lw_pw (fun _ kk => pw_iadd 342 rfl dL_law_341 kk) ?_
  refine lw_sldN 343 rfl dL_law_342 (by omega) (by omega) ?_
  refine lw_call (fun _ kk => pw_callV (as := [_]) 346 rfl dL_law_343 mL_42 vX11_top (PC.lift (S' := SL) (o := 0) sl_x (by decide) (xo_top (d := 20) hX hW _) hgX) (by first | rfl | assumption | exact rowS hh | exact mtS hm | exact ruS hr | exact mtA1 hm | exact mtA2 hm | exact mtA3 hm | exact mtA4 hm | exact mtA5 hm | exact mtA6 hm | exact mtA7 hm | exact ruA1 hr | exact ruA2 hr | exact ruA3 hr) rfl (by decide) ⟨rfl, by decide, by decide, show (parseMethodDescriptor yX11_top.desc).map (fun d => d.parameters.length) = some 1 by decide +kernel⟩ (by omega) (by decide) (Nat.le_of_ble_eq_true rfl) rfl kk) (fun r343 I343 J343 R343 c343 => ?_)
  obtain ⟨r1, IA, JA, RA, ⟨rfl, hX', rfl⟩, rfl, hgX', hout⟩ := c343; have hgM' := agr_out hgM hout (Or.inr (by decide)); show LW _ _ _ _ _ _ _ _ _ _ [.int _] _ _ _ _
  refine lw_pw (fun _ kk => pw_aload_n 347 rfl dL_law_346 rfl kk) ?_
  refine lw_pw (fun _ kk => pw_aload_n 348 rfl dL_law_347 rfl kk) ?_
  refine lw_pw (fun _ kk => pw_iload 350 rfl dL_law_348 rfl kk) ?_
  refine lw_pw (fun _ kk => pw_iconst (v := nI 1) 351 rfl dL_law_350 rfl kk) ?_
  first | refine lw_pw (fun _ kk => pw_iaddN 352 rfl dL_law_351 kk) ?_ | refine lw_pw (fun _ kk => pw_iadd 352 rfl dL_law_351 kk) ?_
  refine lw_sldN 353 rfl dL_law_352 (by omega) (by omega) ?_
  refine lw_call (fun _ kk => pw_callV (as := [_]) 356 rfl dL_law_353 mL_45 vX12_top (PC.lift (S' := SL) (o := 70) sl_m (by decide) (mo_top (d := 0) hM hD (by omega) hW _) hgM') (by first | rfl | assumption | exact rowS hh | exact mtS hm | exact ruS hr | exact mtA1 hm | exact mtA2 hm | exact mtA3 hm | exact mtA4 hm | exact mtA5 hm | exact mtA6 hm | exact mtA7 hm | exact ruA1 hr | exact ruA2 hr | exact ruA3 hr) rfl (by decide) ⟨rfl, by decide, by decide, show (parseMethodDescriptor yX12_top.desc).map (fun d => d.parameters.length) = some 1 by decide +kernel⟩ (by omega) (by decide) (Nat.le_of_ble_eq_true rfl) rfl kk) (fun r353 I353 J353 R353 c353 => ?_)
  obtain ⟨r2, IB, JB, RB, ⟨rfl, hM', hD', rd', rfl⟩, rfl, hgM2, hout2⟩ := c353; have hgX2 := agr_out hgX' hout2 (Or.inl (by decide)); show LW _ _ _ _ _ _ _ _ _ _ [.int _, .int _] _ _ _ _
  refine lw_pw (fun _ kk => pw_icmp_eq (tgt := 1621) 359 rfl dL_law_356 rfl (fun h356 => kk) (fun h356 => absurd rfl h356)) ?_
  rotate_left
  exact k _ _ _ _ _ _ _ (WA_act (fun n pc b h => WN_aTop _ h) hW) ⟨⟨_, _, hX', hgX2⟩, _, _, rd', hM', hD', hgM2⟩
set_option maxRecDepth 100000 in
set_option maxHeartbeats 2000000 in
theorem lc_sheet {B L : Nat} {xs : Nat → Int32} (hL : L ≤ 2560) {s : aSt} {g i : Nat} {I : pI} {J : pJ} {R : pR} {x5 x6 x7 : Option Value} {X : pXt} (hI : LI s g I J R) (hW : WA s) (hg : g ≤ 400000000) (hi : i + 5 ≤ L) (k : ∀ (s' : aSt) (I' : pI) (J' : pJ) (R' : pR) (x5 x6 x7 : Option Value), WA s' → LI s' (g + 10000) I' J' R' → LW B L xs SL yL_law.cls cL_law 8 260 1621 [some (.ref 200), some (.ref 0), some (.ref 70), some (.ref 96), some (.int (nI i)), x5, x6, x7] [] I' J' R' X) : LW B L xs SL yL_law.cls cL_law 8 260 429 [some (.ref 200), some (.ref 0), some (.ref 70), some (.ref 96), some (.int (nI i)), x5, x6, x7] [] I J R X := by
  obtain ⟨⟨I1, J1, hX, hgX⟩, I2, J2, rd, hM, hD, hgM⟩ := hI
  refine lw_pw (fun _ kk => pw_aload_n 430 rfl dL_law_429 rfl kk) ?_
  refine lw_pw (fun _ kk => pw_aload_n 431 rfl dL_law_430 rfl kk) ?_
  refine lw_pw (fun _ kk => pw_iload 433 rfl dL_law_431 rfl kk) ?_
  refine lw_pw (fun _ kk => pw_iconst (v := nI 1) 434 rfl dL_law_433 rfl kk) ?_
  first | refine lw_pw (fun _ kk => pw_iaddN 435 rfl dL_law_434 kk) ?_ | refine lw_pw (fun _ kk => pw_iadd 435 rfl dL_law_434 kk) ?_
  refine lw_sldN 436 rfl dL_law_435 (by omega) (by omega) ?_
  refine lw_pw (fun _ kk => pw_aload_n 437 rfl dL_law_436 rfl kk) ?_
  refine lw_pw (fun _ kk => pw_iload 439 rfl dL_law_437 rfl kk) ?_
  refine lw_pw (fun _ kk => pw_iconst (v := nI 2) 440 rfl dL_law_439 rfl kk) ?_
  first | refine lw_pw (fun _ kk => pw_iaddN 441 rfl dL_law_440 kk) ?_ | refine lw_pw (fun _ kk => pw_iadd 441 rfl dL_law_440 kk) ?_
  refine lw_sldN 442 rfl dL_law_441 (by omega) (by omega) ?_
  refine lw_pw (fun _ kk => pw_aload_n 443 rfl dL_law_442 rfl kk) ?_
  refine lw_pw (fun _ kk => pw_iload 445 rfl dL_law_443 rfl kk) ?_
  refine lw_pw (fun _ kk => pw_iconst (v := nI 3) 446 rfl dL_law_445 rfl kk) ?_
  first | refine lw_pw (fun _ kk => pw_iaddN 447 rfl dL_law_446 kk) ?_ | refine lw_pw (fun _ kk => pw_iadd 447 rfl dL_law_446 kk) ?_
  refine lw_sldN 448 rfl dL_law_447 (by omega) (by omega) ?_
  refine lw_pw (fun _ kk => pw_aload_n 449 rfl dL_law_448 rfl kk) ?_
  refine lw_pw (fun _ kk => pw_iload 451 rfl dL_law_449 rfl kk) ?_
  refine lw_pw (fun _ kk => pw_iconst (v := nI 4) 452 rfl dL_law_451 rfl kk) ?_
  first | refine lw_pw (fun _ kk => pw_iaddN 453 rfl dL_law_452 kk) ?_ | refine lw_pw (fun _ kk => pw_iadd 453 rfl dL_law_452 kk) ?_
  refine lw_sldN 454 rfl dL_law_453 (by omega) (by omega) ?_
  refine lw_call (fun _ kk => pw_callV (as := [_, _, _, _]) 457 rfl dL_law_454 mL_55 vX11_sheet (PC.lift (S' := SL) (o := 0) sl_x (by decide) (xo_sheet (d := 20) hX _ _ _ _) hgX) (by first | rfl | assumption | exact rowS hh | exact mtS hm | exact ruS hr | exact mtA1 hm | exact mtA2 hm | exact mtA3 hm | exact mtA4 hm | exact mtA5 hm | exact mtA6 hm | exact mtA7 hm | exact ruA1 hr | exact ruA2 hr | exact ruA3 hr) rfl (by decide) ⟨rfl, by decide, by decide, show (parseMethodDescriptor yX11_sheet.desc).map (fun d => d.parameters.length) = some 4 by decide +kernel⟩ (by omega) (by decide) (Nat.le_of_ble_eq_true rfl) rfl kk) (fun r454 I454 J454 R454 c454 => ?_)
  obtain ⟨r1, IA, JA, RA, ⟨rfl, hX', rfl⟩, rfl, hgX', hout⟩ := c454; have hgM' := agr_out hgM hout (Or.inr (by decide)); show LW _ _ _ _ _ _ _ _ _ _ [.int _] _ _ _ _
  refine lw_pw (fun _ kk => pw_aload_n 458 rfl dL_law_457 rfl kk) ?_
  refine lw_pw (fun _ kk => pw_aload_n 459 rfl dL_law_458 rfl kk) ?_
  refine lw_pw (fun _ kk => pw_iload 461 rfl dL_law_459 rfl kk) ?_
  refine lw_pw (fun _ kk => pw_iconst (v := nI 1) 462 rfl dL_law_461 rfl kk) ?_
  first | refine lw_pw (fun _ kk => pw_iaddN 463 rfl dL_law_462 kk) ?_ | refine lw_pw (fun _ kk => pw_iadd 463 rfl dL_law_462 kk) ?_
  refine lw_sldN 464 rfl dL_law_463 (by omega) (by omega) ?_
  refine lw_pw (fun _ kk => pw_aload_n 465 rfl dL_law_464 rfl kk) ?_
  refine lw_pw (fun _ kk => pw_iload 467 rfl dL_law_465 rfl kk) ?_
  refine lw_pw (fun _ kk => pw_iconst (v := nI 2) 468 rfl dL_law_467 rfl kk) ?_
  first | refine lw_pw (fun _ kk => pw_iaddN 469 rfl dL_law_468 kk) ?_ | refine lw_pw (fun _ kk => pw_iadd 469 rfl dL_law_468 kk) ?_
  refine lw_sldN 470 rfl dL_law_469 (by omega) (by omega) ?_
  refine lw_pw (fun _ kk => pw_aload_n 471 rfl dL_law_470 rfl kk) ?_
  refine lw_pw (fun _ kk => pw_iload 473 rfl dL_law_471 rfl kk) ?_
  refine lw_pw (fun _ kk => pw_iconst (v := nI 3) 474 rfl dL_law_473 rfl kk) ?_
  first | refine lw_pw (fun _ kk => pw_iaddN 475 rfl dL_law_474 kk) ?_ | refine lw_pw (fun _ kk => pw_iadd 475 rfl dL_law_474 kk) ?_
  refine lw_sldN 476 rfl dL_law_475 (by omega) (by omega) ?_
  refine lw_pw (fun _ kk => pw_aload_n 477 rfl dL_law_476 rfl kk) ?_
  refine lw_pw (fun _ kk => pw_iload 479 rfl dL_law_477 rfl kk) ?_
  refine lw_pw (fun _ kk => pw_iconst (v := nI 4) 480 rfl dL_law_479 rfl kk) ?_
  first | refine lw_pw (fun _ kk => pw_iaddN 481 rfl dL_law_480 kk) ?_ | refine lw_pw (fun _ kk => pw_iadd 481 rfl dL_law_480 kk) ?_
  refine lw_sldN 482 rfl dL_law_481 (by omega) (by omega) ?_
  refine lw_call (fun _ kk => pw_callV (as := [_, _, _, _]) 485 rfl dL_law_482 mL_59 vX12_sheet (PC.lift (S' := SL) (o := 70) sl_m (by decide) (mo_sheet (d := 0) hM hD (by omega) hW _ _ _ _) hgM') (by first | rfl | assumption | exact rowS hh | exact mtS hm | exact ruS hr | exact mtA1 hm | exact mtA2 hm | exact mtA3 hm | exact mtA4 hm | exact mtA5 hm | exact mtA6 hm | exact mtA7 hm | exact ruA1 hr | exact ruA2 hr | exact ruA3 hr) rfl (by decide) ⟨rfl, by decide, by decide, show (parseMethodDescriptor yX12_sheet.desc).map (fun d => d.parameters.length) = some 4 by decide +kernel⟩ (by omega) (by decide) (Nat.le_of_ble_eq_true rfl) rfl kk) (fun r482 I482 J482 R482 c482 => ?_)
  obtain ⟨r2, IB, JB, RB, ⟨rfl, hM', hD', rd', rfl⟩, rfl, hgM2, hout2⟩ := c482; have hgX2 := agr_out hgX' hout2 (Or.inl (by decide)); show LW _ _ _ _ _ _ _ _ _ _ [.int _, .int _] _ _ _ _
  refine lw_pw (fun _ kk => pw_icmp_eq (tgt := 1621) 488 rfl dL_law_485 rfl (fun h485 => kk) (fun h485 => absurd rfl h485)) ?_
  rotate_left
  exact k _ _ _ _ _ _ _ (WA_sheet hW) ⟨⟨_, _, hX', hgX2⟩, _, _, rd', hM', hD', hgM2⟩
set_option maxRecDepth 100000 in
set_option maxHeartbeats 2000000 in
theorem lc_hours {B L : Nat} {xs : Nat → Int32} (hL : L ≤ 2560) {s : aSt} {g i : Nat} {I : pI} {J : pJ} {R : pR} {x5 x6 x7 : Option Value} {X : pXt} (hI : LI s g I J R) (hW : WA s) (hg : g ≤ 400000000) (hi : i + 5 ≤ L) (k : ∀ (s' : aSt) (I' : pI) (J' : pJ) (R' : pR) (x5 x6 x7 : Option Value), WA s' → LI s' (g + 10000) I' J' R' → LW B L xs SL yL_law.cls cL_law 8 260 1621 [some (.ref 200), some (.ref 0), some (.ref 70), some (.ref 96), some (.int (nI i)), x5, x6, x7] [] I' J' R' X) : LW B L xs SL yL_law.cls cL_law 8 260 490 [some (.ref 200), some (.ref 0), some (.ref 70), some (.ref 96), some (.int (nI i)), x5, x6, x7] [] I J R X := by
  obtain ⟨⟨I1, J1, hX, hgX⟩, I2, J2, rd, hM, hD, hgM⟩ := hI
  refine lw_pw (fun _ kk => pw_aload_n 491 rfl dL_law_490 rfl kk) ?_
  refine lw_pw (fun _ kk => pw_aload_n 492 rfl dL_law_491 rfl kk) ?_
  refine lw_pw (fun _ kk => pw_iload 494 rfl dL_law_492 rfl kk) ?_
  refine lw_pw (fun _ kk => pw_iconst (v := nI 1) 495 rfl dL_law_494 rfl kk) ?_
  first | refine lw_pw (fun _ kk => pw_iaddN 496 rfl dL_law_495 kk) ?_ | refine lw_pw (fun _ kk => pw_iadd 496 rfl dL_law_495 kk) ?_
  refine lw_sldN 497 rfl dL_law_496 (by omega) (by omega) ?_
  refine lw_call (fun _ kk => pw_callV (as := [_]) 500 rfl dL_law_497 mL_60 vX11_hours (PC.lift (S' := SL) (o := 0) sl_x (by decide) (xo_hours (d := 20) hX hW _) hgX) (by first | rfl | assumption | exact rowS hh | exact mtS hm | exact ruS hr | exact mtA1 hm | exact mtA2 hm | exact mtA3 hm | exact mtA4 hm | exact mtA5 hm | exact mtA6 hm | exact mtA7 hm | exact ruA1 hr | exact ruA2 hr | exact ruA3 hr) rfl (by decide) ⟨rfl, by decide, by decide, show (parseMethodDescriptor yX11_hours.desc).map (fun d => d.parameters.length) = some 1 by decide +kernel⟩ (by omega) (by decide) (Nat.le_of_ble_eq_true rfl) rfl kk) (fun r497 I497 J497 R497 c497 => ?_)
  obtain ⟨r1, IA, JA, RA, ⟨rfl, hX', rfl⟩, rfl, hgX', hout⟩ := c497; have hgM' := agr_out hgM hout (Or.inr (by decide)); show LW _ _ _ _ _ _ _ _ _ _ [.int _] _ _ _ _
  refine lw_pw (fun _ kk => pw_aload_n 501 rfl dL_law_500 rfl kk) ?_
  refine lw_pw (fun _ kk => pw_aload_n 502 rfl dL_law_501 rfl kk) ?_
  refine lw_pw (fun _ kk => pw_iload 504 rfl dL_law_502 rfl kk) ?_
  refine lw_pw (fun _ kk => pw_iconst (v := nI 1) 505 rfl dL_law_504 rfl kk) ?_
  first | refine lw_pw (fun _ kk => pw_iaddN 506 rfl dL_law_505 kk) ?_ | refine lw_pw (fun _ kk => pw_iadd 506 rfl dL_law_505 kk) ?_
  refine lw_sldN 507 rfl dL_law_506 (by omega) (by omega) ?_
  refine lw_call (fun _ kk => pw_callV (as := [_]) 510 rfl dL_law_507 mL_63 vX12_hours (PC.lift (S' := SL) (o := 70) sl_m (by decide) (mo_hours (d := 0) hM hD (by omega) hW _) hgM') (by first | rfl | assumption | exact rowS hh | exact mtS hm | exact ruS hr | exact mtA1 hm | exact mtA2 hm | exact mtA3 hm | exact mtA4 hm | exact mtA5 hm | exact mtA6 hm | exact mtA7 hm | exact ruA1 hr | exact ruA2 hr | exact ruA3 hr) rfl (by decide) ⟨rfl, by decide, by decide, show (parseMethodDescriptor yX12_hours.desc).map (fun d => d.parameters.length) = some 1 by decide +kernel⟩ (by omega) (by decide) (Nat.le_of_ble_eq_true rfl) rfl kk) (fun r507 I507 J507 R507 c507 => ?_)
  obtain ⟨r2, IB, JB, RB, ⟨rfl, hM', hD', rd', rfl⟩, rfl, hgM2, hout2⟩ := c507; have hgX2 := agr_out hgX' hout2 (Or.inl (by decide)); show LW _ _ _ _ _ _ _ _ _ _ [.int _, .int _] _ _ _ _
  refine lw_pw (fun _ kk => pw_icmp_eq (tgt := 1621) 513 rfl dL_law_510 rfl (fun h510 => kk) (fun h510 => absurd rfl h510)) ?_
  rotate_left
  exact k _ _ _ _ _ _ _ (WA_hours hW) ⟨⟨_, _, hX', hgX2⟩, _, _, rd', hM', hD', hgM2⟩
set_option maxRecDepth 100000 in
set_option maxHeartbeats 2000000 in
theorem lc_starts {B L : Nat} {xs : Nat → Int32} (hL : L ≤ 2560) {s : aSt} {g i : Nat} {I : pI} {J : pJ} {R : pR} {x5 x6 x7 : Option Value} {X : pXt} (hI : LI s g I J R) (hW : WA s) (hg : g ≤ 400000000) (hi : i + 5 ≤ L) (k : ∀ (s' : aSt) (I' : pI) (J' : pJ) (R' : pR) (x5 x6 x7 : Option Value), WA s' → LI s' (g + 10000) I' J' R' → LW B L xs SL yL_law.cls cL_law 8 260 1621 [some (.ref 200), some (.ref 0), some (.ref 70), some (.ref 96), some (.int (nI i)), x5, x6, x7] [] I' J' R' X) : LW B L xs SL yL_law.cls cL_law 8 260 515 [some (.ref 200), some (.ref 0), some (.ref 70), some (.ref 96), some (.int (nI i)), x5, x6, x7] [] I J R X := by
  obtain ⟨⟨I1, J1, hX, hgX⟩, I2, J2, rd, hM, hD, hgM⟩ := hI
  refine lw_pw (fun _ kk => pw_aload_n 516 rfl dL_law_515 rfl kk) ?_
  refine lw_pw (fun _ kk => pw_aload_n 517 rfl dL_law_516 rfl kk) ?_
  refine lw_pw (fun _ kk => pw_iload 519 rfl dL_law_517 rfl kk) ?_
  refine lw_pw (fun _ kk => pw_iconst (v := nI 1) 520 rfl dL_law_519 rfl kk) ?_
  first | refine lw_pw (fun _ kk => pw_iaddN 521 rfl dL_law_520 kk) ?_ | refine lw_pw (fun _ kk => pw_iadd 521 rfl dL_law_520 kk) ?_
  refine lw_sldN 522 rfl dL_law_521 (by omega) (by omega) ?_
  refine lw_call (fun _ kk => pw_callV (as := [_]) 525 rfl dL_law_522 mL_64 vX11_starts (PC.lift (S' := SL) (o := 0) sl_x (by decide) (xo_starts (d := 20) hX hW _) hgX) (by first | rfl | assumption | exact rowS hh | exact mtS hm | exact ruS hr | exact mtA1 hm | exact mtA2 hm | exact mtA3 hm | exact mtA4 hm | exact mtA5 hm | exact mtA6 hm | exact mtA7 hm | exact ruA1 hr | exact ruA2 hr | exact ruA3 hr) rfl (by decide) ⟨rfl, by decide, by decide, show (parseMethodDescriptor yX11_starts.desc).map (fun d => d.parameters.length) = some 1 by decide +kernel⟩ (by omega) (by decide) (Nat.le_of_ble_eq_true rfl) rfl kk) (fun r522 I522 J522 R522 c522 => ?_)
  obtain ⟨r1, IA, JA, RA, ⟨rfl, hX', rfl⟩, rfl, hgX', hout⟩ := c522; have hgM' := agr_out hgM hout (Or.inr (by decide)); show LW _ _ _ _ _ _ _ _ _ _ [.int _] _ _ _ _
  refine lw_pw (fun _ kk => pw_aload_n 526 rfl dL_law_525 rfl kk) ?_
  refine lw_pw (fun _ kk => pw_aload_n 527 rfl dL_law_526 rfl kk) ?_
  refine lw_pw (fun _ kk => pw_iload 529 rfl dL_law_527 rfl kk) ?_
  refine lw_pw (fun _ kk => pw_iconst (v := nI 1) 530 rfl dL_law_529 rfl kk) ?_
  first | refine lw_pw (fun _ kk => pw_iaddN 531 rfl dL_law_530 kk) ?_ | refine lw_pw (fun _ kk => pw_iadd 531 rfl dL_law_530 kk) ?_
  refine lw_sldN 532 rfl dL_law_531 (by omega) (by omega) ?_
  refine lw_call (fun _ kk => pw_callV (as := [_]) 535 rfl dL_law_532 mL_67 vX12_starts (PC.lift (S' := SL) (o := 70) sl_m (by decide) (mo_starts (d := 0) hM hD (by omega) hW _) hgM') (by first | rfl | assumption | exact rowS hh | exact mtS hm | exact ruS hr | exact mtA1 hm | exact mtA2 hm | exact mtA3 hm | exact mtA4 hm | exact mtA5 hm | exact mtA6 hm | exact mtA7 hm | exact ruA1 hr | exact ruA2 hr | exact ruA3 hr) rfl (by decide) ⟨rfl, by decide, by decide, show (parseMethodDescriptor yX12_starts.desc).map (fun d => d.parameters.length) = some 1 by decide +kernel⟩ (by omega) (by decide) (Nat.le_of_ble_eq_true rfl) rfl kk) (fun r532 I532 J532 R532 c532 => ?_)
  obtain ⟨r2, IB, JB, RB, ⟨rfl, hM', hD', rd', rfl⟩, rfl, hgM2, hout2⟩ := c532; have hgX2 := agr_out hgX' hout2 (Or.inl (by decide)); show LW _ _ _ _ _ _ _ _ _ _ [.int _, .int _] _ _ _ _
  refine lw_pw (fun _ kk => pw_icmp_eq (tgt := 1621) 538 rfl dL_law_535 rfl (fun h535 => kk) (fun h535 => absurd rfl h535)) ?_
  rotate_left
  exact k _ _ _ _ _ _ _ (WA_act (fun n pc b h => WN_aSet _ h) hW) ⟨⟨_, _, hX', hgX2⟩, _, _, rd', hM', hD', hgM2⟩
set_option maxRecDepth 100000 in
set_option maxHeartbeats 2000000 in
theorem lc_backs {B L : Nat} {xs : Nat → Int32} (hL : L ≤ 2560) {s : aSt} {g i : Nat} {I : pI} {J : pJ} {R : pR} {x5 x6 x7 : Option Value} {X : pXt} (hI : LI s g I J R) (hW : WA s) (hg : g ≤ 400000000) (hi : i + 5 ≤ L) (k : ∀ (s' : aSt) (I' : pI) (J' : pJ) (R' : pR) (x5 x6 x7 : Option Value), WA s' → LI s' (g + 10000) I' J' R' → LW B L xs SL yL_law.cls cL_law 8 260 1621 [some (.ref 200), some (.ref 0), some (.ref 70), some (.ref 96), some (.int (nI i)), x5, x6, x7] [] I' J' R' X) : LW B L xs SL yL_law.cls cL_law 8 260 540 [some (.ref 200), some (.ref 0), some (.ref 70), some (.ref 96), some (.int (nI i)), x5, x6, x7] [] I J R X := by
  obtain ⟨⟨I1, J1, hX, hgX⟩, I2, J2, rd, hM, hD, hgM⟩ := hI
  refine lw_pw (fun _ kk => pw_aload_n 541 rfl dL_law_540 rfl kk) ?_
  refine lw_pw (fun _ kk => pw_aload_n 542 rfl dL_law_541 rfl kk) ?_
  refine lw_pw (fun _ kk => pw_iload 544 rfl dL_law_542 rfl kk) ?_
  refine lw_pw (fun _ kk => pw_iconst (v := nI 1) 545 rfl dL_law_544 rfl kk) ?_
  first | refine lw_pw (fun _ kk => pw_iaddN 546 rfl dL_law_545 kk) ?_ | refine lw_pw (fun _ kk => pw_iadd 546 rfl dL_law_545 kk) ?_
  refine lw_sldN 547 rfl dL_law_546 (by omega) (by omega) ?_
  refine lw_call (fun _ kk => pw_callV (as := [_]) 550 rfl dL_law_547 mL_68 vX11_backs (PC.lift (S' := SL) (o := 0) sl_x (by decide) (xo_backs (d := 20) hX hW _) hgX) (by first | rfl | assumption | exact rowS hh | exact mtS hm | exact ruS hr | exact mtA1 hm | exact mtA2 hm | exact mtA3 hm | exact mtA4 hm | exact mtA5 hm | exact mtA6 hm | exact mtA7 hm | exact ruA1 hr | exact ruA2 hr | exact ruA3 hr) rfl (by decide) ⟨rfl, by decide, by decide, show (parseMethodDescriptor yX11_backs.desc).map (fun d => d.parameters.length) = some 1 by decide +kernel⟩ (by omega) (by decide) (Nat.le_of_ble_eq_true rfl) rfl kk) (fun r547 I547 J547 R547 c547 => ?_)
  obtain ⟨r1, IA, JA, RA, ⟨rfl, hX', rfl⟩, rfl, hgX', hout⟩ := c547; have hgM' := agr_out hgM hout (Or.inr (by decide)); show LW _ _ _ _ _ _ _ _ _ _ [.int _] _ _ _ _
  refine lw_pw (fun _ kk => pw_aload_n 551 rfl dL_law_550 rfl kk) ?_
  refine lw_pw (fun _ kk => pw_aload_n 552 rfl dL_law_551 rfl kk) ?_
  refine lw_pw (fun _ kk => pw_iload 554 rfl dL_law_552 rfl kk) ?_
  refine lw_pw (fun _ kk => pw_iconst (v := nI 1) 555 rfl dL_law_554 rfl kk) ?_
  first | refine lw_pw (fun _ kk => pw_iaddN 556 rfl dL_law_555 kk) ?_ | refine lw_pw (fun _ kk => pw_iadd 556 rfl dL_law_555 kk) ?_
  refine lw_sldN 557 rfl dL_law_556 (by omega) (by omega) ?_
  refine lw_call (fun _ kk => pw_callV (as := [_]) 560 rfl dL_law_557 mL_71 vX12_backs (PC.lift (S' := SL) (o := 70) sl_m (by decide) (mo_backs (d := 0) hM hD (by omega) hW _) hgM') (by first | rfl | assumption | exact rowS hh | exact mtS hm | exact ruS hr | exact mtA1 hm | exact mtA2 hm | exact mtA3 hm | exact mtA4 hm | exact mtA5 hm | exact mtA6 hm | exact mtA7 hm | exact ruA1 hr | exact ruA2 hr | exact ruA3 hr) rfl (by decide) ⟨rfl, by decide, by decide, show (parseMethodDescriptor yX12_backs.desc).map (fun d => d.parameters.length) = some 1 by decide +kernel⟩ (by omega) (by decide) (Nat.le_of_ble_eq_true rfl) rfl kk) (fun r557 I557 J557 R557 c557 => ?_)
  obtain ⟨r2, IB, JB, RB, ⟨rfl, hM', hD', rd', rfl⟩, rfl, hgM2, hout2⟩ := c557; have hgX2 := agr_out hgX' hout2 (Or.inl (by decide)); show LW _ _ _ _ _ _ _ _ _ _ [.int _, .int _] _ _ _ _
  refine lw_pw (fun _ kk => pw_icmp_eq (tgt := 1621) 563 rfl dL_law_560 rfl (fun h560 => kk) (fun h560 => absurd rfl h560)) ?_
  rotate_left
  exact k _ _ _ _ _ _ _ (WA_act (fun n pc b h => WN_aTurn _ h) hW) ⟨⟨_, _, hX', hgX2⟩, _, _, rd', hM', hD', hgM2⟩
set_option maxRecDepth 100000 in
set_option maxHeartbeats 2000000 in
theorem lc_waits {B L : Nat} {xs : Nat → Int32} (hL : L ≤ 2560) {s : aSt} {g i : Nat} {I : pI} {J : pJ} {R : pR} {x5 x6 x7 : Option Value} {X : pXt} (hI : LI s g I J R) (hW : WA s) (hg : g ≤ 400000000) (hi : i + 5 ≤ L) (k : ∀ (s' : aSt) (I' : pI) (J' : pJ) (R' : pR) (x5 x6 x7 : Option Value), WA s' → LI s' (g + 10000) I' J' R' → LW B L xs SL yL_law.cls cL_law 8 260 1621 [some (.ref 200), some (.ref 0), some (.ref 70), some (.ref 96), some (.int (nI i)), x5, x6, x7] [] I' J' R' X) : LW B L xs SL yL_law.cls cL_law 8 260 565 [some (.ref 200), some (.ref 0), some (.ref 70), some (.ref 96), some (.int (nI i)), x5, x6, x7] [] I J R X := by
  obtain ⟨⟨I1, J1, hX, hgX⟩, I2, J2, rd, hM, hD, hgM⟩ := hI
  refine lw_pw (fun _ kk => pw_aload_n 566 rfl dL_law_565 rfl kk) ?_
  refine lw_pw (fun _ kk => pw_aload_n 567 rfl dL_law_566 rfl kk) ?_
  refine lw_pw (fun _ kk => pw_iload 569 rfl dL_law_567 rfl kk) ?_
  refine lw_pw (fun _ kk => pw_iconst (v := nI 1) 570 rfl dL_law_569 rfl kk) ?_
  first | refine lw_pw (fun _ kk => pw_iaddN 571 rfl dL_law_570 kk) ?_ | refine lw_pw (fun _ kk => pw_iadd 571 rfl dL_law_570 kk) ?_
  refine lw_sldN 572 rfl dL_law_571 (by omega) (by omega) ?_
  refine lw_pw (fun _ kk => pw_aload_n 573 rfl dL_law_572 rfl kk) ?_
  refine lw_pw (fun _ kk => pw_iload 575 rfl dL_law_573 rfl kk) ?_
  refine lw_pw (fun _ kk => pw_iconst (v := nI 2) 576 rfl dL_law_575 rfl kk) ?_
  first | refine lw_pw (fun _ kk => pw_iaddN 577 rfl dL_law_576 kk) ?_ | refine lw_pw (fun _ kk => pw_iadd 577 rfl dL_law_576 kk) ?_
  refine lw_sldN 578 rfl dL_law_577 (by omega) (by omega) ?_
  refine lw_call (fun _ kk => pw_callV (as := [_, _]) 581 rfl dL_law_578 mL_72 vX11_waits (PC.lift (S' := SL) (o := 0) sl_x (by decide) (xo_waits (d := 20) hX hW _ _) hgX) (by first | rfl | assumption | exact rowS hh | exact mtS hm | exact ruS hr | exact mtA1 hm | exact mtA2 hm | exact mtA3 hm | exact mtA4 hm | exact mtA5 hm | exact mtA6 hm | exact mtA7 hm | exact ruA1 hr | exact ruA2 hr | exact ruA3 hr) rfl (by decide) ⟨rfl, by decide, by decide, show (parseMethodDescriptor yX11_waits.desc).map (fun d => d.parameters.length) = some 2 by decide +kernel⟩ (by omega) (by decide) (Nat.le_of_ble_eq_true rfl) rfl kk) (fun r578 I578 J578 R578 c578 => ?_)
  obtain ⟨r1, IA, JA, RA, ⟨rfl, hX', rfl⟩, rfl, hgX', hout⟩ := c578; have hgM' := agr_out hgM hout (Or.inr (by decide)); show LW _ _ _ _ _ _ _ _ _ _ [.int _] _ _ _ _
  refine lw_pw (fun _ kk => pw_aload_n 582 rfl dL_law_581 rfl kk) ?_
  refine lw_pw (fun _ kk => pw_aload_n 583 rfl dL_law_582 rfl kk) ?_
  refine lw_pw (fun _ kk => pw_iload 585 rfl dL_law_583 rfl kk) ?_
  refine lw_pw (fun _ kk => pw_iconst (v := nI 1) 586 rfl dL_law_585 rfl kk) ?_
  first | refine lw_pw (fun _ kk => pw_iaddN 587 rfl dL_law_586 kk) ?_ | refine lw_pw (fun _ kk => pw_iadd 587 rfl dL_law_586 kk) ?_
  refine lw_sldN 588 rfl dL_law_587 (by omega) (by omega) ?_
  refine lw_pw (fun _ kk => pw_aload_n 589 rfl dL_law_588 rfl kk) ?_
  refine lw_pw (fun _ kk => pw_iload 591 rfl dL_law_589 rfl kk) ?_
  refine lw_pw (fun _ kk => pw_iconst (v := nI 2) 592 rfl dL_law_591 rfl kk) ?_
  first | refine lw_pw (fun _ kk => pw_iaddN 593 rfl dL_law_592 kk) ?_ | refine lw_pw (fun _ kk => pw_iadd 593 rfl dL_law_592 kk) ?_
  refine lw_sldN 594 rfl dL_law_593 (by omega) (by omega) ?_
  refine lw_call (fun _ kk => pw_callV (as := [_, _]) 597 rfl dL_law_594 mL_75 vX12_waits (PC.lift (S' := SL) (o := 70) sl_m (by decide) (mo_waits (d := 0) hM hD (by omega) hW _ _) hgM') (by first | rfl | assumption | exact rowS hh | exact mtS hm | exact ruS hr | exact mtA1 hm | exact mtA2 hm | exact mtA3 hm | exact mtA4 hm | exact mtA5 hm | exact mtA6 hm | exact mtA7 hm | exact ruA1 hr | exact ruA2 hr | exact ruA3 hr) rfl (by decide) ⟨rfl, by decide, by decide, show (parseMethodDescriptor yX12_waits.desc).map (fun d => d.parameters.length) = some 2 by decide +kernel⟩ (by omega) (by decide) (Nat.le_of_ble_eq_true rfl) rfl kk) (fun r594 I594 J594 R594 c594 => ?_)
  obtain ⟨r2, IB, JB, RB, ⟨rfl, hM', hD', rd', rfl⟩, rfl, hgM2, hout2⟩ := c594; have hgX2 := agr_out hgX' hout2 (Or.inl (by decide)); show LW _ _ _ _ _ _ _ _ _ _ [.int _, .int _] _ _ _ _
  refine lw_pw (fun _ kk => pw_icmp_eq (tgt := 1621) 600 rfl dL_law_597 rfl (fun h597 => kk) (fun h597 => absurd rfl h597)) ?_
  rotate_left
  exact k _ _ _ _ _ _ _ (WA_act (fun n pc b h => WN_aWait _ _ h) hW) ⟨⟨_, _, hX', hgX2⟩, _, _, rd', hM', hD', hgM2⟩
set_option maxRecDepth 100000 in
set_option maxHeartbeats 2000000 in
theorem lc_slips {B L : Nat} {xs : Nat → Int32} (hL : L ≤ 2560) {s : aSt} {g i : Nat} {I : pI} {J : pJ} {R : pR} {x5 x6 x7 : Option Value} {X : pXt} (hI : LI s g I J R) (hW : WA s) (hg : g ≤ 400000000) (hi : i + 5 ≤ L) (k : ∀ (s' : aSt) (I' : pI) (J' : pJ) (R' : pR) (x5 x6 x7 : Option Value), WA s' → LI s' (g + 10000) I' J' R' → LW B L xs SL yL_law.cls cL_law 8 260 1621 [some (.ref 200), some (.ref 0), some (.ref 70), some (.ref 96), some (.int (nI i)), x5, x6, x7] [] I' J' R' X) : LW B L xs SL yL_law.cls cL_law 8 260 602 [some (.ref 200), some (.ref 0), some (.ref 70), some (.ref 96), some (.int (nI i)), x5, x6, x7] [] I J R X := by
  obtain ⟨⟨I1, J1, hX, hgX⟩, I2, J2, rd, hM, hD, hgM⟩ := hI
  refine lw_pw (fun _ kk => pw_aload_n 603 rfl dL_law_602 rfl kk) ?_
  refine lw_pw (fun _ kk => pw_aload_n 604 rfl dL_law_603 rfl kk) ?_
  refine lw_pw (fun _ kk => pw_iload 606 rfl dL_law_604 rfl kk) ?_
  refine lw_pw (fun _ kk => pw_iconst (v := nI 1) 607 rfl dL_law_606 rfl kk) ?_
  first | refine lw_pw (fun _ kk => pw_iaddN 608 rfl dL_law_607 kk) ?_ | refine lw_pw (fun _ kk => pw_iadd 608 rfl dL_law_607 kk) ?_
  refine lw_sldN 609 rfl dL_law_608 (by omega) (by omega) ?_
  refine lw_pw (fun _ kk => pw_aload_n 610 rfl dL_law_609 rfl kk) ?_
  refine lw_pw (fun _ kk => pw_iload 612 rfl dL_law_610 rfl kk) ?_
  refine lw_pw (fun _ kk => pw_iconst (v := nI 2) 613 rfl dL_law_612 rfl kk) ?_
  first | refine lw_pw (fun _ kk => pw_iaddN 614 rfl dL_law_613 kk) ?_ | refine lw_pw (fun _ kk => pw_iadd 614 rfl dL_law_613 kk) ?_
  refine lw_sldN 615 rfl dL_law_614 (by omega) (by omega) ?_
  refine lw_call (fun _ kk => pw_callV (as := [_, _]) 618 rfl dL_law_615 mL_76 vX11_slips (PC.lift (S' := SL) (o := 0) sl_x (by decide) (xo_slips (d := 20) hX hW _ _) hgX) (by first | rfl | assumption | exact rowS hh | exact mtS hm | exact ruS hr | exact mtA1 hm | exact mtA2 hm | exact mtA3 hm | exact mtA4 hm | exact mtA5 hm | exact mtA6 hm | exact mtA7 hm | exact ruA1 hr | exact ruA2 hr | exact ruA3 hr) rfl (by decide) ⟨rfl, by decide, by decide, show (parseMethodDescriptor yX11_slips.desc).map (fun d => d.parameters.length) = some 2 by decide +kernel⟩ (by omega) (by decide) (Nat.le_of_ble_eq_true rfl) rfl kk) (fun r615 I615 J615 R615 c615 => ?_)
  obtain ⟨r1, IA, JA, RA, ⟨rfl, hX', rfl⟩, rfl, hgX', hout⟩ := c615; have hgM' := agr_out hgM hout (Or.inr (by decide)); show LW _ _ _ _ _ _ _ _ _ _ [.int _] _ _ _ _
  refine lw_pw (fun _ kk => pw_aload_n 619 rfl dL_law_618 rfl kk) ?_
  refine lw_pw (fun _ kk => pw_aload_n 620 rfl dL_law_619 rfl kk) ?_
  refine lw_pw (fun _ kk => pw_iload 622 rfl dL_law_620 rfl kk) ?_
  refine lw_pw (fun _ kk => pw_iconst (v := nI 1) 623 rfl dL_law_622 rfl kk) ?_
  first | refine lw_pw (fun _ kk => pw_iaddN 624 rfl dL_law_623 kk) ?_ | refine lw_pw (fun _ kk => pw_iadd 624 rfl dL_law_623 kk) ?_
  refine lw_sldN 625 rfl dL_law_624 (by omega) (by omega) ?_
  refine lw_pw (fun _ kk => pw_aload_n 626 rfl dL_law_625 rfl kk) ?_
  refine lw_pw (fun _ kk => pw_iload 628 rfl dL_law_626 rfl kk) ?_
  refine lw_pw (fun _ kk => pw_iconst (v := nI 2) 629 rfl dL_law_628 rfl kk) ?_
  first | refine lw_pw (fun _ kk => pw_iaddN 630 rfl dL_law_629 kk) ?_ | refine lw_pw (fun _ kk => pw_iadd 630 rfl dL_law_629 kk) ?_
  refine lw_sldN 631 rfl dL_law_630 (by omega) (by omega) ?_
  refine lw_call (fun _ kk => pw_callV (as := [_, _]) 634 rfl dL_law_631 mL_79 vX12_slips (PC.lift (S' := SL) (o := 70) sl_m (by decide) (mo_slips (d := 0) hM hD (by omega) hW _ _) hgM') (by first | rfl | assumption | exact rowS hh | exact mtS hm | exact ruS hr | exact mtA1 hm | exact mtA2 hm | exact mtA3 hm | exact mtA4 hm | exact mtA5 hm | exact mtA6 hm | exact mtA7 hm | exact ruA1 hr | exact ruA2 hr | exact ruA3 hr) rfl (by decide) ⟨rfl, by decide, by decide, show (parseMethodDescriptor yX12_slips.desc).map (fun d => d.parameters.length) = some 2 by decide +kernel⟩ (by omega) (by decide) (Nat.le_of_ble_eq_true rfl) rfl kk) (fun r631 I631 J631 R631 c631 => ?_)
  obtain ⟨r2, IB, JB, RB, ⟨rfl, hM', hD', rd', rfl⟩, rfl, hgM2, hout2⟩ := c631; have hgX2 := agr_out hgX' hout2 (Or.inl (by decide)); show LW _ _ _ _ _ _ _ _ _ _ [.int _, .int _] _ _ _ _
  refine lw_pw (fun _ kk => pw_icmp_eq (tgt := 1621) 637 rfl dL_law_634 rfl (fun h634 => kk) (fun h634 => absurd rfl h634)) ?_
  rotate_left
  exact k _ _ _ _ _ _ _ (WA_act (fun n pc b h => WN_aSlip _ _ h) hW) ⟨⟨_, _, hX', hgX2⟩, _, _, rd', hM', hD', hgM2⟩
set_option maxRecDepth 100000 in
set_option maxHeartbeats 2000000 in
theorem lc_day {B L : Nat} {xs : Nat → Int32} (hL : L ≤ 2560) {s : aSt} {g i : Nat} {I : pI} {J : pJ} {R : pR} {x5 x6 x7 : Option Value} {X : pXt} (hI : LI s g I J R) (hW : WA s) (hg : g ≤ 400000000) (hi : i + 5 ≤ L) (k : ∀ (s' : aSt) (I' : pI) (J' : pJ) (R' : pR) (x5 x6 x7 : Option Value), WA s' → LI s' (g + 10000) I' J' R' → LW B L xs SL yL_law.cls cL_law 8 260 1621 [some (.ref 200), some (.ref 0), some (.ref 70), some (.ref 96), some (.int (nI i)), x5, x6, x7] [] I' J' R' X) : LW B L xs SL yL_law.cls cL_law 8 260 639 [some (.ref 200), some (.ref 0), some (.ref 70), some (.ref 96), some (.int (nI i)), x5, x6, x7] [] I J R X := by
  obtain ⟨⟨I1, J1, hX, hgX⟩, I2, J2, rd, hM, hD, hgM⟩ := hI
  refine lw_pw (fun _ kk => pw_aload_n 640 rfl dL_law_639 rfl kk) ?_
  refine lw_call (fun _ kk => pw_callV (as := []) 643 rfl dL_law_640 mL_80 vX11_day (PC.lift (S' := SL) (o := 0) sl_x (by decide) (xo_day (d := 20) hX hW ) hgX) (by first | rfl | assumption | exact rowS hh | exact mtS hm | exact ruS hr | exact mtA1 hm | exact mtA2 hm | exact mtA3 hm | exact mtA4 hm | exact mtA5 hm | exact mtA6 hm | exact mtA7 hm | exact ruA1 hr | exact ruA2 hr | exact ruA3 hr) rfl (by decide) ⟨rfl, by decide, by decide, show (parseMethodDescriptor yX11_day.desc).map (fun d => d.parameters.length) = some 0 by decide +kernel⟩ (by omega) (by decide) (Nat.le_of_ble_eq_true rfl) rfl kk) (fun r640 I640 J640 R640 c640 => ?_)
  obtain ⟨r1, IA, JA, RA, ⟨rfl, hX', rfl⟩, rfl, hgX', hout⟩ := c640; have hgM' := agr_out hgM hout (Or.inr (by decide)); show LW _ _ _ _ _ _ _ _ _ _ [.int _] _ _ _ _
  refine lw_pw (fun _ kk => pw_aload_n 644 rfl dL_law_643 rfl kk) ?_
  refine lw_call (fun _ kk => pw_callV (as := []) 647 rfl dL_law_644 mL_83 vX12_day (PC.lift (S' := SL) (o := 70) sl_m (by decide) (mo_day (d := 0) hM hD (by omega) hW ) hgM') (by first | rfl | assumption | exact rowS hh | exact mtS hm | exact ruS hr | exact mtA1 hm | exact mtA2 hm | exact mtA3 hm | exact mtA4 hm | exact mtA5 hm | exact mtA6 hm | exact mtA7 hm | exact ruA1 hr | exact ruA2 hr | exact ruA3 hr) rfl (by decide) ⟨rfl, by decide, by decide, show (parseMethodDescriptor yX12_day.desc).map (fun d => d.parameters.length) = some 0 by decide +kernel⟩ (by omega) (by decide) (Nat.le_of_ble_eq_true rfl) rfl kk) (fun r644 I644 J644 R644 c644 => ?_)
  obtain ⟨r2, IB, JB, RB, ⟨rfl, hM', hD', rd', rfl⟩, rfl, hgM2, hout2⟩ := c644; have hgX2 := agr_out hgX' hout2 (Or.inl (by decide)); show LW _ _ _ _ _ _ _ _ _ _ [.int _, .int _] _ _ _ _
  refine lw_pw (fun _ kk => pw_icmp_eq (tgt := 1621) 650 rfl dL_law_647 rfl (fun h647 => kk) (fun h647 => absurd rfl h647)) ?_
  rotate_left
  exact k _ _ _ _ _ _ _ (WA_day hW) ⟨⟨_, _, hX', hgX2⟩, _, _, rd', hM', hD', hgM2⟩
set_option maxRecDepth 100000 in
set_option maxHeartbeats 2000000 in
theorem lc_undo {B L : Nat} {xs : Nat → Int32} (hL : L ≤ 2560) {s : aSt} {g i : Nat} {I : pI} {J : pJ} {R : pR} {x5 x6 x7 : Option Value} {X : pXt} (hI : LI s g I J R) (hW : WA s) (hg : g ≤ 400000000) (hi : i + 5 ≤ L) (k : ∀ (s' : aSt) (I' : pI) (J' : pJ) (R' : pR) (x5 x6 x7 : Option Value), WA s' → LI s' (g + 10000) I' J' R' → LW B L xs SL yL_law.cls cL_law 8 260 1621 [some (.ref 200), some (.ref 0), some (.ref 70), some (.ref 96), some (.int (nI i)), x5, x6, x7] [] I' J' R' X) : LW B L xs SL yL_law.cls cL_law 8 260 652 [some (.ref 200), some (.ref 0), some (.ref 70), some (.ref 96), some (.int (nI i)), x5, x6, x7] [] I J R X := by
  obtain ⟨⟨I1, J1, hX, hgX⟩, I2, J2, rd, hM, hD, hgM⟩ := hI
  refine lw_pw (fun _ kk => pw_aload_n 653 rfl dL_law_652 rfl kk) ?_
  refine lw_call (fun _ kk => pw_callV (as := []) 656 rfl dL_law_653 mL_84 vX11_undo (PC.lift (S' := SL) (o := 0) sl_x (by decide) (xo_undo (d := 20) hX ) hgX) (by first | rfl | assumption | exact rowS hh | exact mtS hm | exact ruS hr | exact mtA1 hm | exact mtA2 hm | exact mtA3 hm | exact mtA4 hm | exact mtA5 hm | exact mtA6 hm | exact mtA7 hm | exact ruA1 hr | exact ruA2 hr | exact ruA3 hr) rfl (by decide) ⟨rfl, by decide, by decide, show (parseMethodDescriptor yX11_undo.desc).map (fun d => d.parameters.length) = some 0 by decide +kernel⟩ (by omega) (by decide) (Nat.le_of_ble_eq_true rfl) rfl kk) (fun r653 I653 J653 R653 c653 => ?_)
  obtain ⟨r1, IA, JA, RA, ⟨rfl, hX', rfl⟩, rfl, hgX', hout⟩ := c653; have hgM' := agr_out hgM hout (Or.inr (by decide)); show LW _ _ _ _ _ _ _ _ _ _ [.int _] _ _ _ _
  refine lw_pw (fun _ kk => pw_aload_n 657 rfl dL_law_656 rfl kk) ?_
  refine lw_call (fun _ kk => pw_callV (as := []) 660 rfl dL_law_657 mL_87 vX12_undo (PC.lift (S' := SL) (o := 70) sl_m (by decide) (mo_undo (d := 0) hM hD (by omega) hW ) hgM') (by first | rfl | assumption | exact rowS hh | exact mtS hm | exact ruS hr | exact mtA1 hm | exact mtA2 hm | exact mtA3 hm | exact mtA4 hm | exact mtA5 hm | exact mtA6 hm | exact mtA7 hm | exact ruA1 hr | exact ruA2 hr | exact ruA3 hr) rfl (by decide) ⟨rfl, by decide, by decide, show (parseMethodDescriptor yX12_undo.desc).map (fun d => d.parameters.length) = some 0 by decide +kernel⟩ (by omega) (by decide) (Nat.le_of_ble_eq_true rfl) rfl kk) (fun r657 I657 J657 R657 c657 => ?_)
  obtain ⟨r2, IB, JB, RB, ⟨rfl, hM', hD', rd', rfl⟩, rfl, hgM2, hout2⟩ := c657; have hgX2 := agr_out hgX' hout2 (Or.inl (by decide)); show LW _ _ _ _ _ _ _ _ _ _ [.int _, .int _] _ _ _ _
  refine lw_pw (fun _ kk => pw_icmp_eq (tgt := 1621) 663 rfl dL_law_660 rfl (fun h660 => kk) (fun h660 => absurd rfl h660)) ?_
  rotate_left
  exact k _ _ _ _ _ _ _ (WA_undo hW) ⟨⟨_, _, hX', hgX2⟩, _, _, rd', hM', hD', hgM2⟩
set_option maxRecDepth 100000 in
set_option maxHeartbeats 2000000 in
theorem lc_later {B L : Nat} {xs : Nat → Int32} (hL : L ≤ 2560) {s : aSt} {g i : Nat} {I : pI} {J : pJ} {R : pR} {x5 x6 x7 : Option Value} {X : pXt} (hI : LI s g I J R) (hW : WA s) (hg : g ≤ 400000000) (hi : i + 5 ≤ L) (k : ∀ (s' : aSt) (I' : pI) (J' : pJ) (R' : pR) (x5 x6 x7 : Option Value), WA s' → LI s' (g + 10000) I' J' R' → LW B L xs SL yL_law.cls cL_law 8 260 1621 [some (.ref 200), some (.ref 0), some (.ref 70), some (.ref 96), some (.int (nI i)), x5, x6, x7] [] I' J' R' X) : LW B L xs SL yL_law.cls cL_law 8 260 665 [some (.ref 200), some (.ref 0), some (.ref 70), some (.ref 96), some (.int (nI i)), x5, x6, x7] [] I J R X := by
  obtain ⟨⟨I1, J1, hX, hgX⟩, I2, J2, rd, hM, hD, hgM⟩ := hI
  refine lw_pw (fun _ kk => pw_aload_n 666 rfl dL_law_665 rfl kk) ?_
  refine lw_pw (fun _ kk => pw_aload_n 667 rfl dL_law_666 rfl kk) ?_
  refine lw_pw (fun _ kk => pw_iload 669 rfl dL_law_667 rfl kk) ?_
  refine lw_pw (fun _ kk => pw_iconst (v := nI 1) 670 rfl dL_law_669 rfl kk) ?_
  first | refine lw_pw (fun _ kk => pw_iaddN 671 rfl dL_law_670 kk) ?_ | refine lw_pw (fun _ kk => pw_iadd 671 rfl dL_law_670 kk) ?_
  refine lw_sldN 672 rfl dL_law_671 (by omega) (by omega) ?_
  refine lw_call (fun _ kk => pw_callV (as := [_]) 675 rfl dL_law_672 mL_88 vX11_later (PC.lift (S' := SL) (o := 0) sl_x (by decide) (xo_later (d := 20) hX hW _) hgX) (by first | rfl | assumption | exact rowS hh | exact mtS hm | exact ruS hr | exact mtA1 hm | exact mtA2 hm | exact mtA3 hm | exact mtA4 hm | exact mtA5 hm | exact mtA6 hm | exact mtA7 hm | exact ruA1 hr | exact ruA2 hr | exact ruA3 hr) rfl (by decide) ⟨rfl, by decide, by decide, show (parseMethodDescriptor yX11_later.desc).map (fun d => d.parameters.length) = some 1 by decide +kernel⟩ (by omega) (by decide) (Nat.le_of_ble_eq_true rfl) rfl kk) (fun r672 I672 J672 R672 c672 => ?_)
  obtain ⟨r1, IA, JA, RA, ⟨rfl, hX', rfl⟩, rfl, hgX', hout⟩ := c672; have hgM' := agr_out hgM hout (Or.inr (by decide)); show LW _ _ _ _ _ _ _ _ _ _ [.int _] _ _ _ _
  refine lw_pw (fun _ kk => pw_aload_n 676 rfl dL_law_675 rfl kk) ?_
  refine lw_pw (fun _ kk => pw_aload_n 677 rfl dL_law_676 rfl kk) ?_
  refine lw_pw (fun _ kk => pw_iload 679 rfl dL_law_677 rfl kk) ?_
  refine lw_pw (fun _ kk => pw_iconst (v := nI 1) 680 rfl dL_law_679 rfl kk) ?_
  first | refine lw_pw (fun _ kk => pw_iaddN 681 rfl dL_law_680 kk) ?_ | refine lw_pw (fun _ kk => pw_iadd 681 rfl dL_law_680 kk) ?_
  refine lw_sldN 682 rfl dL_law_681 (by omega) (by omega) ?_
  refine lw_call (fun _ kk => pw_callV (as := [_]) 685 rfl dL_law_682 mL_91 vX12_later (PC.lift (S' := SL) (o := 70) sl_m (by decide) (mo_later (d := 0) hM hD (by omega) hW _) hgM') (by first | rfl | assumption | exact rowS hh | exact mtS hm | exact ruS hr | exact mtA1 hm | exact mtA2 hm | exact mtA3 hm | exact mtA4 hm | exact mtA5 hm | exact mtA6 hm | exact mtA7 hm | exact ruA1 hr | exact ruA2 hr | exact ruA3 hr) rfl (by decide) ⟨rfl, by decide, by decide, show (parseMethodDescriptor yX12_later.desc).map (fun d => d.parameters.length) = some 1 by decide +kernel⟩ (by omega) (by decide) (Nat.le_of_ble_eq_true rfl) rfl kk) (fun r682 I682 J682 R682 c682 => ?_)
  obtain ⟨r2, IB, JB, RB, ⟨rfl, hM', hD', rd', rfl⟩, rfl, hgM2, hout2⟩ := c682; have hgX2 := agr_out hgX' hout2 (Or.inl (by decide)); show LW _ _ _ _ _ _ _ _ _ _ [.int _, .int _] _ _ _ _
  refine lw_pw (fun _ kk => pw_icmp_eq (tgt := 1621) 688 rfl dL_law_685 rfl (fun h685 => kk) (fun h685 => absurd rfl h685)) ?_
  rotate_left
  exact k _ _ _ _ _ _ _ (WA_q hW) ⟨⟨_, _, hX', hgX2⟩, _, _, rd', hM', hD', hgM2⟩
set_option maxRecDepth 100000 in
set_option maxHeartbeats 2000000 in
theorem lc_when {B L : Nat} {xs : Nat → Int32} (hL : L ≤ 2560) {s : aSt} {g i : Nat} {I : pI} {J : pJ} {R : pR} {x5 x6 x7 : Option Value} {X : pXt} (hI : LI s g I J R) (hW : WA s) (hg : g ≤ 400000000) (hi : i + 5 ≤ L) (k : ∀ (s' : aSt) (I' : pI) (J' : pJ) (R' : pR) (x5 x6 x7 : Option Value), WA s' → LI s' (g + 10000) I' J' R' → LW B L xs SL yL_law.cls cL_law 8 260 1621 [some (.ref 200), some (.ref 0), some (.ref 70), some (.ref 96), some (.int (nI i)), x5, x6, x7] [] I' J' R' X) : LW B L xs SL yL_law.cls cL_law 8 260 690 [some (.ref 200), some (.ref 0), some (.ref 70), some (.ref 96), some (.int (nI i)), x5, x6, x7] [] I J R X := by
  obtain ⟨⟨I1, J1, hX, hgX⟩, I2, J2, rd, hM, hD, hgM⟩ := hI
  refine lw_pw (fun _ kk => pw_aload_n 691 rfl dL_law_690 rfl kk) ?_
  refine lw_pw (fun _ kk => pw_aload_n 692 rfl dL_law_691 rfl kk) ?_
  refine lw_pw (fun _ kk => pw_iload 694 rfl dL_law_692 rfl kk) ?_
  refine lw_pw (fun _ kk => pw_iconst (v := nI 1) 695 rfl dL_law_694 rfl kk) ?_
  first | refine lw_pw (fun _ kk => pw_iaddN 696 rfl dL_law_695 kk) ?_ | refine lw_pw (fun _ kk => pw_iadd 696 rfl dL_law_695 kk) ?_
  refine lw_sldN 697 rfl dL_law_696 (by omega) (by omega) ?_
  refine lw_call (fun _ kk => pw_callV (as := [_]) 700 rfl dL_law_697 mL_92 vX11_when (PC.lift (S' := SL) (o := 0) sl_x (by decide) (xo_when (d := 20) hX hW _) hgX) (by first | rfl | assumption | exact rowS hh | exact mtS hm | exact ruS hr | exact mtA1 hm | exact mtA2 hm | exact mtA3 hm | exact mtA4 hm | exact mtA5 hm | exact mtA6 hm | exact mtA7 hm | exact ruA1 hr | exact ruA2 hr | exact ruA3 hr) rfl (by decide) ⟨rfl, by decide, by decide, show (parseMethodDescriptor yX11_when.desc).map (fun d => d.parameters.length) = some 1 by decide +kernel⟩ (by omega) (by decide) (Nat.le_of_ble_eq_true rfl) rfl kk) (fun r697 I697 J697 R697 c697 => ?_)
  obtain ⟨r1, IA, JA, RA, ⟨rfl, hX', rfl⟩, rfl, hgX', hout⟩ := c697; have hgM' := agr_out hgM hout (Or.inr (by decide)); show LW _ _ _ _ _ _ _ _ _ _ [.int _] _ _ _ _
  refine lw_pw (fun _ kk => pw_aload_n 701 rfl dL_law_700 rfl kk) ?_
  refine lw_pw (fun _ kk => pw_aload_n 702 rfl dL_law_701 rfl kk) ?_
  refine lw_pw (fun _ kk => pw_iload 704 rfl dL_law_702 rfl kk) ?_
  refine lw_pw (fun _ kk => pw_iconst (v := nI 1) 705 rfl dL_law_704 rfl kk) ?_
  first | refine lw_pw (fun _ kk => pw_iaddN 706 rfl dL_law_705 kk) ?_ | refine lw_pw (fun _ kk => pw_iadd 706 rfl dL_law_705 kk) ?_
  refine lw_sldN 707 rfl dL_law_706 (by omega) (by omega) ?_
  refine lw_call (fun _ kk => pw_callV (as := [_]) 710 rfl dL_law_707 mL_95 vX12_when (PC.lift (S' := SL) (o := 70) sl_m (by decide) (mo_when (d := 0) hM hD (by omega) hW _) hgM') (by first | rfl | assumption | exact rowS hh | exact mtS hm | exact ruS hr | exact mtA1 hm | exact mtA2 hm | exact mtA3 hm | exact mtA4 hm | exact mtA5 hm | exact mtA6 hm | exact mtA7 hm | exact ruA1 hr | exact ruA2 hr | exact ruA3 hr) rfl (by decide) ⟨rfl, by decide, by decide, show (parseMethodDescriptor yX12_when.desc).map (fun d => d.parameters.length) = some 1 by decide +kernel⟩ (by omega) (by decide) (Nat.le_of_ble_eq_true rfl) rfl kk) (fun r707 I707 J707 R707 c707 => ?_)
  obtain ⟨r2, IB, JB, RB, ⟨rfl, hM', hD', rd', rfl⟩, rfl, hgM2, hout2⟩ := c707; have hgX2 := agr_out hgX' hout2 (Or.inl (by decide)); show LW _ _ _ _ _ _ _ _ _ _ [.int _, .int _] _ _ _ _
  refine lw_pw (fun _ kk => pw_icmp_eq (tgt := 1621) 713 rfl dL_law_710 rfl (fun h710 => kk) (fun h710 => absurd rfl h710)) ?_
  rotate_left
  exact k _ _ _ _ _ _ _ (WA_q hW) ⟨⟨_, _, hX', hgX2⟩, _, _, rd', hM', hD', hgM2⟩
set_option maxRecDepth 100000 in
set_option maxHeartbeats 2000000 in
theorem lc_shares {B L : Nat} {xs : Nat → Int32} (hL : L ≤ 2560) {s : aSt} {g i : Nat} {I : pI} {J : pJ} {R : pR} {x5 x6 x7 : Option Value} {X : pXt} (hI : LI s g I J R) (hW : WA s) (hg : g ≤ 400000000) (hi : i + 5 ≤ L) (k : ∀ (s' : aSt) (I' : pI) (J' : pJ) (R' : pR) (x5 x6 x7 : Option Value), WA s' → LI s' (g + 10000) I' J' R' → LW B L xs SL yL_law.cls cL_law 8 260 1621 [some (.ref 200), some (.ref 0), some (.ref 70), some (.ref 96), some (.int (nI i)), x5, x6, x7] [] I' J' R' X) : LW B L xs SL yL_law.cls cL_law 8 260 715 [some (.ref 200), some (.ref 0), some (.ref 70), some (.ref 96), some (.int (nI i)), x5, x6, x7] [] I J R X := by
  obtain ⟨⟨I1, J1, hX, hgX⟩, I2, J2, rd, hM, hD, hgM⟩ := hI
  refine lw_pw (fun _ kk => pw_aload_n 716 rfl dL_law_715 rfl kk) ?_
  refine lw_pw (fun _ kk => pw_aload_n 717 rfl dL_law_716 rfl kk) ?_
  refine lw_pw (fun _ kk => pw_iload 719 rfl dL_law_717 rfl kk) ?_
  refine lw_pw (fun _ kk => pw_iconst (v := nI 1) 720 rfl dL_law_719 rfl kk) ?_
  first | refine lw_pw (fun _ kk => pw_iaddN 721 rfl dL_law_720 kk) ?_ | refine lw_pw (fun _ kk => pw_iadd 721 rfl dL_law_720 kk) ?_
  refine lw_sldN 722 rfl dL_law_721 (by omega) (by omega) ?_
  refine lw_call (fun _ kk => pw_callV (as := [_]) 725 rfl dL_law_722 mL_96 vX11_shares (PC.lift (S' := SL) (o := 0) sl_x (by decide) (xo_shares (d := 20) hX hW _) hgX) (by first | rfl | assumption | exact rowS hh | exact mtS hm | exact ruS hr | exact mtA1 hm | exact mtA2 hm | exact mtA3 hm | exact mtA4 hm | exact mtA5 hm | exact mtA6 hm | exact mtA7 hm | exact ruA1 hr | exact ruA2 hr | exact ruA3 hr) rfl (by decide) ⟨rfl, by decide, by decide, show (parseMethodDescriptor yX11_shares.desc).map (fun d => d.parameters.length) = some 1 by decide +kernel⟩ (by omega) (by decide) (Nat.le_of_ble_eq_true rfl) rfl kk) (fun r722 I722 J722 R722 c722 => ?_)
  obtain ⟨r1, IA, JA, RA, ⟨rfl, hX', rfl⟩, rfl, hgX', hout⟩ := c722; have hgM' := agr_out hgM hout (Or.inr (by decide)); show LW _ _ _ _ _ _ _ _ _ _ [.int _] _ _ _ _
  refine lw_pw (fun _ kk => pw_aload_n 726 rfl dL_law_725 rfl kk) ?_
  refine lw_pw (fun _ kk => pw_aload_n 727 rfl dL_law_726 rfl kk) ?_
  refine lw_pw (fun _ kk => pw_iload 729 rfl dL_law_727 rfl kk) ?_
  refine lw_pw (fun _ kk => pw_iconst (v := nI 1) 730 rfl dL_law_729 rfl kk) ?_
  first | refine lw_pw (fun _ kk => pw_iaddN 731 rfl dL_law_730 kk) ?_ | refine lw_pw (fun _ kk => pw_iadd 731 rfl dL_law_730 kk) ?_
  refine lw_sldN 732 rfl dL_law_731 (by omega) (by omega) ?_
  refine lw_call (fun _ kk => pw_callV (as := [_]) 735 rfl dL_law_732 mL_99 vX12_shares (PC.lift (S' := SL) (o := 70) sl_m (by decide) (mo_shares (d := 0) hM hD (by omega) hW _) hgM') (by first | rfl | assumption | exact rowS hh | exact mtS hm | exact ruS hr | exact mtA1 hm | exact mtA2 hm | exact mtA3 hm | exact mtA4 hm | exact mtA5 hm | exact mtA6 hm | exact mtA7 hm | exact ruA1 hr | exact ruA2 hr | exact ruA3 hr) rfl (by decide) ⟨rfl, by decide, by decide, show (parseMethodDescriptor yX12_shares.desc).map (fun d => d.parameters.length) = some 1 by decide +kernel⟩ (by omega) (by decide) (Nat.le_of_ble_eq_true rfl) rfl kk) (fun r732 I732 J732 R732 c732 => ?_)
  obtain ⟨r2, IB, JB, RB, ⟨rfl, hM', hD', rd', rfl⟩, rfl, hgM2, hout2⟩ := c732; have hgX2 := agr_out hgX' hout2 (Or.inl (by decide)); show LW _ _ _ _ _ _ _ _ _ _ [.int _, .int _] _ _ _ _
  refine lw_pw (fun _ kk => pw_icmp_eq (tgt := 1621) 738 rfl dL_law_735 rfl (fun h735 => kk) (fun h735 => absurd rfl h735)) ?_
  rotate_left
  exact k _ _ _ _ _ _ _ (WA_q hW) ⟨⟨_, _, hX', hgX2⟩, _, _, rd', hM', hD', hgM2⟩
set_option maxRecDepth 100000 in
set_option maxHeartbeats 2000000 in
theorem lc_order {B L : Nat} {xs : Nat → Int32} (hL : L ≤ 2560) {s : aSt} {g i : Nat} {I : pI} {J : pJ} {R : pR} {x5 x6 x7 : Option Value} {X : pXt} (hI : LI s g I J R) (hW : WA s) (hg : g ≤ 400000000) (hi : i + 5 ≤ L) (k : ∀ (s' : aSt) (I' : pI) (J' : pJ) (R' : pR) (x5 x6 x7 : Option Value), WA s' → LI s' (g + 10000) I' J' R' → LW B L xs SL yL_law.cls cL_law 8 260 1621 [some (.ref 200), some (.ref 0), some (.ref 70), some (.ref 96), some (.int (nI i)), x5, x6, x7] [] I' J' R' X) : LW B L xs SL yL_law.cls cL_law 8 260 740 [some (.ref 200), some (.ref 0), some (.ref 70), some (.ref 96), some (.int (nI i)), x5, x6, x7] [] I J R X := by
  obtain ⟨⟨I1, J1, hX, hgX⟩, I2, J2, rd, hM, hD, hgM⟩ := hI
  refine lw_pw (fun _ kk => pw_aload_n 741 rfl dL_law_740 rfl kk) ?_
  refine lw_pw (fun _ kk => pw_aload_n 742 rfl dL_law_741 rfl kk) ?_
  refine lw_pw (fun _ kk => pw_iload 744 rfl dL_law_742 rfl kk) ?_
  refine lw_pw (fun _ kk => pw_iconst (v := nI 1) 745 rfl dL_law_744 rfl kk) ?_
  first | refine lw_pw (fun _ kk => pw_iaddN 746 rfl dL_law_745 kk) ?_ | refine lw_pw (fun _ kk => pw_iadd 746 rfl dL_law_745 kk) ?_
  refine lw_sldN 747 rfl dL_law_746 (by omega) (by omega) ?_
  refine lw_call (fun _ kk => pw_callV (as := [_]) 750 rfl dL_law_747 mL_100 vX11_order (PC.lift (S' := SL) (o := 0) sl_x (by decide) (xo_order (d := 20) hX hW _) hgX) (by first | rfl | assumption | exact rowS hh | exact mtS hm | exact ruS hr | exact mtA1 hm | exact mtA2 hm | exact mtA3 hm | exact mtA4 hm | exact mtA5 hm | exact mtA6 hm | exact mtA7 hm | exact ruA1 hr | exact ruA2 hr | exact ruA3 hr) rfl (by decide) ⟨rfl, by decide, by decide, show (parseMethodDescriptor yX11_order.desc).map (fun d => d.parameters.length) = some 1 by decide +kernel⟩ (by omega) (by decide) (Nat.le_of_ble_eq_true rfl) rfl kk) (fun r747 I747 J747 R747 c747 => ?_)
  obtain ⟨r1, IA, JA, RA, ⟨rfl, hX', rfl⟩, rfl, hgX', hout⟩ := c747; have hgM' := agr_out hgM hout (Or.inr (by decide)); show LW _ _ _ _ _ _ _ _ _ _ [.int _] _ _ _ _
  refine lw_pw (fun _ kk => pw_aload_n 751 rfl dL_law_750 rfl kk) ?_
  refine lw_pw (fun _ kk => pw_aload_n 752 rfl dL_law_751 rfl kk) ?_
  refine lw_pw (fun _ kk => pw_iload 754 rfl dL_law_752 rfl kk) ?_
  refine lw_pw (fun _ kk => pw_iconst (v := nI 1) 755 rfl dL_law_754 rfl kk) ?_
  first | refine lw_pw (fun _ kk => pw_iaddN 756 rfl dL_law_755 kk) ?_ | refine lw_pw (fun _ kk => pw_iadd 756 rfl dL_law_755 kk) ?_
  refine lw_sldN 757 rfl dL_law_756 (by omega) (by omega) ?_
  refine lw_call (fun _ kk => pw_callV (as := [_]) 760 rfl dL_law_757 mL_103 vX12_order (PC.lift (S' := SL) (o := 70) sl_m (by decide) (mo_order (d := 0) hM hD (by omega) hW _) hgM') (by first | rfl | assumption | exact rowS hh | exact mtS hm | exact ruS hr | exact mtA1 hm | exact mtA2 hm | exact mtA3 hm | exact mtA4 hm | exact mtA5 hm | exact mtA6 hm | exact mtA7 hm | exact ruA1 hr | exact ruA2 hr | exact ruA3 hr) rfl (by decide) ⟨rfl, by decide, by decide, show (parseMethodDescriptor yX12_order.desc).map (fun d => d.parameters.length) = some 1 by decide +kernel⟩ (by omega) (by decide) (Nat.le_of_ble_eq_true rfl) rfl kk) (fun r757 I757 J757 R757 c757 => ?_)
  obtain ⟨r2, IB, JB, RB, ⟨rfl, hM', hD', rd', rfl⟩, rfl, hgM2, hout2⟩ := c757; have hgX2 := agr_out hgX' hout2 (Or.inl (by decide)); show LW _ _ _ _ _ _ _ _ _ _ [.int _, .int _] _ _ _ _
  refine lw_pw (fun _ kk => pw_icmp_eq (tgt := 1621) 763 rfl dL_law_760 rfl (fun h760 => kk) (fun h760 => absurd rfl h760)) ?_
  rotate_left
  exact k _ _ _ _ _ _ _ (WA_q hW) ⟨⟨_, _, hX', hgX2⟩, _, _, rd', hM', hD', hgM2⟩
set_option maxRecDepth 100000 in
set_option maxHeartbeats 2000000 in
theorem lc_empty {B L : Nat} {xs : Nat → Int32} (hL : L ≤ 2560) {s : aSt} {g i : Nat} {I : pI} {J : pJ} {R : pR} {x5 x6 x7 : Option Value} {X : pXt} (hI : LI s g I J R) (hW : WA s) (hg : g ≤ 400000000) (hi : i + 5 ≤ L) (k : ∀ (s' : aSt) (I' : pI) (J' : pJ) (R' : pR) (x5 x6 x7 : Option Value), WA s' → LI s' (g + 10000) I' J' R' → LW B L xs SL yL_law.cls cL_law 8 260 1621 [some (.ref 200), some (.ref 0), some (.ref 70), some (.ref 96), some (.int (nI i)), x5, x6, x7] [] I' J' R' X) : LW B L xs SL yL_law.cls cL_law 8 260 765 [some (.ref 200), some (.ref 0), some (.ref 70), some (.ref 96), some (.int (nI i)), x5, x6, x7] [] I J R X := by
  obtain ⟨⟨I1, J1, hX, hgX⟩, I2, J2, rd, hM, hD, hgM⟩ := hI
  refine lw_pw (fun _ kk => pw_aload_n 766 rfl dL_law_765 rfl kk) ?_
  refine lw_call (fun _ kk => pw_callV (as := []) 769 rfl dL_law_766 mL_104 vX11_empty (PC.lift (S' := SL) (o := 0) sl_x (by decide) (xo_empty (d := 20) hX hW ) hgX) (by first | rfl | assumption | exact rowS hh | exact mtS hm | exact ruS hr | exact mtA1 hm | exact mtA2 hm | exact mtA3 hm | exact mtA4 hm | exact mtA5 hm | exact mtA6 hm | exact mtA7 hm | exact ruA1 hr | exact ruA2 hr | exact ruA3 hr) rfl (by decide) ⟨rfl, by decide, by decide, show (parseMethodDescriptor yX11_empty.desc).map (fun d => d.parameters.length) = some 0 by decide +kernel⟩ (by omega) (by decide) (Nat.le_of_ble_eq_true rfl) rfl kk) (fun r766 I766 J766 R766 c766 => ?_)
  obtain ⟨r1, IA, JA, RA, ⟨rfl, hX', rfl⟩, rfl, hgX', hout⟩ := c766; have hgM' := agr_out hgM hout (Or.inr (by decide)); show LW _ _ _ _ _ _ _ _ _ _ [.int _] _ _ _ _
  refine lw_pw (fun _ kk => pw_aload_n 770 rfl dL_law_769 rfl kk) ?_
  refine lw_call (fun _ kk => pw_callV (as := []) 773 rfl dL_law_770 mL_107 vX12_empty (PC.lift (S' := SL) (o := 70) sl_m (by decide) (mo_empty (d := 0) hM hD (by omega) hW ) hgM') (by first | rfl | assumption | exact rowS hh | exact mtS hm | exact ruS hr | exact mtA1 hm | exact mtA2 hm | exact mtA3 hm | exact mtA4 hm | exact mtA5 hm | exact mtA6 hm | exact mtA7 hm | exact ruA1 hr | exact ruA2 hr | exact ruA3 hr) rfl (by decide) ⟨rfl, by decide, by decide, show (parseMethodDescriptor yX12_empty.desc).map (fun d => d.parameters.length) = some 0 by decide +kernel⟩ (by omega) (by decide) (Nat.le_of_ble_eq_true rfl) rfl kk) (fun r770 I770 J770 R770 c770 => ?_)
  obtain ⟨r2, IB, JB, RB, ⟨rfl, hM', hD', rd', rfl⟩, rfl, hgM2, hout2⟩ := c770; have hgX2 := agr_out hgX' hout2 (Or.inl (by decide)); show LW _ _ _ _ _ _ _ _ _ _ [.int _, .int _] _ _ _ _
  refine lw_pw (fun _ kk => pw_icmp_eq (tgt := 1621) 776 rfl dL_law_773 rfl (fun h773 => kk) (fun h773 => absurd rfl h773)) ?_
  rotate_left
  exact k _ _ _ _ _ _ _ (WA_q hW) ⟨⟨_, _, hX', hgX2⟩, _, _, rd', hM', hD', hgM2⟩
set_option maxRecDepth 100000 in
set_option maxHeartbeats 2000000 in
theorem lc_high {B L : Nat} {xs : Nat → Int32} (hL : L ≤ 2560) {s : aSt} {g i : Nat} {I : pI} {J : pJ} {R : pR} {x5 x6 x7 : Option Value} {X : pXt} (hI : LI s g I J R) (hW : WA s) (hg : g ≤ 400000000) (hi : i + 5 ≤ L) (k : ∀ (s' : aSt) (I' : pI) (J' : pJ) (R' : pR) (x5 x6 x7 : Option Value), WA s' → LI s' (g + 10000) I' J' R' → LW B L xs SL yL_law.cls cL_law 8 260 1621 [some (.ref 200), some (.ref 0), some (.ref 70), some (.ref 96), some (.int (nI i)), x5, x6, x7] [] I' J' R' X) : LW B L xs SL yL_law.cls cL_law 8 260 778 [some (.ref 200), some (.ref 0), some (.ref 70), some (.ref 96), some (.int (nI i)), x5, x6, x7] [] I J R X := by
  obtain ⟨⟨I1, J1, hX, hgX⟩, I2, J2, rd, hM, hD, hgM⟩ := hI
  refine lw_pw (fun _ kk => pw_aload_n 779 rfl dL_law_778 rfl kk) ?_
  refine lw_pw (fun _ kk => pw_aload_n 780 rfl dL_law_779 rfl kk) ?_
  refine lw_pw (fun _ kk => pw_iload 782 rfl dL_law_780 rfl kk) ?_
  refine lw_pw (fun _ kk => pw_iconst (v := nI 1) 783 rfl dL_law_782 rfl kk) ?_
  first | refine lw_pw (fun _ kk => pw_iaddN 784 rfl dL_law_783 kk) ?_ | refine lw_pw (fun _ kk => pw_iadd 784 rfl dL_law_783 kk) ?_
  refine lw_sldN 785 rfl dL_law_784 (by omega) (by omega) ?_
  refine lw_pw (fun _ kk => pw_aload_n 786 rfl dL_law_785 rfl kk) ?_
  refine lw_pw (fun _ kk => pw_iload 788 rfl dL_law_786 rfl kk) ?_
  refine lw_pw (fun _ kk => pw_iconst (v := nI 2) 789 rfl dL_law_788 rfl kk) ?_
  first | refine lw_pw (fun _ kk => pw_iaddN 790 rfl dL_law_789 kk) ?_ | refine lw_pw (fun _ kk => pw_iadd 790 rfl dL_law_789 kk) ?_
  refine lw_sldN 791 rfl dL_law_790 (by omega) (by omega) ?_
  refine lw_call (fun _ kk => pw_callV (as := [_, _]) 794 rfl dL_law_791 mL_108 vX11_high (PC.lift (S' := SL) (o := 0) sl_x (by decide) (xo_high (d := 20) hX hW _ _) hgX) (by first | rfl | assumption | exact rowS hh | exact mtS hm | exact ruS hr | exact mtA1 hm | exact mtA2 hm | exact mtA3 hm | exact mtA4 hm | exact mtA5 hm | exact mtA6 hm | exact mtA7 hm | exact ruA1 hr | exact ruA2 hr | exact ruA3 hr) rfl (by decide) ⟨rfl, by decide, by decide, show (parseMethodDescriptor yX11_high.desc).map (fun d => d.parameters.length) = some 2 by decide +kernel⟩ (by omega) (by decide) (Nat.le_of_ble_eq_true rfl) rfl kk) (fun r791 I791 J791 R791 c791 => ?_)
  obtain ⟨r1, IA, JA, RA, ⟨rfl, hX', rfl⟩, rfl, hgX', hout⟩ := c791; have hgM' := agr_out hgM hout (Or.inr (by decide)); show LW _ _ _ _ _ _ _ _ _ _ [.int _] _ _ _ _
  refine lw_pw (fun _ kk => pw_aload_n 795 rfl dL_law_794 rfl kk) ?_
  refine lw_pw (fun _ kk => pw_aload_n 796 rfl dL_law_795 rfl kk) ?_
  refine lw_pw (fun _ kk => pw_iload 798 rfl dL_law_796 rfl kk) ?_
  refine lw_pw (fun _ kk => pw_iconst (v := nI 1) 799 rfl dL_law_798 rfl kk) ?_
  first | refine lw_pw (fun _ kk => pw_iaddN 800 rfl dL_law_799 kk) ?_ | refine lw_pw (fun _ kk => pw_iadd 800 rfl dL_law_799 kk) ?_
  refine lw_sldN 801 rfl dL_law_800 (by omega) (by omega) ?_
  refine lw_pw (fun _ kk => pw_aload_n 802 rfl dL_law_801 rfl kk) ?_
  refine lw_pw (fun _ kk => pw_iload 804 rfl dL_law_802 rfl kk) ?_
  refine lw_pw (fun _ kk => pw_iconst (v := nI 2) 805 rfl dL_law_804 rfl kk) ?_
  first | refine lw_pw (fun _ kk => pw_iaddN 806 rfl dL_law_805 kk) ?_ | refine lw_pw (fun _ kk => pw_iadd 806 rfl dL_law_805 kk) ?_
  refine lw_sldN 807 rfl dL_law_806 (by omega) (by omega) ?_
  refine lw_call (fun _ kk => pw_callV (as := [_, _]) 810 rfl dL_law_807 mL_111 vX12_high (PC.lift (S' := SL) (o := 70) sl_m (by decide) (mo_high (d := 0) hM hD (by omega) hW _ _) hgM') (by first | rfl | assumption | exact rowS hh | exact mtS hm | exact ruS hr | exact mtA1 hm | exact mtA2 hm | exact mtA3 hm | exact mtA4 hm | exact mtA5 hm | exact mtA6 hm | exact mtA7 hm | exact ruA1 hr | exact ruA2 hr | exact ruA3 hr) rfl (by decide) ⟨rfl, by decide, by decide, show (parseMethodDescriptor yX12_high.desc).map (fun d => d.parameters.length) = some 2 by decide +kernel⟩ (by omega) (by decide) (Nat.le_of_ble_eq_true rfl) rfl kk) (fun r807 I807 J807 R807 c807 => ?_)
  obtain ⟨r2, IB, JB, RB, ⟨rfl, hM', hD', rd', rfl⟩, rfl, hgM2, hout2⟩ := c807; have hgX2 := agr_out hgX' hout2 (Or.inl (by decide)); show LW _ _ _ _ _ _ _ _ _ _ [.int _, .int _] _ _ _ _
  refine lw_pw (fun _ kk => pw_icmp_eq (tgt := 1621) 813 rfl dL_law_810 rfl (fun h810 => kk) (fun h810 => absurd rfl h810)) ?_
  rotate_left
  exact k _ _ _ _ _ _ _ (WA_q hW) ⟨⟨_, _, hX', hgX2⟩, _, _, rd', hM', hD', hgM2⟩
set_option maxRecDepth 100000 in
set_option maxHeartbeats 2000000 in
theorem lc_comes {B L : Nat} {xs : Nat → Int32} (hL : L ≤ 2560) {s : aSt} {g i : Nat} {I : pI} {J : pJ} {R : pR} {x5 x6 x7 : Option Value} {X : pXt} (hI : LI s g I J R) (hW : WA s) (hg : g ≤ 400000000) (hi : i + 5 ≤ L) (k : ∀ (s' : aSt) (I' : pI) (J' : pJ) (R' : pR) (x5 x6 x7 : Option Value), WA s' → LI s' (g + 10000) I' J' R' → LW B L xs SL yL_law.cls cL_law 8 260 1621 [some (.ref 200), some (.ref 0), some (.ref 70), some (.ref 96), some (.int (nI i)), x5, x6, x7] [] I' J' R' X) : LW B L xs SL yL_law.cls cL_law 8 260 815 [some (.ref 200), some (.ref 0), some (.ref 70), some (.ref 96), some (.int (nI i)), x5, x6, x7] [] I J R X := by
  obtain ⟨⟨I1, J1, hX, hgX⟩, I2, J2, rd, hM, hD, hgM⟩ := hI
  refine lw_pw (fun _ kk => pw_aload_n 816 rfl dL_law_815 rfl kk) ?_
  refine lw_pw (fun _ kk => pw_aload_n 817 rfl dL_law_816 rfl kk) ?_
  refine lw_pw (fun _ kk => pw_iload 819 rfl dL_law_817 rfl kk) ?_
  refine lw_pw (fun _ kk => pw_iconst (v := nI 1) 820 rfl dL_law_819 rfl kk) ?_
  first | refine lw_pw (fun _ kk => pw_iaddN 821 rfl dL_law_820 kk) ?_ | refine lw_pw (fun _ kk => pw_iadd 821 rfl dL_law_820 kk) ?_
  refine lw_sldN 822 rfl dL_law_821 (by omega) (by omega) ?_
  refine lw_call (fun _ kk => pw_callV (as := [_]) 825 rfl dL_law_822 mL_112 vX11_comes (PC.lift (S' := SL) (o := 0) sl_x (by decide) (xo_comes (d := 20) hX hW _) hgX) (by first | rfl | assumption | exact rowS hh | exact mtS hm | exact ruS hr | exact mtA1 hm | exact mtA2 hm | exact mtA3 hm | exact mtA4 hm | exact mtA5 hm | exact mtA6 hm | exact mtA7 hm | exact ruA1 hr | exact ruA2 hr | exact ruA3 hr) rfl (by decide) ⟨rfl, by decide, by decide, show (parseMethodDescriptor yX11_comes.desc).map (fun d => d.parameters.length) = some 1 by decide +kernel⟩ (by omega) (by decide) (Nat.le_of_ble_eq_true rfl) rfl kk) (fun r822 I822 J822 R822 c822 => ?_)
  obtain ⟨r1, IA, JA, RA, ⟨rfl, hX', rfl⟩, rfl, hgX', hout⟩ := c822; have hgM' := agr_out hgM hout (Or.inr (by decide)); show LW _ _ _ _ _ _ _ _ _ _ [.int _] _ _ _ _
  refine lw_pw (fun _ kk => pw_aload_n 826 rfl dL_law_825 rfl kk) ?_
  refine lw_pw (fun _ kk => pw_aload_n 827 rfl dL_law_826 rfl kk) ?_
  refine lw_pw (fun _ kk => pw_iload 829 rfl dL_law_827 rfl kk) ?_
  refine lw_pw (fun _ kk => pw_iconst (v := nI 1) 830 rfl dL_law_829 rfl kk) ?_
  first | refine lw_pw (fun _ kk => pw_iaddN 831 rfl dL_law_830 kk) ?_ | refine lw_pw (fun _ kk => pw_iadd 831 rfl dL_law_830 kk) ?_
  refine lw_sldN 832 rfl dL_law_831 (by omega) (by omega) ?_
  refine lw_call (fun _ kk => pw_callV (as := [_]) 835 rfl dL_law_832 mL_115 vX12_comes (PC.lift (S' := SL) (o := 70) sl_m (by decide) (mo_comes (d := 0) hM hD (by omega) hW _) hgM') (by first | rfl | assumption | exact rowS hh | exact mtS hm | exact ruS hr | exact mtA1 hm | exact mtA2 hm | exact mtA3 hm | exact mtA4 hm | exact mtA5 hm | exact mtA6 hm | exact mtA7 hm | exact ruA1 hr | exact ruA2 hr | exact ruA3 hr) rfl (by decide) ⟨rfl, by decide, by decide, show (parseMethodDescriptor yX12_comes.desc).map (fun d => d.parameters.length) = some 1 by decide +kernel⟩ (by omega) (by decide) (Nat.le_of_ble_eq_true rfl) rfl kk) (fun r832 I832 J832 R832 c832 => ?_)
  obtain ⟨r2, IB, JB, RB, ⟨rfl, hM', hD', rd', rfl⟩, rfl, hgM2, hout2⟩ := c832; have hgX2 := agr_out hgX' hout2 (Or.inl (by decide)); show LW _ _ _ _ _ _ _ _ _ _ [.int _, .int _] _ _ _ _
  refine lw_pw (fun _ kk => pw_icmp_eq (tgt := 1621) 838 rfl dL_law_835 rfl (fun h835 => kk) (fun h835 => absurd rfl h835)) ?_
  rotate_left
  exact k _ _ _ _ _ _ _ (WA_q hW) ⟨⟨_, _, hX', hgX2⟩, _, _, rd', hM', hD', hgM2⟩
set_option maxRecDepth 100000 in
set_option maxHeartbeats 2000000 in
theorem lc_crowd {B L : Nat} {xs : Nat → Int32} (hL : L ≤ 2560) {s : aSt} {g i : Nat} {I : pI} {J : pJ} {R : pR} {x5 x6 x7 : Option Value} {X : pXt} (hI : LI s g I J R) (hW : WA s) (hg : g ≤ 400000000) (hi : i + 5 ≤ L) (k : ∀ (s' : aSt) (I' : pI) (J' : pJ) (R' : pR) (x5 x6 x7 : Option Value), WA s' → LI s' (g + 10000) I' J' R' → LW B L xs SL yL_law.cls cL_law 8 260 1621 [some (.ref 200), some (.ref 0), some (.ref 70), some (.ref 96), some (.int (nI i)), x5, x6, x7] [] I' J' R' X) : LW B L xs SL yL_law.cls cL_law 8 260 840 [some (.ref 200), some (.ref 0), some (.ref 70), some (.ref 96), some (.int (nI i)), x5, x6, x7] [] I J R X := by
  obtain ⟨⟨I1, J1, hX, hgX⟩, I2, J2, rd, hM, hD, hgM⟩ := hI
  refine lw_pw (fun _ kk => pw_aload_n 841 rfl dL_law_840 rfl kk) ?_
  refine lw_pw (fun _ kk => pw_aload_n 842 rfl dL_law_841 rfl kk) ?_
  refine lw_pw (fun _ kk => pw_iload 844 rfl dL_law_842 rfl kk) ?_
  refine lw_pw (fun _ kk => pw_iconst (v := nI 1) 845 rfl dL_law_844 rfl kk) ?_
  first | refine lw_pw (fun _ kk => pw_iaddN 846 rfl dL_law_845 kk) ?_ | refine lw_pw (fun _ kk => pw_iadd 846 rfl dL_law_845 kk) ?_
  refine lw_sldN 847 rfl dL_law_846 (by omega) (by omega) ?_
  refine lw_call (fun _ kk => pw_callV (as := [_]) 850 rfl dL_law_847 mL_116 vX11_crowd (PC.lift (S' := SL) (o := 0) sl_x (by decide) (xo_crowd (d := 20) hX hW _) hgX) (by first | rfl | assumption | exact rowS hh | exact mtS hm | exact ruS hr | exact mtA1 hm | exact mtA2 hm | exact mtA3 hm | exact mtA4 hm | exact mtA5 hm | exact mtA6 hm | exact mtA7 hm | exact ruA1 hr | exact ruA2 hr | exact ruA3 hr) rfl (by decide) ⟨rfl, by decide, by decide, show (parseMethodDescriptor yX11_crowd.desc).map (fun d => d.parameters.length) = some 1 by decide +kernel⟩ (by omega) (by decide) (Nat.le_of_ble_eq_true rfl) rfl kk) (fun r847 I847 J847 R847 c847 => ?_)
  obtain ⟨r1, IA, JA, RA, ⟨rfl, hX', rfl⟩, rfl, hgX', hout⟩ := c847; have hgM' := agr_out hgM hout (Or.inr (by decide)); show LW _ _ _ _ _ _ _ _ _ _ [.int _] _ _ _ _
  refine lw_pw (fun _ kk => pw_aload_n 851 rfl dL_law_850 rfl kk) ?_
  refine lw_pw (fun _ kk => pw_aload_n 852 rfl dL_law_851 rfl kk) ?_
  refine lw_pw (fun _ kk => pw_iload 854 rfl dL_law_852 rfl kk) ?_
  refine lw_pw (fun _ kk => pw_iconst (v := nI 1) 855 rfl dL_law_854 rfl kk) ?_
  first | refine lw_pw (fun _ kk => pw_iaddN 856 rfl dL_law_855 kk) ?_ | refine lw_pw (fun _ kk => pw_iadd 856 rfl dL_law_855 kk) ?_
  refine lw_sldN 857 rfl dL_law_856 (by omega) (by omega) ?_
  refine lw_call (fun _ kk => pw_callV (as := [_]) 860 rfl dL_law_857 mL_119 vX12_crowd (PC.lift (S' := SL) (o := 70) sl_m (by decide) (mo_crowd (d := 0) hM hD (by omega) hW _) hgM') (by first | rfl | assumption | exact rowS hh | exact mtS hm | exact ruS hr | exact mtA1 hm | exact mtA2 hm | exact mtA3 hm | exact mtA4 hm | exact mtA5 hm | exact mtA6 hm | exact mtA7 hm | exact ruA1 hr | exact ruA2 hr | exact ruA3 hr) rfl (by decide) ⟨rfl, by decide, by decide, show (parseMethodDescriptor yX12_crowd.desc).map (fun d => d.parameters.length) = some 1 by decide +kernel⟩ (by omega) (by decide) (Nat.le_of_ble_eq_true rfl) rfl kk) (fun r857 I857 J857 R857 c857 => ?_)
  obtain ⟨r2, IB, JB, RB, ⟨rfl, hM', hD', rd', rfl⟩, rfl, hgM2, hout2⟩ := c857; have hgX2 := agr_out hgX' hout2 (Or.inl (by decide)); show LW _ _ _ _ _ _ _ _ _ _ [.int _, .int _] _ _ _ _
  refine lw_pw (fun _ kk => pw_icmp_eq (tgt := 1621) 863 rfl dL_law_860 rfl (fun h860 => kk) (fun h860 => absurd rfl h860)) ?_
  rotate_left
  exact k _ _ _ _ _ _ _ (WA_q hW) ⟨⟨_, _, hX', hgX2⟩, _, _, rd', hM', hD', hgM2⟩
set_option maxRecDepth 100000 in
set_option maxHeartbeats 2000000 in
theorem lc_changes {B L : Nat} {xs : Nat → Int32} (hL : L ≤ 2560) {s : aSt} {g i : Nat} {I : pI} {J : pJ} {R : pR} {x5 x6 x7 : Option Value} {X : pXt} (hI : LI s g I J R) (hW : WA s) (hg : g ≤ 400000000) (hi : i + 5 ≤ L) (k : ∀ (s' : aSt) (I' : pI) (J' : pJ) (R' : pR) (x5 x6 x7 : Option Value), WA s' → LI s' (g + 10000) I' J' R' → LW B L xs SL yL_law.cls cL_law 8 260 1621 [some (.ref 200), some (.ref 0), some (.ref 70), some (.ref 96), some (.int (nI i)), x5, x6, x7] [] I' J' R' X) : LW B L xs SL yL_law.cls cL_law 8 260 865 [some (.ref 200), some (.ref 0), some (.ref 70), some (.ref 96), some (.int (nI i)), x5, x6, x7] [] I J R X := by
  obtain ⟨⟨I1, J1, hX, hgX⟩, I2, J2, rd, hM, hD, hgM⟩ := hI
  refine lw_pw (fun _ kk => pw_aload_n 866 rfl dL_law_865 rfl kk) ?_
  refine lw_pw (fun _ kk => pw_aload_n 867 rfl dL_law_866 rfl kk) ?_
  refine lw_pw (fun _ kk => pw_iload 869 rfl dL_law_867 rfl kk) ?_
  refine lw_pw (fun _ kk => pw_iconst (v := nI 1) 870 rfl dL_law_869 rfl kk) ?_
  first | refine lw_pw (fun _ kk => pw_iaddN 871 rfl dL_law_870 kk) ?_ | refine lw_pw (fun _ kk => pw_iadd 871 rfl dL_law_870 kk) ?_
  refine lw_sldN 872 rfl dL_law_871 (by omega) (by omega) ?_
  refine lw_call (fun _ kk => pw_callV (as := [_]) 875 rfl dL_law_872 mL_120 vX11_changes (PC.lift (S' := SL) (o := 0) sl_x (by decide) (xo_changes (d := 20) hX hW _) hgX) (by first | rfl | assumption | exact rowS hh | exact mtS hm | exact ruS hr | exact mtA1 hm | exact mtA2 hm | exact mtA3 hm | exact mtA4 hm | exact mtA5 hm | exact mtA6 hm | exact mtA7 hm | exact ruA1 hr | exact ruA2 hr | exact ruA3 hr) rfl (by decide) ⟨rfl, by decide, by decide, show (parseMethodDescriptor yX11_changes.desc).map (fun d => d.parameters.length) = some 1 by decide +kernel⟩ (by omega) (by decide) (Nat.le_of_ble_eq_true rfl) rfl kk) (fun r872 I872 J872 R872 c872 => ?_)
  obtain ⟨r1, IA, JA, RA, ⟨rfl, hX', rfl⟩, rfl, hgX', hout⟩ := c872; have hgM' := agr_out hgM hout (Or.inr (by decide)); show LW _ _ _ _ _ _ _ _ _ _ [.int _] _ _ _ _
  refine lw_pw (fun _ kk => pw_aload_n 876 rfl dL_law_875 rfl kk) ?_
  refine lw_pw (fun _ kk => pw_aload_n 877 rfl dL_law_876 rfl kk) ?_
  refine lw_pw (fun _ kk => pw_iload 879 rfl dL_law_877 rfl kk) ?_
  refine lw_pw (fun _ kk => pw_iconst (v := nI 1) 880 rfl dL_law_879 rfl kk) ?_
  first | refine lw_pw (fun _ kk => pw_iaddN 881 rfl dL_law_880 kk) ?_ | refine lw_pw (fun _ kk => pw_iadd 881 rfl dL_law_880 kk) ?_
  refine lw_sldN 882 rfl dL_law_881 (by omega) (by omega) ?_
  refine lw_call (fun _ kk => pw_callV (as := [_]) 885 rfl dL_law_882 mL_123 vX12_changes (PC.lift (S' := SL) (o := 70) sl_m (by decide) (mo_changes (d := 0) hM hD (by omega) hW _) hgM') (by first | rfl | assumption | exact rowS hh | exact mtS hm | exact ruS hr | exact mtA1 hm | exact mtA2 hm | exact mtA3 hm | exact mtA4 hm | exact mtA5 hm | exact mtA6 hm | exact mtA7 hm | exact ruA1 hr | exact ruA2 hr | exact ruA3 hr) rfl (by decide) ⟨rfl, by decide, by decide, show (parseMethodDescriptor yX12_changes.desc).map (fun d => d.parameters.length) = some 1 by decide +kernel⟩ (by omega) (by decide) (Nat.le_of_ble_eq_true rfl) rfl kk) (fun r882 I882 J882 R882 c882 => ?_)
  obtain ⟨r2, IB, JB, RB, ⟨rfl, hM', hD', rd', rfl⟩, rfl, hgM2, hout2⟩ := c882; have hgX2 := agr_out hgX' hout2 (Or.inl (by decide)); show LW _ _ _ _ _ _ _ _ _ _ [.int _, .int _] _ _ _ _
  refine lw_pw (fun _ kk => pw_icmp_eq (tgt := 1621) 888 rfl dL_law_885 rfl (fun h885 => kk) (fun h885 => absurd rfl h885)) ?_
  rotate_left
  exact k _ _ _ _ _ _ _ (WA_q hW) ⟨⟨_, _, hX', hgX2⟩, _, _, rd', hM', hD', hgM2⟩
set_option maxRecDepth 100000 in
set_option maxHeartbeats 2000000 in
theorem lc_ways {B L : Nat} {xs : Nat → Int32} (hL : L ≤ 2560) {s : aSt} {g i : Nat} {I : pI} {J : pJ} {R : pR} {x5 x6 x7 : Option Value} {X : pXt} (hI : LI s g I J R) (hW : WA s) (hg : g ≤ 400000000) (hi : i + 5 ≤ L) (k : ∀ (s' : aSt) (I' : pI) (J' : pJ) (R' : pR) (x5 x6 x7 : Option Value), WA s' → LI s' (g + 10000) I' J' R' → LW B L xs SL yL_law.cls cL_law 8 260 1621 [some (.ref 200), some (.ref 0), some (.ref 70), some (.ref 96), some (.int (nI i)), x5, x6, x7] [] I' J' R' X) : LW B L xs SL yL_law.cls cL_law 8 260 890 [some (.ref 200), some (.ref 0), some (.ref 70), some (.ref 96), some (.int (nI i)), x5, x6, x7] [] I J R X := by
  obtain ⟨⟨I1, J1, hX, hgX⟩, I2, J2, rd, hM, hD, hgM⟩ := hI
  refine lw_pw (fun _ kk => pw_aload_n 891 rfl dL_law_890 rfl kk) ?_
  refine lw_pw (fun _ kk => pw_aload_n 892 rfl dL_law_891 rfl kk) ?_
  refine lw_pw (fun _ kk => pw_iload 894 rfl dL_law_892 rfl kk) ?_
  refine lw_pw (fun _ kk => pw_iconst (v := nI 1) 895 rfl dL_law_894 rfl kk) ?_
  first | refine lw_pw (fun _ kk => pw_iaddN 896 rfl dL_law_895 kk) ?_ | refine lw_pw (fun _ kk => pw_iadd 896 rfl dL_law_895 kk) ?_
  refine lw_sldN 897 rfl dL_law_896 (by omega) (by omega) ?_
  refine lw_call (fun _ kk => pw_callV (as := [_]) 900 rfl dL_law_897 mL_124 vX11_ways (PC.lift (S' := SL) (o := 0) sl_x (by decide) (xo_ways (d := 20) hX hW _) hgX) (by first | rfl | assumption | exact rowS hh | exact mtS hm | exact ruS hr | exact mtA1 hm | exact mtA2 hm | exact mtA3 hm | exact mtA4 hm | exact mtA5 hm | exact mtA6 hm | exact mtA7 hm | exact ruA1 hr | exact ruA2 hr | exact ruA3 hr) rfl (by decide) ⟨rfl, by decide, by decide, show (parseMethodDescriptor yX11_ways.desc).map (fun d => d.parameters.length) = some 1 by decide +kernel⟩ (by omega) (by decide) (Nat.le_of_ble_eq_true rfl) rfl kk) (fun r897 I897 J897 R897 c897 => ?_)
  obtain ⟨r1, IA, JA, RA, ⟨rfl, hX', rfl⟩, rfl, hgX', hout⟩ := c897; have hgM' := agr_out hgM hout (Or.inr (by decide)); show LW _ _ _ _ _ _ _ _ _ _ [.int _] _ _ _ _
  refine lw_pw (fun _ kk => pw_aload_n 901 rfl dL_law_900 rfl kk) ?_
  refine lw_pw (fun _ kk => pw_aload_n 902 rfl dL_law_901 rfl kk) ?_
  refine lw_pw (fun _ kk => pw_iload 904 rfl dL_law_902 rfl kk) ?_
  refine lw_pw (fun _ kk => pw_iconst (v := nI 1) 905 rfl dL_law_904 rfl kk) ?_
  first | refine lw_pw (fun _ kk => pw_iaddN 906 rfl dL_law_905 kk) ?_ | refine lw_pw (fun _ kk => pw_iadd 906 rfl dL_law_905 kk) ?_
  refine lw_sldN 907 rfl dL_law_906 (by omega) (by omega) ?_
  refine lw_call (fun _ kk => pw_callV (as := [_]) 910 rfl dL_law_907 mL_127 vX12_ways (PC.lift (S' := SL) (o := 70) sl_m (by decide) (mo_ways (d := 0) hM hD (by omega) hW _) hgM') (by first | rfl | assumption | exact rowS hh | exact mtS hm | exact ruS hr | exact mtA1 hm | exact mtA2 hm | exact mtA3 hm | exact mtA4 hm | exact mtA5 hm | exact mtA6 hm | exact mtA7 hm | exact ruA1 hr | exact ruA2 hr | exact ruA3 hr) rfl (by decide) ⟨rfl, by decide, by decide, show (parseMethodDescriptor yX12_ways.desc).map (fun d => d.parameters.length) = some 1 by decide +kernel⟩ (by omega) (by decide) (Nat.le_of_ble_eq_true rfl) rfl kk) (fun r907 I907 J907 R907 c907 => ?_)
  obtain ⟨r2, IB, JB, RB, ⟨rfl, hM', hD', rd', rfl⟩, rfl, hgM2, hout2⟩ := c907; have hgX2 := agr_out hgX' hout2 (Or.inl (by decide)); show LW _ _ _ _ _ _ _ _ _ _ [.int _, .int _] _ _ _ _
  refine lw_pw (fun _ kk => pw_icmp_eq (tgt := 1621) 913 rfl dL_law_910 rfl (fun h910 => kk) (fun h910 => absurd rfl h910)) ?_
  rotate_left
  exact k _ _ _ _ _ _ _ (WA_q hW) ⟨⟨_, _, hX', hgX2⟩, _, _, rd', hM', hD', hgM2⟩
set_option maxRecDepth 100000 in
set_option maxHeartbeats 2000000 in
theorem lc_peaks {B L : Nat} {xs : Nat → Int32} (hL : L ≤ 2560) {s : aSt} {g i : Nat} {I : pI} {J : pJ} {R : pR} {x5 x6 x7 : Option Value} {X : pXt} (hI : LI s g I J R) (hW : WA s) (hg : g ≤ 400000000) (hi : i + 5 ≤ L) (k : ∀ (s' : aSt) (I' : pI) (J' : pJ) (R' : pR) (x5 x6 x7 : Option Value), WA s' → LI s' (g + 10000) I' J' R' → LW B L xs SL yL_law.cls cL_law 8 260 1621 [some (.ref 200), some (.ref 0), some (.ref 70), some (.ref 96), some (.int (nI i)), x5, x6, x7] [] I' J' R' X) : LW B L xs SL yL_law.cls cL_law 8 260 915 [some (.ref 200), some (.ref 0), some (.ref 70), some (.ref 96), some (.int (nI i)), x5, x6, x7] [] I J R X := by
  obtain ⟨⟨I1, J1, hX, hgX⟩, I2, J2, rd, hM, hD, hgM⟩ := hI
  refine lw_pw (fun _ kk => pw_aload_n 916 rfl dL_law_915 rfl kk) ?_
  refine lw_pw (fun _ kk => pw_aload_n 917 rfl dL_law_916 rfl kk) ?_
  refine lw_pw (fun _ kk => pw_iload 919 rfl dL_law_917 rfl kk) ?_
  refine lw_pw (fun _ kk => pw_iconst (v := nI 1) 920 rfl dL_law_919 rfl kk) ?_
  first | refine lw_pw (fun _ kk => pw_iaddN 921 rfl dL_law_920 kk) ?_ | refine lw_pw (fun _ kk => pw_iadd 921 rfl dL_law_920 kk) ?_
  refine lw_sldN 922 rfl dL_law_921 (by omega) (by omega) ?_
  refine lw_pw (fun _ kk => pw_aload_n 923 rfl dL_law_922 rfl kk) ?_
  refine lw_pw (fun _ kk => pw_iload 925 rfl dL_law_923 rfl kk) ?_
  refine lw_pw (fun _ kk => pw_iconst (v := nI 2) 926 rfl dL_law_925 rfl kk) ?_
  first | refine lw_pw (fun _ kk => pw_iaddN 927 rfl dL_law_926 kk) ?_ | refine lw_pw (fun _ kk => pw_iadd 927 rfl dL_law_926 kk) ?_
  refine lw_sldN 928 rfl dL_law_927 (by omega) (by omega) ?_
  refine lw_call (fun _ kk => pw_callV (as := [_, _]) 931 rfl dL_law_928 mL_128 vX11_peaks (PC.lift (S' := SL) (o := 0) sl_x (by decide) (xo_peaks (d := 20) hX hW _ _) hgX) (by first | rfl | assumption | exact rowS hh | exact mtS hm | exact ruS hr | exact mtA1 hm | exact mtA2 hm | exact mtA3 hm | exact mtA4 hm | exact mtA5 hm | exact mtA6 hm | exact mtA7 hm | exact ruA1 hr | exact ruA2 hr | exact ruA3 hr) rfl (by decide) ⟨rfl, by decide, by decide, show (parseMethodDescriptor yX11_peaks.desc).map (fun d => d.parameters.length) = some 2 by decide +kernel⟩ (by omega) (by decide) (Nat.le_of_ble_eq_true rfl) rfl kk) (fun r928 I928 J928 R928 c928 => ?_)
  obtain ⟨r1, IA, JA, RA, ⟨rfl, hX', rfl⟩, rfl, hgX', hout⟩ := c928; have hgM' := agr_out hgM hout (Or.inr (by decide)); show LW _ _ _ _ _ _ _ _ _ _ [.int _] _ _ _ _
  refine lw_pw (fun _ kk => pw_aload_n 932 rfl dL_law_931 rfl kk) ?_
  refine lw_pw (fun _ kk => pw_aload_n 933 rfl dL_law_932 rfl kk) ?_
  refine lw_pw (fun _ kk => pw_iload 935 rfl dL_law_933 rfl kk) ?_
  refine lw_pw (fun _ kk => pw_iconst (v := nI 1) 936 rfl dL_law_935 rfl kk) ?_
  first | refine lw_pw (fun _ kk => pw_iaddN 937 rfl dL_law_936 kk) ?_ | refine lw_pw (fun _ kk => pw_iadd 937 rfl dL_law_936 kk) ?_
  refine lw_sldN 938 rfl dL_law_937 (by omega) (by omega) ?_
  refine lw_pw (fun _ kk => pw_aload_n 939 rfl dL_law_938 rfl kk) ?_
  refine lw_pw (fun _ kk => pw_iload 941 rfl dL_law_939 rfl kk) ?_
  refine lw_pw (fun _ kk => pw_iconst (v := nI 2) 942 rfl dL_law_941 rfl kk) ?_
  first | refine lw_pw (fun _ kk => pw_iaddN 943 rfl dL_law_942 kk) ?_ | refine lw_pw (fun _ kk => pw_iadd 943 rfl dL_law_942 kk) ?_
  refine lw_sldN 944 rfl dL_law_943 (by omega) (by omega) ?_
  refine lw_call (fun _ kk => pw_callV (as := [_, _]) 947 rfl dL_law_944 mL_131 vX12_peaks (PC.lift (S' := SL) (o := 70) sl_m (by decide) (mo_peaks (d := 0) hM hD (by omega) hW _ _) hgM') (by first | rfl | assumption | exact rowS hh | exact mtS hm | exact ruS hr | exact mtA1 hm | exact mtA2 hm | exact mtA3 hm | exact mtA4 hm | exact mtA5 hm | exact mtA6 hm | exact mtA7 hm | exact ruA1 hr | exact ruA2 hr | exact ruA3 hr) rfl (by decide) ⟨rfl, by decide, by decide, show (parseMethodDescriptor yX12_peaks.desc).map (fun d => d.parameters.length) = some 2 by decide +kernel⟩ (by omega) (by decide) (Nat.le_of_ble_eq_true rfl) rfl kk) (fun r944 I944 J944 R944 c944 => ?_)
  obtain ⟨r2, IB, JB, RB, ⟨rfl, hM', hD', rd', rfl⟩, rfl, hgM2, hout2⟩ := c944; have hgX2 := agr_out hgX' hout2 (Or.inl (by decide)); show LW _ _ _ _ _ _ _ _ _ _ [.int _, .int _] _ _ _ _
  refine lw_pw (fun _ kk => pw_icmp_eq (tgt := 1621) 950 rfl dL_law_947 rfl (fun h947 => kk) (fun h947 => absurd rfl h947)) ?_
  rotate_left
  exact k _ _ _ _ _ _ _ (WA_q hW) ⟨⟨_, _, hX', hgX2⟩, _, _, rd', hM', hD', hgM2⟩
set_option maxRecDepth 100000 in
set_option maxHeartbeats 2000000 in
theorem lc_bides {B L : Nat} {xs : Nat → Int32} (hL : L ≤ 2560) {s : aSt} {g i : Nat} {I : pI} {J : pJ} {R : pR} {x5 x6 x7 : Option Value} {X : pXt} (hI : LI s g I J R) (hW : WA s) (hg : g ≤ 400000000) (hi : i + 5 ≤ L) (k : ∀ (s' : aSt) (I' : pI) (J' : pJ) (R' : pR) (x5 x6 x7 : Option Value), WA s' → LI s' (g + 10000) I' J' R' → LW B L xs SL yL_law.cls cL_law 8 260 1621 [some (.ref 200), some (.ref 0), some (.ref 70), some (.ref 96), some (.int (nI i)), x5, x6, x7] [] I' J' R' X) : LW B L xs SL yL_law.cls cL_law 8 260 952 [some (.ref 200), some (.ref 0), some (.ref 70), some (.ref 96), some (.int (nI i)), x5, x6, x7] [] I J R X := by
  obtain ⟨⟨I1, J1, hX, hgX⟩, I2, J2, rd, hM, hD, hgM⟩ := hI
  refine lw_pw (fun _ kk => pw_aload_n 953 rfl dL_law_952 rfl kk) ?_
  refine lw_pw (fun _ kk => pw_aload_n 954 rfl dL_law_953 rfl kk) ?_
  refine lw_pw (fun _ kk => pw_iload 956 rfl dL_law_954 rfl kk) ?_
  refine lw_pw (fun _ kk => pw_iconst (v := nI 1) 957 rfl dL_law_956 rfl kk) ?_
  first | refine lw_pw (fun _ kk => pw_iaddN 958 rfl dL_law_957 kk) ?_ | refine lw_pw (fun _ kk => pw_iadd 958 rfl dL_law_957 kk) ?_
  refine lw_sldN 959 rfl dL_law_958 (by omega) (by omega) ?_
  refine lw_pw (fun _ kk => pw_aload_n 960 rfl dL_law_959 rfl kk) ?_
  refine lw_pw (fun _ kk => pw_iload 962 rfl dL_law_960 rfl kk) ?_
  refine lw_pw (fun _ kk => pw_iconst (v := nI 2) 963 rfl dL_law_962 rfl kk) ?_
  first | refine lw_pw (fun _ kk => pw_iaddN 964 rfl dL_law_963 kk) ?_ | refine lw_pw (fun _ kk => pw_iadd 964 rfl dL_law_963 kk) ?_
  refine lw_sldN 965 rfl dL_law_964 (by omega) (by omega) ?_
  refine lw_call (fun _ kk => pw_callV (as := [_, _]) 968 rfl dL_law_965 mL_132 vX11_bides (PC.lift (S' := SL) (o := 0) sl_x (by decide) (xo_bides (d := 20) hX hW _ _) hgX) (by first | rfl | assumption | exact rowS hh | exact mtS hm | exact ruS hr | exact mtA1 hm | exact mtA2 hm | exact mtA3 hm | exact mtA4 hm | exact mtA5 hm | exact mtA6 hm | exact mtA7 hm | exact ruA1 hr | exact ruA2 hr | exact ruA3 hr) rfl (by decide) ⟨rfl, by decide, by decide, show (parseMethodDescriptor yX11_bides.desc).map (fun d => d.parameters.length) = some 2 by decide +kernel⟩ (by omega) (by decide) (Nat.le_of_ble_eq_true rfl) rfl kk) (fun r965 I965 J965 R965 c965 => ?_)
  obtain ⟨r1, IA, JA, RA, ⟨rfl, hX', rfl⟩, rfl, hgX', hout⟩ := c965; have hgM' := agr_out hgM hout (Or.inr (by decide)); show LW _ _ _ _ _ _ _ _ _ _ [.int _] _ _ _ _
  refine lw_pw (fun _ kk => pw_aload_n 969 rfl dL_law_968 rfl kk) ?_
  refine lw_pw (fun _ kk => pw_aload_n 970 rfl dL_law_969 rfl kk) ?_
  refine lw_pw (fun _ kk => pw_iload 972 rfl dL_law_970 rfl kk) ?_
  refine lw_pw (fun _ kk => pw_iconst (v := nI 1) 973 rfl dL_law_972 rfl kk) ?_
  first | refine lw_pw (fun _ kk => pw_iaddN 974 rfl dL_law_973 kk) ?_ | refine lw_pw (fun _ kk => pw_iadd 974 rfl dL_law_973 kk) ?_
  refine lw_sldN 975 rfl dL_law_974 (by omega) (by omega) ?_
  refine lw_pw (fun _ kk => pw_aload_n 976 rfl dL_law_975 rfl kk) ?_
  refine lw_pw (fun _ kk => pw_iload 978 rfl dL_law_976 rfl kk) ?_
  refine lw_pw (fun _ kk => pw_iconst (v := nI 2) 979 rfl dL_law_978 rfl kk) ?_
  first | refine lw_pw (fun _ kk => pw_iaddN 980 rfl dL_law_979 kk) ?_ | refine lw_pw (fun _ kk => pw_iadd 980 rfl dL_law_979 kk) ?_
  refine lw_sldN 981 rfl dL_law_980 (by omega) (by omega) ?_
  refine lw_call (fun _ kk => pw_callV (as := [_, _]) 984 rfl dL_law_981 mL_135 vX12_bides (PC.lift (S' := SL) (o := 70) sl_m (by decide) (mo_bides (d := 0) hM hD (by omega) hW _ _) hgM') (by first | rfl | assumption | exact rowS hh | exact mtS hm | exact ruS hr | exact mtA1 hm | exact mtA2 hm | exact mtA3 hm | exact mtA4 hm | exact mtA5 hm | exact mtA6 hm | exact mtA7 hm | exact ruA1 hr | exact ruA2 hr | exact ruA3 hr) rfl (by decide) ⟨rfl, by decide, by decide, show (parseMethodDescriptor yX12_bides.desc).map (fun d => d.parameters.length) = some 2 by decide +kernel⟩ (by omega) (by decide) (Nat.le_of_ble_eq_true rfl) rfl kk) (fun r981 I981 J981 R981 c981 => ?_)
  obtain ⟨r2, IB, JB, RB, ⟨rfl, hM', hD', rd', rfl⟩, rfl, hgM2, hout2⟩ := c981; have hgX2 := agr_out hgX' hout2 (Or.inl (by decide)); show LW _ _ _ _ _ _ _ _ _ _ [.int _, .int _] _ _ _ _
  refine lw_pw (fun _ kk => pw_icmp_eq (tgt := 1621) 987 rfl dL_law_984 rfl (fun h984 => kk) (fun h984 => absurd rfl h984)) ?_
  rotate_left
  exact k _ _ _ _ _ _ _ (WA_q hW) ⟨⟨_, _, hX', hgX2⟩, _, _, rd', hM', hD', hgM2⟩
set_option maxRecDepth 100000 in
set_option maxHeartbeats 2000000 in
theorem lc_rivals {B L : Nat} {xs : Nat → Int32} (hL : L ≤ 2560) {s : aSt} {g i : Nat} {I : pI} {J : pJ} {R : pR} {x5 x6 x7 : Option Value} {X : pXt} (hI : LI s g I J R) (hW : WA s) (hg : g ≤ 400000000) (hi : i + 5 ≤ L) (k : ∀ (s' : aSt) (I' : pI) (J' : pJ) (R' : pR) (x5 x6 x7 : Option Value), WA s' → LI s' (g + 10000) I' J' R' → LW B L xs SL yL_law.cls cL_law 8 260 1621 [some (.ref 200), some (.ref 0), some (.ref 70), some (.ref 96), some (.int (nI i)), x5, x6, x7] [] I' J' R' X) : LW B L xs SL yL_law.cls cL_law 8 260 989 [some (.ref 200), some (.ref 0), some (.ref 70), some (.ref 96), some (.int (nI i)), x5, x6, x7] [] I J R X := by
  obtain ⟨⟨I1, J1, hX, hgX⟩, I2, J2, rd, hM, hD, hgM⟩ := hI
  refine lw_pw (fun _ kk => pw_aload_n 990 rfl dL_law_989 rfl kk) ?_
  refine lw_pw (fun _ kk => pw_aload_n 991 rfl dL_law_990 rfl kk) ?_
  refine lw_pw (fun _ kk => pw_iload 993 rfl dL_law_991 rfl kk) ?_
  refine lw_pw (fun _ kk => pw_iconst (v := nI 1) 994 rfl dL_law_993 rfl kk) ?_
  first | refine lw_pw (fun _ kk => pw_iaddN 995 rfl dL_law_994 kk) ?_ | refine lw_pw (fun _ kk => pw_iadd 995 rfl dL_law_994 kk) ?_
  refine lw_sldN 996 rfl dL_law_995 (by omega) (by omega) ?_
  refine lw_pw (fun _ kk => pw_aload_n 997 rfl dL_law_996 rfl kk) ?_
  refine lw_pw (fun _ kk => pw_iload 999 rfl dL_law_997 rfl kk) ?_
  refine lw_pw (fun _ kk => pw_iconst (v := nI 2) 1000 rfl dL_law_999 rfl kk) ?_
  first | refine lw_pw (fun _ kk => pw_iaddN 1001 rfl dL_law_1000 kk) ?_ | refine lw_pw (fun _ kk => pw_iadd 1001 rfl dL_law_1000 kk) ?_
  refine lw_sldN 1002 rfl dL_law_1001 (by omega) (by omega) ?_
  refine lw_call (fun _ kk => pw_callV (as := [_, _]) 1005 rfl dL_law_1002 mL_136 vX11_rivals (PC.lift (S' := SL) (o := 0) sl_x (by decide) (xo_rivals (d := 20) hX hW _ _) hgX) (by first | rfl | assumption | exact rowS hh | exact mtS hm | exact ruS hr | exact mtA1 hm | exact mtA2 hm | exact mtA3 hm | exact mtA4 hm | exact mtA5 hm | exact mtA6 hm | exact mtA7 hm | exact ruA1 hr | exact ruA2 hr | exact ruA3 hr) rfl (by decide) ⟨rfl, by decide, by decide, show (parseMethodDescriptor yX11_rivals.desc).map (fun d => d.parameters.length) = some 2 by decide +kernel⟩ (by omega) (by decide) (Nat.le_of_ble_eq_true rfl) rfl kk) (fun r1002 I1002 J1002 R1002 c1002 => ?_)
  obtain ⟨r1, IA, JA, RA, ⟨rfl, hX', rfl⟩, rfl, hgX', hout⟩ := c1002; have hgM' := agr_out hgM hout (Or.inr (by decide)); show LW _ _ _ _ _ _ _ _ _ _ [.int _] _ _ _ _
  refine lw_pw (fun _ kk => pw_aload_n 1006 rfl dL_law_1005 rfl kk) ?_
  refine lw_pw (fun _ kk => pw_aload_n 1007 rfl dL_law_1006 rfl kk) ?_
  refine lw_pw (fun _ kk => pw_iload 1009 rfl dL_law_1007 rfl kk) ?_
  refine lw_pw (fun _ kk => pw_iconst (v := nI 1) 1010 rfl dL_law_1009 rfl kk) ?_
  first | refine lw_pw (fun _ kk => pw_iaddN 1011 rfl dL_law_1010 kk) ?_ | refine lw_pw (fun _ kk => pw_iadd 1011 rfl dL_law_1010 kk) ?_
  refine lw_sldN 1012 rfl dL_law_1011 (by omega) (by omega) ?_
  refine lw_pw (fun _ kk => pw_aload_n 1013 rfl dL_law_1012 rfl kk) ?_
  refine lw_pw (fun _ kk => pw_iload 1015 rfl dL_law_1013 rfl kk) ?_
  refine lw_pw (fun _ kk => pw_iconst (v := nI 2) 1016 rfl dL_law_1015 rfl kk) ?_
  first | refine lw_pw (fun _ kk => pw_iaddN 1017 rfl dL_law_1016 kk) ?_ | refine lw_pw (fun _ kk => pw_iadd 1017 rfl dL_law_1016 kk) ?_
  refine lw_sldN 1018 rfl dL_law_1017 (by omega) (by omega) ?_
  refine lw_call (fun _ kk => pw_callV (as := [_, _]) 1021 rfl dL_law_1018 mL_139 vX12_rivals (PC.lift (S' := SL) (o := 70) sl_m (by decide) (mo_rivals (d := 0) hM hD (by omega) hW _ _) hgM') (by first | rfl | assumption | exact rowS hh | exact mtS hm | exact ruS hr | exact mtA1 hm | exact mtA2 hm | exact mtA3 hm | exact mtA4 hm | exact mtA5 hm | exact mtA6 hm | exact mtA7 hm | exact ruA1 hr | exact ruA2 hr | exact ruA3 hr) rfl (by decide) ⟨rfl, by decide, by decide, show (parseMethodDescriptor yX12_rivals.desc).map (fun d => d.parameters.length) = some 2 by decide +kernel⟩ (by omega) (by decide) (Nat.le_of_ble_eq_true rfl) rfl kk) (fun r1018 I1018 J1018 R1018 c1018 => ?_)
  obtain ⟨r2, IB, JB, RB, ⟨rfl, hM', hD', rd', rfl⟩, rfl, hgM2, hout2⟩ := c1018; have hgX2 := agr_out hgX' hout2 (Or.inl (by decide)); show LW _ _ _ _ _ _ _ _ _ _ [.int _, .int _] _ _ _ _
  refine lw_pw (fun _ kk => pw_icmp_eq (tgt := 1621) 1024 rfl dL_law_1021 rfl (fun h1021 => kk) (fun h1021 => absurd rfl h1021)) ?_
  rotate_left
  exact k _ _ _ _ _ _ _ (WA_q hW) ⟨⟨_, _, hX', hgX2⟩, _, _, rd', hM', hD', hgM2⟩
set_option maxRecDepth 100000 in
set_option maxHeartbeats 2000000 in
theorem lc_goes {B L : Nat} {xs : Nat → Int32} (hL : L ≤ 2560) {s : aSt} {g i : Nat} {I : pI} {J : pJ} {R : pR} {x5 x6 x7 : Option Value} {X : pXt} (hI : LI s g I J R) (hW : WA s) (hg : g ≤ 400000000) (hi : i + 5 ≤ L) (k : ∀ (s' : aSt) (I' : pI) (J' : pJ) (R' : pR) (x5 x6 x7 : Option Value), WA s' → LI s' (g + 10000) I' J' R' → LW B L xs SL yL_law.cls cL_law 8 260 1621 [some (.ref 200), some (.ref 0), some (.ref 70), some (.ref 96), some (.int (nI i)), x5, x6, x7] [] I' J' R' X) : LW B L xs SL yL_law.cls cL_law 8 260 1026 [some (.ref 200), some (.ref 0), some (.ref 70), some (.ref 96), some (.int (nI i)), x5, x6, x7] [] I J R X := by
  obtain ⟨⟨I1, J1, hX, hgX⟩, I2, J2, rd, hM, hD, hgM⟩ := hI
  refine lw_pw (fun _ kk => pw_aload_n 1027 rfl dL_law_1026 rfl kk) ?_
  refine lw_pw (fun _ kk => pw_aload_n 1028 rfl dL_law_1027 rfl kk) ?_
  refine lw_pw (fun _ kk => pw_iload 1030 rfl dL_law_1028 rfl kk) ?_
  refine lw_pw (fun _ kk => pw_iconst (v := nI 1) 1031 rfl dL_law_1030 rfl kk) ?_
  first | refine lw_pw (fun _ kk => pw_iaddN 1032 rfl dL_law_1031 kk) ?_ | refine lw_pw (fun _ kk => pw_iadd 1032 rfl dL_law_1031 kk) ?_
  refine lw_sldN 1033 rfl dL_law_1032 (by omega) (by omega) ?_
  refine lw_call (fun _ kk => pw_callV (as := [_]) 1036 rfl dL_law_1033 mL_140 vX11_goes (PC.lift (S' := SL) (o := 0) sl_x (by decide) (xo_goes (d := 20) hX hW _) hgX) (by first | rfl | assumption | exact rowS hh | exact mtS hm | exact ruS hr | exact mtA1 hm | exact mtA2 hm | exact mtA3 hm | exact mtA4 hm | exact mtA5 hm | exact mtA6 hm | exact mtA7 hm | exact ruA1 hr | exact ruA2 hr | exact ruA3 hr) rfl (by decide) ⟨rfl, by decide, by decide, show (parseMethodDescriptor yX11_goes.desc).map (fun d => d.parameters.length) = some 1 by decide +kernel⟩ (by omega) (by decide) (Nat.le_of_ble_eq_true rfl) rfl kk) (fun r1033 I1033 J1033 R1033 c1033 => ?_)
  obtain ⟨r1, IA, JA, RA, ⟨rfl, hX', rfl⟩, rfl, hgX', hout⟩ := c1033; have hgM' := agr_out hgM hout (Or.inr (by decide)); show LW _ _ _ _ _ _ _ _ _ _ [.int _] _ _ _ _
  refine lw_pw (fun _ kk => pw_aload_n 1037 rfl dL_law_1036 rfl kk) ?_
  refine lw_pw (fun _ kk => pw_aload_n 1038 rfl dL_law_1037 rfl kk) ?_
  refine lw_pw (fun _ kk => pw_iload 1040 rfl dL_law_1038 rfl kk) ?_
  refine lw_pw (fun _ kk => pw_iconst (v := nI 1) 1041 rfl dL_law_1040 rfl kk) ?_
  first | refine lw_pw (fun _ kk => pw_iaddN 1042 rfl dL_law_1041 kk) ?_ | refine lw_pw (fun _ kk => pw_iadd 1042 rfl dL_law_1041 kk) ?_
  refine lw_sldN 1043 rfl dL_law_1042 (by omega) (by omega) ?_
  refine lw_call (fun _ kk => pw_callV (as := [_]) 1046 rfl dL_law_1043 mL_143 vX12_goes (PC.lift (S' := SL) (o := 70) sl_m (by decide) (mo_goes (d := 0) hM hD (by omega) hW _) hgM') (by first | rfl | assumption | exact rowS hh | exact mtS hm | exact ruS hr | exact mtA1 hm | exact mtA2 hm | exact mtA3 hm | exact mtA4 hm | exact mtA5 hm | exact mtA6 hm | exact mtA7 hm | exact ruA1 hr | exact ruA2 hr | exact ruA3 hr) rfl (by decide) ⟨rfl, by decide, by decide, show (parseMethodDescriptor yX12_goes.desc).map (fun d => d.parameters.length) = some 1 by decide +kernel⟩ (by omega) (by decide) (Nat.le_of_ble_eq_true rfl) rfl kk) (fun r1043 I1043 J1043 R1043 c1043 => ?_)
  obtain ⟨r2, IB, JB, RB, ⟨rfl, hM', hD', rd', rfl⟩, rfl, hgM2, hout2⟩ := c1043; have hgX2 := agr_out hgX' hout2 (Or.inl (by decide)); show LW _ _ _ _ _ _ _ _ _ _ [.int _, .int _] _ _ _ _
  refine lw_pw (fun _ kk => pw_icmp_eq (tgt := 1621) 1049 rfl dL_law_1046 rfl (fun h1046 => kk) (fun h1046 => absurd rfl h1046)) ?_
  rotate_left
  exact k _ _ _ _ _ _ _ (WA_q hW) ⟨⟨_, _, hX', hgX2⟩, _, _, rd', hM', hD', hgM2⟩
set_option maxRecDepth 100000 in
set_option maxHeartbeats 2000000 in
theorem lc_ousts {B L : Nat} {xs : Nat → Int32} (hL : L ≤ 2560) {s : aSt} {g i : Nat} {I : pI} {J : pJ} {R : pR} {x5 x6 x7 : Option Value} {X : pXt} (hI : LI s g I J R) (hW : WA s) (hg : g ≤ 400000000) (hi : i + 5 ≤ L) (k : ∀ (s' : aSt) (I' : pI) (J' : pJ) (R' : pR) (x5 x6 x7 : Option Value), WA s' → LI s' (g + 10000) I' J' R' → LW B L xs SL yL_law.cls cL_law 8 260 1621 [some (.ref 200), some (.ref 0), some (.ref 70), some (.ref 96), some (.int (nI i)), x5, x6, x7] [] I' J' R' X) : LW B L xs SL yL_law.cls cL_law 8 260 1051 [some (.ref 200), some (.ref 0), some (.ref 70), some (.ref 96), some (.int (nI i)), x5, x6, x7] [] I J R X := by
  obtain ⟨⟨I1, J1, hX, hgX⟩, I2, J2, rd, hM, hD, hgM⟩ := hI
  refine lw_pw (fun _ kk => pw_aload_n 1052 rfl dL_law_1051 rfl kk) ?_
  refine lw_pw (fun _ kk => pw_aload_n 1053 rfl dL_law_1052 rfl kk) ?_
  refine lw_pw (fun _ kk => pw_iload 1055 rfl dL_law_1053 rfl kk) ?_
  refine lw_pw (fun _ kk => pw_iconst (v := nI 1) 1056 rfl dL_law_1055 rfl kk) ?_
  first | refine lw_pw (fun _ kk => pw_iaddN 1057 rfl dL_law_1056 kk) ?_ | refine lw_pw (fun _ kk => pw_iadd 1057 rfl dL_law_1056 kk) ?_
  refine lw_sldN 1058 rfl dL_law_1057 (by omega) (by omega) ?_
  refine lw_pw (fun _ kk => pw_aload_n 1059 rfl dL_law_1058 rfl kk) ?_
  refine lw_pw (fun _ kk => pw_iload 1061 rfl dL_law_1059 rfl kk) ?_
  refine lw_pw (fun _ kk => pw_iconst (v := nI 2) 1062 rfl dL_law_1061 rfl kk) ?_
  first | refine lw_pw (fun _ kk => pw_iaddN 1063 rfl dL_law_1062 kk) ?_ | refine lw_pw (fun _ kk => pw_iadd 1063 rfl dL_law_1062 kk) ?_
  refine lw_sldN 1064 rfl dL_law_1063 (by omega) (by omega) ?_
  refine lw_call (fun _ kk => pw_callV (as := [_, _]) 1067 rfl dL_law_1064 mL_144 vX11_ousts (PC.lift (S' := SL) (o := 0) sl_x (by decide) (xo_ousts (d := 20) hX hW _ _) hgX) (by first | rfl | assumption | exact rowS hh | exact mtS hm | exact ruS hr | exact mtA1 hm | exact mtA2 hm | exact mtA3 hm | exact mtA4 hm | exact mtA5 hm | exact mtA6 hm | exact mtA7 hm | exact ruA1 hr | exact ruA2 hr | exact ruA3 hr) rfl (by decide) ⟨rfl, by decide, by decide, show (parseMethodDescriptor yX11_ousts.desc).map (fun d => d.parameters.length) = some 2 by decide +kernel⟩ (by omega) (by decide) (Nat.le_of_ble_eq_true rfl) rfl kk) (fun r1064 I1064 J1064 R1064 c1064 => ?_)
  obtain ⟨r1, IA, JA, RA, ⟨rfl, hX', rfl⟩, rfl, hgX', hout⟩ := c1064; have hgM' := agr_out hgM hout (Or.inr (by decide)); show LW _ _ _ _ _ _ _ _ _ _ [.int _] _ _ _ _
  refine lw_pw (fun _ kk => pw_aload_n 1068 rfl dL_law_1067 rfl kk) ?_
  refine lw_pw (fun _ kk => pw_aload_n 1069 rfl dL_law_1068 rfl kk) ?_
  refine lw_pw (fun _ kk => pw_iload 1071 rfl dL_law_1069 rfl kk) ?_
  refine lw_pw (fun _ kk => pw_iconst (v := nI 1) 1072 rfl dL_law_1071 rfl kk) ?_
  first | refine lw_pw (fun _ kk => pw_iaddN 1073 rfl dL_law_1072 kk) ?_ | refine lw_pw (fun _ kk => pw_iadd 1073 rfl dL_law_1072 kk) ?_
  refine lw_sldN 1074 rfl dL_law_1073 (by omega) (by omega) ?_
  refine lw_pw (fun _ kk => pw_aload_n 1075 rfl dL_law_1074 rfl kk) ?_
  refine lw_pw (fun _ kk => pw_iload 1077 rfl dL_law_1075 rfl kk) ?_
  refine lw_pw (fun _ kk => pw_iconst (v := nI 2) 1078 rfl dL_law_1077 rfl kk) ?_
  first | refine lw_pw (fun _ kk => pw_iaddN 1079 rfl dL_law_1078 kk) ?_ | refine lw_pw (fun _ kk => pw_iadd 1079 rfl dL_law_1078 kk) ?_
  refine lw_sldN 1080 rfl dL_law_1079 (by omega) (by omega) ?_
  refine lw_call (fun _ kk => pw_callV (as := [_, _]) 1083 rfl dL_law_1080 mL_147 vX12_ousts (PC.lift (S' := SL) (o := 70) sl_m (by decide) (mo_ousts (d := 0) hM hD (by omega) hW _ _) hgM') (by first | rfl | assumption | exact rowS hh | exact mtS hm | exact ruS hr | exact mtA1 hm | exact mtA2 hm | exact mtA3 hm | exact mtA4 hm | exact mtA5 hm | exact mtA6 hm | exact mtA7 hm | exact ruA1 hr | exact ruA2 hr | exact ruA3 hr) rfl (by decide) ⟨rfl, by decide, by decide, show (parseMethodDescriptor yX12_ousts.desc).map (fun d => d.parameters.length) = some 2 by decide +kernel⟩ (by omega) (by decide) (Nat.le_of_ble_eq_true rfl) rfl kk) (fun r1080 I1080 J1080 R1080 c1080 => ?_)
  obtain ⟨r2, IB, JB, RB, ⟨rfl, hM', hD', rd', rfl⟩, rfl, hgM2, hout2⟩ := c1080; have hgX2 := agr_out hgX' hout2 (Or.inl (by decide)); show LW _ _ _ _ _ _ _ _ _ _ [.int _, .int _] _ _ _ _
  refine lw_pw (fun _ kk => pw_icmp_eq (tgt := 1621) 1086 rfl dL_law_1083 rfl (fun h1083 => kk) (fun h1083 => absurd rfl h1083)) ?_
  rotate_left
  exact k _ _ _ _ _ _ _ (WA_q hW) ⟨⟨_, _, hX', hgX2⟩, _, _, rd', hM', hD', hgM2⟩
set_option maxRecDepth 100000 in
set_option maxHeartbeats 2000000 in
theorem lc_lawyers {B L : Nat} {xs : Nat → Int32} (hL : L ≤ 2560) {s : aSt} {g i : Nat} {I : pI} {J : pJ} {R : pR} {x5 x6 x7 : Option Value} {X : pXt} (hI : LI s g I J R) (hW : WA s) (hg : g ≤ 400000000) (hi : i + 5 ≤ L) (k : ∀ (s' : aSt) (I' : pI) (J' : pJ) (R' : pR) (x5 x6 x7 : Option Value), WA s' → LI s' (g + 10000) I' J' R' → LW B L xs SL yL_law.cls cL_law 8 260 1621 [some (.ref 200), some (.ref 0), some (.ref 70), some (.ref 96), some (.int (nI i)), x5, x6, x7] [] I' J' R' X) : LW B L xs SL yL_law.cls cL_law 8 260 1088 [some (.ref 200), some (.ref 0), some (.ref 70), some (.ref 96), some (.int (nI i)), x5, x6, x7] [] I J R X := by
  obtain ⟨⟨I1, J1, hX, hgX⟩, I2, J2, rd, hM, hD, hgM⟩ := hI
  refine lw_pw (fun _ kk => pw_aload_n 1089 rfl dL_law_1088 rfl kk) ?_
  refine lw_pw (fun _ kk => pw_aload_n 1090 rfl dL_law_1089 rfl kk) ?_
  refine lw_pw (fun _ kk => pw_iload 1092 rfl dL_law_1090 rfl kk) ?_
  refine lw_pw (fun _ kk => pw_iconst (v := nI 1) 1093 rfl dL_law_1092 rfl kk) ?_
  first | refine lw_pw (fun _ kk => pw_iaddN 1094 rfl dL_law_1093 kk) ?_ | refine lw_pw (fun _ kk => pw_iadd 1094 rfl dL_law_1093 kk) ?_
  refine lw_sldN 1095 rfl dL_law_1094 (by omega) (by omega) ?_
  refine lw_call (fun _ kk => pw_callV (as := [_]) 1098 rfl dL_law_1095 mL_148 vX11_lawyers (PC.lift (S' := SL) (o := 0) sl_x (by decide) (xo_lawyers (d := 20) hX hW _) hgX) (by first | rfl | assumption | exact rowS hh | exact mtS hm | exact ruS hr | exact mtA1 hm | exact mtA2 hm | exact mtA3 hm | exact mtA4 hm | exact mtA5 hm | exact mtA6 hm | exact mtA7 hm | exact ruA1 hr | exact ruA2 hr | exact ruA3 hr) rfl (by decide) ⟨rfl, by decide, by decide, show (parseMethodDescriptor yX11_lawyers.desc).map (fun d => d.parameters.length) = some 1 by decide +kernel⟩ (by omega) (by decide) (Nat.le_of_ble_eq_true rfl) rfl kk) (fun r1095 I1095 J1095 R1095 c1095 => ?_)
  obtain ⟨r1, IA, JA, RA, ⟨rfl, hX', rfl⟩, rfl, hgX', hout⟩ := c1095; have hgM' := agr_out hgM hout (Or.inr (by decide)); show LW _ _ _ _ _ _ _ _ _ _ [.int _] _ _ _ _
  refine lw_pw (fun _ kk => pw_aload_n 1099 rfl dL_law_1098 rfl kk) ?_
  refine lw_pw (fun _ kk => pw_aload_n 1100 rfl dL_law_1099 rfl kk) ?_
  refine lw_pw (fun _ kk => pw_iload 1102 rfl dL_law_1100 rfl kk) ?_
  refine lw_pw (fun _ kk => pw_iconst (v := nI 1) 1103 rfl dL_law_1102 rfl kk) ?_
  first | refine lw_pw (fun _ kk => pw_iaddN 1104 rfl dL_law_1103 kk) ?_ | refine lw_pw (fun _ kk => pw_iadd 1104 rfl dL_law_1103 kk) ?_
  refine lw_sldN 1105 rfl dL_law_1104 (by omega) (by omega) ?_
  refine lw_call (fun _ kk => pw_callV (as := [_]) 1108 rfl dL_law_1105 mL_151 vX12_lawyers (PC.lift (S' := SL) (o := 70) sl_m (by decide) (mo_lawyers (d := 0) hM hD (by omega) hW _) hgM') (by first | rfl | assumption | exact rowS hh | exact mtS hm | exact ruS hr | exact mtA1 hm | exact mtA2 hm | exact mtA3 hm | exact mtA4 hm | exact mtA5 hm | exact mtA6 hm | exact mtA7 hm | exact ruA1 hr | exact ruA2 hr | exact ruA3 hr) rfl (by decide) ⟨rfl, by decide, by decide, show (parseMethodDescriptor yX12_lawyers.desc).map (fun d => d.parameters.length) = some 1 by decide +kernel⟩ (by omega) (by decide) (Nat.le_of_ble_eq_true rfl) rfl kk) (fun r1105 I1105 J1105 R1105 c1105 => ?_)
  obtain ⟨r2, IB, JB, RB, ⟨rfl, hM', hD', rd', rfl⟩, rfl, hgM2, hout2⟩ := c1105; have hgX2 := agr_out hgX' hout2 (Or.inl (by decide)); show LW _ _ _ _ _ _ _ _ _ _ [.int _, .int _] _ _ _ _
  refine lw_pw (fun _ kk => pw_icmp_eq (tgt := 1621) 1111 rfl dL_law_1108 rfl (fun h1108 => kk) (fun h1108 => absurd rfl h1108)) ?_
  rotate_left
  exact k _ _ _ _ _ _ _ (WA_q hW) ⟨⟨_, _, hX', hgX2⟩, _, _, rd', hM', hD', hgM2⟩
set_option maxRecDepth 100000 in
set_option maxHeartbeats 2000000 in
theorem lc_rope {B L : Nat} {xs : Nat → Int32} (hL : L ≤ 2560) {s : aSt} {g i : Nat} {I : pI} {J : pJ} {R : pR} {x5 x6 x7 : Option Value} {X : pXt} (hI : LI s g I J R) (hW : WA s) (hg : g ≤ 400000000) (hi : i + 5 ≤ L) (k : ∀ (s' : aSt) (I' : pI) (J' : pJ) (R' : pR) (x5 x6 x7 : Option Value), WA s' → LI s' (g + 10000) I' J' R' → LW B L xs SL yL_law.cls cL_law 8 260 1621 [some (.ref 200), some (.ref 0), some (.ref 70), some (.ref 96), some (.int (nI i)), x5, x6, x7] [] I' J' R' X) : LW B L xs SL yL_law.cls cL_law 8 260 1113 [some (.ref 200), some (.ref 0), some (.ref 70), some (.ref 96), some (.int (nI i)), x5, x6, x7] [] I J R X := by
  obtain ⟨⟨I1, J1, hX, hgX⟩, I2, J2, rd, hM, hD, hgM⟩ := hI
  refine lw_pw (fun _ kk => pw_aload_n 1114 rfl dL_law_1113 rfl kk) ?_
  refine lw_call (fun _ kk => pw_callV (as := []) 1117 rfl dL_law_1114 mL_152 vX11_rope (PC.lift (S' := SL) (o := 0) sl_x (by decide) (xo_rope (d := 20) hX hW ) hgX) (by first | rfl | assumption | exact rowS hh | exact mtS hm | exact ruS hr | exact mtA1 hm | exact mtA2 hm | exact mtA3 hm | exact mtA4 hm | exact mtA5 hm | exact mtA6 hm | exact mtA7 hm | exact ruA1 hr | exact ruA2 hr | exact ruA3 hr) rfl (by decide) ⟨rfl, by decide, by decide, show (parseMethodDescriptor yX11_rope.desc).map (fun d => d.parameters.length) = some 0 by decide +kernel⟩ (by omega) (by decide) (Nat.le_of_ble_eq_true rfl) rfl kk) (fun r1114 I1114 J1114 R1114 c1114 => ?_)
  obtain ⟨r1, IA, JA, RA, ⟨rfl, hX', rfl⟩, rfl, hgX', hout⟩ := c1114; have hgM' := agr_out hgM hout (Or.inr (by decide)); show LW _ _ _ _ _ _ _ _ _ _ [.int _] _ _ _ _
  refine lw_pw (fun _ kk => pw_aload_n 1118 rfl dL_law_1117 rfl kk) ?_
  refine lw_call (fun _ kk => pw_callV (as := []) 1121 rfl dL_law_1118 mL_155 vX12_rope (PC.lift (S' := SL) (o := 70) sl_m (by decide) (mo_rope (d := 0) hM hD (by omega) hW ) hgM') (by first | rfl | assumption | exact rowS hh | exact mtS hm | exact ruS hr | exact mtA1 hm | exact mtA2 hm | exact mtA3 hm | exact mtA4 hm | exact mtA5 hm | exact mtA6 hm | exact mtA7 hm | exact ruA1 hr | exact ruA2 hr | exact ruA3 hr) rfl (by decide) ⟨rfl, by decide, by decide, show (parseMethodDescriptor yX12_rope.desc).map (fun d => d.parameters.length) = some 0 by decide +kernel⟩ (by omega) (by decide) (Nat.le_of_ble_eq_true rfl) rfl kk) (fun r1118 I1118 J1118 R1118 c1118 => ?_)
  obtain ⟨r2, IB, JB, RB, ⟨rfl, hM', hD', rd', rfl⟩, rfl, hgM2, hout2⟩ := c1118; have hgX2 := agr_out hgX' hout2 (Or.inl (by decide)); show LW _ _ _ _ _ _ _ _ _ _ [.int _, .int _] _ _ _ _
  refine lw_pw (fun _ kk => pw_icmp_eq (tgt := 1621) 1124 rfl dL_law_1121 rfl (fun h1121 => kk) (fun h1121 => absurd rfl h1121)) ?_
  rotate_left
  exact k _ _ _ _ _ _ _ (WA_q hW) ⟨⟨_, _, hX', hgX2⟩, _, _, rd', hM', hD', hgM2⟩
set_option maxRecDepth 100000 in
set_option maxHeartbeats 2000000 in
theorem lc_line {B L : Nat} {xs : Nat → Int32} (hL : L ≤ 2560) {s : aSt} {g i : Nat} {I : pI} {J : pJ} {R : pR} {x5 x6 x7 : Option Value} {X : pXt} (hI : LI s g I J R) (hW : WA s) (hg : g ≤ 400000000) (hi : i + 5 ≤ L) (k : ∀ (s' : aSt) (I' : pI) (J' : pJ) (R' : pR) (x5 x6 x7 : Option Value), WA s' → LI s' (g + 10000) I' J' R' → LW B L xs SL yL_law.cls cL_law 8 260 1621 [some (.ref 200), some (.ref 0), some (.ref 70), some (.ref 96), some (.int (nI i)), x5, x6, x7] [] I' J' R' X) : LW B L xs SL yL_law.cls cL_law 8 260 1126 [some (.ref 200), some (.ref 0), some (.ref 70), some (.ref 96), some (.int (nI i)), x5, x6, x7] [] I J R X := by
  obtain ⟨⟨I1, J1, hX, hgX⟩, I2, J2, rd, hM, hD, hgM⟩ := hI
  refine lw_pw (fun _ kk => pw_aload_n 1127 rfl dL_law_1126 rfl kk) ?_
  refine lw_call (fun _ kk => pw_callV (as := []) 1130 rfl dL_law_1127 mL_156 vX11_line (PC.lift (S' := SL) (o := 0) sl_x (by decide) (xo_line (d := 20) hX hW ) hgX) (by first | rfl | assumption | exact rowS hh | exact mtS hm | exact ruS hr | exact mtA1 hm | exact mtA2 hm | exact mtA3 hm | exact mtA4 hm | exact mtA5 hm | exact mtA6 hm | exact mtA7 hm | exact ruA1 hr | exact ruA2 hr | exact ruA3 hr) rfl (by decide) ⟨rfl, by decide, by decide, show (parseMethodDescriptor yX11_line.desc).map (fun d => d.parameters.length) = some 0 by decide +kernel⟩ (by omega) (by decide) (Nat.le_of_ble_eq_true rfl) rfl kk) (fun r1127 I1127 J1127 R1127 c1127 => ?_)
  obtain ⟨r1, IA, JA, RA, ⟨rfl, hX', rfl⟩, rfl, hgX', hout⟩ := c1127; have hgM' := agr_out hgM hout (Or.inr (by decide)); show LW _ _ _ _ _ _ _ _ _ _ [.int _] _ _ _ _
  refine lw_pw (fun _ kk => pw_aload_n 1131 rfl dL_law_1130 rfl kk) ?_
  refine lw_call (fun _ kk => pw_callV (as := []) 1134 rfl dL_law_1131 mL_159 vX12_line (PC.lift (S' := SL) (o := 70) sl_m (by decide) (mo_line (d := 0) hM hD (by omega) hW ) hgM') (by first | rfl | assumption | exact rowS hh | exact mtS hm | exact ruS hr | exact mtA1 hm | exact mtA2 hm | exact mtA3 hm | exact mtA4 hm | exact mtA5 hm | exact mtA6 hm | exact mtA7 hm | exact ruA1 hr | exact ruA2 hr | exact ruA3 hr) rfl (by decide) ⟨rfl, by decide, by decide, show (parseMethodDescriptor yX12_line.desc).map (fun d => d.parameters.length) = some 0 by decide +kernel⟩ (by omega) (by decide) (Nat.le_of_ble_eq_true rfl) rfl kk) (fun r1131 I1131 J1131 R1131 c1131 => ?_)
  obtain ⟨r2, IB, JB, RB, ⟨rfl, hM', hD', rd', rfl⟩, rfl, hgM2, hout2⟩ := c1131; have hgX2 := agr_out hgX' hout2 (Or.inl (by decide)); show LW _ _ _ _ _ _ _ _ _ _ [.int _, .int _] _ _ _ _
  refine lw_pw (fun _ kk => pw_icmp_eq (tgt := 1621) 1137 rfl dL_law_1134 rfl (fun h1134 => kk) (fun h1134 => absurd rfl h1134)) ?_
  rotate_left
  exact k _ _ _ _ _ _ _ (WA_q hW) ⟨⟨_, _, hX', hgX2⟩, _, _, rd', hM', hD', hgM2⟩
set_option maxRecDepth 100000 in
set_option maxHeartbeats 2000000 in
theorem lc_nearest {B L : Nat} {xs : Nat → Int32} (hL : L ≤ 2560) {s : aSt} {g i : Nat} {I : pI} {J : pJ} {R : pR} {x5 x6 x7 : Option Value} {X : pXt} (hI : LI s g I J R) (hW : WA s) (hg : g ≤ 400000000) (hi : i + 5 ≤ L) (k : ∀ (s' : aSt) (I' : pI) (J' : pJ) (R' : pR) (x5 x6 x7 : Option Value), WA s' → LI s' (g + 10000) I' J' R' → LW B L xs SL yL_law.cls cL_law 8 260 1621 [some (.ref 200), some (.ref 0), some (.ref 70), some (.ref 96), some (.int (nI i)), x5, x6, x7] [] I' J' R' X) : LW B L xs SL yL_law.cls cL_law 8 260 1139 [some (.ref 200), some (.ref 0), some (.ref 70), some (.ref 96), some (.int (nI i)), x5, x6, x7] [] I J R X := by
  obtain ⟨⟨I1, J1, hX, hgX⟩, I2, J2, rd, hM, hD, hgM⟩ := hI
  refine lw_pw (fun _ kk => pw_aload_n 1140 rfl dL_law_1139 rfl kk) ?_
  refine lw_call (fun _ kk => pw_callV (as := []) 1143 rfl dL_law_1140 mL_160 vX11_nearest (PC.lift (S' := SL) (o := 0) sl_x (by decide) (xo_nearest (d := 20) hX hW ) hgX) (by first | rfl | assumption | exact rowS hh | exact mtS hm | exact ruS hr | exact mtA1 hm | exact mtA2 hm | exact mtA3 hm | exact mtA4 hm | exact mtA5 hm | exact mtA6 hm | exact mtA7 hm | exact ruA1 hr | exact ruA2 hr | exact ruA3 hr) rfl (by decide) ⟨rfl, by decide, by decide, show (parseMethodDescriptor yX11_nearest.desc).map (fun d => d.parameters.length) = some 0 by decide +kernel⟩ (by omega) (by decide) (Nat.le_of_ble_eq_true rfl) rfl kk) (fun r1140 I1140 J1140 R1140 c1140 => ?_)
  obtain ⟨r1, IA, JA, RA, ⟨rfl, hX', rfl⟩, rfl, hgX', hout⟩ := c1140; have hgM' := agr_out hgM hout (Or.inr (by decide)); show LW _ _ _ _ _ _ _ _ _ _ [.int _] _ _ _ _
  refine lw_pw (fun _ kk => pw_aload_n 1144 rfl dL_law_1143 rfl kk) ?_
  refine lw_call (fun _ kk => pw_callV (as := []) 1147 rfl dL_law_1144 mL_163 vX12_nearest (PC.lift (S' := SL) (o := 70) sl_m (by decide) (mo_nearest (d := 0) hM hD (by omega) hW ) hgM') (by first | rfl | assumption | exact rowS hh | exact mtS hm | exact ruS hr | exact mtA1 hm | exact mtA2 hm | exact mtA3 hm | exact mtA4 hm | exact mtA5 hm | exact mtA6 hm | exact mtA7 hm | exact ruA1 hr | exact ruA2 hr | exact ruA3 hr) rfl (by decide) ⟨rfl, by decide, by decide, show (parseMethodDescriptor yX12_nearest.desc).map (fun d => d.parameters.length) = some 0 by decide +kernel⟩ (by omega) (by decide) (Nat.le_of_ble_eq_true rfl) rfl kk) (fun r1144 I1144 J1144 R1144 c1144 => ?_)
  obtain ⟨r2, IB, JB, RB, ⟨rfl, hM', hD', rd', rfl⟩, rfl, hgM2, hout2⟩ := c1144; have hgX2 := agr_out hgX' hout2 (Or.inl (by decide)); show LW _ _ _ _ _ _ _ _ _ _ [.int _, .int _] _ _ _ _
  refine lw_pw (fun _ kk => pw_icmp_eq (tgt := 1621) 1150 rfl dL_law_1147 rfl (fun h1147 => kk) (fun h1147 => absurd rfl h1147)) ?_
  rotate_left
  exact k _ _ _ _ _ _ _ (WA_q hW) ⟨⟨_, _, hX', hgX2⟩, _, _, rd', hM', hD', hgM2⟩
set_option maxRecDepth 100000 in
set_option maxHeartbeats 2000000 in
theorem lc_stones {B L : Nat} {xs : Nat → Int32} (hL : L ≤ 2560) {s : aSt} {g i : Nat} {I : pI} {J : pJ} {R : pR} {x5 x6 x7 : Option Value} {X : pXt} (hI : LI s g I J R) (hW : WA s) (hg : g ≤ 400000000) (hi : i + 5 ≤ L) (k : ∀ (s' : aSt) (I' : pI) (J' : pJ) (R' : pR) (x5 x6 x7 : Option Value), WA s' → LI s' (g + 10000) I' J' R' → LW B L xs SL yL_law.cls cL_law 8 260 1621 [some (.ref 200), some (.ref 0), some (.ref 70), some (.ref 96), some (.int (nI i)), x5, x6, x7] [] I' J' R' X) : LW B L xs SL yL_law.cls cL_law 8 260 1152 [some (.ref 200), some (.ref 0), some (.ref 70), some (.ref 96), some (.int (nI i)), x5, x6, x7] [] I J R X := by
  obtain ⟨⟨I1, J1, hX, hgX⟩, I2, J2, rd, hM, hD, hgM⟩ := hI
  refine lw_pw (fun _ kk => pw_aload_n 1153 rfl dL_law_1152 rfl kk) ?_
  refine lw_pw (fun _ kk => pw_aload_n 1154 rfl dL_law_1153 rfl kk) ?_
  refine lw_pw (fun _ kk => pw_iload 1156 rfl dL_law_1154 rfl kk) ?_
  refine lw_pw (fun _ kk => pw_iconst (v := nI 1) 1157 rfl dL_law_1156 rfl kk) ?_
  first | refine lw_pw (fun _ kk => pw_iaddN 1158 rfl dL_law_1157 kk) ?_ | refine lw_pw (fun _ kk => pw_iadd 1158 rfl dL_law_1157 kk) ?_
  refine lw_sldN 1159 rfl dL_law_1158 (by omega) (by omega) ?_
  refine lw_call (fun _ kk => pw_callV (as := [_]) 1162 rfl dL_law_1159 mL_164 vX11_stones (PC.lift (S' := SL) (o := 0) sl_x (by decide) (xo_stones (d := 20) hX hW _) hgX) (by first | rfl | assumption | exact rowS hh | exact mtS hm | exact ruS hr | exact mtA1 hm | exact mtA2 hm | exact mtA3 hm | exact mtA4 hm | exact mtA5 hm | exact mtA6 hm | exact mtA7 hm | exact ruA1 hr | exact ruA2 hr | exact ruA3 hr) rfl (by decide) ⟨rfl, by decide, by decide, show (parseMethodDescriptor yX11_stones.desc).map (fun d => d.parameters.length) = some 1 by decide +kernel⟩ (by omega) (by decide) (Nat.le_of_ble_eq_true rfl) rfl kk) (fun r1159 I1159 J1159 R1159 c1159 => ?_)
  obtain ⟨r1, IA, JA, RA, ⟨rfl, hX', rfl⟩, rfl, hgX', hout⟩ := c1159; have hgM' := agr_out hgM hout (Or.inr (by decide)); show LW _ _ _ _ _ _ _ _ _ _ [.int _] _ _ _ _
  refine lw_pw (fun _ kk => pw_aload_n 1163 rfl dL_law_1162 rfl kk) ?_
  refine lw_pw (fun _ kk => pw_aload_n 1164 rfl dL_law_1163 rfl kk) ?_
  refine lw_pw (fun _ kk => pw_iload 1166 rfl dL_law_1164 rfl kk) ?_
  refine lw_pw (fun _ kk => pw_iconst (v := nI 1) 1167 rfl dL_law_1166 rfl kk) ?_
  first | refine lw_pw (fun _ kk => pw_iaddN 1168 rfl dL_law_1167 kk) ?_ | refine lw_pw (fun _ kk => pw_iadd 1168 rfl dL_law_1167 kk) ?_
  refine lw_sldN 1169 rfl dL_law_1168 (by omega) (by omega) ?_
  refine lw_call (fun _ kk => pw_callV (as := [_]) 1172 rfl dL_law_1169 mL_167 vX12_stones (PC.lift (S' := SL) (o := 70) sl_m (by decide) (mo_stones (d := 0) hM hD (by omega) hW _) hgM') (by first | rfl | assumption | exact rowS hh | exact mtS hm | exact ruS hr | exact mtA1 hm | exact mtA2 hm | exact mtA3 hm | exact mtA4 hm | exact mtA5 hm | exact mtA6 hm | exact mtA7 hm | exact ruA1 hr | exact ruA2 hr | exact ruA3 hr) rfl (by decide) ⟨rfl, by decide, by decide, show (parseMethodDescriptor yX12_stones.desc).map (fun d => d.parameters.length) = some 1 by decide +kernel⟩ (by omega) (by decide) (Nat.le_of_ble_eq_true rfl) rfl kk) (fun r1169 I1169 J1169 R1169 c1169 => ?_)
  obtain ⟨r2, IB, JB, RB, ⟨rfl, hM', hD', rd', rfl⟩, rfl, hgM2, hout2⟩ := c1169; have hgX2 := agr_out hgX' hout2 (Or.inl (by decide)); show LW _ _ _ _ _ _ _ _ _ _ [.int _, .int _] _ _ _ _
  refine lw_pw (fun _ kk => pw_icmp_eq (tgt := 1621) 1175 rfl dL_law_1172 rfl (fun h1172 => kk) (fun h1172 => absurd rfl h1172)) ?_
  rotate_left
  exact k _ _ _ _ _ _ _ (WA_q hW) ⟨⟨_, _, hX', hgX2⟩, _, _, rd', hM', hD', hgM2⟩
set_option maxRecDepth 100000 in
set_option maxHeartbeats 2000000 in
theorem lc_parties {B L : Nat} {xs : Nat → Int32} (hL : L ≤ 2560) {s : aSt} {g i : Nat} {I : pI} {J : pJ} {R : pR} {x5 x6 x7 : Option Value} {X : pXt} (hI : LI s g I J R) (hW : WA s) (hg : g ≤ 400000000) (hi : i + 5 ≤ L) (k : ∀ (s' : aSt) (I' : pI) (J' : pJ) (R' : pR) (x5 x6 x7 : Option Value), WA s' → LI s' (g + 10000) I' J' R' → LW B L xs SL yL_law.cls cL_law 8 260 1621 [some (.ref 200), some (.ref 0), some (.ref 70), some (.ref 96), some (.int (nI i)), x5, x6, x7] [] I' J' R' X) : LW B L xs SL yL_law.cls cL_law 8 260 1177 [some (.ref 200), some (.ref 0), some (.ref 70), some (.ref 96), some (.int (nI i)), x5, x6, x7] [] I J R X := by
  obtain ⟨⟨I1, J1, hX, hgX⟩, I2, J2, rd, hM, hD, hgM⟩ := hI
  refine lw_pw (fun _ kk => pw_aload_n 1178 rfl dL_law_1177 rfl kk) ?_
  refine lw_call (fun _ kk => pw_callV (as := []) 1181 rfl dL_law_1178 mL_168 vX11_parties (PC.lift (S' := SL) (o := 0) sl_x (by decide) (xo_parties (d := 20) hX hW ) hgX) (by first | rfl | assumption | exact rowS hh | exact mtS hm | exact ruS hr | exact mtA1 hm | exact mtA2 hm | exact mtA3 hm | exact mtA4 hm | exact mtA5 hm | exact mtA6 hm | exact mtA7 hm | exact ruA1 hr | exact ruA2 hr | exact ruA3 hr) rfl (by decide) ⟨rfl, by decide, by decide, show (parseMethodDescriptor yX11_parties.desc).map (fun d => d.parameters.length) = some 0 by decide +kernel⟩ (by omega) (by decide) (Nat.le_of_ble_eq_true rfl) rfl kk) (fun r1178 I1178 J1178 R1178 c1178 => ?_)
  obtain ⟨r1, IA, JA, RA, ⟨rfl, hX', rfl⟩, rfl, hgX', hout⟩ := c1178; have hgM' := agr_out hgM hout (Or.inr (by decide)); show LW _ _ _ _ _ _ _ _ _ _ [.int _] _ _ _ _
  refine lw_pw (fun _ kk => pw_aload_n 1182 rfl dL_law_1181 rfl kk) ?_
  refine lw_call (fun _ kk => pw_callV (as := []) 1185 rfl dL_law_1182 mL_171 vX12_parties (PC.lift (S' := SL) (o := 70) sl_m (by decide) (mo_parties (d := 0) hM hD (by omega) hW ) hgM') (by first | rfl | assumption | exact rowS hh | exact mtS hm | exact ruS hr | exact mtA1 hm | exact mtA2 hm | exact mtA3 hm | exact mtA4 hm | exact mtA5 hm | exact mtA6 hm | exact mtA7 hm | exact ruA1 hr | exact ruA2 hr | exact ruA3 hr) rfl (by decide) ⟨rfl, by decide, by decide, show (parseMethodDescriptor yX12_parties.desc).map (fun d => d.parameters.length) = some 0 by decide +kernel⟩ (by omega) (by decide) (Nat.le_of_ble_eq_true rfl) rfl kk) (fun r1182 I1182 J1182 R1182 c1182 => ?_)
  obtain ⟨r2, IB, JB, RB, ⟨rfl, hM', hD', rd', rfl⟩, rfl, hgM2, hout2⟩ := c1182; have hgX2 := agr_out hgX' hout2 (Or.inl (by decide)); show LW _ _ _ _ _ _ _ _ _ _ [.int _, .int _] _ _ _ _
  refine lw_pw (fun _ kk => pw_icmp_eq (tgt := 1621) 1188 rfl dL_law_1185 rfl (fun h1185 => kk) (fun h1185 => absurd rfl h1185)) ?_
  rotate_left
  exact k _ _ _ _ _ _ _ (WA_q hW) ⟨⟨_, _, hX', hgX2⟩, _, _, rd', hM', hD', hgM2⟩
set_option maxRecDepth 100000 in
set_option maxHeartbeats 2000000 in
theorem lc_heard {B L : Nat} {xs : Nat → Int32} (hL : L ≤ 2560) {s : aSt} {g i : Nat} {I : pI} {J : pJ} {R : pR} {x5 x6 x7 : Option Value} {X : pXt} (hI : LI s g I J R) (hW : WA s) (hg : g ≤ 400000000) (hi : i + 5 ≤ L) (k : ∀ (s' : aSt) (I' : pI) (J' : pJ) (R' : pR) (x5 x6 x7 : Option Value), WA s' → LI s' (g + 10000) I' J' R' → LW B L xs SL yL_law.cls cL_law 8 260 1621 [some (.ref 200), some (.ref 0), some (.ref 70), some (.ref 96), some (.int (nI i)), x5, x6, x7] [] I' J' R' X) : LW B L xs SL yL_law.cls cL_law 8 260 1190 [some (.ref 200), some (.ref 0), some (.ref 70), some (.ref 96), some (.int (nI i)), x5, x6, x7] [] I J R X := by
  obtain ⟨⟨I1, J1, hX, hgX⟩, I2, J2, rd, hM, hD, hgM⟩ := hI
  refine lw_pw (fun _ kk => pw_aload_n 1191 rfl dL_law_1190 rfl kk) ?_
  refine lw_pw (fun _ kk => pw_aload_n 1192 rfl dL_law_1191 rfl kk) ?_
  refine lw_pw (fun _ kk => pw_iload 1194 rfl dL_law_1192 rfl kk) ?_
  refine lw_pw (fun _ kk => pw_iconst (v := nI 1) 1195 rfl dL_law_1194 rfl kk) ?_
  first | refine lw_pw (fun _ kk => pw_iaddN 1196 rfl dL_law_1195 kk) ?_ | refine lw_pw (fun _ kk => pw_iadd 1196 rfl dL_law_1195 kk) ?_
  refine lw_sldN 1197 rfl dL_law_1196 (by omega) (by omega) ?_
  refine lw_pw (fun _ kk => pw_aload_n 1198 rfl dL_law_1197 rfl kk) ?_
  refine lw_pw (fun _ kk => pw_iload 1200 rfl dL_law_1198 rfl kk) ?_
  refine lw_pw (fun _ kk => pw_iconst (v := nI 2) 1201 rfl dL_law_1200 rfl kk) ?_
  first | refine lw_pw (fun _ kk => pw_iaddN 1202 rfl dL_law_1201 kk) ?_ | refine lw_pw (fun _ kk => pw_iadd 1202 rfl dL_law_1201 kk) ?_
  refine lw_sldN 1203 rfl dL_law_1202 (by omega) (by omega) ?_
  refine lw_call (fun _ kk => pw_callV (as := [_, _]) 1206 rfl dL_law_1203 mL_172 vX11_heard (PC.lift (S' := SL) (o := 0) sl_x (by decide) (xo_heard (d := 20) hX _ _) hgX) (by first | rfl | assumption | exact rowS hh | exact mtS hm | exact ruS hr | exact mtA1 hm | exact mtA2 hm | exact mtA3 hm | exact mtA4 hm | exact mtA5 hm | exact mtA6 hm | exact mtA7 hm | exact ruA1 hr | exact ruA2 hr | exact ruA3 hr) rfl (by decide) ⟨rfl, by decide, by decide, show (parseMethodDescriptor yX11_heard.desc).map (fun d => d.parameters.length) = some 2 by decide +kernel⟩ (by omega) (by decide) (Nat.le_of_ble_eq_true rfl) rfl kk) (fun r1203 I1203 J1203 R1203 c1203 => ?_)
  obtain ⟨r1, IA, JA, RA, ⟨rfl, hX', rfl⟩, rfl, hgX', hout⟩ := c1203; have hgM' := agr_out hgM hout (Or.inr (by decide)); show LW _ _ _ _ _ _ _ _ _ _ [.int _] _ _ _ _
  refine lw_pw (fun _ kk => pw_aload_n 1207 rfl dL_law_1206 rfl kk) ?_
  refine lw_pw (fun _ kk => pw_aload_n 1208 rfl dL_law_1207 rfl kk) ?_
  refine lw_pw (fun _ kk => pw_iload 1210 rfl dL_law_1208 rfl kk) ?_
  refine lw_pw (fun _ kk => pw_iconst (v := nI 1) 1211 rfl dL_law_1210 rfl kk) ?_
  first | refine lw_pw (fun _ kk => pw_iaddN 1212 rfl dL_law_1211 kk) ?_ | refine lw_pw (fun _ kk => pw_iadd 1212 rfl dL_law_1211 kk) ?_
  refine lw_sldN 1213 rfl dL_law_1212 (by omega) (by omega) ?_
  refine lw_pw (fun _ kk => pw_aload_n 1214 rfl dL_law_1213 rfl kk) ?_
  refine lw_pw (fun _ kk => pw_iload 1216 rfl dL_law_1214 rfl kk) ?_
  refine lw_pw (fun _ kk => pw_iconst (v := nI 2) 1217 rfl dL_law_1216 rfl kk) ?_
  first | refine lw_pw (fun _ kk => pw_iaddN 1218 rfl dL_law_1217 kk) ?_ | refine lw_pw (fun _ kk => pw_iadd 1218 rfl dL_law_1217 kk) ?_
  refine lw_sldN 1219 rfl dL_law_1218 (by omega) (by omega) ?_
  refine lw_call (fun _ kk => pw_callV (as := [_, _]) 1222 rfl dL_law_1219 mL_175 vX12_heard (PC.lift (S' := SL) (o := 70) sl_m (by decide) (mo_heard (d := 0) hM hD (by omega) hW _ _) hgM') (by first | rfl | assumption | exact rowS hh | exact mtS hm | exact ruS hr | exact mtA1 hm | exact mtA2 hm | exact mtA3 hm | exact mtA4 hm | exact mtA5 hm | exact mtA6 hm | exact mtA7 hm | exact ruA1 hr | exact ruA2 hr | exact ruA3 hr) rfl (by decide) ⟨rfl, by decide, by decide, show (parseMethodDescriptor yX12_heard.desc).map (fun d => d.parameters.length) = some 2 by decide +kernel⟩ (by omega) (by decide) (Nat.le_of_ble_eq_true rfl) rfl kk) (fun r1219 I1219 J1219 R1219 c1219 => ?_)
  obtain ⟨r2, IB, JB, RB, ⟨rfl, hM', hD', rd', rfl⟩, rfl, hgM2, hout2⟩ := c1219; have hgX2 := agr_out hgX' hout2 (Or.inl (by decide)); show LW _ _ _ _ _ _ _ _ _ _ [.int _, .int _] _ _ _ _
  refine lw_pw (fun _ kk => pw_icmp_eq (tgt := 1621) 1225 rfl dL_law_1222 rfl (fun h1222 => kk) (fun h1222 => absurd rfl h1222)) ?_
  rotate_left
  exact k _ _ _ _ _ _ _ (WA_heard hW) ⟨⟨_, _, hX', hgX2⟩, _, _, rd', hM', hD', hgM2⟩
set_option maxRecDepth 100000 in
set_option maxHeartbeats 2000000 in
theorem lc_forget {B L : Nat} {xs : Nat → Int32} (hL : L ≤ 2560) {s : aSt} {g i : Nat} {I : pI} {J : pJ} {R : pR} {x5 x6 x7 : Option Value} {X : pXt} (hI : LI s g I J R) (hW : WA s) (hg : g ≤ 400000000) (hi : i + 5 ≤ L) (k : ∀ (s' : aSt) (I' : pI) (J' : pJ) (R' : pR) (x5 x6 x7 : Option Value), WA s' → LI s' (g + 10000) I' J' R' → LW B L xs SL yL_law.cls cL_law 8 260 1621 [some (.ref 200), some (.ref 0), some (.ref 70), some (.ref 96), some (.int (nI i)), x5, x6, x7] [] I' J' R' X) : LW B L xs SL yL_law.cls cL_law 8 260 1227 [some (.ref 200), some (.ref 0), some (.ref 70), some (.ref 96), some (.int (nI i)), x5, x6, x7] [] I J R X := by
  obtain ⟨⟨I1, J1, hX, hgX⟩, I2, J2, rd, hM, hD, hgM⟩ := hI
  refine lw_pw (fun _ kk => pw_aload_n 1228 rfl dL_law_1227 rfl kk) ?_
  refine lw_call (fun _ kk => pw_callV (as := []) 1231 rfl dL_law_1228 mL_176 vX11_forget (PC.lift (S' := SL) (o := 0) sl_x (by decide) (xo_forget (d := 20) hX ) hgX) (by first | rfl | assumption | exact rowS hh | exact mtS hm | exact ruS hr | exact mtA1 hm | exact mtA2 hm | exact mtA3 hm | exact mtA4 hm | exact mtA5 hm | exact mtA6 hm | exact mtA7 hm | exact ruA1 hr | exact ruA2 hr | exact ruA3 hr) rfl (by decide) ⟨rfl, by decide, by decide, show (parseMethodDescriptor yX11_forget.desc).map (fun d => d.parameters.length) = some 0 by decide +kernel⟩ (by omega) (by decide) (Nat.le_of_ble_eq_true rfl) rfl kk) (fun r1228 I1228 J1228 R1228 c1228 => ?_)
  obtain ⟨r1, IA, JA, RA, ⟨rfl, hX', rfl⟩, rfl, hgX', hout⟩ := c1228; have hgM' := agr_out hgM hout (Or.inr (by decide)); show LW _ _ _ _ _ _ _ _ _ _ [.int _] _ _ _ _
  refine lw_pw (fun _ kk => pw_aload_n 1232 rfl dL_law_1231 rfl kk) ?_
  refine lw_call (fun _ kk => pw_callV (as := []) 1235 rfl dL_law_1232 mL_179 vX12_forget (PC.lift (S' := SL) (o := 70) sl_m (by decide) (mo_forget (d := 0) hM hD (by omega) hW ) hgM') (by first | rfl | assumption | exact rowS hh | exact mtS hm | exact ruS hr | exact mtA1 hm | exact mtA2 hm | exact mtA3 hm | exact mtA4 hm | exact mtA5 hm | exact mtA6 hm | exact mtA7 hm | exact ruA1 hr | exact ruA2 hr | exact ruA3 hr) rfl (by decide) ⟨rfl, by decide, by decide, show (parseMethodDescriptor yX12_forget.desc).map (fun d => d.parameters.length) = some 0 by decide +kernel⟩ (by omega) (by decide) (Nat.le_of_ble_eq_true rfl) rfl kk) (fun r1232 I1232 J1232 R1232 c1232 => ?_)
  obtain ⟨r2, IB, JB, RB, ⟨rfl, hM', hD', rd', rfl⟩, rfl, hgM2, hout2⟩ := c1232; have hgX2 := agr_out hgX' hout2 (Or.inl (by decide)); show LW _ _ _ _ _ _ _ _ _ _ [.int _, .int _] _ _ _ _
  refine lw_pw (fun _ kk => pw_icmp_eq (tgt := 1621) 1238 rfl dL_law_1235 rfl (fun h1235 => kk) (fun h1235 => absurd rfl h1235)) ?_
  rotate_left
  exact k _ _ _ _ _ _ _ (WA_forget hW) ⟨⟨_, _, hX', hgX2⟩, _, _, rd', hM', hD', hgM2⟩
set_option maxRecDepth 100000 in
set_option maxHeartbeats 2000000 in
theorem lc_fits {B L : Nat} {xs : Nat → Int32} (hL : L ≤ 2560) {s : aSt} {g i : Nat} {I : pI} {J : pJ} {R : pR} {x5 x6 x7 : Option Value} {X : pXt} (hI : LI s g I J R) (hW : WA s) (hg : g ≤ 400000000) (hi : i + 5 ≤ L) (k : ∀ (s' : aSt) (I' : pI) (J' : pJ) (R' : pR) (x5 x6 x7 : Option Value), WA s' → LI s' (g + 10000) I' J' R' → LW B L xs SL yL_law.cls cL_law 8 260 1621 [some (.ref 200), some (.ref 0), some (.ref 70), some (.ref 96), some (.int (nI i)), x5, x6, x7] [] I' J' R' X) : LW B L xs SL yL_law.cls cL_law 8 260 1240 [some (.ref 200), some (.ref 0), some (.ref 70), some (.ref 96), some (.int (nI i)), x5, x6, x7] [] I J R X := by
  obtain ⟨⟨I1, J1, hX, hgX⟩, I2, J2, rd, hM, hD, hgM⟩ := hI
  refine lw_pw (fun _ kk => pw_aload_n 1241 rfl dL_law_1240 rfl kk) ?_
  refine lw_call (fun _ kk => pw_callV (as := []) 1244 rfl dL_law_1241 mL_180 vX11_fits (PC.lift (S' := SL) (o := 0) sl_x (by decide) (xo_fits (d := 20) hX hW ) hgX) (by first | rfl | assumption | exact rowS hh | exact mtS hm | exact ruS hr | exact mtA1 hm | exact mtA2 hm | exact mtA3 hm | exact mtA4 hm | exact mtA5 hm | exact mtA6 hm | exact mtA7 hm | exact ruA1 hr | exact ruA2 hr | exact ruA3 hr) rfl (by decide) ⟨rfl, by decide, by decide, show (parseMethodDescriptor yX11_fits.desc).map (fun d => d.parameters.length) = some 0 by decide +kernel⟩ (by omega) (by decide) (Nat.le_of_ble_eq_true rfl) rfl kk) (fun r1241 I1241 J1241 R1241 c1241 => ?_)
  obtain ⟨r1, IA, JA, RA, ⟨rfl, hX', rfl⟩, rfl, hgX', hout⟩ := c1241; have hgM' := agr_out hgM hout (Or.inr (by decide)); show LW _ _ _ _ _ _ _ _ _ _ [.int _] _ _ _ _
  refine lw_pw (fun _ kk => pw_aload_n 1245 rfl dL_law_1244 rfl kk) ?_
  refine lw_call (fun _ kk => pw_callV (as := []) 1248 rfl dL_law_1245 mL_183 vX12_fits (PC.lift (S' := SL) (o := 70) sl_m (by decide) (mo_fits (d := 0) hM hD (by omega) hW ) hgM') (by first | rfl | assumption | exact rowS hh | exact mtS hm | exact ruS hr | exact mtA1 hm | exact mtA2 hm | exact mtA3 hm | exact mtA4 hm | exact mtA5 hm | exact mtA6 hm | exact mtA7 hm | exact ruA1 hr | exact ruA2 hr | exact ruA3 hr) rfl (by decide) ⟨rfl, by decide, by decide, show (parseMethodDescriptor yX12_fits.desc).map (fun d => d.parameters.length) = some 0 by decide +kernel⟩ (by omega) (by decide) (Nat.le_of_ble_eq_true rfl) rfl kk) (fun r1245 I1245 J1245 R1245 c1245 => ?_)
  obtain ⟨r2, IB, JB, RB, ⟨rfl, hM', hD', rd', rfl⟩, rfl, hgM2, hout2⟩ := c1245; have hgX2 := agr_out hgX' hout2 (Or.inl (by decide)); show LW _ _ _ _ _ _ _ _ _ _ [.int _, .int _] _ _ _ _
  refine lw_pw (fun _ kk => pw_icmp_eq (tgt := 1621) 1251 rfl dL_law_1248 rfl (fun h1248 => kk) (fun h1248 => absurd rfl h1248)) ?_
  rotate_left
  exact k _ _ _ _ _ _ _ (WA_q hW) ⟨⟨_, _, hX', hgX2⟩, _, _, rd', hM', hD', hgM2⟩
set_option maxRecDepth 100000 in
set_option maxHeartbeats 2000000 in
theorem lc_asks {B L : Nat} {xs : Nat → Int32} (hL : L ≤ 2560) {s : aSt} {g i : Nat} {I : pI} {J : pJ} {R : pR} {x5 x6 x7 : Option Value} {X : pXt} (hI : LI s g I J R) (hW : WA s) (hg : g ≤ 400000000) (hi : i + 5 ≤ L) (k : ∀ (s' : aSt) (I' : pI) (J' : pJ) (R' : pR) (x5 x6 x7 : Option Value), WA s' → LI s' (g + 10000) I' J' R' → LW B L xs SL yL_law.cls cL_law 8 260 1621 [some (.ref 200), some (.ref 0), some (.ref 70), some (.ref 96), some (.int (nI i)), x5, x6, x7] [] I' J' R' X) : LW B L xs SL yL_law.cls cL_law 8 260 1253 [some (.ref 200), some (.ref 0), some (.ref 70), some (.ref 96), some (.int (nI i)), x5, x6, x7] [] I J R X := by
  obtain ⟨⟨I1, J1, hX, hgX⟩, I2, J2, rd, hM, hD, hgM⟩ := hI
  refine lw_pw (fun _ kk => pw_aload_n 1254 rfl dL_law_1253 rfl kk) ?_
  refine lw_call (fun _ kk => pw_callV (as := []) 1257 rfl dL_law_1254 mL_184 vX11_asks (PC.lift (S' := SL) (o := 0) sl_x (by decide) (xo_asks (d := 20) hX hW ) hgX) (by first | rfl | assumption | exact rowS hh | exact mtS hm | exact ruS hr | exact mtA1 hm | exact mtA2 hm | exact mtA3 hm | exact mtA4 hm | exact mtA5 hm | exact mtA6 hm | exact mtA7 hm | exact ruA1 hr | exact ruA2 hr | exact ruA3 hr) rfl (by decide) ⟨rfl, by decide, by decide, show (parseMethodDescriptor yX11_asks.desc).map (fun d => d.parameters.length) = some 0 by decide +kernel⟩ (by omega) (by decide) (Nat.le_of_ble_eq_true rfl) rfl kk) (fun r1254 I1254 J1254 R1254 c1254 => ?_)
  obtain ⟨r1, IA, JA, RA, ⟨rfl, hX', rfl⟩, rfl, hgX', hout⟩ := c1254; have hgM' := agr_out hgM hout (Or.inr (by decide)); show LW _ _ _ _ _ _ _ _ _ _ [.int _] _ _ _ _
  refine lw_pw (fun _ kk => pw_aload_n 1258 rfl dL_law_1257 rfl kk) ?_
  refine lw_call (fun _ kk => pw_callV (as := []) 1261 rfl dL_law_1258 mL_187 vX12_asks (PC.lift (S' := SL) (o := 70) sl_m (by decide) (mo_asks (d := 0) hM hD (by omega) hW ) hgM') (by first | rfl | assumption | exact rowS hh | exact mtS hm | exact ruS hr | exact mtA1 hm | exact mtA2 hm | exact mtA3 hm | exact mtA4 hm | exact mtA5 hm | exact mtA6 hm | exact mtA7 hm | exact ruA1 hr | exact ruA2 hr | exact ruA3 hr) rfl (by decide) ⟨rfl, by decide, by decide, show (parseMethodDescriptor yX12_asks.desc).map (fun d => d.parameters.length) = some 0 by decide +kernel⟩ (by omega) (by decide) (Nat.le_of_ble_eq_true rfl) rfl kk) (fun r1258 I1258 J1258 R1258 c1258 => ?_)
  obtain ⟨r2, IB, JB, RB, ⟨rfl, hM', hD', rd', rfl⟩, rfl, hgM2, hout2⟩ := c1258; have hgX2 := agr_out hgX' hout2 (Or.inl (by decide)); show LW _ _ _ _ _ _ _ _ _ _ [.int _, .int _] _ _ _ _
  refine lw_pw (fun _ kk => pw_icmp_eq (tgt := 1621) 1264 rfl dL_law_1261 rfl (fun h1261 => kk) (fun h1261 => absurd rfl h1261)) ?_
  rotate_left
  exact k _ _ _ _ _ _ _ (WA_q hW) ⟨⟨_, _, hX', hgX2⟩, _, _, rd', hM', hD', hgM2⟩
set_option maxRecDepth 100000 in
set_option maxHeartbeats 2000000 in
theorem lc_saw {B L : Nat} {xs : Nat → Int32} (hL : L ≤ 2560) {s : aSt} {g i : Nat} {I : pI} {J : pJ} {R : pR} {x5 x6 x7 : Option Value} {X : pXt} (hI : LI s g I J R) (hW : WA s) (hg : g ≤ 400000000) (hi : i + 5 ≤ L) (k : ∀ (s' : aSt) (I' : pI) (J' : pJ) (R' : pR) (x5 x6 x7 : Option Value), WA s' → LI s' (g + 10000) I' J' R' → LW B L xs SL yL_law.cls cL_law 8 260 1621 [some (.ref 200), some (.ref 0), some (.ref 70), some (.ref 96), some (.int (nI i)), x5, x6, x7] [] I' J' R' X) : LW B L xs SL yL_law.cls cL_law 8 260 1266 [some (.ref 200), some (.ref 0), some (.ref 70), some (.ref 96), some (.int (nI i)), x5, x6, x7] [] I J R X := by
  obtain ⟨⟨I1, J1, hX, hgX⟩, I2, J2, rd, hM, hD, hgM⟩ := hI
  refine lw_pw (fun _ kk => pw_aload_n 1267 rfl dL_law_1266 rfl kk) ?_
  refine lw_pw (fun _ kk => pw_aload_n 1268 rfl dL_law_1267 rfl kk) ?_
  refine lw_pw (fun _ kk => pw_iload 1270 rfl dL_law_1268 rfl kk) ?_
  refine lw_pw (fun _ kk => pw_iconst (v := nI 1) 1271 rfl dL_law_1270 rfl kk) ?_
  first | refine lw_pw (fun _ kk => pw_iaddN 1272 rfl dL_law_1271 kk) ?_ | refine lw_pw (fun _ kk => pw_iadd 1272 rfl dL_law_1271 kk) ?_
  refine lw_sldN 1273 rfl dL_law_1272 (by omega) (by omega) ?_
  refine lw_pw (fun _ kk => pw_aload_n 1274 rfl dL_law_1273 rfl kk) ?_
  refine lw_pw (fun _ kk => pw_iload 1276 rfl dL_law_1274 rfl kk) ?_
  refine lw_pw (fun _ kk => pw_iconst (v := nI 2) 1277 rfl dL_law_1276 rfl kk) ?_
  first | refine lw_pw (fun _ kk => pw_iaddN 1278 rfl dL_law_1277 kk) ?_ | refine lw_pw (fun _ kk => pw_iadd 1278 rfl dL_law_1277 kk) ?_
  refine lw_sldN 1279 rfl dL_law_1278 (by omega) (by omega) ?_
  refine lw_call (fun _ kk => pw_callV (as := [_, _]) 1282 rfl dL_law_1279 mL_188 vX11_saw (PC.lift (S' := SL) (o := 0) sl_x (by decide) (xo_saw (d := 20) hX _ _) hgX) (by first | rfl | assumption | exact rowS hh | exact mtS hm | exact ruS hr | exact mtA1 hm | exact mtA2 hm | exact mtA3 hm | exact mtA4 hm | exact mtA5 hm | exact mtA6 hm | exact mtA7 hm | exact ruA1 hr | exact ruA2 hr | exact ruA3 hr) rfl (by decide) ⟨rfl, by decide, by decide, show (parseMethodDescriptor yX11_saw.desc).map (fun d => d.parameters.length) = some 2 by decide +kernel⟩ (by omega) (by decide) (Nat.le_of_ble_eq_true rfl) rfl kk) (fun r1279 I1279 J1279 R1279 c1279 => ?_)
  obtain ⟨r1, IA, JA, RA, ⟨rfl, hX', rfl⟩, rfl, hgX', hout⟩ := c1279; have hgM' := agr_out hgM hout (Or.inr (by decide)); show LW _ _ _ _ _ _ _ _ _ _ [.int _] _ _ _ _
  refine lw_pw (fun _ kk => pw_aload_n 1283 rfl dL_law_1282 rfl kk) ?_
  refine lw_pw (fun _ kk => pw_aload_n 1284 rfl dL_law_1283 rfl kk) ?_
  refine lw_pw (fun _ kk => pw_iload 1286 rfl dL_law_1284 rfl kk) ?_
  refine lw_pw (fun _ kk => pw_iconst (v := nI 1) 1287 rfl dL_law_1286 rfl kk) ?_
  first | refine lw_pw (fun _ kk => pw_iaddN 1288 rfl dL_law_1287 kk) ?_ | refine lw_pw (fun _ kk => pw_iadd 1288 rfl dL_law_1287 kk) ?_
  refine lw_sldN 1289 rfl dL_law_1288 (by omega) (by omega) ?_
  refine lw_pw (fun _ kk => pw_aload_n 1290 rfl dL_law_1289 rfl kk) ?_
  refine lw_pw (fun _ kk => pw_iload 1292 rfl dL_law_1290 rfl kk) ?_
  refine lw_pw (fun _ kk => pw_iconst (v := nI 2) 1293 rfl dL_law_1292 rfl kk) ?_
  first | refine lw_pw (fun _ kk => pw_iaddN 1294 rfl dL_law_1293 kk) ?_ | refine lw_pw (fun _ kk => pw_iadd 1294 rfl dL_law_1293 kk) ?_
  refine lw_sldN 1295 rfl dL_law_1294 (by omega) (by omega) ?_
  refine lw_call (fun _ kk => pw_callV (as := [_, _]) 1298 rfl dL_law_1295 mL_191 vX12_saw (PC.lift (S' := SL) (o := 70) sl_m (by decide) (mo_saw (d := 0) hM hD (by omega) hW _ _) hgM') (by first | rfl | assumption | exact rowS hh | exact mtS hm | exact ruS hr | exact mtA1 hm | exact mtA2 hm | exact mtA3 hm | exact mtA4 hm | exact mtA5 hm | exact mtA6 hm | exact mtA7 hm | exact ruA1 hr | exact ruA2 hr | exact ruA3 hr) rfl (by decide) ⟨rfl, by decide, by decide, show (parseMethodDescriptor yX12_saw.desc).map (fun d => d.parameters.length) = some 2 by decide +kernel⟩ (by omega) (by decide) (Nat.le_of_ble_eq_true rfl) rfl kk) (fun r1295 I1295 J1295 R1295 c1295 => ?_)
  obtain ⟨r2, IB, JB, RB, ⟨rfl, hM', hD', rd', rfl⟩, rfl, hgM2, hout2⟩ := c1295; have hgX2 := agr_out hgX' hout2 (Or.inl (by decide)); show LW _ _ _ _ _ _ _ _ _ _ [.int _, .int _] _ _ _ _
  refine lw_pw (fun _ kk => pw_icmp_eq (tgt := 1621) 1301 rfl dL_law_1298 rfl (fun h1298 => kk) (fun h1298 => absurd rfl h1298)) ?_
  rotate_left
  exact k _ _ _ _ _ _ _ (WA_saw hW) ⟨⟨_, _, hX', hgX2⟩, _, _, rd', hM', hD', hgM2⟩
set_option maxRecDepth 100000 in
set_option maxHeartbeats 2000000 in
theorem lc_denies {B L : Nat} {xs : Nat → Int32} (hL : L ≤ 2560) {s : aSt} {g i : Nat} {I : pI} {J : pJ} {R : pR} {x5 x6 x7 : Option Value} {X : pXt} (hI : LI s g I J R) (hW : WA s) (hg : g ≤ 400000000) (hi : i + 5 ≤ L) (k : ∀ (s' : aSt) (I' : pI) (J' : pJ) (R' : pR) (x5 x6 x7 : Option Value), WA s' → LI s' (g + 10000) I' J' R' → LW B L xs SL yL_law.cls cL_law 8 260 1621 [some (.ref 200), some (.ref 0), some (.ref 70), some (.ref 96), some (.int (nI i)), x5, x6, x7] [] I' J' R' X) : LW B L xs SL yL_law.cls cL_law 8 260 1303 [some (.ref 200), some (.ref 0), some (.ref 70), some (.ref 96), some (.int (nI i)), x5, x6, x7] [] I J R X := by
  obtain ⟨⟨I1, J1, hX, hgX⟩, I2, J2, rd, hM, hD, hgM⟩ := hI
  refine lw_pw (fun _ kk => pw_aload_n 1304 rfl dL_law_1303 rfl kk) ?_
  refine lw_call (fun _ kk => pw_callV (as := []) 1307 rfl dL_law_1304 mL_192 vX11_denies (PC.lift (S' := SL) (o := 0) sl_x (by decide) (xo_denies (d := 20) hX ) hgX) (by first | rfl | assumption | exact rowS hh | exact mtS hm | exact ruS hr | exact mtA1 hm | exact mtA2 hm | exact mtA3 hm | exact mtA4 hm | exact mtA5 hm | exact mtA6 hm | exact mtA7 hm | exact ruA1 hr | exact ruA2 hr | exact ruA3 hr) rfl (by decide) ⟨rfl, by decide, by decide, show (parseMethodDescriptor yX11_denies.desc).map (fun d => d.parameters.length) = some 0 by decide +kernel⟩ (by omega) (by decide) (Nat.le_of_ble_eq_true rfl) rfl kk) (fun r1304 I1304 J1304 R1304 c1304 => ?_)
  obtain ⟨r1, IA, JA, RA, ⟨rfl, hX', rfl⟩, rfl, hgX', hout⟩ := c1304; have hgM' := agr_out hgM hout (Or.inr (by decide)); show LW _ _ _ _ _ _ _ _ _ _ [.int _] _ _ _ _
  refine lw_pw (fun _ kk => pw_aload_n 1308 rfl dL_law_1307 rfl kk) ?_
  refine lw_call (fun _ kk => pw_callV (as := []) 1311 rfl dL_law_1308 mL_195 vX12_denies (PC.lift (S' := SL) (o := 70) sl_m (by decide) (mo_denies (d := 0) hM hD (by omega) hW ) hgM') (by first | rfl | assumption | exact rowS hh | exact mtS hm | exact ruS hr | exact mtA1 hm | exact mtA2 hm | exact mtA3 hm | exact mtA4 hm | exact mtA5 hm | exact mtA6 hm | exact mtA7 hm | exact ruA1 hr | exact ruA2 hr | exact ruA3 hr) rfl (by decide) ⟨rfl, by decide, by decide, show (parseMethodDescriptor yX12_denies.desc).map (fun d => d.parameters.length) = some 0 by decide +kernel⟩ (by omega) (by decide) (Nat.le_of_ble_eq_true rfl) rfl kk) (fun r1308 I1308 J1308 R1308 c1308 => ?_)
  obtain ⟨r2, IB, JB, RB, ⟨rfl, hM', hD', rd', rfl⟩, rfl, hgM2, hout2⟩ := c1308; have hgX2 := agr_out hgX' hout2 (Or.inl (by decide)); show LW _ _ _ _ _ _ _ _ _ _ [.int _, .int _] _ _ _ _
  refine lw_pw (fun _ kk => pw_icmp_eq (tgt := 1621) 1314 rfl dL_law_1311 rfl (fun h1311 => kk) (fun h1311 => absurd rfl h1311)) ?_
  rotate_left
  exact k _ _ _ _ _ _ _ (WA_denies hW) ⟨⟨_, _, hX', hgX2⟩, _, _, rd', hM', hD', hgM2⟩
set_option maxRecDepth 100000 in
set_option maxHeartbeats 2000000 in
theorem lc_laws {B L : Nat} {xs : Nat → Int32} (hL : L ≤ 2560) {s : aSt} {g i : Nat} {I : pI} {J : pJ} {R : pR} {x5 x6 x7 : Option Value} {X : pXt} (hI : LI s g I J R) (hW : WA s) (hg : g ≤ 400000000) (hi : i + 5 ≤ L) (k : ∀ (s' : aSt) (I' : pI) (J' : pJ) (R' : pR) (x5 x6 x7 : Option Value), WA s' → LI s' (g + 10000) I' J' R' → LW B L xs SL yL_law.cls cL_law 8 260 1621 [some (.ref 200), some (.ref 0), some (.ref 70), some (.ref 96), some (.int (nI i)), x5, x6, x7] [] I' J' R' X) : LW B L xs SL yL_law.cls cL_law 8 260 1316 [some (.ref 200), some (.ref 0), some (.ref 70), some (.ref 96), some (.int (nI i)), x5, x6, x7] [] I J R X := by
  obtain ⟨⟨I1, J1, hX, hgX⟩, I2, J2, rd, hM, hD, hgM⟩ := hI
  refine lw_pw (fun _ kk => pw_aload_n 1317 rfl dL_law_1316 rfl kk) ?_
  refine lw_call (fun _ kk => pw_callV (as := []) 1320 rfl dL_law_1317 mL_196 vX11_laws (PC.lift (S' := SL) (o := 0) sl_x (by decide) (xo_laws (d := 20) hX hW ) hgX) (by first | rfl | assumption | exact rowS hh | exact mtS hm | exact ruS hr | exact mtA1 hm | exact mtA2 hm | exact mtA3 hm | exact mtA4 hm | exact mtA5 hm | exact mtA6 hm | exact mtA7 hm | exact ruA1 hr | exact ruA2 hr | exact ruA3 hr) rfl (by decide) ⟨rfl, by decide, by decide, show (parseMethodDescriptor yX11_laws.desc).map (fun d => d.parameters.length) = some 0 by decide +kernel⟩ (by omega) (by decide) (Nat.le_of_ble_eq_true rfl) rfl kk) (fun r1317 I1317 J1317 R1317 c1317 => ?_)
  obtain ⟨r1, IA, JA, RA, ⟨rfl, hX', rfl⟩, rfl, hgX', hout⟩ := c1317; have hgM' := agr_out hgM hout (Or.inr (by decide)); show LW _ _ _ _ _ _ _ _ _ _ [.int _] _ _ _ _
  refine lw_pw (fun _ kk => pw_aload_n 1321 rfl dL_law_1320 rfl kk) ?_
  refine lw_call (fun _ kk => pw_callV (as := []) 1324 rfl dL_law_1321 mL_199 vX12_laws (PC.lift (S' := SL) (o := 70) sl_m (by decide) (mo_laws (d := 0) hM hD (by omega) hW ) hgM') (by first | rfl | assumption | exact rowS hh | exact mtS hm | exact ruS hr | exact mtA1 hm | exact mtA2 hm | exact mtA3 hm | exact mtA4 hm | exact mtA5 hm | exact mtA6 hm | exact mtA7 hm | exact ruA1 hr | exact ruA2 hr | exact ruA3 hr) rfl (by decide) ⟨rfl, by decide, by decide, show (parseMethodDescriptor yX12_laws.desc).map (fun d => d.parameters.length) = some 0 by decide +kernel⟩ (by omega) (by decide) (Nat.le_of_ble_eq_true rfl) rfl kk) (fun r1321 I1321 J1321 R1321 c1321 => ?_)
  obtain ⟨r2, IB, JB, RB, ⟨rfl, hM', hD', rd', rfl⟩, rfl, hgM2, hout2⟩ := c1321; have hgX2 := agr_out hgX' hout2 (Or.inl (by decide)); show LW _ _ _ _ _ _ _ _ _ _ [.int _, .int _] _ _ _ _
  refine lw_pw (fun _ kk => pw_icmp_eq (tgt := 1621) 1327 rfl dL_law_1324 rfl (fun h1324 => kk) (fun h1324 => absurd rfl h1324)) ?_
  rotate_left
  exact k _ _ _ _ _ _ _ (WA_q hW) ⟨⟨_, _, hX', hgX2⟩, _, _, rd', hM', hD', hgM2⟩
set_option maxRecDepth 100000 in
set_option maxHeartbeats 2000000 in
theorem lc_looks {B L : Nat} {xs : Nat → Int32} (hL : L ≤ 2560) {s : aSt} {g i : Nat} {I : pI} {J : pJ} {R : pR} {x5 x6 x7 : Option Value} {X : pXt} (hI : LI s g I J R) (hW : WA s) (hg : g ≤ 400000000) (hi : i + 5 ≤ L) (k : ∀ (s' : aSt) (I' : pI) (J' : pJ) (R' : pR) (x5 x6 x7 : Option Value), WA s' → LI s' (g + 10000) I' J' R' → LW B L xs SL yL_law.cls cL_law 8 260 1621 [some (.ref 200), some (.ref 0), some (.ref 70), some (.ref 96), some (.int (nI i)), x5, x6, x7] [] I' J' R' X) : LW B L xs SL yL_law.cls cL_law 8 260 1329 [some (.ref 200), some (.ref 0), some (.ref 70), some (.ref 96), some (.int (nI i)), x5, x6, x7] [] I J R X := by
  obtain ⟨⟨I1, J1, hX, hgX⟩, I2, J2, rd, hM, hD, hgM⟩ := hI
  refine lw_pw (fun _ kk => pw_aload_n 1330 rfl dL_law_1329 rfl kk) ?_
  refine lw_call (fun _ kk => pw_callV (as := []) 1333 rfl dL_law_1330 mL_200 vX11_looks (PC.lift (S' := SL) (o := 0) sl_x (by decide) (xo_looks (d := 20) hX hW ) hgX) (by first | rfl | assumption | exact rowS hh | exact mtS hm | exact ruS hr | exact mtA1 hm | exact mtA2 hm | exact mtA3 hm | exact mtA4 hm | exact mtA5 hm | exact mtA6 hm | exact mtA7 hm | exact ruA1 hr | exact ruA2 hr | exact ruA3 hr) rfl (by decide) ⟨rfl, by decide, by decide, show (parseMethodDescriptor yX11_looks.desc).map (fun d => d.parameters.length) = some 0 by decide +kernel⟩ (by omega) (by decide) (Nat.le_of_ble_eq_true rfl) rfl kk) (fun r1330 I1330 J1330 R1330 c1330 => ?_)
  obtain ⟨r1, IA, JA, RA, ⟨rfl, hX', rfl⟩, rfl, hgX', hout⟩ := c1330; have hgM' := agr_out hgM hout (Or.inr (by decide)); show LW _ _ _ _ _ _ _ _ _ _ [.int _] _ _ _ _
  refine lw_pw (fun _ kk => pw_aload_n 1334 rfl dL_law_1333 rfl kk) ?_
  refine lw_call (fun _ kk => pw_callV (as := []) 1337 rfl dL_law_1334 mL_203 vX12_looks (PC.lift (S' := SL) (o := 70) sl_m (by decide) (mo_looks (d := 0) hM hD (by omega) hW ) hgM') (by first | rfl | assumption | exact rowS hh | exact mtS hm | exact ruS hr | exact mtA1 hm | exact mtA2 hm | exact mtA3 hm | exact mtA4 hm | exact mtA5 hm | exact mtA6 hm | exact mtA7 hm | exact ruA1 hr | exact ruA2 hr | exact ruA3 hr) rfl (by decide) ⟨rfl, by decide, by decide, show (parseMethodDescriptor yX12_looks.desc).map (fun d => d.parameters.length) = some 0 by decide +kernel⟩ (by omega) (by decide) (Nat.le_of_ble_eq_true rfl) rfl kk) (fun r1334 I1334 J1334 R1334 c1334 => ?_)
  obtain ⟨r2, IB, JB, RB, ⟨rfl, hM', hD', rd', rfl⟩, rfl, hgM2, hout2⟩ := c1334; have hgX2 := agr_out hgX' hout2 (Or.inl (by decide)); show LW _ _ _ _ _ _ _ _ _ _ [.int _, .int _] _ _ _ _
  refine lw_pw (fun _ kk => pw_icmp_eq (tgt := 1621) 1340 rfl dL_law_1337 rfl (fun h1337 => kk) (fun h1337 => absurd rfl h1337)) ?_
  rotate_left
  exact k _ _ _ _ _ _ _ (WA_q hW) ⟨⟨_, _, hX', hgX2⟩, _, _, rd', hM', hD', hgM2⟩
set_option maxRecDepth 100000 in
set_option maxHeartbeats 2000000 in
theorem lc_strays {B L : Nat} {xs : Nat → Int32} (hL : L ≤ 2560) {s : aSt} {g i : Nat} {I : pI} {J : pJ} {R : pR} {x5 x6 x7 : Option Value} {X : pXt} (hI : LI s g I J R) (hW : WA s) (hg : g ≤ 400000000) (hi : i + 5 ≤ L) (k : ∀ (s' : aSt) (I' : pI) (J' : pJ) (R' : pR) (x5 x6 x7 : Option Value), WA s' → LI s' (g + 10000) I' J' R' → LW B L xs SL yL_law.cls cL_law 8 260 1621 [some (.ref 200), some (.ref 0), some (.ref 70), some (.ref 96), some (.int (nI i)), x5, x6, x7] [] I' J' R' X) : LW B L xs SL yL_law.cls cL_law 8 260 1342 [some (.ref 200), some (.ref 0), some (.ref 70), some (.ref 96), some (.int (nI i)), x5, x6, x7] [] I J R X := by
  obtain ⟨⟨I1, J1, hX, hgX⟩, I2, J2, rd, hM, hD, hgM⟩ := hI
  refine lw_pw (fun _ kk => pw_aload_n 1343 rfl dL_law_1342 rfl kk) ?_
  refine lw_pw (fun _ kk => pw_aload_n 1344 rfl dL_law_1343 rfl kk) ?_
  refine lw_pw (fun _ kk => pw_iload 1346 rfl dL_law_1344 rfl kk) ?_
  refine lw_pw (fun _ kk => pw_iconst (v := nI 1) 1347 rfl dL_law_1346 rfl kk) ?_
  first | refine lw_pw (fun _ kk => pw_iaddN 1348 rfl dL_law_1347 kk) ?_ | refine lw_pw (fun _ kk => pw_iadd 1348 rfl dL_law_1347 kk) ?_
  refine lw_sldN 1349 rfl dL_law_1348 (by omega) (by omega) ?_
  refine lw_pw (fun _ kk => pw_aload_n 1350 rfl dL_law_1349 rfl kk) ?_
  refine lw_pw (fun _ kk => pw_iload 1352 rfl dL_law_1350 rfl kk) ?_
  refine lw_pw (fun _ kk => pw_iconst (v := nI 2) 1353 rfl dL_law_1352 rfl kk) ?_
  first | refine lw_pw (fun _ kk => pw_iaddN 1354 rfl dL_law_1353 kk) ?_ | refine lw_pw (fun _ kk => pw_iadd 1354 rfl dL_law_1353 kk) ?_
  refine lw_sldN 1355 rfl dL_law_1354 (by omega) (by omega) ?_
  refine lw_call (fun _ kk => pw_callV (as := [_, _]) 1358 rfl dL_law_1355 mL_204 vX11_strays (PC.lift (S' := SL) (o := 0) sl_x (by decide) (xo_strays (d := 20) hX hW _ _) hgX) (by first | rfl | assumption | exact rowS hh | exact mtS hm | exact ruS hr | exact mtA1 hm | exact mtA2 hm | exact mtA3 hm | exact mtA4 hm | exact mtA5 hm | exact mtA6 hm | exact mtA7 hm | exact ruA1 hr | exact ruA2 hr | exact ruA3 hr) rfl (by decide) ⟨rfl, by decide, by decide, show (parseMethodDescriptor yX11_strays.desc).map (fun d => d.parameters.length) = some 2 by decide +kernel⟩ (by omega) (by decide) (Nat.le_of_ble_eq_true rfl) rfl kk) (fun r1355 I1355 J1355 R1355 c1355 => ?_)
  obtain ⟨r1, IA, JA, RA, ⟨rfl, hX', rfl⟩, rfl, hgX', hout⟩ := c1355; have hgM' := agr_out hgM hout (Or.inr (by decide)); show LW _ _ _ _ _ _ _ _ _ _ [.int _] _ _ _ _
  refine lw_pw (fun _ kk => pw_aload_n 1359 rfl dL_law_1358 rfl kk) ?_
  refine lw_pw (fun _ kk => pw_aload_n 1360 rfl dL_law_1359 rfl kk) ?_
  refine lw_pw (fun _ kk => pw_iload 1362 rfl dL_law_1360 rfl kk) ?_
  refine lw_pw (fun _ kk => pw_iconst (v := nI 1) 1363 rfl dL_law_1362 rfl kk) ?_
  first | refine lw_pw (fun _ kk => pw_iaddN 1364 rfl dL_law_1363 kk) ?_ | refine lw_pw (fun _ kk => pw_iadd 1364 rfl dL_law_1363 kk) ?_
  refine lw_sldN 1365 rfl dL_law_1364 (by omega) (by omega) ?_
  refine lw_pw (fun _ kk => pw_aload_n 1366 rfl dL_law_1365 rfl kk) ?_
  refine lw_pw (fun _ kk => pw_iload 1368 rfl dL_law_1366 rfl kk) ?_
  refine lw_pw (fun _ kk => pw_iconst (v := nI 2) 1369 rfl dL_law_1368 rfl kk) ?_
  first | refine lw_pw (fun _ kk => pw_iaddN 1370 rfl dL_law_1369 kk) ?_ | refine lw_pw (fun _ kk => pw_iadd 1370 rfl dL_law_1369 kk) ?_
  refine lw_sldN 1371 rfl dL_law_1370 (by omega) (by omega) ?_
  refine lw_call (fun _ kk => pw_callV (as := [_, _]) 1374 rfl dL_law_1371 mL_207 vX12_strays (PC.lift (S' := SL) (o := 70) sl_m (by decide) (mo_strays (d := 0) hM hD (by omega) hW _ _) hgM') (by first | rfl | assumption | exact rowS hh | exact mtS hm | exact ruS hr | exact mtA1 hm | exact mtA2 hm | exact mtA3 hm | exact mtA4 hm | exact mtA5 hm | exact mtA6 hm | exact mtA7 hm | exact ruA1 hr | exact ruA2 hr | exact ruA3 hr) rfl (by decide) ⟨rfl, by decide, by decide, show (parseMethodDescriptor yX12_strays.desc).map (fun d => d.parameters.length) = some 2 by decide +kernel⟩ (by omega) (by decide) (Nat.le_of_ble_eq_true rfl) rfl kk) (fun r1371 I1371 J1371 R1371 c1371 => ?_)
  obtain ⟨r2, IB, JB, RB, ⟨rfl, hM', hD', rd', rfl⟩, rfl, hgM2, hout2⟩ := c1371; have hgX2 := agr_out hgX' hout2 (Or.inl (by decide)); show LW _ _ _ _ _ _ _ _ _ _ [.int _, .int _] _ _ _ _
  refine lw_pw (fun _ kk => pw_icmp_eq (tgt := 1621) 1377 rfl dL_law_1374 rfl (fun h1374 => kk) (fun h1374 => absurd rfl h1374)) ?_
  rotate_left
  exact k _ _ _ _ _ _ _ (WA_q hW) ⟨⟨_, _, hX', hgX2⟩, _, _, rd', hM', hD', hgM2⟩
set_option maxRecDepth 100000 in
set_option maxHeartbeats 2000000 in
theorem lc_bend {B L : Nat} {xs : Nat → Int32} (hL : L ≤ 2560) {s : aSt} {g i : Nat} {I : pI} {J : pJ} {R : pR} {x5 x6 x7 : Option Value} {X : pXt} (hI : LI s g I J R) (hW : WA s) (hg : g ≤ 400000000) (hi : i + 5 ≤ L) (k : ∀ (s' : aSt) (I' : pI) (J' : pJ) (R' : pR) (x5 x6 x7 : Option Value), WA s' → LI s' (g + 10000) I' J' R' → LW B L xs SL yL_law.cls cL_law 8 260 1621 [some (.ref 200), some (.ref 0), some (.ref 70), some (.ref 96), some (.int (nI i)), x5, x6, x7] [] I' J' R' X) : LW B L xs SL yL_law.cls cL_law 8 260 1379 [some (.ref 200), some (.ref 0), some (.ref 70), some (.ref 96), some (.int (nI i)), x5, x6, x7] [] I J R X := by
  obtain ⟨⟨I1, J1, hX, hgX⟩, I2, J2, rd, hM, hD, hgM⟩ := hI
  refine lw_pw (fun _ kk => pw_aload_n 1380 rfl dL_law_1379 rfl kk) ?_
  refine lw_pw (fun _ kk => pw_aload_n 1381 rfl dL_law_1380 rfl kk) ?_
  refine lw_pw (fun _ kk => pw_iload 1383 rfl dL_law_1381 rfl kk) ?_
  refine lw_pw (fun _ kk => pw_iconst (v := nI 1) 1384 rfl dL_law_1383 rfl kk) ?_
  first | refine lw_pw (fun _ kk => pw_iaddN 1385 rfl dL_law_1384 kk) ?_ | refine lw_pw (fun _ kk => pw_iadd 1385 rfl dL_law_1384 kk) ?_
  refine lw_sldN 1386 rfl dL_law_1385 (by omega) (by omega) ?_
  refine lw_pw (fun _ kk => pw_aload_n 1387 rfl dL_law_1386 rfl kk) ?_
  refine lw_pw (fun _ kk => pw_iload 1389 rfl dL_law_1387 rfl kk) ?_
  refine lw_pw (fun _ kk => pw_iconst (v := nI 2) 1390 rfl dL_law_1389 rfl kk) ?_
  first | refine lw_pw (fun _ kk => pw_iaddN 1391 rfl dL_law_1390 kk) ?_ | refine lw_pw (fun _ kk => pw_iadd 1391 rfl dL_law_1390 kk) ?_
  refine lw_sldN 1392 rfl dL_law_1391 (by omega) (by omega) ?_
  refine lw_call (fun _ kk => pw_callV (as := [_, _]) 1395 rfl dL_law_1392 mL_208 vX11_bend (PC.lift (S' := SL) (o := 0) sl_x (by decide) (xo_bend (d := 20) hX hW _ _) hgX) (by first | rfl | assumption | exact rowS hh | exact mtS hm | exact ruS hr | exact mtA1 hm | exact mtA2 hm | exact mtA3 hm | exact mtA4 hm | exact mtA5 hm | exact mtA6 hm | exact mtA7 hm | exact ruA1 hr | exact ruA2 hr | exact ruA3 hr) rfl (by decide) ⟨rfl, by decide, by decide, show (parseMethodDescriptor yX11_bend.desc).map (fun d => d.parameters.length) = some 2 by decide +kernel⟩ (by omega) (by decide) (Nat.le_of_ble_eq_true rfl) rfl kk) (fun r1392 I1392 J1392 R1392 c1392 => ?_)
  obtain ⟨r1, IA, JA, RA, ⟨rfl, hX', rfl⟩, rfl, hgX', hout⟩ := c1392; have hgM' := agr_out hgM hout (Or.inr (by decide)); show LW _ _ _ _ _ _ _ _ _ _ [.int _] _ _ _ _
  refine lw_pw (fun _ kk => pw_aload_n 1396 rfl dL_law_1395 rfl kk) ?_
  refine lw_pw (fun _ kk => pw_aload_n 1397 rfl dL_law_1396 rfl kk) ?_
  refine lw_pw (fun _ kk => pw_iload 1399 rfl dL_law_1397 rfl kk) ?_
  refine lw_pw (fun _ kk => pw_iconst (v := nI 1) 1400 rfl dL_law_1399 rfl kk) ?_
  first | refine lw_pw (fun _ kk => pw_iaddN 1401 rfl dL_law_1400 kk) ?_ | refine lw_pw (fun _ kk => pw_iadd 1401 rfl dL_law_1400 kk) ?_
  refine lw_sldN 1402 rfl dL_law_1401 (by omega) (by omega) ?_
  refine lw_pw (fun _ kk => pw_aload_n 1403 rfl dL_law_1402 rfl kk) ?_
  refine lw_pw (fun _ kk => pw_iload 1405 rfl dL_law_1403 rfl kk) ?_
  refine lw_pw (fun _ kk => pw_iconst (v := nI 2) 1406 rfl dL_law_1405 rfl kk) ?_
  first | refine lw_pw (fun _ kk => pw_iaddN 1407 rfl dL_law_1406 kk) ?_ | refine lw_pw (fun _ kk => pw_iadd 1407 rfl dL_law_1406 kk) ?_
  refine lw_sldN 1408 rfl dL_law_1407 (by omega) (by omega) ?_
  refine lw_call (fun _ kk => pw_callV (as := [_, _]) 1411 rfl dL_law_1408 mL_211 vX12_bend (PC.lift (S' := SL) (o := 70) sl_m (by decide) (mo_bend (d := 0) hM hD (by omega) hW _ _) hgM') (by first | rfl | assumption | exact rowS hh | exact mtS hm | exact ruS hr | exact mtA1 hm | exact mtA2 hm | exact mtA3 hm | exact mtA4 hm | exact mtA5 hm | exact mtA6 hm | exact mtA7 hm | exact ruA1 hr | exact ruA2 hr | exact ruA3 hr) rfl (by decide) ⟨rfl, by decide, by decide, show (parseMethodDescriptor yX12_bend.desc).map (fun d => d.parameters.length) = some 2 by decide +kernel⟩ (by omega) (by decide) (Nat.le_of_ble_eq_true rfl) rfl kk) (fun r1408 I1408 J1408 R1408 c1408 => ?_)
  obtain ⟨r2, IB, JB, RB, ⟨rfl, hM', hD', rd', rfl⟩, rfl, hgM2, hout2⟩ := c1408; have hgX2 := agr_out hgX' hout2 (Or.inl (by decide)); show LW _ _ _ _ _ _ _ _ _ _ [.int _, .int _] _ _ _ _
  refine lw_pw (fun _ kk => pw_icmp_eq (tgt := 1621) 1414 rfl dL_law_1411 rfl (fun h1411 => kk) (fun h1411 => absurd rfl h1411)) ?_
  rotate_left
  exact k _ _ _ _ _ _ _ (WA_q hW) ⟨⟨_, _, hX', hgX2⟩, _, _, rd', hM', hD', hgM2⟩
set_option maxRecDepth 100000 in
set_option maxHeartbeats 2000000 in
theorem lc_rests {B L : Nat} {xs : Nat → Int32} (hL : L ≤ 2560) {s : aSt} {g i : Nat} {I : pI} {J : pJ} {R : pR} {x5 x6 x7 : Option Value} {X : pXt} (hI : LI s g I J R) (hW : WA s) (hg : g ≤ 400000000) (hi : i + 5 ≤ L) (k : ∀ (s' : aSt) (I' : pI) (J' : pJ) (R' : pR) (x5 x6 x7 : Option Value), WA s' → LI s' (g + 10000) I' J' R' → LW B L xs SL yL_law.cls cL_law 8 260 1621 [some (.ref 200), some (.ref 0), some (.ref 70), some (.ref 96), some (.int (nI i)), x5, x6, x7] [] I' J' R' X) : LW B L xs SL yL_law.cls cL_law 8 260 1416 [some (.ref 200), some (.ref 0), some (.ref 70), some (.ref 96), some (.int (nI i)), x5, x6, x7] [] I J R X := by
  obtain ⟨⟨I1, J1, hX, hgX⟩, I2, J2, rd, hM, hD, hgM⟩ := hI
  refine lw_pw (fun _ kk => pw_aload_n 1417 rfl dL_law_1416 rfl kk) ?_
  refine lw_pw (fun _ kk => pw_aload_n 1418 rfl dL_law_1417 rfl kk) ?_
  refine lw_pw (fun _ kk => pw_iload 1420 rfl dL_law_1418 rfl kk) ?_
  refine lw_pw (fun _ kk => pw_iconst (v := nI 1) 1421 rfl dL_law_1420 rfl kk) ?_
  first | refine lw_pw (fun _ kk => pw_iaddN 1422 rfl dL_law_1421 kk) ?_ | refine lw_pw (fun _ kk => pw_iadd 1422 rfl dL_law_1421 kk) ?_
  refine lw_sldN 1423 rfl dL_law_1422 (by omega) (by omega) ?_
  refine lw_call (fun _ kk => pw_callV (as := [_]) 1426 rfl dL_law_1423 mL_212 vX11_rests (PC.lift (S' := SL) (o := 0) sl_x (by decide) (xo_rests (d := 20) hX hW _) hgX) (by first | rfl | assumption | exact rowS hh | exact mtS hm | exact ruS hr | exact mtA1 hm | exact mtA2 hm | exact mtA3 hm | exact mtA4 hm | exact mtA5 hm | exact mtA6 hm | exact mtA7 hm | exact ruA1 hr | exact ruA2 hr | exact ruA3 hr) rfl (by decide) ⟨rfl, by decide, by decide, show (parseMethodDescriptor yX11_rests.desc).map (fun d => d.parameters.length) = some 1 by decide +kernel⟩ (by omega) (by decide) (Nat.le_of_ble_eq_true rfl) rfl kk) (fun r1423 I1423 J1423 R1423 c1423 => ?_)
  obtain ⟨r1, IA, JA, RA, ⟨rfl, hX', rfl⟩, rfl, hgX', hout⟩ := c1423; have hgM' := agr_out hgM hout (Or.inr (by decide)); show LW _ _ _ _ _ _ _ _ _ _ [.int _] _ _ _ _
  refine lw_pw (fun _ kk => pw_aload_n 1427 rfl dL_law_1426 rfl kk) ?_
  refine lw_pw (fun _ kk => pw_aload_n 1428 rfl dL_law_1427 rfl kk) ?_
  refine lw_pw (fun _ kk => pw_iload 1430 rfl dL_law_1428 rfl kk) ?_
  refine lw_pw (fun _ kk => pw_iconst (v := nI 1) 1431 rfl dL_law_1430 rfl kk) ?_
  first | refine lw_pw (fun _ kk => pw_iaddN 1432 rfl dL_law_1431 kk) ?_ | refine lw_pw (fun _ kk => pw_iadd 1432 rfl dL_law_1431 kk) ?_
  refine lw_sldN 1433 rfl dL_law_1432 (by omega) (by omega) ?_
  refine lw_call (fun _ kk => pw_callV (as := [_]) 1436 rfl dL_law_1433 mL_215 vX12_rests (PC.lift (S' := SL) (o := 70) sl_m (by decide) (mo_rests (d := 0) hM hD (by omega) hW _) hgM') (by first | rfl | assumption | exact rowS hh | exact mtS hm | exact ruS hr | exact mtA1 hm | exact mtA2 hm | exact mtA3 hm | exact mtA4 hm | exact mtA5 hm | exact mtA6 hm | exact mtA7 hm | exact ruA1 hr | exact ruA2 hr | exact ruA3 hr) rfl (by decide) ⟨rfl, by decide, by decide, show (parseMethodDescriptor yX12_rests.desc).map (fun d => d.parameters.length) = some 1 by decide +kernel⟩ (by omega) (by decide) (Nat.le_of_ble_eq_true rfl) rfl kk) (fun r1433 I1433 J1433 R1433 c1433 => ?_)
  obtain ⟨r2, IB, JB, RB, ⟨rfl, hM', hD', rd', rfl⟩, rfl, hgM2, hout2⟩ := c1433; have hgX2 := agr_out hgX' hout2 (Or.inl (by decide)); show LW _ _ _ _ _ _ _ _ _ _ [.int _, .int _] _ _ _ _
  refine lw_pw (fun _ kk => pw_icmp_eq (tgt := 1621) 1439 rfl dL_law_1436 rfl (fun h1436 => kk) (fun h1436 => absurd rfl h1436)) ?_
  rotate_left
  exact k _ _ _ _ _ _ _ (WA_q hW) ⟨⟨_, _, hX', hgX2⟩, _, _, rd', hM', hD', hgM2⟩
set_option maxRecDepth 100000 in
set_option maxHeartbeats 2000000 in
theorem lc_law {B L : Nat} {xs : Nat → Int32} (hL : L ≤ 2560) {s : aSt} {g i : Nat} {I : pI} {J : pJ} {R : pR} {x5 x6 x7 : Option Value} {X : pXt} (hI : LI s g I J R) (hW : WA s) (hg : g ≤ 400000000) (hi : i + 5 ≤ L) (k : ∀ (s' : aSt) (I' : pI) (J' : pJ) (R' : pR) (x5 x6 x7 : Option Value), WA s' → LI s' (g + 10000) I' J' R' → LW B L xs SL yL_law.cls cL_law 8 260 1621 [some (.ref 200), some (.ref 0), some (.ref 70), some (.ref 96), some (.int (nI i)), x5, x6, x7] [] I' J' R' X) : LW B L xs SL yL_law.cls cL_law 8 260 1441 [some (.ref 200), some (.ref 0), some (.ref 70), some (.ref 96), some (.int (nI i)), x5, x6, x7] [] I J R X := by
  obtain ⟨⟨I1, J1, hX, hgX⟩, I2, J2, rd, hM, hD, hgM⟩ := hI
  refine lw_pw (fun _ kk => pw_aload_n 1442 rfl dL_law_1441 rfl kk) ?_
  refine lw_call (fun _ kk => pw_callV (as := []) 1445 rfl dL_law_1442 mL_216 vX11_law (PC.lift (S' := SL) (o := 0) sl_x (by decide) (xo_law (d := 20) hX hW ) hgX) (by first | rfl | assumption | exact rowS hh | exact mtS hm | exact ruS hr | exact mtA1 hm | exact mtA2 hm | exact mtA3 hm | exact mtA4 hm | exact mtA5 hm | exact mtA6 hm | exact mtA7 hm | exact ruA1 hr | exact ruA2 hr | exact ruA3 hr) rfl (by decide) ⟨rfl, by decide, by decide, show (parseMethodDescriptor yX11_law.desc).map (fun d => d.parameters.length) = some 0 by decide +kernel⟩ (by omega) (by decide) (Nat.le_of_ble_eq_true rfl) rfl kk) (fun r1442 I1442 J1442 R1442 c1442 => ?_)
  obtain ⟨r1, IA, JA, RA, ⟨rfl, hX', rfl⟩, rfl, hgX', hout⟩ := c1442; have hgM' := agr_out hgM hout (Or.inr (by decide)); show LW _ _ _ _ _ _ _ _ _ _ [.int _] _ _ _ _
  refine lw_pw (fun _ kk => pw_aload_n 1446 rfl dL_law_1445 rfl kk) ?_
  refine lw_call (fun _ kk => pw_callV (as := []) 1449 rfl dL_law_1446 mL_219 vX12_law (PC.lift (S' := SL) (o := 70) sl_m (by decide) (mo_law (d := 0) hM hD (by omega) hW ) hgM') (by first | rfl | assumption | exact rowS hh | exact mtS hm | exact ruS hr | exact mtA1 hm | exact mtA2 hm | exact mtA3 hm | exact mtA4 hm | exact mtA5 hm | exact mtA6 hm | exact mtA7 hm | exact ruA1 hr | exact ruA2 hr | exact ruA3 hr) rfl (by decide) ⟨rfl, by decide, by decide, show (parseMethodDescriptor yX12_law.desc).map (fun d => d.parameters.length) = some 0 by decide +kernel⟩ (by omega) (by decide) (Nat.le_of_ble_eq_true rfl) rfl kk) (fun r1446 I1446 J1446 R1446 c1446 => ?_)
  obtain ⟨r2, IB, JB, RB, ⟨rfl, hM', hD', rd', rfl⟩, rfl, hgM2, hout2⟩ := c1446; have hgX2 := agr_out hgX' hout2 (Or.inl (by decide)); show LW _ _ _ _ _ _ _ _ _ _ [.int _, .int _] _ _ _ _
  refine lw_pw (fun _ kk => pw_icmp_eq (tgt := 1621) 1452 rfl dL_law_1449 rfl (fun h1449 => kk) (fun h1449 => absurd rfl h1449)) ?_
  rotate_left
  exact k _ _ _ _ _ _ _ (WA_law hW) ⟨⟨_, _, hX', hgX2⟩, _, _, rd', hM', hD', hgM2⟩
set_option maxRecDepth 100000 in
set_option maxHeartbeats 2000000 in
theorem lc_years {B L : Nat} {xs : Nat → Int32} (hL : L ≤ 2560) {s : aSt} {g i : Nat} {I : pI} {J : pJ} {R : pR} {x5 x6 x7 : Option Value} {X : pXt} (hI : LI s g I J R) (hW : WA s) (hg : g ≤ 400000000) (hi : i + 5 ≤ L) (k : ∀ (s' : aSt) (I' : pI) (J' : pJ) (R' : pR) (x5 x6 x7 : Option Value), WA s' → LI s' (g + 10000) I' J' R' → LW B L xs SL yL_law.cls cL_law 8 260 1621 [some (.ref 200), some (.ref 0), some (.ref 70), some (.ref 96), some (.int (nI i)), x5, x6, x7] [] I' J' R' X) : LW B L xs SL yL_law.cls cL_law 8 260 1454 [some (.ref 200), some (.ref 0), some (.ref 70), some (.ref 96), some (.int (nI i)), x5, x6, x7] [] I J R X := by
  obtain ⟨⟨I1, J1, hX, hgX⟩, I2, J2, rd, hM, hD, hgM⟩ := hI
  refine lw_pw (fun _ kk => pw_aload_n 1455 rfl dL_law_1454 rfl kk) ?_
  refine lw_pw (fun _ kk => pw_aload_n 1456 rfl dL_law_1455 rfl kk) ?_
  refine lw_pw (fun _ kk => pw_iload 1458 rfl dL_law_1456 rfl kk) ?_
  refine lw_pw (fun _ kk => pw_iconst (v := nI 1) 1459 rfl dL_law_1458 rfl kk) ?_
  first | refine lw_pw (fun _ kk => pw_iaddN 1460 rfl dL_law_1459 kk) ?_ | refine lw_pw (fun _ kk => pw_iadd 1460 rfl dL_law_1459 kk) ?_
  refine lw_sldN 1461 rfl dL_law_1460 (by omega) (by omega) ?_
  refine lw_pw (fun _ kk => pw_aload_n 1462 rfl dL_law_1461 rfl kk) ?_
  refine lw_pw (fun _ kk => pw_iload 1464 rfl dL_law_1462 rfl kk) ?_
  refine lw_pw (fun _ kk => pw_iconst (v := nI 2) 1465 rfl dL_law_1464 rfl kk) ?_
  first | refine lw_pw (fun _ kk => pw_iaddN 1466 rfl dL_law_1465 kk) ?_ | refine lw_pw (fun _ kk => pw_iadd 1466 rfl dL_law_1465 kk) ?_
  refine lw_sldN 1467 rfl dL_law_1466 (by omega) (by omega) ?_
  refine lw_call (fun _ kk => pw_callV (as := [_, _]) 1470 rfl dL_law_1467 mL_220 vX11_years (PC.lift (S' := SL) (o := 0) sl_x (by decide) (xo_years pDr_ok (d := 20) hX hW _ _) hgX) (by first | rfl | assumption | exact rowS hh | exact mtS hm | exact ruS hr | exact mtA1 hm | exact mtA2 hm | exact mtA3 hm | exact mtA4 hm | exact mtA5 hm | exact mtA6 hm | exact mtA7 hm | exact ruA1 hr | exact ruA2 hr | exact ruA3 hr) rfl (by decide) ⟨rfl, by decide, by decide, show (parseMethodDescriptor yX11_years.desc).map (fun d => d.parameters.length) = some 2 by decide +kernel⟩ (by omega) (by decide) (Nat.le_of_ble_eq_true rfl) rfl kk) (fun r1467 I1467 J1467 R1467 c1467 => ?_)
  obtain ⟨r1, IA, JA, RA, ⟨rfl, hX', rfl⟩, rfl, hgX', hout⟩ := c1467; have hgM' := agr_out hgM hout (Or.inr (by decide)); show LW _ _ _ _ _ _ _ _ _ _ [.int _] _ _ _ _
  refine lw_pw (fun _ kk => pw_aload_n 1471 rfl dL_law_1470 rfl kk) ?_
  refine lw_pw (fun _ kk => pw_aload_n 1472 rfl dL_law_1471 rfl kk) ?_
  refine lw_pw (fun _ kk => pw_iload 1474 rfl dL_law_1472 rfl kk) ?_
  refine lw_pw (fun _ kk => pw_iconst (v := nI 1) 1475 rfl dL_law_1474 rfl kk) ?_
  first | refine lw_pw (fun _ kk => pw_iaddN 1476 rfl dL_law_1475 kk) ?_ | refine lw_pw (fun _ kk => pw_iadd 1476 rfl dL_law_1475 kk) ?_
  refine lw_sldN 1477 rfl dL_law_1476 (by omega) (by omega) ?_
  refine lw_pw (fun _ kk => pw_aload_n 1478 rfl dL_law_1477 rfl kk) ?_
  refine lw_pw (fun _ kk => pw_iload 1480 rfl dL_law_1478 rfl kk) ?_
  refine lw_pw (fun _ kk => pw_iconst (v := nI 2) 1481 rfl dL_law_1480 rfl kk) ?_
  first | refine lw_pw (fun _ kk => pw_iaddN 1482 rfl dL_law_1481 kk) ?_ | refine lw_pw (fun _ kk => pw_iadd 1482 rfl dL_law_1481 kk) ?_
  refine lw_sldN 1483 rfl dL_law_1482 (by omega) (by omega) ?_
  refine lw_call (fun _ kk => pw_callV (as := [_, _]) 1486 rfl dL_law_1483 mL_223 vX12_years (PC.lift (S' := SL) (o := 70) sl_m (by decide) (mo_years pDrM_ok (d := 0) hM hD (by omega) hW _ _) hgM') (by first | rfl | assumption | exact rowS hh | exact mtS hm | exact ruS hr | exact mtA1 hm | exact mtA2 hm | exact mtA3 hm | exact mtA4 hm | exact mtA5 hm | exact mtA6 hm | exact mtA7 hm | exact ruA1 hr | exact ruA2 hr | exact ruA3 hr) rfl (by decide) ⟨rfl, by decide, by decide, show (parseMethodDescriptor yX12_years.desc).map (fun d => d.parameters.length) = some 2 by decide +kernel⟩ (by omega) (by decide) (Nat.le_of_ble_eq_true rfl) rfl kk) (fun r1483 I1483 J1483 R1483 c1483 => ?_)
  obtain ⟨r2, IB, JB, RB, ⟨rfl, hM', hD', rd', rfl⟩, rfl, hgM2, hout2⟩ := c1483; have hgX2 := agr_out hgX' hout2 (Or.inl (by decide)); show LW _ _ _ _ _ _ _ _ _ _ [.int _, .int _] _ _ _ _
  refine lw_pw (fun _ kk => pw_icmp_eq (tgt := 1621) 1489 rfl dL_law_1486 rfl (fun h1486 => kk) (fun h1486 => absurd rfl h1486)) ?_
  rotate_left
  exact k _ _ _ _ _ _ _ (WA_q hW) ⟨⟨_, _, hX', hgX2⟩, _, _, rd', hM', hD', hgM2⟩
set_option maxRecDepth 100000 in
set_option maxHeartbeats 2000000 in
theorem lc_keep {B L : Nat} {xs : Nat → Int32} (hL : L ≤ 2560) {s : aSt} {g i : Nat} {I : pI} {J : pJ} {R : pR} {x5 x6 x7 : Option Value} {X : pXt} (hI : LI s g I J R) (hW : WA s) (hg : g ≤ 400000000) (hi : i + 5 ≤ L) (k : ∀ (s' : aSt) (I' : pI) (J' : pJ) (R' : pR) (x5 x6 x7 : Option Value), WA s' → LI s' (g + 10000) I' J' R' → LW B L xs SL yL_law.cls cL_law 8 260 1621 [some (.ref 200), some (.ref 0), some (.ref 70), some (.ref 96), some (.int (nI i)), x5, x6, x7] [] I' J' R' X) : LW B L xs SL yL_law.cls cL_law 8 260 1491 [some (.ref 200), some (.ref 0), some (.ref 70), some (.ref 96), some (.int (nI i)), x5, x6, x7] [] I J R X := by
  obtain ⟨⟨I1, J1, hX, hgX⟩, I2, J2, rd, hM, hD, hgM⟩ := hI
  refine lw_pw (fun _ kk => pw_aload_n 1492 rfl dL_law_1491 rfl kk) ?_
  refine lw_pw (fun _ kk => pw_aload_n 1493 rfl dL_law_1492 rfl kk) ?_
  refine lw_pw (fun _ kk => pw_iload 1495 rfl dL_law_1493 rfl kk) ?_
  refine lw_pw (fun _ kk => pw_iconst (v := nI 1) 1496 rfl dL_law_1495 rfl kk) ?_
  first | refine lw_pw (fun _ kk => pw_iaddN 1497 rfl dL_law_1496 kk) ?_ | refine lw_pw (fun _ kk => pw_iadd 1497 rfl dL_law_1496 kk) ?_
  refine lw_sldN 1498 rfl dL_law_1497 (by omega) (by omega) ?_
  refine lw_call (fun _ kk => pw_callV (as := [_]) 1501 rfl dL_law_1498 mL_224 vX11_keep (PC.lift (S' := SL) (o := 0) sl_x (by decide) (xo_keep (d := 20) hX _) hgX) (by first | rfl | assumption | exact rowS hh | exact mtS hm | exact ruS hr | exact mtA1 hm | exact mtA2 hm | exact mtA3 hm | exact mtA4 hm | exact mtA5 hm | exact mtA6 hm | exact mtA7 hm | exact ruA1 hr | exact ruA2 hr | exact ruA3 hr) rfl (by decide) ⟨rfl, by decide, by decide, show (parseMethodDescriptor yX11_keep.desc).map (fun d => d.parameters.length) = some 1 by decide +kernel⟩ (by omega) (by decide) (Nat.le_of_ble_eq_true rfl) rfl kk) (fun r1498 I1498 J1498 R1498 c1498 => ?_)
  obtain ⟨r1, IA, JA, RA, ⟨rfl, hX', rfl⟩, rfl, hgX', hout⟩ := c1498; have hgM' := agr_out hgM hout (Or.inr (by decide)); show LW _ _ _ _ _ _ _ _ _ _ [.int _] _ _ _ _
  refine lw_pw (fun _ kk => pw_aload_n 1502 rfl dL_law_1501 rfl kk) ?_
  refine lw_pw (fun _ kk => pw_aload_n 1503 rfl dL_law_1502 rfl kk) ?_
  refine lw_pw (fun _ kk => pw_iload 1505 rfl dL_law_1503 rfl kk) ?_
  refine lw_pw (fun _ kk => pw_iconst (v := nI 1) 1506 rfl dL_law_1505 rfl kk) ?_
  first | refine lw_pw (fun _ kk => pw_iaddN 1507 rfl dL_law_1506 kk) ?_ | refine lw_pw (fun _ kk => pw_iadd 1507 rfl dL_law_1506 kk) ?_
  refine lw_sldN 1508 rfl dL_law_1507 (by omega) (by omega) ?_
  refine lw_call (fun _ kk => pw_callV (as := [_]) 1511 rfl dL_law_1508 mL_227 vX12_keep (PC.lift (S' := SL) (o := 70) sl_m (by decide) (mo_keep (d := 0) hM hD (by omega) hW _) hgM') (by first | rfl | assumption | exact rowS hh | exact mtS hm | exact ruS hr | exact mtA1 hm | exact mtA2 hm | exact mtA3 hm | exact mtA4 hm | exact mtA5 hm | exact mtA6 hm | exact mtA7 hm | exact ruA1 hr | exact ruA2 hr | exact ruA3 hr) rfl (by decide) ⟨rfl, by decide, by decide, show (parseMethodDescriptor yX12_keep.desc).map (fun d => d.parameters.length) = some 1 by decide +kernel⟩ (by omega) (by decide) (Nat.le_of_ble_eq_true rfl) rfl kk) (fun r1508 I1508 J1508 R1508 c1508 => ?_)
  obtain ⟨r2, IB, JB, RB, ⟨rfl, hM', hD', rd', rfl⟩, rfl, hgM2, hout2⟩ := c1508; have hgX2 := agr_out hgX' hout2 (Or.inl (by decide)); show LW _ _ _ _ _ _ _ _ _ _ [.int _, .int _] _ _ _ _
  refine lw_pw (fun _ kk => pw_icmp_eq (tgt := 1621) 1514 rfl dL_law_1511 rfl (fun h1511 => kk) (fun h1511 => absurd rfl h1511)) ?_
  rotate_left
  exact k _ _ _ _ _ _ _ (WA_keep hW) ⟨⟨_, _, hX', hgX2⟩, _, _, rd', hM', hD', hgM2⟩
set_option maxRecDepth 100000 in
set_option maxHeartbeats 2000000 in
theorem lc_again {B L : Nat} {xs : Nat → Int32} (hL : L ≤ 2560) {s : aSt} {g i : Nat} {I : pI} {J : pJ} {R : pR} {x5 x6 x7 : Option Value} {X : pXt} (hI : LI s g I J R) (hW : WA s) (hg : g ≤ 400000000) (hi : i + 5 ≤ L) (k : ∀ (s' : aSt) (I' : pI) (J' : pJ) (R' : pR) (x5 x6 x7 : Option Value), WA s' → LI s' (g + 10000) I' J' R' → LW B L xs SL yL_law.cls cL_law 8 260 1621 [some (.ref 200), some (.ref 0), some (.ref 70), some (.ref 96), some (.int (nI i)), x5, x6, x7] [] I' J' R' X) : LW B L xs SL yL_law.cls cL_law 8 260 1516 [some (.ref 200), some (.ref 0), some (.ref 70), some (.ref 96), some (.int (nI i)), x5, x6, x7] [] I J R X := by
  obtain ⟨⟨I1, J1, hX, hgX⟩, I2, J2, rd, hM, hD, hgM⟩ := hI
  refine lw_pw (fun _ kk => pw_aload_n 1517 rfl dL_law_1516 rfl kk) ?_
  refine lw_pw (fun _ kk => pw_aload_n 1518 rfl dL_law_1517 rfl kk) ?_
  refine lw_pw (fun _ kk => pw_iload 1520 rfl dL_law_1518 rfl kk) ?_
  refine lw_pw (fun _ kk => pw_iconst (v := nI 1) 1521 rfl dL_law_1520 rfl kk) ?_
  first | refine lw_pw (fun _ kk => pw_iaddN 1522 rfl dL_law_1521 kk) ?_ | refine lw_pw (fun _ kk => pw_iadd 1522 rfl dL_law_1521 kk) ?_
  refine lw_sldN 1523 rfl dL_law_1522 (by omega) (by omega) ?_
  refine lw_call (fun _ kk => pw_callV (as := [_]) 1526 rfl dL_law_1523 mL_228 vX11_again (PC.lift (S' := SL) (o := 0) sl_x (by decide) (xo_again (d := 20) hX _) hgX) (by first | rfl | assumption | exact rowS hh | exact mtS hm | exact ruS hr | exact mtA1 hm | exact mtA2 hm | exact mtA3 hm | exact mtA4 hm | exact mtA5 hm | exact mtA6 hm | exact mtA7 hm | exact ruA1 hr | exact ruA2 hr | exact ruA3 hr) rfl (by decide) ⟨rfl, by decide, by decide, show (parseMethodDescriptor yX11_again.desc).map (fun d => d.parameters.length) = some 1 by decide +kernel⟩ (by omega) (by decide) (Nat.le_of_ble_eq_true rfl) rfl kk) (fun r1523 I1523 J1523 R1523 c1523 => ?_)
  obtain ⟨r1, IA, JA, RA, ⟨rfl, hX', rfl⟩, rfl, hgX', hout⟩ := c1523; have hgM' := agr_out hgM hout (Or.inr (by decide)); show LW _ _ _ _ _ _ _ _ _ _ [.int _] _ _ _ _
  refine lw_pw (fun _ kk => pw_aload_n 1527 rfl dL_law_1526 rfl kk) ?_
  refine lw_pw (fun _ kk => pw_aload_n 1528 rfl dL_law_1527 rfl kk) ?_
  refine lw_pw (fun _ kk => pw_iload 1530 rfl dL_law_1528 rfl kk) ?_
  refine lw_pw (fun _ kk => pw_iconst (v := nI 1) 1531 rfl dL_law_1530 rfl kk) ?_
  first | refine lw_pw (fun _ kk => pw_iaddN 1532 rfl dL_law_1531 kk) ?_ | refine lw_pw (fun _ kk => pw_iadd 1532 rfl dL_law_1531 kk) ?_
  refine lw_sldN 1533 rfl dL_law_1532 (by omega) (by omega) ?_
  refine lw_call (fun _ kk => pw_callV (as := [_]) 1536 rfl dL_law_1533 mL_231 vX12_again (PC.lift (S' := SL) (o := 70) sl_m (by decide) (mo_again (d := 0) hM hD (by omega) hW _) hgM') (by first | rfl | assumption | exact rowS hh | exact mtS hm | exact ruS hr | exact mtA1 hm | exact mtA2 hm | exact mtA3 hm | exact mtA4 hm | exact mtA5 hm | exact mtA6 hm | exact mtA7 hm | exact ruA1 hr | exact ruA2 hr | exact ruA3 hr) rfl (by decide) ⟨rfl, by decide, by decide, show (parseMethodDescriptor yX12_again.desc).map (fun d => d.parameters.length) = some 1 by decide +kernel⟩ (by omega) (by decide) (Nat.le_of_ble_eq_true rfl) rfl kk) (fun r1533 I1533 J1533 R1533 c1533 => ?_)
  obtain ⟨r2, IB, JB, RB, ⟨rfl, hM', hD', rd', rfl⟩, rfl, hgM2, hout2⟩ := c1533; have hgX2 := agr_out hgX' hout2 (Or.inl (by decide)); show LW _ _ _ _ _ _ _ _ _ _ [.int _, .int _] _ _ _ _
  refine lw_pw (fun _ kk => pw_icmp_eq (tgt := 1621) 1539 rfl dL_law_1536 rfl (fun h1536 => kk) (fun h1536 => absurd rfl h1536)) ?_
  rotate_left
  exact k _ _ _ _ _ _ _ (WA_again hW) ⟨⟨_, _, hX', hgX2⟩, _, _, rd', hM', hD', hgM2⟩
set_option maxRecDepth 100000 in
set_option maxHeartbeats 2000000 in
theorem lc_count {B L : Nat} {xs : Nat → Int32} (hL : L ≤ 2560) {s : aSt} {g i : Nat} {I : pI} {J : pJ} {R : pR} {x5 x6 x7 : Option Value} {X : pXt} (hI : LI s g I J R) (hW : WA s) (hg : g ≤ 400000000) (hi : i + 5 ≤ L) (k : ∀ (s' : aSt) (I' : pI) (J' : pJ) (R' : pR) (x5 x6 x7 : Option Value), WA s' → LI s' (g + 10000) I' J' R' → LW B L xs SL yL_law.cls cL_law 8 260 1621 [some (.ref 200), some (.ref 0), some (.ref 70), some (.ref 96), some (.int (nI i)), x5, x6, x7] [] I' J' R' X) : LW B L xs SL yL_law.cls cL_law 8 260 1541 [some (.ref 200), some (.ref 0), some (.ref 70), some (.ref 96), some (.int (nI i)), x5, x6, x7] [] I J R X := by
  obtain ⟨⟨I1, J1, hX, hgX⟩, I2, J2, rd, hM, hD, hgM⟩ := hI
  refine lw_pw (fun _ kk => pw_aload_n 1542 rfl dL_law_1541 rfl kk) ?_
  refine lw_pw (fun _ kk => pw_aload_n 1543 rfl dL_law_1542 rfl kk) ?_
  refine lw_pw (fun _ kk => pw_iload 1545 rfl dL_law_1543 rfl kk) ?_
  refine lw_pw (fun _ kk => pw_iconst (v := nI 1) 1546 rfl dL_law_1545 rfl kk) ?_
  first | refine lw_pw (fun _ kk => pw_iaddN 1547 rfl dL_law_1546 kk) ?_ | refine lw_pw (fun _ kk => pw_iadd 1547 rfl dL_law_1546 kk) ?_
  refine lw_sldN 1548 rfl dL_law_1547 (by omega) (by omega) ?_
  refine lw_call (fun _ kk => pw_callV (as := [_]) 1551 rfl dL_law_1548 mL_232 vX11_count (PC.lift (S' := SL) (o := 0) sl_x (by decide) (xo_count (d := 20) hX hW _) hgX) (by first | rfl | assumption | exact rowS hh | exact mtS hm | exact ruS hr | exact mtA1 hm | exact mtA2 hm | exact mtA3 hm | exact mtA4 hm | exact mtA5 hm | exact mtA6 hm | exact mtA7 hm | exact ruA1 hr | exact ruA2 hr | exact ruA3 hr) rfl (by decide) ⟨rfl, by decide, by decide, show (parseMethodDescriptor yX11_count.desc).map (fun d => d.parameters.length) = some 1 by decide +kernel⟩ (by omega) (by decide) (Nat.le_of_ble_eq_true rfl) rfl kk) (fun r1548 I1548 J1548 R1548 c1548 => ?_)
  obtain ⟨r1, IA, JA, RA, ⟨rfl, hX', rfl⟩, rfl, hgX', hout⟩ := c1548; have hgM' := agr_out hgM hout (Or.inr (by decide)); show LW _ _ _ _ _ _ _ _ _ _ [.int _] _ _ _ _
  refine lw_pw (fun _ kk => pw_aload_n 1552 rfl dL_law_1551 rfl kk) ?_
  refine lw_pw (fun _ kk => pw_aload_n 1553 rfl dL_law_1552 rfl kk) ?_
  refine lw_pw (fun _ kk => pw_iload 1555 rfl dL_law_1553 rfl kk) ?_
  refine lw_pw (fun _ kk => pw_iconst (v := nI 1) 1556 rfl dL_law_1555 rfl kk) ?_
  first | refine lw_pw (fun _ kk => pw_iaddN 1557 rfl dL_law_1556 kk) ?_ | refine lw_pw (fun _ kk => pw_iadd 1557 rfl dL_law_1556 kk) ?_
  refine lw_sldN 1558 rfl dL_law_1557 (by omega) (by omega) ?_
  refine lw_call (fun _ kk => pw_callV (as := [_]) 1561 rfl dL_law_1558 mL_235 vX12_count (PC.lift (S' := SL) (o := 70) sl_m (by decide) (mo_count (d := 0) hM hD (by omega) hW _) hgM') (by first | rfl | assumption | exact rowS hh | exact mtS hm | exact ruS hr | exact mtA1 hm | exact mtA2 hm | exact mtA3 hm | exact mtA4 hm | exact mtA5 hm | exact mtA6 hm | exact mtA7 hm | exact ruA1 hr | exact ruA2 hr | exact ruA3 hr) rfl (by decide) ⟨rfl, by decide, by decide, show (parseMethodDescriptor yX12_count.desc).map (fun d => d.parameters.length) = some 1 by decide +kernel⟩ (by omega) (by decide) (Nat.le_of_ble_eq_true rfl) rfl kk) (fun r1558 I1558 J1558 R1558 c1558 => ?_)
  obtain ⟨r2, IB, JB, RB, ⟨rfl, hM', hD', rd', rfl⟩, rfl, hgM2, hout2⟩ := c1558; have hgX2 := agr_out hgX' hout2 (Or.inl (by decide)); show LW _ _ _ _ _ _ _ _ _ _ [.int _, .int _] _ _ _ _
  refine lw_pw (fun _ kk => pw_icmp_eq (tgt := 1621) 1564 rfl dL_law_1561 rfl (fun h1561 => kk) (fun h1561 => absurd rfl h1561)) ?_
  rotate_left
  exact k _ _ _ _ _ _ _ (hW) ⟨⟨_, _, hX', hgX2⟩, _, _, rd', hM', hD', hgM2⟩
