/-! the law's loop -/
theorem lw_mono {B L : Nat} {xs : Nat → Int32} {S : pS} {own : String} {cc : ByteArray} {nL d pc : Nat} {locs : pLc} {st : List Value} {I : pI} {J : pJ} {R : pR} {X : pXt} (h : LW B L xs S own cc nL d pc locs st I J R X) : LW (B + 1) L xs S own cc nL d pc locs st I J R X :=
  fun l D ad ac p e Rm s m args below meth c A cs sl hc hB hs Qs hX H lcs ls hr hl => h l D ad ac p e Rm s m args below meth c A cs sl hc ⟨by omega, by omega⟩ hs Qs hX H lcs ls hr hl
theorem and63 (x : Int32) : ∃ j, j < 64 ∧ x &&& nI 63 = nI j := by
  refine ⟨(x.toBitVec &&& 63#32).toNat, ?_, ?_⟩
  · rw [BitVec.toNat_and]
    have : x.toBitVec.toNat &&& (63#32).toNat ≤ (63#32).toNat := Nat.and_le_right
    have e : (63#32).toNat = 63 := rfl
    omega
  · apply Int32.toBitVec_inj.mp
    rw [Int32.toBitVec_and]
    show x.toBitVec &&& 63#32 = BitVec.ofNat 32 _
    rw [BitVec.ofNat_toNat]
    simp
theorem lw_more {i L : Nat} (hi : i < 100000) (hL : L ≤ 2560) : (nI L - nI 5 < nI i) ↔ L < i + 5 := by
  rw [Int32.lt_iff_toInt_lt, Int32.toInt_sub, nI_toInt (by omega), nI_toInt (by omega), nI_toInt (by omega)]
  rw [show Int.bmod ((L : Int) - ((5 : Nat) : Int)) (2 ^ 32) = (L : Int) - 5 from by rw [Int.bmod_def]; split <;> omega]
  omega
theorem LI_mono {s : aSt} {g : Nat} {I : pI} {J : pJ} {R : pR} (h : LI s g I J R) : LI s (g + 10000) I J R := by
  obtain ⟨h1, I2, J2, rd, hM, ⟨dl, d1, d2⟩, hg⟩ := h
  exact ⟨h1, I2, J2, rd, hM, ⟨dl, d1, by omega⟩, hg⟩
def lwX : pXt := fun pc _ st _ _ _ => pc = 1628 ∧ st = [.int (nI 1)]
set_option maxRecDepth 100000 in
set_option maxHeartbeats 4000000 in
theorem lw_loop {L : Nat} {xs : Nat → Int32} (hL : L ≤ 2560) : ∀ (r : Nat) (s : aSt) (g i : Nat) (I : pI) (J : pJ) (R : pR) (x5 x6 x7 : Option Value), LI s g I J R → WA s → i ≤ 2565 → L ≤ i + 5 * r + 4 → g + 10000 * r ≤ 400000000 → LW r L xs SL yL_law.cls cL_law 8 260 23 [some (.ref 200), some (.ref 0), some (.ref 70), some (.ref 96), some (.int (nI i)), x5, x6, x7] [] I J R lwX
  | 0, s, g, i, I, J, R, x5, x6, x7, hI, hW, hi, hr, hg => by
    refine lw_pw (fun _ kk => pw_iload 25 rfl dL_law_23 rfl kk) ?_
    refine lw_pw (fun _ kk => pw_aload_n 26 rfl dL_law_25 rfl kk) ?_
    refine lw_slen 27 rfl dL_law_26 ?_
    refine lw_pw (fun _ kk => pw_iconst (v := nI 5) 28 rfl dL_law_27 rfl kk) ?_
    refine lw_pw (fun _ kk => pw_isub 29 rfl dL_law_28 kk) ?_
    refine lw_pw (fun _ kk => pw_icmp_gt (tgt := 1627) 32 rfl dL_law_29 rfl (fun h29 => kk) (fun h29 => absurd ((lw_more (by omega) hL).mpr (by omega)) h29)) ?_
    refine lw_pw (fun _ kk => pw_iconst (v := nI 1) 1628 rfl dL_law_1627 rfl kk) ?_
    rotate_left
    exact lw_done ⟨rfl, rfl⟩
  | r + 1, s, g, i, I, J, R, x5, x6, x7, hI, hW, hi, hr, hg => by
    by_cases hmore : L < i + 5
    · refine lw_pw (fun _ kk => pw_iload 25 rfl dL_law_23 rfl kk) ?_
      refine lw_pw (fun _ kk => pw_aload_n 26 rfl dL_law_25 rfl kk) ?_
      refine lw_slen 27 rfl dL_law_26 ?_
      refine lw_pw (fun _ kk => pw_iconst (v := nI 5) 28 rfl dL_law_27 rfl kk) ?_
      refine lw_pw (fun _ kk => pw_isub 29 rfl dL_law_28 kk) ?_
      refine lw_pw (fun _ kk => pw_icmp_gt (tgt := 1627) 32 rfl dL_law_29 rfl (fun h29 => kk) (fun h29 => absurd ((lw_more (by omega) hL).mpr (by omega)) h29)) ?_
      refine lw_pw (fun _ kk => pw_iconst (v := nI 1) 1628 rfl dL_law_1627 rfl kk) ?_
      rotate_left
      exact lw_done ⟨rfl, rfl⟩
    · have hi5 : i + 5 ≤ L := by omega
      have kk : ∀ (s' : aSt) (I' : pI) (J' : pJ) (R' : pR) (x5 x6 x7 : Option Value), WA s' → LI s' (g + 10000) I' J' R' → LW r L xs SL yL_law.cls cL_law 8 260 1621 [some (.ref 200), some (.ref 0), some (.ref 70), some (.ref 96), some (.int (nI i)), x5, x6, x7] [] I' J' R' lwX := by
        intro s' I' J' R' x5 x6 x7 hW' hI'
        refine lw_pw (fun _ kk => pw_iincK (c := 5) (k := i) 1624 rfl dL_law_1621 (by decide) rfl rfl kk) ?_
        refine lw_pw (fun _ kk => pw_goto (tgt := 23) dL_law_1624 rfl kk) ?_
        exact lw_loop hL r s' (g + 10000) (i + 5) I' J' R' x5 x6 x7 hI' hW' (by omega) (by omega) (by omega)
      refine lw_pw (fun _ kk => pw_iload 25 rfl dL_law_23 rfl kk) ?_
      refine lw_pw (fun _ kk => pw_aload_n 26 rfl dL_law_25 rfl kk) ?_
      refine lw_slen 27 rfl dL_law_26 ?_
      refine lw_pw (fun _ kk => pw_iconst (v := nI 5) 28 rfl dL_law_27 rfl kk) ?_
      refine lw_pw (fun _ kk => pw_isub 29 rfl dL_law_28 kk) ?_
      refine lw_pw (fun _ kk => pw_icmp_gt (tgt := 1627) 32 rfl dL_law_29 rfl (fun h29 => absurd h29 (fun z => hmore ((lw_more (by omega) hL).mp z))) (fun h29 => kk)) ?_
      refine lw_pw (fun _ kk => pw_aload_n 33 rfl dL_law_32 rfl kk) ?_
      refine lw_pw (fun _ kk => pw_iload 35 rfl dL_law_33 rfl kk) ?_
      refine lw_sldN 36 rfl dL_law_35 (by omega) (by omega) ?_
      refine lw_pw (fun _ kk => pw_bipush (v := nI 63) 38 rfl dL_law_36 rfl kk) ?_
      refine lw_pw (fun _ kk => pw_iand 39 rfl dL_law_38 kk) ?_
      rotate_left
      obtain ⟨j, hj, hje⟩ := and63 (xs i)
      rw [hje]
      by_cases hj2 : 51 < j
      · refine lw_pw (fun _ kk => pw_tableOut (tgt := 1621) dL_law_39 (Or.inr (by rw [nI_toInt (by omega)]; omega)) rfl kk) ?_
        exact lw_mono (kk s I J R x5 x6 x7 hW (LI_mono hI))
      · have hj3 : j < 52 := by omega
        match j, hj3 with
        | 0, _ =>
          refine lw_pw (fun _ kk => pw_tableIn (tgt := 260) dL_law_39 (by decide) (by decide) rfl rfl kk) ?_
          exact lw_mono (lc_sign hL hI hW (by omega) hi5 kk)
        | 1, _ =>
          refine lw_pw (fun _ kk => pw_tableIn (tgt := 285) dL_law_39 (by decide) (by decide) rfl rfl kk) ?_
          exact lw_mono (lc_end hL hI hW (by omega) hi5 kk)
        | 2, _ =>
          refine lw_pw (fun _ kk => pw_tableIn (tgt := 310) dL_law_39 (by decide) (by decide) rfl rfl kk) ?_
          exact lw_mono (lc_climbers hL hI hW (by omega) hi5 kk)
        | 3, _ =>
          refine lw_pw (fun _ kk => pw_tableIn (tgt := 323) dL_law_39 (by decide) (by decide) rfl rfl kk) ?_
          exact lw_mono (lc_rule hL hI hW (by omega) hi5 kk)
        | 4, _ =>
          refine lw_pw (fun _ kk => pw_tableIn (tgt := 336) dL_law_39 (by decide) (by decide) rfl rfl kk) ?_
          exact lw_mono (lc_top hL hI hW (by omega) hi5 kk)
        | 5, _ =>
          refine lw_pw (fun _ kk => pw_tableIn (tgt := 361) dL_law_39 (by decide) (by decide) rfl rfl kk) ?_
          exact lc_climber hL hI hW hi5 kk
        | 6, _ =>
          refine lw_pw (fun _ kk => pw_tableIn (tgt := 429) dL_law_39 (by decide) (by decide) rfl rfl kk) ?_
          exact lw_mono (lc_sheet hL hI hW (by omega) hi5 kk)
        | 7, _ =>
          refine lw_pw (fun _ kk => pw_tableIn (tgt := 490) dL_law_39 (by decide) (by decide) rfl rfl kk) ?_
          exact lw_mono (lc_hours hL hI hW (by omega) hi5 kk)
        | 8, _ =>
          refine lw_pw (fun _ kk => pw_tableIn (tgt := 515) dL_law_39 (by decide) (by decide) rfl rfl kk) ?_
          exact lw_mono (lc_starts hL hI hW (by omega) hi5 kk)
        | 9, _ =>
          refine lw_pw (fun _ kk => pw_tableIn (tgt := 540) dL_law_39 (by decide) (by decide) rfl rfl kk) ?_
          exact lw_mono (lc_backs hL hI hW (by omega) hi5 kk)
        | 10, _ =>
          refine lw_pw (fun _ kk => pw_tableIn (tgt := 565) dL_law_39 (by decide) (by decide) rfl rfl kk) ?_
          exact lw_mono (lc_waits hL hI hW (by omega) hi5 kk)
        | 11, _ =>
          refine lw_pw (fun _ kk => pw_tableIn (tgt := 602) dL_law_39 (by decide) (by decide) rfl rfl kk) ?_
          exact lw_mono (lc_slips hL hI hW (by omega) hi5 kk)
        | 12, _ =>
          refine lw_pw (fun _ kk => pw_tableIn (tgt := 639) dL_law_39 (by decide) (by decide) rfl rfl kk) ?_
          exact lw_mono (lc_day hL hI hW (by omega) hi5 kk)
        | 13, _ =>
          refine lw_pw (fun _ kk => pw_tableIn (tgt := 652) dL_law_39 (by decide) (by decide) rfl rfl kk) ?_
          exact lw_mono (lc_undo hL hI hW (by omega) hi5 kk)
        | 14, _ =>
          refine lw_pw (fun _ kk => pw_tableIn (tgt := 665) dL_law_39 (by decide) (by decide) rfl rfl kk) ?_
          exact lw_mono (lc_later hL hI hW (by omega) hi5 kk)
        | 15, _ =>
          refine lw_pw (fun _ kk => pw_tableIn (tgt := 690) dL_law_39 (by decide) (by decide) rfl rfl kk) ?_
          exact lw_mono (lc_when hL hI hW (by omega) hi5 kk)
        | 16, _ =>
          refine lw_pw (fun _ kk => pw_tableIn (tgt := 715) dL_law_39 (by decide) (by decide) rfl rfl kk) ?_
          exact lw_mono (lc_shares hL hI hW (by omega) hi5 kk)
        | 17, _ =>
          refine lw_pw (fun _ kk => pw_tableIn (tgt := 740) dL_law_39 (by decide) (by decide) rfl rfl kk) ?_
          exact lw_mono (lc_order hL hI hW (by omega) hi5 kk)
        | 18, _ =>
          refine lw_pw (fun _ kk => pw_tableIn (tgt := 765) dL_law_39 (by decide) (by decide) rfl rfl kk) ?_
          exact lw_mono (lc_empty hL hI hW (by omega) hi5 kk)
        | 19, _ =>
          refine lw_pw (fun _ kk => pw_tableIn (tgt := 778) dL_law_39 (by decide) (by decide) rfl rfl kk) ?_
          exact lw_mono (lc_high hL hI hW (by omega) hi5 kk)
        | 20, _ =>
          refine lw_pw (fun _ kk => pw_tableIn (tgt := 815) dL_law_39 (by decide) (by decide) rfl rfl kk) ?_
          exact lw_mono (lc_comes hL hI hW (by omega) hi5 kk)
        | 21, _ =>
          refine lw_pw (fun _ kk => pw_tableIn (tgt := 840) dL_law_39 (by decide) (by decide) rfl rfl kk) ?_
          exact lw_mono (lc_crowd hL hI hW (by omega) hi5 kk)
        | 22, _ =>
          refine lw_pw (fun _ kk => pw_tableIn (tgt := 865) dL_law_39 (by decide) (by decide) rfl rfl kk) ?_
          exact lw_mono (lc_changes hL hI hW (by omega) hi5 kk)
        | 23, _ =>
          refine lw_pw (fun _ kk => pw_tableIn (tgt := 890) dL_law_39 (by decide) (by decide) rfl rfl kk) ?_
          exact lw_mono (lc_ways hL hI hW (by omega) hi5 kk)
        | 24, _ =>
          refine lw_pw (fun _ kk => pw_tableIn (tgt := 915) dL_law_39 (by decide) (by decide) rfl rfl kk) ?_
          exact lw_mono (lc_peaks hL hI hW (by omega) hi5 kk)
        | 25, _ =>
          refine lw_pw (fun _ kk => pw_tableIn (tgt := 952) dL_law_39 (by decide) (by decide) rfl rfl kk) ?_
          exact lw_mono (lc_bides hL hI hW (by omega) hi5 kk)
        | 26, _ =>
          refine lw_pw (fun _ kk => pw_tableIn (tgt := 989) dL_law_39 (by decide) (by decide) rfl rfl kk) ?_
          exact lw_mono (lc_rivals hL hI hW (by omega) hi5 kk)
        | 27, _ =>
          refine lw_pw (fun _ kk => pw_tableIn (tgt := 1026) dL_law_39 (by decide) (by decide) rfl rfl kk) ?_
          exact lw_mono (lc_goes hL hI hW (by omega) hi5 kk)
        | 28, _ =>
          refine lw_pw (fun _ kk => pw_tableIn (tgt := 1051) dL_law_39 (by decide) (by decide) rfl rfl kk) ?_
          exact lw_mono (lc_ousts hL hI hW (by omega) hi5 kk)
        | 29, _ =>
          refine lw_pw (fun _ kk => pw_tableIn (tgt := 1088) dL_law_39 (by decide) (by decide) rfl rfl kk) ?_
          exact lw_mono (lc_lawyers hL hI hW (by omega) hi5 kk)
        | 30, _ =>
          refine lw_pw (fun _ kk => pw_tableIn (tgt := 1113) dL_law_39 (by decide) (by decide) rfl rfl kk) ?_
          exact lw_mono (lc_rope hL hI hW (by omega) hi5 kk)
        | 31, _ =>
          refine lw_pw (fun _ kk => pw_tableIn (tgt := 1126) dL_law_39 (by decide) (by decide) rfl rfl kk) ?_
          exact lw_mono (lc_line hL hI hW (by omega) hi5 kk)
        | 32, _ =>
          refine lw_pw (fun _ kk => pw_tableIn (tgt := 1139) dL_law_39 (by decide) (by decide) rfl rfl kk) ?_
          exact lw_mono (lc_nearest hL hI hW (by omega) hi5 kk)
        | 33, _ =>
          refine lw_pw (fun _ kk => pw_tableIn (tgt := 1152) dL_law_39 (by decide) (by decide) rfl rfl kk) ?_
          exact lw_mono (lc_stones hL hI hW (by omega) hi5 kk)
        | 34, _ =>
          refine lw_pw (fun _ kk => pw_tableIn (tgt := 1177) dL_law_39 (by decide) (by decide) rfl rfl kk) ?_
          exact lw_mono (lc_parties hL hI hW (by omega) hi5 kk)
        | 35, _ =>
          refine lw_pw (fun _ kk => pw_tableIn (tgt := 1190) dL_law_39 (by decide) (by decide) rfl rfl kk) ?_
          exact lw_mono (lc_heard hL hI hW (by omega) hi5 kk)
        | 36, _ =>
          refine lw_pw (fun _ kk => pw_tableIn (tgt := 1227) dL_law_39 (by decide) (by decide) rfl rfl kk) ?_
          exact lw_mono (lc_forget hL hI hW (by omega) hi5 kk)
        | 37, _ =>
          refine lw_pw (fun _ kk => pw_tableIn (tgt := 1240) dL_law_39 (by decide) (by decide) rfl rfl kk) ?_
          exact lw_mono (lc_fits hL hI hW (by omega) hi5 kk)
        | 38, _ =>
          refine lw_pw (fun _ kk => pw_tableIn (tgt := 1253) dL_law_39 (by decide) (by decide) rfl rfl kk) ?_
          exact lw_mono (lc_asks hL hI hW (by omega) hi5 kk)
        | 39, _ =>
          refine lw_pw (fun _ kk => pw_tableIn (tgt := 1266) dL_law_39 (by decide) (by decide) rfl rfl kk) ?_
          exact lw_mono (lc_saw hL hI hW (by omega) hi5 kk)
        | 40, _ =>
          refine lw_pw (fun _ kk => pw_tableIn (tgt := 1303) dL_law_39 (by decide) (by decide) rfl rfl kk) ?_
          exact lw_mono (lc_denies hL hI hW (by omega) hi5 kk)
        | 41, _ =>
          refine lw_pw (fun _ kk => pw_tableIn (tgt := 1316) dL_law_39 (by decide) (by decide) rfl rfl kk) ?_
          exact lw_mono (lc_laws hL hI hW (by omega) hi5 kk)
        | 42, _ =>
          refine lw_pw (fun _ kk => pw_tableIn (tgt := 1329) dL_law_39 (by decide) (by decide) rfl rfl kk) ?_
          exact lw_mono (lc_looks hL hI hW (by omega) hi5 kk)
        | 43, _ =>
          refine lw_pw (fun _ kk => pw_tableIn (tgt := 1342) dL_law_39 (by decide) (by decide) rfl rfl kk) ?_
          exact lw_mono (lc_strays hL hI hW (by omega) hi5 kk)
        | 44, _ =>
          refine lw_pw (fun _ kk => pw_tableIn (tgt := 1379) dL_law_39 (by decide) (by decide) rfl rfl kk) ?_
          exact lw_mono (lc_bend hL hI hW (by omega) hi5 kk)
        | 45, _ =>
          refine lw_pw (fun _ kk => pw_tableIn (tgt := 1416) dL_law_39 (by decide) (by decide) rfl rfl kk) ?_
          exact lw_mono (lc_rests hL hI hW (by omega) hi5 kk)
        | 46, _ =>
          refine lw_pw (fun _ kk => pw_tableIn (tgt := 1441) dL_law_39 (by decide) (by decide) rfl rfl kk) ?_
          exact lw_mono (lc_law hL hI hW (by omega) hi5 kk)
        | 47, _ =>
          refine lw_pw (fun _ kk => pw_tableIn (tgt := 1454) dL_law_39 (by decide) (by decide) rfl rfl kk) ?_
          exact lw_mono (lc_years hL hI hW (by omega) hi5 kk)
        | 48, _ =>
          refine lw_pw (fun _ kk => pw_tableIn (tgt := 1491) dL_law_39 (by decide) (by decide) rfl rfl kk) ?_
          exact lw_mono (lc_keep hL hI hW (by omega) hi5 kk)
        | 49, _ =>
          refine lw_pw (fun _ kk => pw_tableIn (tgt := 1516) dL_law_39 (by decide) (by decide) rfl rfl kk) ?_
          exact lw_mono (lc_again hL hI hW (by omega) hi5 kk)
        | 50, _ =>
          refine lw_pw (fun _ kk => pw_tableIn (tgt := 1541) dL_law_39 (by decide) (by decide) rfl rfl kk) ?_
          exact lw_mono (lc_count hL hI hW (by omega) hi5 kk)
        | 51, _ =>
          refine lw_pw (fun _ kk => pw_tableIn (tgt := 1566) dL_law_39 (by decide) (by decide) rfl rfl kk) ?_
          exact lc_row hL hI hW hi5 kk
        | j + 52, h => omega
