/-! one climber, one number of the ROW: the law's helpers and cases -/
def lxP (o : Option Int64) (s : aSt) (I : pI) (J : pJ) (R : pR) : Option Value → pI → pJ → pR → Prop := fun r I' J' R' => (∃ I1 J1, XA I1 J1 s ∧ agr 0 SX I1 J1 RX I' J' R') ∧ (∀ k, 70 ≤ k → I' k = I k ∧ R' k = R k ∧ (k ≠ 96 → J' k = J k)) ∧ (match o with
  | some x => r = some (.int (nI 0)) ∧ J' 96 0 = x
  | none => r = some (.int (nI 1)))
theorem uJ_row {J : pJ} {h k a : Nat} {v : Int64} (q : a ≠ h) : uJ J h k v a = J a := if_neg q
theorem lxP_some {x : Int64} {s : aSt} {I IA I1 : pI} {J JA J1 : pJ} {R RA : pR} (hX : XA I1 J1 s) (hg : agr 0 SX I1 J1 RX IA JA RA) (hout : ∀ k, ¬ (0 ≤ k ∧ k < 0 + SX.length) → IA k = I k ∧ JA k = J k ∧ RA k = R k) : lxP (some x) s I J R (some (.int (nI 0))) IA (uJ JA 96 0 x) RA := by
  refine ⟨⟨_, _, hX, agr_out hg (o2 := 96) (n2 := 1) (fun k hk => ⟨rfl, uJ_row (by omega), rfl⟩) (Or.inl (by decide))⟩, fun k hk => ?_, rfl, ?_⟩
  · obtain ⟨b1, b2, b3⟩ := hout k (by rw [sx_len]; omega)
    exact ⟨b1, b3, fun h => (uJ_row h).trans b2⟩
  · rw [uJ_at, if_pos rfl, if_pos rfl]
theorem lxP_none {s : aSt} {I I1 : pI} {J J1 : pJ} {R : pR} (hX : XA I1 J1 s) (hg : agr 0 SX I1 J1 RX I J R) : lxP none s I J R (some (.int (nI 1))) I J R := ⟨⟨_, _, hX, hg⟩, fun _ _ => ⟨rfl, rfl, fun _ => rfl⟩, rfl⟩
theorem lk_climber : Cond.static yL_climber ∈ gt ∧ Cond.initialized yL_climber.cls ∈ gt ∧ Cond.codeWith yL_climber cL_climber 5 (some .int) [(0, 10, 13, 13)] ∈ gt := ⟨gt_at 1253 (by decide +kernel) (by decide +kernel), gt_at 86 (by decide +kernel) (by decide +kernel), gt_at 1254 (by decide +kernel) (by decide +kernel)⟩
theorem lk_row : Cond.static yL_row ∈ gt ∧ Cond.initialized yL_row.cls ∈ gt ∧ Cond.codeWith yL_row cL_row 4 (some .int) [(0, 8, 11, 13)] ∈ gt := ⟨gt_at 1329 (by decide +kernel) (by decide +kernel), gt_at 86 (by decide +kernel) (by decide +kernel), gt_at 1330 (by decide +kernel) (by decide +kernel)⟩
theorem lk_ns : Cond.classLink RL 13 nsE ∈ gt := gt_at 1255 (by decide +kernel) (by decide +kernel)
theorem lx_climber {w v : Int32} {s : aSt} {I1 I : pI} {J1 J : pJ} {R : pR} (hX : XA I1 J1 s) (hW : WA s) (hgX : agr 0 SX I1 J1 RX I J R) : LCn 40 yL_climber cL_climber 5 [(0, 10, 13, 13)] [.ref 0, .int w, .int v, .ref 96] I J R (lxP ((clAt w v s).map Int32.toInt64) s I J R) := by
  have hn7 : s.1 ≤ 7 := by obtain ⟨n, pc, b, us, kp, rw, tx, rt, hd, sw⟩ := s; exact hX.1.1
  cases e : clAt w v s with
  | none =>
    refine LCn.thr (pcs := 5) (idx := 7) (as2 := [.int w, .int v]) (rest := [.int (nI 0), .ref 96]) (h := 0) (hp1 := 15) rfl [some (.ref 0), some (.int w), some (.int v), some (.ref 96), none] rfl (Nat.le_of_ble_eq_true rfl) rfl ?_ dL_climber_5 mL_7 vX11_climber (XTh.lift (S' := SL) (o := 0) sl_x (by decide) (xt_climber (d := 20) hX e) hgX) rfl rfl (by decide) ⟨rfl, by decide, by decide, show (parseMethodDescriptor yX11_climber.desc).map (fun d => d.parameters.length) = some 2 by decide +kernel⟩ (by decide) (by decide) (Nat.le_of_ble_eq_true rfl) (by decide) (by decide) lk_ns (Or.inr ⟨4, dL_climber_13, by decide, rfl⟩) ?_
    · refine pw_aload_n 1 rfl dL_climber_0 rfl ?_
      refine pw_iconst (v := nI 0) 2 rfl dL_climber_1 rfl ?_
      refine pw_aload_n 3 rfl dL_climber_2 rfl ?_
      refine pw_iload_n 4 rfl dL_climber_3 rfl ?_
      refine pw_iload_n 5 rfl dL_climber_4 rfl ?_
      rotate_left
      exact pw_done ⟨rfl, rfl, rfl, rfl, rfl⟩
    · refine pw_iconst (v := nI 1) 16 rfl dL_climber_15 rfl ?_
      refine pw_iret dL_climber_16 rfl ?_
      rotate_left
      exact lxP_none hX hgX
  | some x =>
    refine LCn.ret rfl [some (.ref 0), some (.int w), some (.int v), some (.ref 96), none] rfl (Nat.le_of_ble_eq_true rfl) ?_
    rcases qOf_cases hn7 w with ⟨q, hq, rfl, hq1, hq2⟩ | ⟨hq1, hq2⟩
    · rcases inOf_cases (lo := 0) (hi := 5) (by decide) v (by decide) with ⟨k, k1, k2, rfl, hk⟩ | ⟨hk, hk2⟩
      · have e2 : clAt (nI q) (nI k) s = some (clO q k s) := by
          unfold clAt
          rw [hq1, hk]
        rw [e2] at e
        cases e
        refine pw_aload_n 1 rfl dL_climber_0 rfl ?_
        refine pw_iconst (v := nI 0) 2 rfl dL_climber_1 rfl ?_
        refine pw_aload_n 3 rfl dL_climber_2 rfl ?_
        refine pw_iload_n 4 rfl dL_climber_3 rfl ?_
        refine pw_iload_n 5 rfl dL_climber_4 rfl ?_
        refine pw_callV (as := [_, _]) 8 rfl dL_climber_5 mL_7 vX11_climber (PC.lift (S' := SL) (o := 0) sl_x (by decide) (xo_climber (d := 20) hX hW hq k2) hgX) (by first | rfl | assumption | exact rowS hh | exact mtS hm | exact ruS hr | exact mtA1 hm | exact mtA2 hm | exact mtA3 hm | exact mtA4 hm | exact mtA5 hm | exact mtA6 hm | exact mtA7 hm | exact ruA1 hr | exact ruA2 hr | exact ruA3 hr) rfl (by decide) ⟨rfl, by decide, by decide, show (parseMethodDescriptor yX11_climber.desc).map (fun d => d.parameters.length) = some 2 by decide +kernel⟩ (by omega) (by decide) (Nat.le_of_ble_eq_true rfl) rfl (fun r5 I5 J5 R5 c5 => ?_)
        obtain ⟨r1, IA, JA, RA, ⟨rfl, hX', rfl⟩, rfl, hgX', hout⟩ := c5; show PW _ _ _ _ _ _ _ [.int _, .int _, .ref _] _ _ _ _
        refine pw_i2l 9 rfl dL_climber_8 ?_
        refine pw_lastN 10 rfl dL_climber_9 (by first | rfl | assumption | exact rowS hh | exact mtS hm | exact ruS hr | exact mtA1 hm | exact mtA2 hm | exact mtA3 hm | exact mtA4 hm | exact mtA5 hm | exact mtA6 hm | exact mtA7 hm | exact ruA1 hr | exact ruA2 hr | exact ruA3 hr) (by omega) (by first | decide | omega) ?_
        refine pw_goto (tgt := 17) dL_climber_10 rfl ?_
        refine pw_iconst (v := nI 0) 18 rfl dL_climber_17 rfl ?_
        refine pw_iret dL_climber_18 rfl ?_
        rotate_left
        exact lxP_some hX' hgX' hout
      · exfalso
        unfold clAt at e
        rw [hq1, hk] at e
        cases e
    · exfalso
      unfold clAt at e
      rw [hq1] at e
      cases e
theorem lx_row {v : Int32} {s : aSt} {I1 I : pI} {J1 J : pJ} {R : pR} (hX : XA I1 J1 s) (hgX : agr 0 SX I1 J1 RX I J R) : LCn 40 yL_row cL_row 4 [(0, 8, 11, 13)] [.ref 0, .int v, .ref 96] I J R (lxP (rwAt s.2.2.2.2.2.1 v) s I J R) := by
  have h12 : s.2.2.2.2.2.1.length ≤ 12 := by obtain ⟨n, pc, b, us, kp, rw, tx, rt, hd, sw⟩ := s; exact hX.2.2.1.2.1
  cases e : rwAt s.2.2.2.2.2.1 v with
  | none =>
    refine LCn.thr (pcs := 4) (idx := 15) (as2 := [.int v]) (rest := [.int (nI 0), .ref 96]) (h := 0) (hp1 := 12) rfl [some (.ref 0), some (.int v), some (.ref 96), none] rfl (Nat.le_of_ble_eq_true rfl) rfl ?_ dL_row_4 mL_15 vX11_row (XTh.lift (S' := SL) (o := 0) sl_x (by decide) (xt_row (d := 20) hX e) hgX) rfl rfl (by decide) ⟨rfl, by decide, by decide, show (parseMethodDescriptor yX11_row.desc).map (fun d => d.parameters.length) = some 1 by decide +kernel⟩ (by decide) (by decide) (Nat.le_of_ble_eq_true rfl) (by decide) (by decide) lk_ns (Or.inl ⟨3, dL_row_11, by decide, rfl⟩) ?_
    · refine pw_aload_n 1 rfl dL_row_0 rfl ?_
      refine pw_iconst (v := nI 0) 2 rfl dL_row_1 rfl ?_
      refine pw_aload_n 3 rfl dL_row_2 rfl ?_
      refine pw_iload_n 4 rfl dL_row_3 rfl ?_
      rotate_left
      exact pw_done ⟨rfl, rfl, rfl, rfl, rfl⟩
    · refine pw_iconst (v := nI 1) 13 rfl dL_row_12 rfl ?_
      refine pw_iret dL_row_13 rfl ?_
      rotate_left
      exact lxP_none hX hgX
  | some x =>
    refine LCn.ret rfl [some (.ref 0), some (.int v), some (.ref 96), none] rfl (Nat.le_of_ble_eq_true rfl) ?_
    have hv : 0 ≤ v ∧ v < nI s.2.2.2.2.2.1.length := by
      apply Classical.byContradiction
      intro hc
      unfold rwAt at e
      rw [if_neg hc] at e
      cases e
    have e2 : s.2.2.2.2.2.1[v.toNatClampNeg]? = some x := by
      unfold rwAt at e
      rw [if_pos hv] at e
      exact e
    obtain ⟨j, hj, rfl⟩ := nI_of (show ¬ v < 0 by
      intro z
      have := hv.1
      rw [Int32.lt_iff_toInt_lt] at z
      rw [Int32.le_iff_toInt_le] at this
      omega)
    rw [nI_clamp hj] at e2
    refine pw_aload_n 1 rfl dL_row_0 rfl ?_
    refine pw_iconst (v := nI 0) 2 rfl dL_row_1 rfl ?_
    refine pw_aload_n 3 rfl dL_row_2 rfl ?_
    refine pw_iload_n 4 rfl dL_row_3 rfl ?_
    refine pw_callV (as := [_]) 7 rfl dL_row_4 mL_15 vX11_row (PC.lift (S' := SL) (o := 0) sl_x (by decide) (xo_row (d := 20) hX e2) hgX) (by first | rfl | assumption | exact rowS hh | exact mtS hm | exact ruS hr | exact mtA1 hm | exact mtA2 hm | exact mtA3 hm | exact mtA4 hm | exact mtA5 hm | exact mtA6 hm | exact mtA7 hm | exact ruA1 hr | exact ruA2 hr | exact ruA3 hr) rfl (by decide) ⟨rfl, by decide, by decide, show (parseMethodDescriptor yX11_row.desc).map (fun d => d.parameters.length) = some 1 by decide +kernel⟩ (by omega) (by decide) (Nat.le_of_ble_eq_true rfl) rfl (fun r4 I4 J4 R4 c4 => ?_)
    obtain ⟨r1, IA, JA, RA, ⟨rfl, hX', rfl⟩, rfl, hgX', hout⟩ := c4; show PW _ _ _ _ _ _ _ [.long _, .int _, .ref _] _ _ _ _
    refine pw_lastN 8 rfl dL_row_7 (by first | rfl | assumption | exact rowS hh | exact mtS hm | exact ruS hr | exact mtA1 hm | exact mtA2 hm | exact mtA3 hm | exact mtA4 hm | exact mtA5 hm | exact mtA6 hm | exact mtA7 hm | exact ruA1 hr | exact ruA2 hr | exact ruA3 hr) (by omega) (by first | decide | omega) ?_
    refine pw_goto (tgt := 14) dL_row_8 rfl ?_
    refine pw_iconst (v := nI 0) 15 rfl dL_row_14 rfl ?_
    refine pw_iret dL_row_15 rfl ?_
    rotate_left
    exact lxP_some hX' hgX' hout
