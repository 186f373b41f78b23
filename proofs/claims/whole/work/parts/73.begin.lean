/-! the law's start, printed by wip/whole/gen_begin.py -/
def piL : List Nat := [0, 1, 2, 3, 4, 5, 6, 7, 8, 9, 10, 11, 12, 13, 14, 15, 16, 17, 18, 19, 20, 21, 22, 35, 38, 39, 23, 24, 25, 26, 27, 28, 29, 30, 31, 32, 33, 34, 36, 37, 40, 49, 50, 41, 42, 43, 44, 45, 46, 47, 48, 51, 52, 53, 54, 55, 56, 57, 58, 59, 60, 61, 62, 63, 64, 65, 66, 67, 68, 69, 70, 71, 72, 73, 74, 75, 76, 77, 78, 79, 80, 81, 82, 83, 84, 85, 86, 87, 88, 89, 90, 91, 92, 93, 94, 95, 96]
def pi (h : Nat) : Nat := piL.getD h h
def lIL : List (Nat × Nat × Int32) := shI 70 lIX12 ++ (shI 0 lIX11 ++ [])
def lRL : List (Nat × Nat × Nat) := shR 70 [] lRX12 ++ (shR 0 [] lRX11 ++ [])
def SB : pS := (((([] ++ [(11, 12)]) ++ tTX11) ++ [(12, 42)]) ++ tTX12) ++ [(101, 1)]
def I0 : pI := fun h => iL lIL (pi h)
def R0 : pR := fun h j => if h < 70 then (RX h j).map (0 + ·) else if h < 96 then (RM none (some 6) (h - 70) j).map (70 + ·) else none
theorem sb_len : SB.length = 97 := by decide +kernel
theorem pi_s : ∀ k, k < 97 → SB[pi k]? = SL[k]? := by decide +kernel
theorem pi_lt : ∀ k, k < 97 → pi k < 97 := by decide +kernel
theorem pi_inj : ∀ i, i < 97 → ∀ j, j < 97 → pi i = pi j → i = j := by decide +kernel
theorem pi_r : ∀ k, k < 97 → ∀ j, j < 50 → rU lRL (pi k) j = (R0 k j).map pi := by decide +kernel
theorem r0_lt : ∀ k, k < 97 → ∀ j, j < 50 → (match R0 k j with
  | none => true
  | some x => decide (x < 97)) = true := by decide +kernel
theorem rU_far {L : List (Nat × Nat × Nat)} {h j : Nat} (hj : 50 ≤ j) (q : L.all (fun e => decide (e.2.1 < 50)) = true) : rU L h j = none := by
  induction L with
  | nil => rfl
  | cons e L ih =>
    simp only [List.all_cons, Bool.and_eq_true, decide_eq_true_eq] at q
    show uR (rU L) e.1 e.2.1 (some e.2.2) h j = none
    rw [uR_at, ih q.2]
    by_cases e1 : h = e.1
    · rw [if_pos e1, if_neg (by omega)]
    · rw [if_neg e1]
theorem rx_far {h j : Nat} (hj : 50 ≤ j) : RX h j = none := by
  have hall : ∀ k, k < 70 → (rxL.getD k []).length < 50 := by decide +kernel
  unfold RX
  have hl : (rxL.getD h []).length < 50 := by
    by_cases hh : h < 70
    · exact hall h hh
    · rw [List.getD_eq_getElem?_getD, List.getElem?_eq_none (by rw [rx_len]; omega)]
      decide
  rw [List.getD_eq_getElem?_getD, List.getElem?_eq_none (by omega)]
  rfl
theorem rm_far {h j : Nat} (hj : 50 ≤ j) : RM none (some 6) h j = none := by
  obtain ⟨k, rfl⟩ : ∃ k, j = k + 50 := ⟨j - 50, by omega⟩
  unfold RM
  by_cases h0 : h = 0
  · rw [if_pos h0]
    split <;> first | rfl | omega
  · rw [if_neg h0]
theorem r0_far {h j : Nat} (hj : 50 ≤ j) : R0 h j = none := by
  unfold R0
  rw [rx_far hj, rm_far hj]
  simp
/-- a world seen by other handles -/
theorem pW_view {S S' : pS} {I I' : pI} {J J' : pJ} {R R' : pR} {ad ad' : Nat → Nat} {ac ac' : Nat → ClassId} {D : va_G} {H : Heap} (f : Nat → Nat) (h : ∀ k, k < S'.length → S'[k]? = S[f k]? ∧ I' k = I (f k) ∧ J' k = J (f k) ∧ ad' k = ad (f k) ∧ ac' k = ac (f k) ∧ ∀ j, (R' k j).map ad' = (R (f k) j).map ad) (hP : va_P D vwCl (pW S I J R ad ac) H) : va_P D vwCl (pW S' I' J' R' ad' ac') H := by
  intro k q hq
  obtain ⟨hk1, -⟩ := pW_at hq
  obtain ⟨sh, hsh⟩ : ∃ sh, S'[k]? = some sh := ⟨_, List.getElem?_eq_getElem hk1⟩
  rw [pW_get hsh] at hq
  cases hq
  obtain ⟨a1, a2, a3, a4, a5, a6⟩ := h k hk1
  have g := hP (f k) _ (pW_get (S := S) (by rw [← a1]; exact hsh))
  have e2 : (fun j => (R' k j).map ad') = (fun j => (R (f k) j).map ad) := funext a6
  have e3 : pFs ad' (I (f k)) (R' k) sh.1 sh.2 = pFs ad (I (f k)) (R (f k)) sh.1 sh.2 := by
    unfold pFs
    refine List.map_congr_left (fun k9 _ => ?_)
    unfold pF
    split <;> first | rfl | (show va_rf _ = va_rf _; rw [a6])
  have e4 : pE ad' (ac (f k)) sh (I (f k)) (J (f k)) (R' k) = pE ad (ac (f k)) sh (I (f k)) (J (f k)) (R (f k)) := by
    unfold pE
    rw [e3, e2]
  rw [a2, a3, a4, a5, e4]
  exact g
def b0 : Nat → Nat := fun k => if k = 28 then 5 else if k = 29 then 7 else 0
def s0 : aSt := (0, fun _ => 0, b0, [], fun _ => none, [], [], [], [], [])
theorem no_get {α : Type} {j : Nat} {x : α} {P : Prop} (h : ([] : List α)[j]? = some x) : P := by simp at h
theorem xa0 : XA I0 (z2 0) s0 := by
  refine ⟨⟨by decide, by decide +kernel, by decide +kernel, by decide +kernel, by decide +kernel, by decide +kernel, by decide +kernel⟩, XE_ru (cs := noC) ⟨by decide +kernel, by decide, fun j c hj => ?_⟩ noC_ev, ⟨by decide +kernel, by decide, fun j x h => no_get h⟩, ⟨by decide +kernel, by decide, fun j x h => no_get h⟩, ⟨0, by decide, by decide +kernel, by decide +kernel, by decide, fun j x h => no_get h⟩, fun i hi => ?_, ⟨by decide +kernel, by decide, fun j x h => no_get h⟩, ⟨by decide +kernel, by decide, fun j x h => no_get h⟩⟩
  · refine ⟨?_, noC_ok c (List.mem_of_getElem? hj)⟩
    rcases j with _ | _ | _ | _ | _ | j
    · cases hj; decide +kernel
    · cases hj; decide +kernel
    · cases hj; decide +kernel
    · cases hj; decide +kernel
    · cases hj; decide +kernel
    · cases hj
  · exact (show ∀ i, i < 2 → I0 24 i = nI 0 by decide +kernel) i hi
theorem ma0 : MA (fun k => I0 (70 + k)) (fun k => z2 0 (70 + k)) s0 := by
  refine ⟨⟨by decide, by decide +kernel, by decide +kernel⟩, (show ∀ k, k < 32 → I0 (70 + 1) k = nI (b0 k) by decide +kernel), ⟨by decide +kernel, by decide, fun j x h => no_get h⟩, ⟨by decide +kernel, by decide, fun j x h => no_get h⟩, ⟨by decide, by decide +kernel, fun j x h => no_get h, rfl⟩, ⟨by decide +kernel, by decide, fun j x h => no_get h⟩, ⟨0, by decide +kernel, Nat.le_refl _, fun i hi => ⟨0, (show ∀ i, i < 2 → I0 (70 + 25) i = nI 0 by decide +kernel) i hi, Nat.le_refl _, Or.inl ((show ∀ i, i < 2 → I0 (70 + 24) i = nI 0 by decide +kernel) i hi)⟩⟩, ⟨by decide +kernel, by decide, fun j x h => no_get h⟩, ⟨by decide +kernel, by decide, fun j x h => no_get h⟩⟩
theorem md0 : MDg 0 (fun k => I0 (70 + k)) := ⟨[], ⟨by decide +kernel, by decide, fun j x _ h => no_get h⟩, Nat.le_refl _⟩
theorem li0 : LI s0 0 I0 (z2 0) R0 := ⟨⟨I0, z2 0, xa0, fun k hk => ⟨by rw [Nat.zero_add], rfl, by
    have hk' : k < 70 := hk
    funext j
    rw [Nat.zero_add]
    unfold R0
    rw [if_pos hk']⟩⟩, _, _, none, ma0, md0, fun k hk => ⟨rfl, rfl, by
    have hk' : k < 26 := hk
    funext j
    unfold R0
    rw [if_neg (by omega), if_pos (by omega), Nat.add_sub_cancel_left]⟩⟩
theorem wa0 : WA s0 := ⟨⟨⟨by decide, by decide, Or.inr rfl, by decide, by decide⟩, fun k _ h2 => (show ∀ k, k < 7 → b0 k = 0 ∧ b0 (7 + k) = 0 ∧ b0 (14 + k) = 0 ∧ b0 (21 + k) = 0 by decide) k h2, by decide⟩, fun u hu => (by cases hu), fun i u h => (by cases h)⟩

theorem qL_8 : Cond.classLink RL 8 RX11 ∈ gt ∧ Cond.instantiable RX11 12 ∈ gt ∧ Cond.initialized RX11 ∈ gt := ⟨gt_at 107 (by decide +kernel) (by decide +kernel), gt_at 108 (by decide +kernel) (by decide +kernel), iX11_init.2.1⟩
theorem qL_20 : Cond.classLink RL 20 RX12 ∈ gt ∧ Cond.instantiable RX12 42 ∈ gt ∧ Cond.initialized RX12 ∈ gt := ⟨gt_at 1340 (by decide +kernel) (by decide +kernel), gt_at 1341 (by decide +kernel) (by decide +kernel), iX12_init.2.1⟩
def bgX : pXa := fun pc locs st S I J R cs sl => pc = 23 ∧ locs = [some (.ref 1000), some (.ref 0), some (.ref 70), some (.ref 96), some (.int (nI 0)), none, none, none] ∧ st = [] ∧ S = SB ∧ I = iL lIL ∧ J = z2 0 ∧ R = rU lRL ∧ cs = 97 ∧ sl = 3206
theorem law_begin : AW 0 RL cL_law 8 260 97 3206 false 0 [some (.ref 1000), none, none, none, none, none, none, none] [] [] (z2 0) (z2 0) (z2 none) 0 0 bgX := by
  refine aw_new 3 rfl dL_law_0 rfl (by decide) qL_8 dfv11 (by decide) (by decide) 0 rfl (by decide) ⟨rfl, rfl⟩ (rU_ne (L := []) rfl) rfl rfl ?_
  refine aw_pw ⟨by decide, by decide⟩ (fun _ kk => pw_dup 4 rfl dL_law_3 rfl kk) ?_
  refine aw_ctorM (o := 0) (hs := []) (rest := [.ref 0]) lIX11 lRX11 [] [] rfl rfl 7 rfl dL_law_4 (Or.inl mL_19) iX11_init n_X11_init ⟨rfl, by decide, by decide, show (parseMethodDescriptor yX11_init.desc).map (fun d => d.parameters.length) = some 0 by decide +kernel⟩ rfl (by decide) (by decide) (Nat.le_of_ble_eq_true rfl) ⟨by decide, by decide⟩ (by decide) rfl rfl rfl rfl (by decide) (by decide +kernel) (by decide +kernel) (by decide +kernel) (by decide +kernel) rfl rfl (by decide) ?_
  refine aw_pw ⟨by decide, by decide⟩ (fun _ kk => pw_astore_n 8 rfl dL_law_7 (by decide) kk) ?_
  refine aw_new 11 rfl dL_law_8 rfl (by decide) qL_20 dfv12 (by decide) (by decide) 70 rfl (by decide) ⟨iL_zero (L := (shI 0 lIX11 ++ [])) (by decide +kernel), rU_zero (L := (shR 0 [] lRX11 ++ [])) (by decide +kernel)⟩ (rU_ne (L := (shR 0 [] lRX11 ++ [])) (by decide +kernel)) rfl rfl ?_
  refine aw_pw ⟨by decide, by decide⟩ (fun _ kk => pw_dup 12 rfl dL_law_11 rfl kk) ?_
  refine aw_ctorM (o := 70) (hs := []) (rest := [.ref 70]) lIX12 lRX12 (shI 0 lIX11 ++ []) (shR 0 [] lRX11 ++ []) rfl rfl 15 rfl dL_law_12 (Or.inl mL_22) iX12_init n_X12_init ⟨rfl, by decide, by decide, show (parseMethodDescriptor yX12_init.desc).map (fun d => d.parameters.length) = some 0 by decide +kernel⟩ rfl (by decide) (by decide) (Nat.le_of_ble_eq_true rfl) ⟨by decide, by decide⟩ (by decide) rfl rfl rfl rfl (by decide) (by decide +kernel) (by decide +kernel) (by decide +kernel) (by decide +kernel) rfl rfl (by decide) ?_
  refine aw_pw ⟨by decide, by decide⟩ (fun _ kk => pw_astore_n 16 rfl dL_law_15 (by decide) kk) ?_
  refine aw_pw ⟨by decide, by decide⟩ (fun _ kk => pw_iconst (v := nI 1) 17 rfl dL_law_16 rfl kk) ?_
  refine aw_newa (k := 101) (N := 1) (ty := .long) 19 rfl dL_law_17 aclJ rfl rfl (by decide) (fun _ => rfl) (by decide) (by decide) (by decide) (by decide) (by decide) 96 rfl (by decide) ⟨iL_zero (L := lIL) (by decide +kernel), rfl⟩ (rU_ne (L := lRL) (by decide +kernel)) rfl rfl ?_
  refine aw_pw ⟨by decide, by decide⟩ (fun _ kk => pw_astore_n 20 rfl dL_law_19 (by decide) kk) ?_
  refine aw_pw ⟨by decide, by decide⟩ (fun _ kk => pw_iconst (v := nI 0) 21 rfl dL_law_20 rfl kk) ?_
  refine aw_pw ⟨by decide, by decide⟩ (fun _ kk => pw_istore 23 rfl dL_law_21 (by decide) kk) ?_
  exact aw_done ⟨rfl, rfl, rfl, rfl, rfl, rfl, rfl, rfl, rfl⟩
