/-! constructors, printed by wip/whole/gen_init.py -/
section ACALL
variable {n0 : Nat} {own : String} {cc : ByteArray} {nL d cM sM : Nat} {ini : Bool} {pc : Nat} {locs : pLc} {st : List Value} {S : pS} {I : pI} {J : pJ} {R : pR} {cs sl : Nat} {X : pXa}
theorem aw_call {pc' : Nat} {rest : List Value} {Ps : Option Value → pI → pJ → pR → Prop} (hcs : cs ≤ cM ∧ sl ≤ sM) (h : ∀ Y : pXt, (∀ (r : Option Value) (I' : pI) (J' : pJ) (R' : pR), Ps r I' J' R' → PW S own cc nL d pc' locs (r.toList ++ rest) I' J' R' Y) → PW S own cc nL d pc locs st I J R Y) (k : ∀ (r : Option Value) (I' : pI) (J' : pJ) (R' : pR), Ps r I' J' R' → AW n0 own cc nL d cM sM ini pc' locs (r.toList ++ rest) S I' J' R' cs sl X) : AW n0 own cc nL d cM sM ini pc locs st S I J R cs sl X :=
  fun l D ad0 p e Rm s m args below meth c A hc Qs hX ad ac H lcs ls hr hl => h (fun a1 a2 a3 a4 a5 a6 => ∃ r, Ps r a4 a5 a6 ∧ a1 = pc' ∧ a2 = locs ∧ a3 = r.toList ++ rest) (fun r I' J' R' hp => pw_done ⟨r, hp, rfl, rfl, rfl⟩) l D ad ac p e Rm s m args below meth c A cs sl ⟨hc.1, hc.2.1, hr.2.2.1, ⟨hc.2.2.2.1.1, hc.2.2.2.1.2.1, by have := hc.2.2.2.1.2.2; omega, by have := hc.2.2.2.1.2.2; omega⟩, hc.2.2.2.2.1, hr.2.2.2.1⟩ Qs (fun a1 a2 a3 a4 a5 a6 H' lcs' ls' hx hr' hl' => by
    obtain ⟨r, hp, rfl, rfl, rfl⟩ := hx
    exact k r a4 a5 a6 hp l D ad0 p e Rm s m args below meth c A hc Qs hX ad ac H' lcs' ls' ⟨hr'.1, hr'.2, hr.2.2⟩ hl') H lcs ls ⟨hr.1, hr.2.1⟩ hl
end ACALL
theorem aclI : Cond.arrayClass .int ∈ gt := gt_at 201 (by decide +kernel) (by decide +kernel)
theorem aclJ : Cond.arrayClass .long ∈ gt := gt_at 278 (by decide +kernel) (by decide +kernel)
theorem aclZ : Cond.arrayClass .boolean ∈ gt := gt_at 307 (by decide +kernel) (by decide +kernel)
theorem aclB : Cond.arrayClass .byte ∈ gt := gt_at 1325 (by decide +kernel) (by decide +kernel)
theorem obI : Cond.instanceMethod objectInit ∈ gt ∧ Cond.code objectInit ⟨#[0xb1]⟩ 1 none ∈ gt := ⟨gt_at 113 (by decide +kernel) (by decide +kernel), gt_at 114 (by decide +kernel) (by decide +kernel)⟩
theorem dfv1 : ∀ j, j < 13 → defaultValue (pTy 1 j) = pF (fun _ => 0) (fun _ => 0) (fun _ => none) (pTy 1 j) j
  | 0, _ => rfl
  | 1, _ => rfl
  | 2, _ => rfl
  | 3, _ => rfl
  | 4, _ => rfl
  | 5, _ => rfl
  | 6, _ => rfl
  | 7, _ => rfl
  | 8, _ => rfl
  | 9, _ => rfl
  | 10, _ => rfl
  | 11, _ => rfl
  | 12, _ => rfl
  | k + 13, h => by omega
theorem dfv6 : ∀ j, j < 9 → defaultValue (pTy 6 j) = pF (fun _ => 0) (fun _ => 0) (fun _ => none) (pTy 6 j) j
  | 0, _ => rfl
  | 1, _ => rfl
  | 2, _ => rfl
  | 3, _ => rfl
  | 4, _ => rfl
  | 5, _ => rfl
  | 6, _ => rfl
  | 7, _ => rfl
  | 8, _ => rfl
  | k + 9, h => by omega
theorem dfv10 : ∀ j, j < 2 → defaultValue (pTy 10 j) = pF (fun _ => 0) (fun _ => 0) (fun _ => none) (pTy 10 j) j
  | 0, _ => rfl
  | 1, _ => rfl
  | k + 2, h => by omega
theorem dfv2 : ∀ j, j < 2 → defaultValue (pTy 2 j) = pF (fun _ => 0) (fun _ => 0) (fun _ => none) (pTy 2 j) j
  | 0, _ => rfl
  | 1, _ => rfl
  | k + 2, h => by omega
theorem dfv4 : ∀ j, j < 6 → defaultValue (pTy 4 j) = pF (fun _ => 0) (fun _ => 0) (fun _ => none) (pTy 4 j) j
  | 0, _ => rfl
  | 1, _ => rfl
  | 2, _ => rfl
  | 3, _ => rfl
  | 4, _ => rfl
  | 5, _ => rfl
  | k + 6, h => by omega
theorem dfv3 : ∀ j, j < 6 → defaultValue (pTy 3 j) = pF (fun _ => 0) (fun _ => 0) (fun _ => none) (pTy 3 j) j
  | 0, _ => rfl
  | 1, _ => rfl
  | 2, _ => rfl
  | 3, _ => rfl
  | 4, _ => rfl
  | 5, _ => rfl
  | k + 6, h => by omega
theorem dfv5 : ∀ j, j < 5 → defaultValue (pTy 5 j) = pF (fun _ => 0) (fun _ => 0) (fun _ => none) (pTy 5 j) j
  | 0, _ => rfl
  | 1, _ => rfl
  | 2, _ => rfl
  | 3, _ => rfl
  | 4, _ => rfl
  | k + 5, h => by omega
theorem dfv9 : ∀ j, j < 3 → defaultValue (pTy 9 j) = pF (fun _ => 0) (fun _ => 0) (fun _ => none) (pTy 9 j) j
  | 0, _ => rfl
  | 1, _ => rfl
  | 2, _ => rfl
  | k + 3, h => by omega
theorem dfv7 : ∀ j, j < 4 → defaultValue (pTy 7 j) = pF (fun _ => 0) (fun _ => 0) (fun _ => none) (pTy 7 j) j
  | 0, _ => rfl
  | 1, _ => rfl
  | 2, _ => rfl
  | 3, _ => rfl
  | k + 4, h => by omega
theorem dfv8 : ∀ j, j < 8 → defaultValue (pTy 8 j) = pF (fun _ => 0) (fun _ => 0) (fun _ => none) (pTy 8 j) j
  | 0, _ => rfl
  | 1, _ => rfl
  | 2, _ => rfl
  | 3, _ => rfl
  | 4, _ => rfl
  | 5, _ => rfl
  | 6, _ => rfl
  | 7, _ => rfl
  | k + 8, h => by omega
theorem dfv0 : ∀ j, j < 3 → defaultValue (pTy 0 j) = pF (fun _ => 0) (fun _ => 0) (fun _ => none) (pTy 0 j) j
  | 0, _ => rfl
  | 1, _ => rfl
  | 2, _ => rfl
  | k + 3, h => by omega
theorem dfv11 : ∀ j, j < 12 → defaultValue (pTy 11 j) = pF (fun _ => 0) (fun _ => 0) (fun _ => none) (pTy 11 j) j
  | 0, _ => rfl
  | 1, _ => rfl
  | 2, _ => rfl
  | 3, _ => rfl
  | 4, _ => rfl
  | 5, _ => rfl
  | 6, _ => rfl
  | 7, _ => rfl
  | 8, _ => rfl
  | 9, _ => rfl
  | 10, _ => rfl
  | 11, _ => rfl
  | k + 12, h => by omega
theorem dfv12 : ∀ j, j < 42 → defaultValue (pTy 12 j) = pF (fun _ => 0) (fun _ => 0) (fun _ => none) (pTy 12 j) j
  | 0, _ => rfl
  | 1, _ => rfl
  | 2, _ => rfl
  | 3, _ => rfl
  | 4, _ => rfl
  | 5, _ => rfl
  | 6, _ => rfl
  | 7, _ => rfl
  | 8, _ => rfl
  | 9, _ => rfl
  | 10, _ => rfl
  | 11, _ => rfl
  | 12, _ => rfl
  | 13, _ => rfl
  | 14, _ => rfl
  | 15, _ => rfl
  | 16, _ => rfl
  | 17, _ => rfl
  | 18, _ => rfl
  | 19, _ => rfl
  | 20, _ => rfl
  | 21, _ => rfl
  | 22, _ => rfl
  | 23, _ => rfl
  | 24, _ => rfl
  | 25, _ => rfl
  | 26, _ => rfl
  | 27, _ => rfl
  | 28, _ => rfl
  | 29, _ => rfl
  | 30, _ => rfl
  | 31, _ => rfl
  | 32, _ => rfl
  | 33, _ => rfl
  | 34, _ => rfl
  | 35, _ => rfl
  | 36, _ => rfl
  | 37, _ => rfl
  | 38, _ => rfl
  | 39, _ => rfl
  | 40, _ => rfl
  | 41, _ => rfl
  | k + 42, h => by omega
def noneI (I : pI) (r rc : Nat) : pI := uI (uI (uI (uI (uI (uI (uI (uI (uI (uI (uI I r 2 (nI 0)) rc 0 (nI 1)) r 2 (nI (0 + 1))) rc 1 (nI (1000 + 112))) r 2 (nI (1 + 1))) rc 2 (nI 4)) r 2 (nI (2 + 1))) rc 3 (nI (1000 + 47))) r 2 (nI (3 + 1))) rc 4 (nI (1000 + 43))) r 2 (nI (4 + 1))
set_option maxRecDepth 100000 in
set_option maxHeartbeats 2000000 in
theorem x_beNoneE {S : pS} {d r rc : Nat} {I : pI} {J : pJ} {R : pR} (hS : S[r]? = some (6, 9)) (hC : S[rc]? = some (100, 40)) (hR : R r 0 = some rc) (hne : rc ≠ r) : PC S (d + 2) yX6_beNone cX6_beNone 1 none [.ref r] (I) (J) (R) (fun r' I' J' R' => r' = none ∧ I' = noneI I r rc ∧ J = J' ∧ R' = R) := by
  refine PC.of [some (.ref r)] rfl rfl (Nat.le_of_ble_eq_true rfl) ?_
  refine pw_aload_n 1 rfl dX6_beNone_0 rfl ?_
  refine pw_iconst (v := nI 0) 2 rfl dX6_beNone_1 rfl ?_
  refine pw_putI 5 rfl dX6_beNone_2 fX6_18 w6_2 (by first | rfl | assumption | exact rowS hh | exact mtS hm | exact ruS hr | exact mtA1 hm | exact mtA2 hm | exact mtA3 hm | exact mtA4 hm | exact mtA5 hm | exact mtA6 hm | exact mtA7 hm | exact ruA1 hr | exact ruA2 hr | exact ruA3 hr) rfl rfl rfl ?_
  refine pw_aload_n 6 rfl dX6_beNone_5 rfl ?_
  refine pw_iconst (v := nI 1) 7 rfl dX6_beNone_6 rfl ?_
  refine pw_callV (as := [_]) 10 rfl dX6_beNone_7 mX6_44 vX6_addNumber (x_addNumber (d := d + 1) (k := 0) hS hC hR hne (uI_eq _ _ _ _) (by decide)) (by first | rfl | assumption | exact rowS hh | exact mtS hm | exact ruS hr | exact mtA1 hm | exact mtA2 hm | exact mtA3 hm | exact mtA4 hm | exact mtA5 hm | exact mtA6 hm | exact mtA7 hm | exact ruA1 hr | exact ruA2 hr | exact ruA3 hr) rfl (by decide) ⟨rfl, by decide, by decide, show (parseMethodDescriptor yX6_addNumber.desc).map (fun d => d.parameters.length) = some 1 by decide +kernel⟩ (by omega) (by decide) (Nat.le_of_ble_eq_true rfl) rfl (fun r7 I7 J7 R7 c7 => ?_)
  obtain ⟨rfl, rfl, rfl, rfl⟩ := c7
  refine pw_aload_n 11 rfl dX6_beNone_10 rfl ?_
  refine pw_bipush (v := nI 112) 13 rfl dX6_beNone_11 rfl ?_
  refine pw_callV (as := [_]) 16 rfl dX6_beNone_13 mX6_48 vX6_addSign (x_addSign (d := d) (k := 1) (s := 112) hS hC hR hne (uI_eq _ _ _ _) (by decide)) (by first | rfl | assumption | exact rowS hh | exact mtS hm | exact ruS hr | exact mtA1 hm | exact mtA2 hm | exact mtA3 hm | exact mtA4 hm | exact mtA5 hm | exact mtA6 hm | exact mtA7 hm | exact ruA1 hr | exact ruA2 hr | exact ruA3 hr) rfl (by decide) ⟨rfl, by decide, by decide, show (parseMethodDescriptor yX6_addSign.desc).map (fun d => d.parameters.length) = some 1 by decide +kernel⟩ (by omega) (by decide) (Nat.le_of_ble_eq_true rfl) rfl (fun r13 I13 J13 R13 c13 => ?_)
  obtain ⟨rfl, rfl, rfl, rfl⟩ := c13
  refine pw_aload_n 17 rfl dX6_beNone_16 rfl ?_
  refine pw_iconst (v := nI 4) 18 rfl dX6_beNone_17 rfl ?_
  refine pw_callV (as := [_]) 21 rfl dX6_beNone_18 mX6_44 vX6_addNumber (x_addNumber (d := d + 1) (k := 2) hS hC hR hne (uI_eq _ _ _ _) (by decide)) (by first | rfl | assumption | exact rowS hh | exact mtS hm | exact ruS hr | exact mtA1 hm | exact mtA2 hm | exact mtA3 hm | exact mtA4 hm | exact mtA5 hm | exact mtA6 hm | exact mtA7 hm | exact ruA1 hr | exact ruA2 hr | exact ruA3 hr) rfl (by decide) ⟨rfl, by decide, by decide, show (parseMethodDescriptor yX6_addNumber.desc).map (fun d => d.parameters.length) = some 1 by decide +kernel⟩ (by omega) (by decide) (Nat.le_of_ble_eq_true rfl) rfl (fun r18 I18 J18 R18 c18 => ?_)
  obtain ⟨rfl, rfl, rfl, rfl⟩ := c18
  refine pw_aload_n 22 rfl dX6_beNone_21 rfl ?_
  refine pw_bipush (v := nI 47) 24 rfl dX6_beNone_22 rfl ?_
  refine pw_callV (as := [_]) 27 rfl dX6_beNone_24 mX6_48 vX6_addSign (x_addSign (d := d) (k := 3) (s := 47) hS hC hR hne (uI_eq _ _ _ _) (by decide)) (by first | rfl | assumption | exact rowS hh | exact mtS hm | exact ruS hr | exact mtA1 hm | exact mtA2 hm | exact mtA3 hm | exact mtA4 hm | exact mtA5 hm | exact mtA6 hm | exact mtA7 hm | exact ruA1 hr | exact ruA2 hr | exact ruA3 hr) rfl (by decide) ⟨rfl, by decide, by decide, show (parseMethodDescriptor yX6_addSign.desc).map (fun d => d.parameters.length) = some 1 by decide +kernel⟩ (by omega) (by decide) (Nat.le_of_ble_eq_true rfl) rfl (fun r24 I24 J24 R24 c24 => ?_)
  obtain ⟨rfl, rfl, rfl, rfl⟩ := c24
  refine pw_aload_n 28 rfl dX6_beNone_27 rfl ?_
  refine pw_bipush (v := nI 43) 30 rfl dX6_beNone_28 rfl ?_
  refine pw_callV (as := [_]) 33 rfl dX6_beNone_30 mX6_48 vX6_addSign (x_addSign (d := d) (k := 4) (s := 43) hS hC hR hne (uI_eq _ _ _ _) (by decide)) (by first | rfl | assumption | exact rowS hh | exact mtS hm | exact ruS hr | exact mtA1 hm | exact mtA2 hm | exact mtA3 hm | exact mtA4 hm | exact mtA5 hm | exact mtA6 hm | exact mtA7 hm | exact ruA1 hr | exact ruA2 hr | exact ruA3 hr) rfl (by decide) ⟨rfl, by decide, by decide, show (parseMethodDescriptor yX6_addSign.desc).map (fun d => d.parameters.length) = some 1 by decide +kernel⟩ (by omega) (by decide) (Nat.le_of_ble_eq_true rfl) rfl (fun r30 I30 J30 R30 c30 => ?_)
  obtain ⟨rfl, rfl, rfl, rfl⟩ := c30
  refine pw_vret dX6_beNone_33 ?_
  rotate_left
  exact ⟨rfl, rfl, rfl, rfl⟩
theorem mn_I {L : List (Nat × Nat × Int32)} {n1 h : Nat} (q : L.all (fun e => decide (e.1 < n1)) = true) (h1 : n1 ≤ h) : L.all (fun e => e.1 != h) = true := List.all_eq_true.mpr (fun e he => by have := List.all_eq_true.mp q e he; rw [decide_eq_true_eq] at this; rw [bne_iff_ne]; omega)
theorem mn_R {L : List (Nat × Nat × Nat)} {n1 : Nat} (h : L.all (fun e => decide (e.2.2 < n1) || decide (1000 ≤ e.2.2)) = true) : ∀ k j x, k < n1 → rU L k j = some x → x < n1 ∨ 1000 ≤ x := fun k j x _ q => by
  obtain ⟨e, h1, h2⟩ := rU_mem q
  have := List.all_eq_true.mp h e h1
  rw [Bool.or_eq_true, decide_eq_true_eq, decide_eq_true_eq, h2] at this
  exact this
theorem rU_skip {A L : List (Nat × Nat × Nat)} {k : Nat} (h : ∀ e ∈ A, e.1 ≠ k) : rU (A ++ L) k = rU L k := by
  induction A with
  | nil => rfl
  | cons e A ih =>
    show uR (rU (A ++ L)) e.1 e.2.1 (some e.2.2) k = _
    rw [uR_row (fun q => h e List.mem_cons_self q.symm)]
    exact ih (fun e he => h e (List.mem_cons_of_mem _ he))
theorem mn_out {L : List (Nat × Nat × Nat)} {n1 N : Nat} (k : Nat) (hk : k < n1) : rU (mnL n1 N ++ L) k = rU L k := rU_skip (fun e he => by
  obtain ⟨j, -, rfl⟩ := List.mem_map.mp he
  show n1 ≠ k
  omega)
theorem rU_row {f : Nat → Nat} {n1 : Nat} {L : List (Nat × Nat × Nat)} : ∀ (A : List Nat) (i : Nat), rU (A.map (fun j => (n1, j, f j)) ++ L) n1 i = if i ∈ A then some (f i) else rU L n1 i
  | [], i => by simp
  | j :: A, i => by
    show uR (rU (A.map (fun j => (n1, j, f j)) ++ L)) n1 j (some (f j)) n1 i = _
    rw [uR_at, if_pos rfl, rU_row A i]
    by_cases q : i = j
    · subst q; simp
    · rw [if_neg q]; simp [q]
theorem mn_in {L : List (Nat × Nat × Nat)} {n1 N : Nat} (h : L.all (fun e => e.1 != n1) = true) : rU (mnL n1 N ++ L) n1 = fun i => if i < N then some (n1 + 1 + i) else none := by
  funext i
  unfold mnL
  rw [rU_row (f := fun j => n1 + 1 + j), rU_zero h]
  simp
def tTX1 : pS := [(100, 7), (100, 7), (100, 7), (100, 7), (100, 7), (100, 7), (100, 7)]
def lIX1 : List (Nat × Nat × Int32) := ((0, 12, nI 0) :: ((0, 11, nI 0) :: ((0, 10, nI 0) :: ((0, 9, nI 7) :: ((0, 8, nI 5) :: ((0, 7, nI 0) :: []))))))
def lRX1 : List (Nat × Nat × Nat) := ((0, 6, 7) :: ((0, 5, 6) :: ((0, 4, 5) :: ((0, 3, 4) :: ((0, 2, 3) :: ((0, 1, 2) :: ((0, 0, 1) :: [])))))))
theorem n_X1_init : NC 1 yX1_init cX1_init 1 [] 1 13 tTX1 (iL lIX1) (z2 0) (rU lRX1) 7 49 := by
  refine NC.of [some (.ref 0)] rfl rfl (Nat.le_of_ble_eq_true rfl) rfl (by decide) ?_
  refine aw_pw ⟨by decide, by decide⟩ (fun _ kk => pw_aload_n 1 rfl dX1_init_0 rfl kk) ?_
  refine aw_obj 4 rfl dX1_init_1 mX1_3 obI (by decide) (Nat.le_of_ble_eq_true rfl) ?_
  refine aw_pw ⟨by decide, by decide⟩ (fun _ kk => pw_aload_n 5 rfl dX1_init_4 rfl kk) ?_
  refine aw_pw ⟨by decide, by decide⟩ (fun _ kk => pw_bipush (v := nI 7) 7 rfl dX1_init_5 rfl kk) ?_
  refine aw_newa (k := 100) (N := 7) (ty := .int) 9 rfl dX1_init_7 aclI rfl rfl (by decide) (fun _ => rfl) (by decide) (by decide) (by decide) (by decide) (by decide) 1 rfl (by decide) ⟨iL_zero (L := []) (by decide +kernel), rfl⟩ (rU_ne (L := []) (by decide +kernel)) rfl rfl ?_
  refine aw_putF 12 rfl dX1_init_9 fX1_9 (fun q h => by cases h; exact ⟨rfl, rfl⟩) rfl rfl rfl (fun _ => ⟨rfl, rfl⟩) ?_
  refine aw_pw ⟨by decide, by decide⟩ (fun _ kk => pw_aload_n 13 rfl dX1_init_12 rfl kk) ?_
  refine aw_pw ⟨by decide, by decide⟩ (fun _ kk => pw_bipush (v := nI 7) 15 rfl dX1_init_13 rfl kk) ?_
  refine aw_newa (k := 100) (N := 7) (ty := .int) 17 rfl dX1_init_15 aclI rfl rfl (by decide) (fun _ => rfl) (by decide) (by decide) (by decide) (by decide) (by decide) 2 rfl (by decide) ⟨iL_zero (L := []) (by decide +kernel), rfl⟩ (rU_ne (L := ((0, 0, 1) :: [])) (by decide +kernel)) rfl rfl ?_
  refine aw_putF 20 rfl dX1_init_17 fX1_15 (fun q h => by cases h; exact ⟨rfl, rfl⟩) rfl rfl rfl (fun _ => ⟨rfl, rfl⟩) ?_
  refine aw_pw ⟨by decide, by decide⟩ (fun _ kk => pw_aload_n 21 rfl dX1_init_20 rfl kk) ?_
  refine aw_pw ⟨by decide, by decide⟩ (fun _ kk => pw_bipush (v := nI 7) 23 rfl dX1_init_21 rfl kk) ?_
  refine aw_newa (k := 100) (N := 7) (ty := .int) 25 rfl dX1_init_23 aclI rfl rfl (by decide) (fun _ => rfl) (by decide) (by decide) (by decide) (by decide) (by decide) 3 rfl (by decide) ⟨iL_zero (L := []) (by decide +kernel), rfl⟩ (rU_ne (L := ((0, 1, 2) :: ((0, 0, 1) :: []))) (by decide +kernel)) rfl rfl ?_
  refine aw_putF 28 rfl dX1_init_25 fX1_18 (fun q h => by cases h; exact ⟨rfl, rfl⟩) rfl rfl rfl (fun _ => ⟨rfl, rfl⟩) ?_
  refine aw_pw ⟨by decide, by decide⟩ (fun _ kk => pw_aload_n 29 rfl dX1_init_28 rfl kk) ?_
  refine aw_pw ⟨by decide, by decide⟩ (fun _ kk => pw_bipush (v := nI 7) 31 rfl dX1_init_29 rfl kk) ?_
  refine aw_newa (k := 100) (N := 7) (ty := .int) 33 rfl dX1_init_31 aclI rfl rfl (by decide) (fun _ => rfl) (by decide) (by decide) (by decide) (by decide) (by decide) 4 rfl (by decide) ⟨iL_zero (L := []) (by decide +kernel), rfl⟩ (rU_ne (L := ((0, 2, 3) :: ((0, 1, 2) :: ((0, 0, 1) :: [])))) (by decide +kernel)) rfl rfl ?_
  refine aw_putF 36 rfl dX1_init_33 fX1_21 (fun q h => by cases h; exact ⟨rfl, rfl⟩) rfl rfl rfl (fun _ => ⟨rfl, rfl⟩) ?_
  refine aw_pw ⟨by decide, by decide⟩ (fun _ kk => pw_aload_n 37 rfl dX1_init_36 rfl kk) ?_
  refine aw_pw ⟨by decide, by decide⟩ (fun _ kk => pw_bipush (v := nI 7) 39 rfl dX1_init_37 rfl kk) ?_
  refine aw_newa (k := 100) (N := 7) (ty := .int) 41 rfl dX1_init_39 aclI rfl rfl (by decide) (fun _ => rfl) (by decide) (by decide) (by decide) (by decide) (by decide) 5 rfl (by decide) ⟨iL_zero (L := []) (by decide +kernel), rfl⟩ (rU_ne (L := ((0, 3, 4) :: ((0, 2, 3) :: ((0, 1, 2) :: ((0, 0, 1) :: []))))) (by decide +kernel)) rfl rfl ?_
  refine aw_putF 44 rfl dX1_init_41 fX1_24 (fun q h => by cases h; exact ⟨rfl, rfl⟩) rfl rfl rfl (fun _ => ⟨rfl, rfl⟩) ?_
  refine aw_pw ⟨by decide, by decide⟩ (fun _ kk => pw_aload_n 45 rfl dX1_init_44 rfl kk) ?_
  refine aw_pw ⟨by decide, by decide⟩ (fun _ kk => pw_bipush (v := nI 7) 47 rfl dX1_init_45 rfl kk) ?_
  refine aw_newa (k := 100) (N := 7) (ty := .int) 49 rfl dX1_init_47 aclI rfl rfl (by decide) (fun _ => rfl) (by decide) (by decide) (by decide) (by decide) (by decide) 6 rfl (by decide) ⟨iL_zero (L := []) (by decide +kernel), rfl⟩ (rU_ne (L := ((0, 4, 5) :: ((0, 3, 4) :: ((0, 2, 3) :: ((0, 1, 2) :: ((0, 0, 1) :: [])))))) (by decide +kernel)) rfl rfl ?_
  refine aw_putF 52 rfl dX1_init_49 fX1_27 (fun q h => by cases h; exact ⟨rfl, rfl⟩) rfl rfl rfl (fun _ => ⟨rfl, rfl⟩) ?_
  refine aw_pw ⟨by decide, by decide⟩ (fun _ kk => pw_aload_n 53 rfl dX1_init_52 rfl kk) ?_
  refine aw_pw ⟨by decide, by decide⟩ (fun _ kk => pw_bipush (v := nI 7) 55 rfl dX1_init_53 rfl kk) ?_
  refine aw_newa (k := 100) (N := 7) (ty := .int) 57 rfl dX1_init_55 aclI rfl rfl (by decide) (fun _ => rfl) (by decide) (by decide) (by decide) (by decide) (by decide) 7 rfl (by decide) ⟨iL_zero (L := []) (by decide +kernel), rfl⟩ (rU_ne (L := ((0, 5, 6) :: ((0, 4, 5) :: ((0, 3, 4) :: ((0, 2, 3) :: ((0, 1, 2) :: ((0, 0, 1) :: []))))))) (by decide +kernel)) rfl rfl ?_
  refine aw_putF 60 rfl dX1_init_57 fX1_30 (fun q h => by cases h; exact ⟨rfl, rfl⟩) rfl rfl rfl (fun _ => ⟨rfl, rfl⟩) ?_
  refine aw_pw ⟨by decide, by decide⟩ (fun _ kk => pw_aload_n 61 rfl dX1_init_60 rfl kk) ?_
  refine aw_pw ⟨by decide, by decide⟩ (fun _ kk => pw_iconst (v := nI 0) 62 rfl dX1_init_61 rfl kk) ?_
  refine aw_pw ⟨by decide, by decide⟩ (fun _ kk => pw_putI 65 rfl dX1_init_62 fX1_33 w1_7 rfl rfl rfl rfl kk) ?_
  refine aw_pw ⟨by decide, by decide⟩ (fun _ kk => pw_aload_n 66 rfl dX1_init_65 rfl kk) ?_
  refine aw_pw ⟨by decide, by decide⟩ (fun _ kk => pw_iconst (v := nI 5) 67 rfl dX1_init_66 rfl kk) ?_
  refine aw_pw ⟨by decide, by decide⟩ (fun _ kk => pw_putI 70 rfl dX1_init_67 fX1_37 w1_8 rfl rfl rfl rfl kk) ?_
  refine aw_pw ⟨by decide, by decide⟩ (fun _ kk => pw_aload_n 71 rfl dX1_init_70 rfl kk) ?_
  refine aw_pw ⟨by decide, by decide⟩ (fun _ kk => pw_bipush (v := nI 7) 73 rfl dX1_init_71 rfl kk) ?_
  refine aw_pw ⟨by decide, by decide⟩ (fun _ kk => pw_putI 76 rfl dX1_init_73 fX1_40 w1_9 rfl rfl rfl rfl kk) ?_
  refine aw_pw ⟨by decide, by decide⟩ (fun _ kk => pw_aload_n 77 rfl dX1_init_76 rfl kk) ?_
  refine aw_pw ⟨by decide, by decide⟩ (fun _ kk => pw_iconst (v := nI 0) 78 rfl dX1_init_77 rfl kk) ?_
  refine aw_pw ⟨by decide, by decide⟩ (fun _ kk => pw_putI 81 rfl dX1_init_78 fX1_43 w1_10 rfl rfl rfl rfl kk) ?_
  refine aw_pw ⟨by decide, by decide⟩ (fun _ kk => pw_aload_n 82 rfl dX1_init_81 rfl kk) ?_
  refine aw_pw ⟨by decide, by decide⟩ (fun _ kk => pw_iconst (v := nI 0) 83 rfl dX1_init_82 rfl kk) ?_
  refine aw_pw ⟨by decide, by decide⟩ (fun _ kk => pw_putI 86 rfl dX1_init_83 fX1_46 w1_11 rfl rfl rfl rfl kk) ?_
  refine aw_pw ⟨by decide, by decide⟩ (fun _ kk => pw_aload_n 87 rfl dX1_init_86 rfl kk) ?_
  refine aw_pw ⟨by decide, by decide⟩ (fun _ kk => pw_iconst (v := nI 0) 88 rfl dX1_init_87 rfl kk) ?_
  refine aw_pw ⟨by decide, by decide⟩ (fun _ kk => pw_putI 91 rfl dX1_init_88 fX1_49 w1_12 rfl rfl rfl rfl kk) ?_
  exact aw_done ⟨dX1_init_91, rfl, rfl, rfl, rfl, rfl, rfl, rfl⟩
def tTX6 : pS := [(100, 40), (100, 40), (100, 40)]
def lIX6 : List (Nat × Nat × Int32) := ((0, 2, nI (4 + 1)) :: ((1, 4, nI (1000 + 43)) :: ((0, 2, nI (3 + 1)) :: ((1, 3, nI (1000 + 47)) :: ((0, 2, nI (2 + 1)) :: ((1, 2, nI 4) :: ((0, 2, nI (1 + 1)) :: ((1, 1, nI (1000 + 112)) :: ((0, 2, nI (0 + 1)) :: ((1, 0, nI 1) :: ((0, 2, nI 0) :: ((0, 8, nI 0) :: ((0, 7, nI 1) :: ((0, 6, nI 0) :: ((0, 5, nI 0) :: ((0, 4, nI 0) :: ((0, 2, nI 0) :: [])))))))))))))))))
def lRX6 : List (Nat × Nat × Nat) := ((0, 3, 3) :: ((0, 1, 2) :: ((0, 0, 1) :: [])))
theorem n_X6_init : NC 4 yX6_init cX6_init 1 [] 6 9 tTX6 (iL lIX6) (z2 0) (rU lRX6) 3 120 := by
  refine NC.of [some (.ref 0)] rfl rfl (Nat.le_of_ble_eq_true rfl) rfl (by decide) ?_
  refine aw_pw ⟨by decide, by decide⟩ (fun _ kk => pw_aload_n 1 rfl dX6_init_0 rfl kk) ?_
  refine aw_obj 4 rfl dX6_init_1 mX6_3 obI (by decide) (Nat.le_of_ble_eq_true rfl) ?_
  refine aw_pw ⟨by decide, by decide⟩ (fun _ kk => pw_aload_n 5 rfl dX6_init_4 rfl kk) ?_
  refine aw_pw ⟨by decide, by decide⟩ (fun _ kk => pw_bipush (v := nI 40) 7 rfl dX6_init_5 rfl kk) ?_
  refine aw_newa (k := 100) (N := 40) (ty := .int) 9 rfl dX6_init_7 aclI rfl rfl (by decide) (fun _ => rfl) (by decide) (by decide) (by decide) (by decide) (by decide) 1 rfl (by decide) ⟨iL_zero (L := []) (by decide +kernel), rfl⟩ (rU_ne (L := []) (by decide +kernel)) rfl rfl ?_
  refine aw_putF 12 rfl dX6_init_9 fX6_11 (fun q h => by cases h; exact ⟨rfl, rfl⟩) rfl rfl rfl (fun _ => ⟨rfl, rfl⟩) ?_
  refine aw_pw ⟨by decide, by decide⟩ (fun _ kk => pw_aload_n 13 rfl dX6_init_12 rfl kk) ?_
  refine aw_pw ⟨by decide, by decide⟩ (fun _ kk => pw_bipush (v := nI 40) 15 rfl dX6_init_13 rfl kk) ?_
  refine aw_newa (k := 100) (N := 40) (ty := .int) 17 rfl dX6_init_15 aclI rfl rfl (by decide) (fun _ => rfl) (by decide) (by decide) (by decide) (by decide) (by decide) 2 rfl (by decide) ⟨iL_zero (L := []) (by decide +kernel), rfl⟩ (rU_ne (L := ((0, 0, 1) :: [])) (by decide +kernel)) rfl rfl ?_
  refine aw_putF 20 rfl dX6_init_17 fX6_15 (fun q h => by cases h; exact ⟨rfl, rfl⟩) rfl rfl rfl (fun _ => ⟨rfl, rfl⟩) ?_
  refine aw_pw ⟨by decide, by decide⟩ (fun _ kk => pw_aload_n 21 rfl dX6_init_20 rfl kk) ?_
  refine aw_pw ⟨by decide, by decide⟩ (fun _ kk => pw_iconst (v := nI 0) 22 rfl dX6_init_21 rfl kk) ?_
  refine aw_pw ⟨by decide, by decide⟩ (fun _ kk => pw_putI 25 rfl dX6_init_22 fX6_18 w6_2 rfl rfl rfl rfl kk) ?_
  refine aw_pw ⟨by decide, by decide⟩ (fun _ kk => pw_aload_n 26 rfl dX6_init_25 rfl kk) ?_
  refine aw_pw ⟨by decide, by decide⟩ (fun _ kk => pw_bipush (v := nI 40) 28 rfl dX6_init_26 rfl kk) ?_
  refine aw_newa (k := 100) (N := 40) (ty := .int) 30 rfl dX6_init_28 aclI rfl rfl (by decide) (fun _ => rfl) (by decide) (by decide) (by decide) (by decide) (by decide) 3 rfl (by decide) ⟨iL_zero (L := ((0, 2, nI 0) :: [])) (by decide +kernel), rfl⟩ (rU_ne (L := ((0, 1, 2) :: ((0, 0, 1) :: []))) (by decide +kernel)) rfl rfl ?_
  refine aw_putF 33 rfl dX6_init_30 fX6_22 (fun q h => by cases h; exact ⟨rfl, rfl⟩) rfl rfl rfl (fun _ => ⟨rfl, rfl⟩) ?_
  refine aw_pw ⟨by decide, by decide⟩ (fun _ kk => pw_aload_n 34 rfl dX6_init_33 rfl kk) ?_
  refine aw_pw ⟨by decide, by decide⟩ (fun _ kk => pw_iconst (v := nI 0) 35 rfl dX6_init_34 rfl kk) ?_
  refine aw_pw ⟨by decide, by decide⟩ (fun _ kk => pw_putI 38 rfl dX6_init_35 fX6_25 w6_4 rfl rfl rfl rfl kk) ?_
  refine aw_pw ⟨by decide, by decide⟩ (fun _ kk => pw_aload_n 39 rfl dX6_init_38 rfl kk) ?_
  refine aw_pw ⟨by decide, by decide⟩ (fun _ kk => pw_iconst (v := nI 0) 40 rfl dX6_init_39 rfl kk) ?_
  refine aw_pw ⟨by decide, by decide⟩ (fun _ kk => pw_putI 43 rfl dX6_init_40 fX6_28 w6_5 rfl rfl rfl rfl kk) ?_
  refine aw_pw ⟨by decide, by decide⟩ (fun _ kk => pw_aload_n 44 rfl dX6_init_43 rfl kk) ?_
  refine aw_pw ⟨by decide, by decide⟩ (fun _ kk => pw_iconst (v := nI 0) 45 rfl dX6_init_44 rfl kk) ?_
  refine aw_pw ⟨by decide, by decide⟩ (fun _ kk => pw_putI 48 rfl dX6_init_45 fX6_31 w6_6 rfl rfl rfl rfl kk) ?_
  refine aw_pw ⟨by decide, by decide⟩ (fun _ kk => pw_aload_n 49 rfl dX6_init_48 rfl kk) ?_
  refine aw_pw ⟨by decide, by decide⟩ (fun _ kk => pw_iconst (v := nI 1) 50 rfl dX6_init_49 rfl kk) ?_
  refine aw_pw ⟨by decide, by decide⟩ (fun _ kk => pw_putI 53 rfl dX6_init_50 fX6_34 w6_7 rfl rfl rfl rfl kk) ?_
  refine aw_pw ⟨by decide, by decide⟩ (fun _ kk => pw_aload_n 54 rfl dX6_init_53 rfl kk) ?_
  refine aw_pw ⟨by decide, by decide⟩ (fun _ kk => pw_iconst (v := nI 0) 55 rfl dX6_init_54 rfl kk) ?_
  refine aw_pw ⟨by decide, by decide⟩ (fun _ kk => pw_putI 58 rfl dX6_init_55 fX6_38 w6_8 rfl rfl rfl rfl kk) ?_
  refine aw_pw ⟨by decide, by decide⟩ (fun _ kk => pw_aload_n 59 rfl dX6_init_58 rfl kk) ?_
  refine aw_call ⟨by decide, by decide⟩ (fun _ kk => pw_callV (as := []) 62 rfl dX6_init_59 mX6_41 vX6_beNone (x_beNoneE (d := 1) (r := 0) (rc := 1) rfl rfl (by decide +kernel) (by decide)) rfl rfl (by decide) ⟨rfl, by decide, by decide, show (parseMethodDescriptor yX6_beNone.desc).map (fun d => d.parameters.length) = some 0 by decide +kernel⟩ (by decide) (by decide) (Nat.le_of_ble_eq_true rfl) rfl kk) (fun r I J R c => ?_)
  obtain ⟨rfl, rfl, rfl, rfl⟩ := c
  exact aw_done ⟨dX6_init_62, rfl, rfl, rfl, rfl, rfl, rfl, rfl⟩
def tTX10 : pS := [(100, 80)]
def lIX10 : List (Nat × Nat × Int32) := ((0, 1, nI 0) :: [])
def lRX10 : List (Nat × Nat × Nat) := ((0, 0, 1) :: [])
theorem n_X10_init : NC 1 yX10_init cX10_init 1 [] 10 2 tTX10 (iL lIX10) (z2 0) (rU lRX10) 1 80 := by
  refine NC.of [some (.ref 0)] rfl rfl (Nat.le_of_ble_eq_true rfl) rfl (by decide) ?_
  refine aw_pw ⟨by decide, by decide⟩ (fun _ kk => pw_aload_n 1 rfl dX10_init_0 rfl kk) ?_
  refine aw_obj 4 rfl dX10_init_1 mX10_3 obI (by decide) (Nat.le_of_ble_eq_true rfl) ?_
  refine aw_pw ⟨by decide, by decide⟩ (fun _ kk => pw_aload_n 5 rfl dX10_init_4 rfl kk) ?_
  refine aw_pw ⟨by decide, by decide⟩ (fun _ kk => pw_bipush (v := nI 80) 7 rfl dX10_init_5 rfl kk) ?_
  refine aw_newa (k := 100) (N := 80) (ty := .int) 9 rfl dX10_init_7 aclI rfl rfl (by decide) (fun _ => rfl) (by decide) (by decide) (by decide) (by decide) (by decide) 1 rfl (by decide) ⟨iL_zero (L := []) (by decide +kernel), rfl⟩ (rU_ne (L := []) (by decide +kernel)) rfl rfl ?_
  refine aw_putF 12 rfl dX10_init_9 fX10_11 (fun q h => by cases h; exact ⟨rfl, rfl⟩) rfl rfl rfl (fun _ => ⟨rfl, rfl⟩) ?_
  refine aw_pw ⟨by decide, by decide⟩ (fun _ kk => pw_aload_n 13 rfl dX10_init_12 rfl kk) ?_
  refine aw_pw ⟨by decide, by decide⟩ (fun _ kk => pw_iconst (v := nI 0) 14 rfl dX10_init_13 rfl kk) ?_
  refine aw_pw ⟨by decide, by decide⟩ (fun _ kk => pw_putI 17 rfl dX10_init_14 fX10_15 w10_1 rfl rfl rfl rfl kk) ?_
  exact aw_done ⟨dX10_init_17, rfl, rfl, rfl, rfl, rfl, rfl, rfl⟩
def tTX2 : pS := [(101, 12)]
def lIX2 : List (Nat × Nat × Int32) := ((0, 1, nI 0) :: [])
def lRX2 : List (Nat × Nat × Nat) := ((0, 0, 1) :: [])
theorem n_X2_init : NC 1 yX2_init cX2_init 1 [] 2 2 tTX2 (iL lIX2) (z2 0) (rU lRX2) 1 12 := by
  refine NC.of [some (.ref 0)] rfl rfl (Nat.le_of_ble_eq_true rfl) rfl (by decide) ?_
  refine aw_pw ⟨by decide, by decide⟩ (fun _ kk => pw_aload_n 1 rfl dX2_init_0 rfl kk) ?_
  refine aw_obj 4 rfl dX2_init_1 mX2_1 obI (by decide) (Nat.le_of_ble_eq_true rfl) ?_
  refine aw_pw ⟨by decide, by decide⟩ (fun _ kk => pw_aload_n 5 rfl dX2_init_4 rfl kk) ?_
  refine aw_pw ⟨by decide, by decide⟩ (fun _ kk => pw_bipush (v := nI 12) 7 rfl dX2_init_5 rfl kk) ?_
  refine aw_newa (k := 101) (N := 12) (ty := .long) 9 rfl dX2_init_7 aclJ rfl rfl (by decide) (fun _ => rfl) (by decide) (by decide) (by decide) (by decide) (by decide) 1 rfl (by decide) ⟨iL_zero (L := []) (by decide +kernel), rfl⟩ (rU_ne (L := []) (by decide +kernel)) rfl rfl ?_
  refine aw_putF 12 rfl dX2_init_9 fX2_9 (fun q h => by cases h; exact ⟨rfl, rfl⟩) rfl rfl rfl (fun _ => ⟨rfl, rfl⟩) ?_
  refine aw_pw ⟨by decide, by decide⟩ (fun _ kk => pw_aload_n 13 rfl dX2_init_12 rfl kk) ?_
  refine aw_pw ⟨by decide, by decide⟩ (fun _ kk => pw_iconst (v := nI 0) 14 rfl dX2_init_13 rfl kk) ?_
  refine aw_pw ⟨by decide, by decide⟩ (fun _ kk => pw_putI 17 rfl dX2_init_14 fX2_13 w2_1 rfl rfl rfl rfl kk) ?_
  exact aw_done ⟨dX2_init_17, rfl, rfl, rfl, rfl, rfl, rfl, rfl⟩
theorem qX4_11 : Cond.classLink RX4 11 ("[" ++ (FieldType.array .int).toString) ∈ gt := gt_at 285 (by decide +kernel) (by decide +kernel)
def tTX4 : pS := [(104, 12), (100, 32), (100, 32), (100, 32), (100, 32), (100, 32), (100, 32), (100, 32), (100, 32), (100, 32), (100, 32), (100, 32), (100, 32), (104, 2), (100, 32), (100, 32), (103, 2), (100, 32)]
def lIX4 : List (Nat × Nat × Int32) := ((0, 5, nI 0) :: ((0, 4, nI 0) :: []))
def lRX4 : List (Nat × Nat × Nat) := ((0, 3, 18) :: ((0, 2, 17) :: ((0, 1, 14) :: (mnL 14 2 ++ ((0, 0, 1) :: (mnL 1 12 ++ []))))))
theorem n_X4_init : NC 1 yX4_init cX4_init 1 [] 4 6 tTX4 (iL lIX4) (z2 0) (rU lRX4) 18 496 := by
  refine NC.of [some (.ref 0)] rfl rfl (Nat.le_of_ble_eq_true rfl) rfl (by decide) ?_
  refine aw_pw ⟨by decide, by decide⟩ (fun _ kk => pw_aload_n 1 rfl dX4_init_0 rfl kk) ?_
  refine aw_obj 4 rfl dX4_init_1 mX4_3 obI (by decide) (Nat.le_of_ble_eq_true rfl) ?_
  refine aw_pw ⟨by decide, by decide⟩ (fun _ kk => pw_aload_n 5 rfl dX4_init_4 rfl kk) ?_
  refine aw_pw ⟨by decide, by decide⟩ (fun _ kk => pw_bipush (v := nI 12) 7 rfl dX4_init_5 rfl kk) ?_
  refine aw_pw ⟨by decide, by decide⟩ (fun _ kk => pw_bipush (v := nI 32) 9 rfl dX4_init_7 rfl kk) ?_
  refine aw_mna (N := 12) (K := 32) (R2 := rU (mnL 1 12 ++ [])) 13 rfl dX4_init_9 ⟨qX4_11, aclI⟩ (by decide) (by decide) (by decide) (by decide) (by decide) (by decide) (by decide) 1 rfl (by decide) (fun h h1 h2 => iL_zero (L := []) (mn_I (by decide +kernel) h1)) (mn_R (L := []) (by decide +kernel)) (fun k hk => mn_out (L := []) k hk) (mn_in (L := []) (by decide +kernel)) rfl rfl ?_
  refine aw_putF 16 rfl dX4_init_13 fX4_13 (fun q h => by cases h; exact ⟨rfl, rfl⟩) rfl rfl rfl (fun _ => ⟨rfl, rfl⟩) ?_
  refine aw_pw ⟨by decide, by decide⟩ (fun _ kk => pw_aload_n 17 rfl dX4_init_16 rfl kk) ?_
  refine aw_pw ⟨by decide, by decide⟩ (fun _ kk => pw_iconst (v := nI 2) 18 rfl dX4_init_17 rfl kk) ?_
  refine aw_pw ⟨by decide, by decide⟩ (fun _ kk => pw_bipush (v := nI 32) 20 rfl dX4_init_18 rfl kk) ?_
  refine aw_mna (N := 2) (K := 32) (R2 := rU (mnL 14 2 ++ ((0, 0, 1) :: (mnL 1 12 ++ [])))) 24 rfl dX4_init_20 ⟨qX4_11, aclI⟩ (by decide) (by decide) (by decide) (by decide) (by decide) (by decide) (by decide) 14 rfl (by decide) (fun h h1 h2 => iL_zero (L := []) (mn_I (by decide +kernel) h1)) (mn_R (L := ((0, 0, 1) :: (mnL 1 12 ++ []))) (by decide +kernel)) (fun k hk => mn_out (L := ((0, 0, 1) :: (mnL 1 12 ++ []))) k hk) (mn_in (L := ((0, 0, 1) :: (mnL 1 12 ++ []))) (by decide +kernel)) rfl rfl ?_
  refine aw_putF 27 rfl dX4_init_24 fX4_16 (fun q h => by cases h; exact ⟨rfl, rfl⟩) rfl rfl rfl (fun _ => ⟨rfl, rfl⟩) ?_
  refine aw_pw ⟨by decide, by decide⟩ (fun _ kk => pw_aload_n 28 rfl dX4_init_27 rfl kk) ?_
  refine aw_pw ⟨by decide, by decide⟩ (fun _ kk => pw_iconst (v := nI 2) 29 rfl dX4_init_28 rfl kk) ?_
  refine aw_newa (k := 103) (N := 2) (ty := .boolean) 31 rfl dX4_init_29 aclZ rfl rfl (by decide) (fun _ => rfl) (by decide) (by decide) (by decide) (by decide) (by decide) 17 rfl (by decide) ⟨iL_zero (L := []) (by decide +kernel), rfl⟩ (rU_ne (L := ((0, 1, 14) :: (mnL 14 2 ++ ((0, 0, 1) :: (mnL 1 12 ++ []))))) (by decide +kernel)) rfl rfl ?_
  refine aw_putF 34 rfl dX4_init_31 fX4_19 (fun q h => by cases h; exact ⟨rfl, rfl⟩) rfl rfl rfl (fun _ => ⟨rfl, rfl⟩) ?_
  refine aw_pw ⟨by decide, by decide⟩ (fun _ kk => pw_aload_n 35 rfl dX4_init_34 rfl kk) ?_
  refine aw_pw ⟨by decide, by decide⟩ (fun _ kk => pw_bipush (v := nI 32) 37 rfl dX4_init_35 rfl kk) ?_
  refine aw_newa (k := 100) (N := 32) (ty := .int) 39 rfl dX4_init_37 aclI rfl rfl (by decide) (fun _ => rfl) (by decide) (by decide) (by decide) (by decide) (by decide) 18 rfl (by decide) ⟨iL_zero (L := []) (by decide +kernel), rfl⟩ (rU_ne (L := ((0, 2, 17) :: ((0, 1, 14) :: (mnL 14 2 ++ ((0, 0, 1) :: (mnL 1 12 ++ [])))))) (by decide +kernel)) rfl rfl ?_
  refine aw_putF 42 rfl dX4_init_39 fX4_23 (fun q h => by cases h; exact ⟨rfl, rfl⟩) rfl rfl rfl (fun _ => ⟨rfl, rfl⟩) ?_
  refine aw_pw ⟨by decide, by decide⟩ (fun _ kk => pw_aload_n 43 rfl dX4_init_42 rfl kk) ?_
  refine aw_pw ⟨by decide, by decide⟩ (fun _ kk => pw_iconst (v := nI 0) 44 rfl dX4_init_43 rfl kk) ?_
  refine aw_pw ⟨by decide, by decide⟩ (fun _ kk => pw_putI 47 rfl dX4_init_44 fX4_27 w4_4 rfl rfl rfl rfl kk) ?_
  refine aw_pw ⟨by decide, by decide⟩ (fun _ kk => pw_aload_n 48 rfl dX4_init_47 rfl kk) ?_
  refine aw_pw ⟨by decide, by decide⟩ (fun _ kk => pw_iconst (v := nI 0) 49 rfl dX4_init_48 rfl kk) ?_
  refine aw_pw ⟨by decide, by decide⟩ (fun _ kk => pw_putI 52 rfl dX4_init_49 fX4_31 w4_5 rfl rfl rfl rfl kk) ?_
  exact aw_done ⟨dX4_init_52, rfl, rfl, rfl, rfl, rfl, rfl, rfl⟩
theorem qX3_9 : Cond.classLink RX3 9 RX1 ∈ gt ∧ Cond.instantiable RX1 13 ∈ gt ∧ Cond.initialized RX1 ∈ gt := ⟨gt_at 314 (by decide +kernel) (by decide +kernel), gt_at 116 (by decide +kernel) (by decide +kernel), iX1_init.2.1⟩
def tTX3 : pS := [(1, 13), (100, 7), (100, 7), (100, 7), (100, 7), (100, 7), (100, 7), (100, 7), (100, 7), (100, 10)]
def lIX3 : List (Nat × Nat × Int32) := (shI 1 lIX1 ++ [])
def lRX3 : List (Nat × Nat × Nat) := ((0, 3, 1002) :: ((0, 2, 1001) :: ((0, 0, 1000) :: ((0, 5, 10) :: ((0, 4, 9) :: ((0, 1, 1) :: (shR 1 [] lRX1 ++ [])))))))
theorem n_X3_init : NC 2 yX3_init cX3_init 4 [.ref 1000, .ref 1001, .ref 1002] 3 6 tTX3 (iL lIX3) (z2 0) (rU lRX3) 10 79 := by
  refine NC.of [some (.ref 0), some (.ref 1000), some (.ref 1001), some (.ref 1002)] rfl rfl (Nat.le_of_ble_eq_true rfl) rfl (by decide) ?_
  refine aw_pw ⟨by decide, by decide⟩ (fun _ kk => pw_aload_n 1 rfl dX3_init_0 rfl kk) ?_
  refine aw_obj 4 rfl dX3_init_1 mX3_3 obI (by decide) (Nat.le_of_ble_eq_true rfl) ?_
  refine aw_pw ⟨by decide, by decide⟩ (fun _ kk => pw_aload_n 5 rfl dX3_init_4 rfl kk) ?_
  refine aw_new 8 rfl dX3_init_5 rfl (by decide) qX3_9 dfv1 (by decide) (by decide) 1 rfl (by decide) ⟨iL_zero (L := []) (by decide +kernel), rU_zero (L := []) (by decide +kernel)⟩ (rU_ne (L := []) (by decide +kernel)) rfl rfl ?_
  refine aw_pw ⟨by decide, by decide⟩ (fun _ kk => pw_dup 9 rfl dX3_init_8 rfl kk) ?_
  refine aw_ctorM (o := 1) (hs := []) (rest := [.ref 1, .ref 0]) lIX1 lRX1 [] [] rfl rfl 12 rfl dX3_init_9 (Or.inr ⟨_, nX3_11⟩) iX1_init n_X1_init ⟨rfl, by decide, by decide, show (parseMethodDescriptor yX1_init.desc).map (fun d => d.parameters.length) = some 0 by decide +kernel⟩ rfl (by decide) (by decide) (Nat.le_of_ble_eq_true rfl) ⟨by decide, by decide⟩ (by decide) rfl rfl rfl rfl (by decide) (by decide +kernel) (by decide +kernel) (by decide +kernel) (by decide +kernel) rfl rfl (by decide) ?_
  refine aw_putF 15 rfl dX3_init_12 fX3_12 (fun q h => by cases h; exact ⟨rfl, rfl⟩) rfl rfl rfl (fun _ => ⟨rfl, rfl⟩) ?_
  refine aw_pw ⟨by decide, by decide⟩ (fun _ kk => pw_aload_n 16 rfl dX3_init_15 rfl kk) ?_
  refine aw_pw ⟨by decide, by decide⟩ (fun _ kk => pw_bipush (v := nI 7) 18 rfl dX3_init_16 rfl kk) ?_
  refine aw_newa (k := 100) (N := 7) (ty := .int) 20 rfl dX3_init_18 aclI rfl rfl (by decide) (fun _ => rfl) (by decide) (by decide) (by decide) (by decide) (by decide) 9 rfl (by decide) ⟨iL_zero (L := (shI 1 lIX1 ++ [])) (by decide +kernel), rfl⟩ (rU_ne (L := ((0, 1, 1) :: (shR 1 [] lRX1 ++ []))) (by decide +kernel)) rfl rfl ?_
  refine aw_putF 23 rfl dX3_init_20 fX3_18 (fun q h => by cases h; exact ⟨rfl, rfl⟩) rfl rfl rfl (fun _ => ⟨rfl, rfl⟩) ?_
  refine aw_pw ⟨by decide, by decide⟩ (fun _ kk => pw_aload_n 24 rfl dX3_init_23 rfl kk) ?_
  refine aw_pw ⟨by decide, by decide⟩ (fun _ kk => pw_bipush (v := nI 10) 26 rfl dX3_init_24 rfl kk) ?_
  refine aw_newa (k := 100) (N := 10) (ty := .int) 28 rfl dX3_init_26 aclI rfl rfl (by decide) (fun _ => rfl) (by decide) (by decide) (by decide) (by decide) (by decide) 10 rfl (by decide) ⟨iL_zero (L := (shI 1 lIX1 ++ [])) (by decide +kernel), rfl⟩ (rU_ne (L := ((0, 4, 9) :: ((0, 1, 1) :: (shR 1 [] lRX1 ++ [])))) (by decide +kernel)) rfl rfl ?_
  refine aw_putF 31 rfl dX3_init_28 fX3_22 (fun q h => by cases h; exact ⟨rfl, rfl⟩) rfl rfl rfl (fun _ => ⟨rfl, rfl⟩) ?_
  refine aw_pw ⟨by decide, by decide⟩ (fun _ kk => pw_aload_n 32 rfl dX3_init_31 rfl kk) ?_
  refine aw_pw ⟨by decide, by decide⟩ (fun _ kk => pw_aload_n 33 rfl dX3_init_32 rfl kk) ?_
  refine aw_putF 36 rfl dX3_init_33 fX3_25 (fun q h => by cases h; exact ⟨rfl, rfl⟩) rfl rfl rfl (fun _ => ⟨rfl, rfl⟩) ?_
  refine aw_pw ⟨by decide, by decide⟩ (fun _ kk => pw_aload_n 37 rfl dX3_init_36 rfl kk) ?_
  refine aw_pw ⟨by decide, by decide⟩ (fun _ kk => pw_aload_n 38 rfl dX3_init_37 rfl kk) ?_
  refine aw_putF 41 rfl dX3_init_38 fX3_28 (fun q h => by cases h; exact ⟨rfl, rfl⟩) rfl rfl rfl (fun _ => ⟨rfl, rfl⟩) ?_
  refine aw_pw ⟨by decide, by decide⟩ (fun _ kk => pw_aload_n 42 rfl dX3_init_41 rfl kk) ?_
  refine aw_pw ⟨by decide, by decide⟩ (fun _ kk => pw_aload_n 43 rfl dX3_init_42 rfl kk) ?_
  refine aw_putF 46 rfl dX3_init_43 fX3_32 (fun q h => by cases h; exact ⟨rfl, rfl⟩) rfl rfl rfl (fun _ => ⟨rfl, rfl⟩) ?_
  exact aw_done ⟨dX3_init_46, rfl, rfl, rfl, rfl, rfl, rfl, rfl⟩
theorem qX5_9 : Cond.classLink RX5 9 RX1 ∈ gt ∧ Cond.instantiable RX1 13 ∈ gt ∧ Cond.initialized RX1 ∈ gt := ⟨gt_at 341 (by decide +kernel) (by decide +kernel), gt_at 116 (by decide +kernel) (by decide +kernel), iX1_init.2.1⟩
def tTX5 : pS := [(1, 13), (100, 7), (100, 7), (100, 7), (100, 7), (100, 7), (100, 7), (100, 7)]
def lIX5 : List (Nat × Nat × Int32) := ((0, 4, nI 0) :: (shI 1 lIX1 ++ []))
def lRX5 : List (Nat × Nat × Nat) := ((0, 3, 1002) :: ((0, 2, 1001) :: ((0, 0, 1000) :: ((0, 1, 1) :: (shR 1 [] lRX1 ++ [])))))
theorem n_X5_init : NC 2 yX5_init cX5_init 4 [.ref 1000, .ref 1001, .ref 1002] 5 5 tTX5 (iL lIX5) (z2 0) (rU lRX5) 8 62 := by
  refine NC.of [some (.ref 0), some (.ref 1000), some (.ref 1001), some (.ref 1002)] rfl rfl (Nat.le_of_ble_eq_true rfl) rfl (by decide) ?_
  refine aw_pw ⟨by decide, by decide⟩ (fun _ kk => pw_aload_n 1 rfl dX5_init_0 rfl kk) ?_
  refine aw_obj 4 rfl dX5_init_1 mX5_3 obI (by decide) (Nat.le_of_ble_eq_true rfl) ?_
  refine aw_pw ⟨by decide, by decide⟩ (fun _ kk => pw_aload_n 5 rfl dX5_init_4 rfl kk) ?_
  refine aw_new 8 rfl dX5_init_5 rfl (by decide) qX5_9 dfv1 (by decide) (by decide) 1 rfl (by decide) ⟨iL_zero (L := []) (by decide +kernel), rU_zero (L := []) (by decide +kernel)⟩ (rU_ne (L := []) (by decide +kernel)) rfl rfl ?_
  refine aw_pw ⟨by decide, by decide⟩ (fun _ kk => pw_dup 9 rfl dX5_init_8 rfl kk) ?_
  refine aw_ctorM (o := 1) (hs := []) (rest := [.ref 1, .ref 0]) lIX1 lRX1 [] [] rfl rfl 12 rfl dX5_init_9 (Or.inr ⟨_, nX5_11⟩) iX1_init n_X1_init ⟨rfl, by decide, by decide, show (parseMethodDescriptor yX1_init.desc).map (fun d => d.parameters.length) = some 0 by decide +kernel⟩ rfl (by decide) (by decide) (Nat.le_of_ble_eq_true rfl) ⟨by decide, by decide⟩ (by decide) rfl rfl rfl rfl (by decide) (by decide +kernel) (by decide +kernel) (by decide +kernel) (by decide +kernel) rfl rfl (by decide) ?_
  refine aw_putF 15 rfl dX5_init_12 fX5_12 (fun q h => by cases h; exact ⟨rfl, rfl⟩) rfl rfl rfl (fun _ => ⟨rfl, rfl⟩) ?_
  refine aw_pw ⟨by decide, by decide⟩ (fun _ kk => pw_aload_n 16 rfl dX5_init_15 rfl kk) ?_
  refine aw_pw ⟨by decide, by decide⟩ (fun _ kk => pw_iconst (v := nI 0) 17 rfl dX5_init_16 rfl kk) ?_
  refine aw_pw ⟨by decide, by decide⟩ (fun _ kk => pw_putI 20 rfl dX5_init_17 fX5_18 w5_4 rfl rfl rfl rfl kk) ?_
  refine aw_pw ⟨by decide, by decide⟩ (fun _ kk => pw_aload_n 21 rfl dX5_init_20 rfl kk) ?_
  refine aw_pw ⟨by decide, by decide⟩ (fun _ kk => pw_aload_n 22 rfl dX5_init_21 rfl kk) ?_
  refine aw_putF 25 rfl dX5_init_22 fX5_22 (fun q h => by cases h; exact ⟨rfl, rfl⟩) rfl rfl rfl (fun _ => ⟨rfl, rfl⟩) ?_
  refine aw_pw ⟨by decide, by decide⟩ (fun _ kk => pw_aload_n 26 rfl dX5_init_25 rfl kk) ?_
  refine aw_pw ⟨by decide, by decide⟩ (fun _ kk => pw_aload_n 27 rfl dX5_init_26 rfl kk) ?_
  refine aw_putF 30 rfl dX5_init_27 fX5_25 (fun q h => by cases h; exact ⟨rfl, rfl⟩) rfl rfl rfl (fun _ => ⟨rfl, rfl⟩) ?_
  refine aw_pw ⟨by decide, by decide⟩ (fun _ kk => pw_aload_n 31 rfl dX5_init_30 rfl kk) ?_
  refine aw_pw ⟨by decide, by decide⟩ (fun _ kk => pw_aload_n 32 rfl dX5_init_31 rfl kk) ?_
  refine aw_putF 35 rfl dX5_init_32 fX5_29 (fun q h => by cases h; exact ⟨rfl, rfl⟩) rfl rfl rfl (fun _ => ⟨rfl, rfl⟩) ?_
  exact aw_done ⟨dX5_init_35, rfl, rfl, rfl, rfl, rfl, rfl, rfl⟩
def tTX9 : pS := [(100, 7)]
def lIX9 : List (Nat × Nat × Int32) := []
def lRX9 : List (Nat × Nat × Nat) := ((0, 1, 1001) :: ((0, 0, 1000) :: ((0, 2, 1) :: [])))
theorem n_X9_init : NC 1 yX9_init cX9_init 3 [.ref 1000, .ref 1001] 9 3 tTX9 (iL lIX9) (z2 0) (rU lRX9) 1 7 := by
  refine NC.of [some (.ref 0), some (.ref 1000), some (.ref 1001)] rfl rfl (Nat.le_of_ble_eq_true rfl) rfl (by decide) ?_
  refine aw_pw ⟨by decide, by decide⟩ (fun _ kk => pw_aload_n 1 rfl dX9_init_0 rfl kk) ?_
  refine aw_obj 4 rfl dX9_init_1 mX9_3 obI (by decide) (Nat.le_of_ble_eq_true rfl) ?_
  refine aw_pw ⟨by decide, by decide⟩ (fun _ kk => pw_aload_n 5 rfl dX9_init_4 rfl kk) ?_
  refine aw_pw ⟨by decide, by decide⟩ (fun _ kk => pw_bipush (v := nI 7) 7 rfl dX9_init_5 rfl kk) ?_
  refine aw_newa (k := 100) (N := 7) (ty := .int) 9 rfl dX9_init_7 aclI rfl rfl (by decide) (fun _ => rfl) (by decide) (by decide) (by decide) (by decide) (by decide) 1 rfl (by decide) ⟨iL_zero (L := []) (by decide +kernel), rfl⟩ (rU_ne (L := []) (by decide +kernel)) rfl rfl ?_
  refine aw_putF 12 rfl dX9_init_9 fX9_9 (fun q h => by cases h; exact ⟨rfl, rfl⟩) rfl rfl rfl (fun _ => ⟨rfl, rfl⟩) ?_
  refine aw_pw ⟨by decide, by decide⟩ (fun _ kk => pw_aload_n 13 rfl dX9_init_12 rfl kk) ?_
  refine aw_pw ⟨by decide, by decide⟩ (fun _ kk => pw_aload_n 14 rfl dX9_init_13 rfl kk) ?_
  refine aw_putF 17 rfl dX9_init_14 fX9_15 (fun q h => by cases h; exact ⟨rfl, rfl⟩) rfl rfl rfl (fun _ => ⟨rfl, rfl⟩) ?_
  refine aw_pw ⟨by decide, by decide⟩ (fun _ kk => pw_aload_n 18 rfl dX9_init_17 rfl kk) ?_
  refine aw_pw ⟨by decide, by decide⟩ (fun _ kk => pw_aload_n 19 rfl dX9_init_18 rfl kk) ?_
  refine aw_putF 22 rfl dX9_init_19 fX9_19 (fun q h => by cases h; exact ⟨rfl, rfl⟩) rfl rfl rfl (fun _ => ⟨rfl, rfl⟩) ?_
  exact aw_done ⟨dX9_init_22, rfl, rfl, rfl, rfl, rfl, rfl, rfl⟩
def tTX7 : pS := [(100, 12)]
def lIX7 : List (Nat × Nat × Int32) := ((0, 3, nI 0) :: [])
def lRX7 : List (Nat × Nat × Nat) := ((0, 1, 1001) :: ((0, 0, 1000) :: ((0, 2, 1) :: [])))
theorem n_X7_init : NC 1 yX7_init cX7_init 3 [.ref 1000, .ref 1001] 7 4 tTX7 (iL lIX7) (z2 0) (rU lRX7) 1 12 := by
  refine NC.of [some (.ref 0), some (.ref 1000), some (.ref 1001)] rfl rfl (Nat.le_of_ble_eq_true rfl) rfl (by decide) ?_
  refine aw_pw ⟨by decide, by decide⟩ (fun _ kk => pw_aload_n 1 rfl dX7_init_0 rfl kk) ?_
  refine aw_obj 4 rfl dX7_init_1 mX7_3 obI (by decide) (Nat.le_of_ble_eq_true rfl) ?_
  refine aw_pw ⟨by decide, by decide⟩ (fun _ kk => pw_aload_n 5 rfl dX7_init_4 rfl kk) ?_
  refine aw_pw ⟨by decide, by decide⟩ (fun _ kk => pw_bipush (v := nI 12) 7 rfl dX7_init_5 rfl kk) ?_
  refine aw_newa (k := 100) (N := 12) (ty := .int) 9 rfl dX7_init_7 aclI rfl rfl (by decide) (fun _ => rfl) (by decide) (by decide) (by decide) (by decide) (by decide) 1 rfl (by decide) ⟨iL_zero (L := []) (by decide +kernel), rfl⟩ (rU_ne (L := []) (by decide +kernel)) rfl rfl ?_
  refine aw_putF 12 rfl dX7_init_9 fX7_11 (fun q h => by cases h; exact ⟨rfl, rfl⟩) rfl rfl rfl (fun _ => ⟨rfl, rfl⟩) ?_
  refine aw_pw ⟨by decide, by decide⟩ (fun _ kk => pw_aload_n 13 rfl dX7_init_12 rfl kk) ?_
  refine aw_pw ⟨by decide, by decide⟩ (fun _ kk => pw_iconst (v := nI 0) 14 rfl dX7_init_13 rfl kk) ?_
  refine aw_pw ⟨by decide, by decide⟩ (fun _ kk => pw_putI 17 rfl dX7_init_14 fX7_15 w7_3 rfl rfl rfl rfl kk) ?_
  refine aw_pw ⟨by decide, by decide⟩ (fun _ kk => pw_aload_n 18 rfl dX7_init_17 rfl kk) ?_
  refine aw_pw ⟨by decide, by decide⟩ (fun _ kk => pw_aload_n 19 rfl dX7_init_18 rfl kk) ?_
  refine aw_putF 22 rfl dX7_init_19 fX7_19 (fun q h => by cases h; exact ⟨rfl, rfl⟩) rfl rfl rfl (fun _ => ⟨rfl, rfl⟩) ?_
  refine aw_pw ⟨by decide, by decide⟩ (fun _ kk => pw_aload_n 23 rfl dX7_init_22 rfl kk) ?_
  refine aw_pw ⟨by decide, by decide⟩ (fun _ kk => pw_aload_n 24 rfl dX7_init_23 rfl kk) ?_
  refine aw_putF 27 rfl dX7_init_24 fX7_23 (fun q h => by cases h; exact ⟨rfl, rfl⟩) rfl rfl rfl (fun _ => ⟨rfl, rfl⟩) ?_
  exact aw_done ⟨dX7_init_27, rfl, rfl, rfl, rfl, rfl, rfl, rfl⟩
def tTX8 : pS := [(100, 10), (100, 40)]
def lIX8 : List (Nat × Nat × Int32) := ((0, 7, nI 0) :: ((0, 6, nI 0) :: ((0, 5, nI 0) :: ((0, 4, nI 0) :: ((0, 2, nI 0) :: [])))))
def lRX8 : List (Nat × Nat × Nat) := ((0, 0, 1000) :: ((0, 3, 2) :: ((0, 1, 1) :: [])))
theorem n_X8_init : NC 1 yX8_init cX8_init 2 [.ref 1000] 8 8 tTX8 (iL lIX8) (z2 0) (rU lRX8) 2 50 := by
  refine NC.of [some (.ref 0), some (.ref 1000)] rfl rfl (Nat.le_of_ble_eq_true rfl) rfl (by decide) ?_
  refine aw_pw ⟨by decide, by decide⟩ (fun _ kk => pw_aload_n 1 rfl dX8_init_0 rfl kk) ?_
  refine aw_obj 4 rfl dX8_init_1 mX8_3 obI (by decide) (Nat.le_of_ble_eq_true rfl) ?_
  refine aw_pw ⟨by decide, by decide⟩ (fun _ kk => pw_aload_n 5 rfl dX8_init_4 rfl kk) ?_
  refine aw_pw ⟨by decide, by decide⟩ (fun _ kk => pw_bipush (v := nI 10) 7 rfl dX8_init_5 rfl kk) ?_
  refine aw_newa (k := 100) (N := 10) (ty := .int) 9 rfl dX8_init_7 aclI rfl rfl (by decide) (fun _ => rfl) (by decide) (by decide) (by decide) (by decide) (by decide) 1 rfl (by decide) ⟨iL_zero (L := []) (by decide +kernel), rfl⟩ (rU_ne (L := []) (by decide +kernel)) rfl rfl ?_
  refine aw_putF 12 rfl dX8_init_9 fX8_11 (fun q h => by cases h; exact ⟨rfl, rfl⟩) rfl rfl rfl (fun _ => ⟨rfl, rfl⟩) ?_
  refine aw_pw ⟨by decide, by decide⟩ (fun _ kk => pw_aload_n 13 rfl dX8_init_12 rfl kk) ?_
  refine aw_pw ⟨by decide, by decide⟩ (fun _ kk => pw_iconst (v := nI 0) 14 rfl dX8_init_13 rfl kk) ?_
  refine aw_pw ⟨by decide, by decide⟩ (fun _ kk => pw_putI 17 rfl dX8_init_14 fX8_15 w8_2 rfl rfl rfl rfl kk) ?_
  refine aw_pw ⟨by decide, by decide⟩ (fun _ kk => pw_aload_n 18 rfl dX8_init_17 rfl kk) ?_
  refine aw_pw ⟨by decide, by decide⟩ (fun _ kk => pw_bipush (v := nI 40) 20 rfl dX8_init_18 rfl kk) ?_
  refine aw_newa (k := 100) (N := 40) (ty := .int) 22 rfl dX8_init_20 aclI rfl rfl (by decide) (fun _ => rfl) (by decide) (by decide) (by decide) (by decide) (by decide) 2 rfl (by decide) ⟨iL_zero (L := ((0, 2, nI 0) :: [])) (by decide +kernel), rfl⟩ (rU_ne (L := ((0, 1, 1) :: [])) (by decide +kernel)) rfl rfl ?_
  refine aw_putF 25 rfl dX8_init_22 fX8_19 (fun q h => by cases h; exact ⟨rfl, rfl⟩) rfl rfl rfl (fun _ => ⟨rfl, rfl⟩) ?_
  refine aw_pw ⟨by decide, by decide⟩ (fun _ kk => pw_aload_n 26 rfl dX8_init_25 rfl kk) ?_
  refine aw_pw ⟨by decide, by decide⟩ (fun _ kk => pw_iconst (v := nI 0) 27 rfl dX8_init_26 rfl kk) ?_
  refine aw_pw ⟨by decide, by decide⟩ (fun _ kk => pw_putI 30 rfl dX8_init_27 fX8_22 w8_4 rfl rfl rfl rfl kk) ?_
  refine aw_pw ⟨by decide, by decide⟩ (fun _ kk => pw_aload_n 31 rfl dX8_init_30 rfl kk) ?_
  refine aw_pw ⟨by decide, by decide⟩ (fun _ kk => pw_iconst (v := nI 0) 32 rfl dX8_init_31 rfl kk) ?_
  refine aw_pw ⟨by decide, by decide⟩ (fun _ kk => pw_putI 35 rfl dX8_init_32 fX8_25 w8_5 rfl rfl rfl rfl kk) ?_
  refine aw_pw ⟨by decide, by decide⟩ (fun _ kk => pw_aload_n 36 rfl dX8_init_35 rfl kk) ?_
  refine aw_pw ⟨by decide, by decide⟩ (fun _ kk => pw_iconst (v := nI 0) 37 rfl dX8_init_36 rfl kk) ?_
  refine aw_pw ⟨by decide, by decide⟩ (fun _ kk => pw_putI 40 rfl dX8_init_37 fX8_28 w8_6 rfl rfl rfl rfl kk) ?_
  refine aw_pw ⟨by decide, by decide⟩ (fun _ kk => pw_aload_n 41 rfl dX8_init_40 rfl kk) ?_
  refine aw_pw ⟨by decide, by decide⟩ (fun _ kk => pw_iconst (v := nI 0) 42 rfl dX8_init_41 rfl kk) ?_
  refine aw_pw ⟨by decide, by decide⟩ (fun _ kk => pw_putI 45 rfl dX8_init_42 fX8_31 w8_7 rfl rfl rfl rfl kk) ?_
  refine aw_pw ⟨by decide, by decide⟩ (fun _ kk => pw_aload_n 46 rfl dX8_init_45 rfl kk) ?_
  refine aw_pw ⟨by decide, by decide⟩ (fun _ kk => pw_aload_n 47 rfl dX8_init_46 rfl kk) ?_
  refine aw_putF 50 rfl dX8_init_47 fX8_34 (fun q h => by cases h; exact ⟨rfl, rfl⟩) rfl rfl rfl (fun _ => ⟨rfl, rfl⟩) ?_
  exact aw_done ⟨dX8_init_50, rfl, rfl, rfl, rfl, rfl, rfl, rfl⟩
def tTX0 : pS := [(100, 21), (100, 21)]
def lIX0 : List (Nat × Nat × Int32) := []
def lRX0 : List (Nat × Nat × Nat) := ((0, 0, 1000) :: ((0, 2, 2) :: ((0, 1, 1) :: [])))
theorem n_X0_init : NC 1 yX0_init cX0_init 2 [.ref 1000] 0 3 tTX0 (iL lIX0) (z2 0) (rU lRX0) 2 42 := by
  refine NC.of [some (.ref 0), some (.ref 1000)] rfl rfl (Nat.le_of_ble_eq_true rfl) rfl (by decide) ?_
  refine aw_pw ⟨by decide, by decide⟩ (fun _ kk => pw_aload_n 1 rfl dX0_init_0 rfl kk) ?_
  refine aw_obj 4 rfl dX0_init_1 mX0_1 obI (by decide) (Nat.le_of_ble_eq_true rfl) ?_
  refine aw_pw ⟨by decide, by decide⟩ (fun _ kk => pw_aload_n 5 rfl dX0_init_4 rfl kk) ?_
  refine aw_pw ⟨by decide, by decide⟩ (fun _ kk => pw_bipush (v := nI 21) 7 rfl dX0_init_5 rfl kk) ?_
  refine aw_newa (k := 100) (N := 21) (ty := .int) 9 rfl dX0_init_7 aclI rfl rfl (by decide) (fun _ => rfl) (by decide) (by decide) (by decide) (by decide) (by decide) 1 rfl (by decide) ⟨iL_zero (L := []) (by decide +kernel), rfl⟩ (rU_ne (L := []) (by decide +kernel)) rfl rfl ?_
  refine aw_putF 12 rfl dX0_init_9 fX0_9 (fun q h => by cases h; exact ⟨rfl, rfl⟩) rfl rfl rfl (fun _ => ⟨rfl, rfl⟩) ?_
  refine aw_pw ⟨by decide, by decide⟩ (fun _ kk => pw_aload_n 13 rfl dX0_init_12 rfl kk) ?_
  refine aw_pw ⟨by decide, by decide⟩ (fun _ kk => pw_bipush (v := nI 21) 15 rfl dX0_init_13 rfl kk) ?_
  refine aw_newa (k := 100) (N := 21) (ty := .int) 17 rfl dX0_init_15 aclI rfl rfl (by decide) (fun _ => rfl) (by decide) (by decide) (by decide) (by decide) (by decide) 2 rfl (by decide) ⟨iL_zero (L := []) (by decide +kernel), rfl⟩ (rU_ne (L := ((0, 1, 1) :: [])) (by decide +kernel)) rfl rfl ?_
  refine aw_putF 20 rfl dX0_init_17 fX0_13 (fun q h => by cases h; exact ⟨rfl, rfl⟩) rfl rfl rfl (fun _ => ⟨rfl, rfl⟩) ?_
  refine aw_pw ⟨by decide, by decide⟩ (fun _ kk => pw_aload_n 21 rfl dX0_init_20 rfl kk) ?_
  refine aw_pw ⟨by decide, by decide⟩ (fun _ kk => pw_aload_n 22 rfl dX0_init_21 rfl kk) ?_
  refine aw_putF 25 rfl dX0_init_22 fX0_16 (fun q h => by cases h; exact ⟨rfl, rfl⟩) rfl rfl rfl (fun _ => ⟨rfl, rfl⟩) ?_
  exact aw_done ⟨dX0_init_25, rfl, rfl, rfl, rfl, rfl, rfl, rfl⟩
theorem qX11_7 : Cond.classLink RX11 7 RX1 ∈ gt ∧ Cond.instantiable RX1 13 ∈ gt ∧ Cond.initialized RX1 ∈ gt := ⟨gt_at 115 (by decide +kernel) (by decide +kernel), gt_at 116 (by decide +kernel) (by decide +kernel), iX1_init.2.1⟩
theorem qX11_16 : Cond.classLink RX11 16 RX6 ∈ gt ∧ Cond.instantiable RX6 9 ∈ gt ∧ Cond.initialized RX6 ∈ gt := ⟨gt_at 202 (by decide +kernel) (by decide +kernel), gt_at 203 (by decide +kernel) (by decide +kernel), iX6_init.2.1⟩
theorem qX11_26 : Cond.classLink RX11 26 RX10 ∈ gt ∧ Cond.instantiable RX10 2 ∈ gt ∧ Cond.initialized RX10 ∈ gt := ⟨gt_at 248 (by decide +kernel) (by decide +kernel), gt_at 249 (by decide +kernel) (by decide +kernel), iX10_init.2.1⟩
theorem qX11_33 : Cond.classLink RX11 33 RX2 ∈ gt ∧ Cond.instantiable RX2 2 ∈ gt ∧ Cond.initialized RX2 ∈ gt := ⟨gt_at 263 (by decide +kernel) (by decide +kernel), gt_at 264 (by decide +kernel) (by decide +kernel), iX2_init.2.1⟩
theorem qX11_40 : Cond.classLink RX11 40 RX4 ∈ gt ∧ Cond.instantiable RX4 6 ∈ gt ∧ Cond.initialized RX4 ∈ gt := ⟨gt_at 279 (by decide +kernel) (by decide +kernel), gt_at 280 (by decide +kernel) (by decide +kernel), iX4_init.2.1⟩
theorem qX11_47 : Cond.classLink RX11 47 RX3 ∈ gt ∧ Cond.instantiable RX3 6 ∈ gt ∧ Cond.initialized RX3 ∈ gt := ⟨gt_at 308 (by decide +kernel) (by decide +kernel), gt_at 309 (by decide +kernel) (by decide +kernel), iX3_init.2.1⟩
theorem qX11_56 : Cond.classLink RX11 56 RX5 ∈ gt ∧ Cond.instantiable RX5 5 ∈ gt ∧ Cond.initialized RX5 ∈ gt := ⟨gt_at 335 (by decide +kernel) (by decide +kernel), gt_at 336 (by decide +kernel) (by decide +kernel), iX5_init.2.1⟩
theorem qX11_63 : Cond.classLink RX11 63 RX9 ∈ gt ∧ Cond.instantiable RX9 3 ∈ gt ∧ Cond.initialized RX9 ∈ gt := ⟨gt_at 359 (by decide +kernel) (by decide +kernel), gt_at 360 (by decide +kernel) (by decide +kernel), iX9_init.2.1⟩
theorem qX11_72 : Cond.classLink RX11 72 RX7 ∈ gt ∧ Cond.instantiable RX7 4 ∈ gt ∧ Cond.initialized RX7 ∈ gt := ⟨gt_at 375 (by decide +kernel) (by decide +kernel), gt_at 376 (by decide +kernel) (by decide +kernel), iX7_init.2.1⟩
theorem qX11_79 : Cond.classLink RX11 79 RX8 ∈ gt ∧ Cond.instantiable RX8 8 ∈ gt ∧ Cond.initialized RX8 ∈ gt := ⟨gt_at 395 (by decide +kernel) (by decide +kernel), gt_at 396 (by decide +kernel) (by decide +kernel), iX8_init.2.1⟩
theorem qX11_88 : Cond.classLink RX11 88 RX0 ∈ gt ∧ Cond.instantiable RX0 3 ∈ gt ∧ Cond.initialized RX0 ∈ gt := ⟨gt_at 427 (by decide +kernel) (by decide +kernel), gt_at 428 (by decide +kernel) (by decide +kernel), iX0_init.2.1⟩
def tTX11 : pS := [(1, 13), (100, 7), (100, 7), (100, 7), (100, 7), (100, 7), (100, 7), (100, 7), (6, 9), (100, 40), (100, 40), (100, 40), (6, 9), (100, 40), (100, 40), (100, 40), (10, 2), (100, 80), (2, 2), (101, 12), (4, 6), (104, 12), (100, 32), (100, 32), (100, 32), (100, 32), (100, 32), (100, 32), (100, 32), (100, 32), (100, 32), (100, 32), (100, 32), (100, 32), (104, 2), (100, 32), (100, 32), (103, 2), (100, 32), (3, 6), (1, 13), (100, 7), (100, 7), (100, 7), (100, 7), (100, 7), (100, 7), (100, 7), (100, 7), (100, 10), (5, 5), (1, 13), (100, 7), (100, 7), (100, 7), (100, 7), (100, 7), (100, 7), (100, 7), (9, 3), (100, 7), (7, 4), (100, 12), (8, 8), (100, 10), (100, 40), (0, 3), (100, 21), (100, 21)]
def lIX11 : List (Nat × Nat × Int32) := (shI 67 lIX0 ++ (shI 64 lIX8 ++ (shI 62 lIX7 ++ (shI 60 lIX9 ++ (shI 51 lIX5 ++ (shI 40 lIX3 ++ (shI 21 lIX4 ++ (shI 19 lIX2 ++ (shI 17 lIX10 ++ (shI 13 lIX6 ++ (shI 9 lIX6 ++ (shI 1 lIX1 ++ []))))))))))))
def lRX11 : List (Nat × Nat × Nat) := ((0, 11, 67) :: (shR 67 [19] lRX0 ++ ((0, 10, 64) :: (shR 64 [19] lRX8 ++ ((0, 9, 62) :: (shR 62 [1, 19] lRX7 ++ ((0, 8, 60) :: (shR 60 [1, 19] lRX9 ++ ((0, 7, 51) :: (shR 51 [1, 9, 19] lRX5 ++ ((0, 6, 40) :: (shR 40 [1, 9, 19] lRX3 ++ ((0, 5, 21) :: (shR 21 [] lRX4 ++ ((0, 4, 19) :: (shR 19 [] lRX2 ++ ((0, 3, 17) :: (shR 17 [] lRX10 ++ ((0, 2, 13) :: (shR 13 [] lRX6 ++ ((0, 1, 9) :: (shR 9 [] lRX6 ++ ((0, 0, 1) :: (shR 1 [] lRX1 ++ []))))))))))))))))))))))))
theorem n_X11_init : NC 5 yX11_init cX11_init 1 [] 11 12 tTX11 (iL lIX11) (z2 0) (rU lRX11) 69 1199 := by
  refine NC.of [some (.ref 0)] rfl rfl (Nat.le_of_ble_eq_true rfl) rfl (by decide) ?_
  refine aw_pw ⟨by decide, by decide⟩ (fun _ kk => pw_aload_n 1 rfl dX11_init_0 rfl kk) ?_
  refine aw_obj 4 rfl dX11_init_1 mX11_1 obI (by decide) (Nat.le_of_ble_eq_true rfl) ?_
  refine aw_pw ⟨by decide, by decide⟩ (fun _ kk => pw_aload_n 5 rfl dX11_init_4 rfl kk) ?_
  refine aw_new 8 rfl dX11_init_5 rfl (by decide) qX11_7 dfv1 (by decide) (by decide) 1 rfl (by decide) ⟨iL_zero (L := []) (by decide +kernel), rU_zero (L := []) (by decide +kernel)⟩ (rU_ne (L := []) (by decide +kernel)) rfl rfl ?_
  refine aw_pw ⟨by decide, by decide⟩ (fun _ kk => pw_dup 9 rfl dX11_init_8 rfl kk) ?_
  refine aw_ctorM (o := 1) (hs := []) (rest := [.ref 1, .ref 0]) lIX1 lRX1 [] [] rfl rfl 12 rfl dX11_init_9 (Or.inr ⟨_, nX11_9⟩) iX1_init n_X1_init ⟨rfl, by decide, by decide, show (parseMethodDescriptor yX1_init.desc).map (fun d => d.parameters.length) = some 0 by decide +kernel⟩ rfl (by decide) (by decide) (Nat.le_of_ble_eq_true rfl) ⟨by decide, by decide⟩ (by decide) rfl rfl rfl rfl (by decide) (by decide +kernel) (by decide +kernel) (by decide +kernel) (by decide +kernel) rfl rfl (by decide) ?_
  refine aw_putF 15 rfl dX11_init_12 fX11_10 (fun q h => by cases h; exact ⟨rfl, rfl⟩) rfl rfl rfl (fun _ => ⟨rfl, rfl⟩) ?_
  refine aw_pw ⟨by decide, by decide⟩ (fun _ kk => pw_aload_n 16 rfl dX11_init_15 rfl kk) ?_
  refine aw_new 19 rfl dX11_init_16 rfl (by decide) qX11_16 dfv6 (by decide) (by decide) 9 rfl (by decide) ⟨iL_zero (L := (shI 1 lIX1 ++ [])) (by decide +kernel), rU_zero (L := ((0, 0, 1) :: (shR 1 [] lRX1 ++ []))) (by decide +kernel)⟩ (rU_ne (L := ((0, 0, 1) :: (shR 1 [] lRX1 ++ []))) (by decide +kernel)) rfl rfl ?_
  refine aw_pw ⟨by decide, by decide⟩ (fun _ kk => pw_dup 20 rfl dX11_init_19 rfl kk) ?_
  refine aw_ctorM (o := 9) (hs := []) (rest := [.ref 9, .ref 0]) lIX6 lRX6 (shI 1 lIX1 ++ []) ((0, 0, 1) :: (shR 1 [] lRX1 ++ [])) rfl rfl 23 rfl dX11_init_20 (Or.inl mX11_18) iX6_init n_X6_init ⟨rfl, by decide, by decide, show (parseMethodDescriptor yX6_init.desc).map (fun d => d.parameters.length) = some 0 by decide +kernel⟩ rfl (by decide) (by decide) (Nat.le_of_ble_eq_true rfl) ⟨by decide, by decide⟩ (by decide) rfl rfl rfl rfl (by decide) (by decide +kernel) (by decide +kernel) (by decide +kernel) (by decide +kernel) rfl rfl (by decide) ?_
  refine aw_putF 26 rfl dX11_init_23 fX11_19 (fun q h => by cases h; exact ⟨rfl, rfl⟩) rfl rfl rfl (fun _ => ⟨rfl, rfl⟩) ?_
  refine aw_pw ⟨by decide, by decide⟩ (fun _ kk => pw_aload_n 27 rfl dX11_init_26 rfl kk) ?_
  refine aw_new 30 rfl dX11_init_27 rfl (by decide) qX11_16 dfv6 (by decide) (by decide) 13 rfl (by decide) ⟨iL_zero (L := (shI 9 lIX6 ++ (shI 1 lIX1 ++ []))) (by decide +kernel), rU_zero (L := ((0, 1, 9) :: (shR 9 [] lRX6 ++ ((0, 0, 1) :: (shR 1 [] lRX1 ++ []))))) (by decide +kernel)⟩ (rU_ne (L := ((0, 1, 9) :: (shR 9 [] lRX6 ++ ((0, 0, 1) :: (shR 1 [] lRX1 ++ []))))) (by decide +kernel)) rfl rfl ?_
  refine aw_pw ⟨by decide, by decide⟩ (fun _ kk => pw_dup 31 rfl dX11_init_30 rfl kk) ?_
  refine aw_ctorM (o := 13) (hs := []) (rest := [.ref 13, .ref 0]) lIX6 lRX6 (shI 9 lIX6 ++ (shI 1 lIX1 ++ [])) ((0, 1, 9) :: (shR 9 [] lRX6 ++ ((0, 0, 1) :: (shR 1 [] lRX1 ++ [])))) rfl rfl 34 rfl dX11_init_31 (Or.inl mX11_18) iX6_init n_X6_init ⟨rfl, by decide, by decide, show (parseMethodDescriptor yX6_init.desc).map (fun d => d.parameters.length) = some 0 by decide +kernel⟩ rfl (by decide) (by decide) (Nat.le_of_ble_eq_true rfl) ⟨by decide, by decide⟩ (by decide) rfl rfl rfl rfl (by decide) (by decide +kernel) (by decide +kernel) (by decide +kernel) (by decide +kernel) rfl rfl (by decide) ?_
  refine aw_putF 37 rfl dX11_init_34 fX11_23 (fun q h => by cases h; exact ⟨rfl, rfl⟩) rfl rfl rfl (fun _ => ⟨rfl, rfl⟩) ?_
  refine aw_pw ⟨by decide, by decide⟩ (fun _ kk => pw_aload_n 38 rfl dX11_init_37 rfl kk) ?_
  refine aw_new 41 rfl dX11_init_38 rfl (by decide) qX11_26 dfv10 (by decide) (by decide) 17 rfl (by decide) ⟨iL_zero (L := (shI 13 lIX6 ++ (shI 9 lIX6 ++ (shI 1 lIX1 ++ [])))) (by decide +kernel), rU_zero (L := ((0, 2, 13) :: (shR 13 [] lRX6 ++ ((0, 1, 9) :: (shR 9 [] lRX6 ++ ((0, 0, 1) :: (shR 1 [] lRX1 ++ []))))))) (by decide +kernel)⟩ (rU_ne (L := ((0, 2, 13) :: (shR 13 [] lRX6 ++ ((0, 1, 9) :: (shR 9 [] lRX6 ++ ((0, 0, 1) :: (shR 1 [] lRX1 ++ []))))))) (by decide +kernel)) rfl rfl ?_
  refine aw_pw ⟨by decide, by decide⟩ (fun _ kk => pw_dup 42 rfl dX11_init_41 rfl kk) ?_
  refine aw_ctorM (o := 17) (hs := []) (rest := [.ref 17, .ref 0]) lIX10 lRX10 (shI 13 lIX6 ++ (shI 9 lIX6 ++ (shI 1 lIX1 ++ []))) ((0, 2, 13) :: (shR 13 [] lRX6 ++ ((0, 1, 9) :: (shR 9 [] lRX6 ++ ((0, 0, 1) :: (shR 1 [] lRX1 ++ [])))))) rfl rfl 45 rfl dX11_init_42 (Or.inr ⟨_, nX11_28⟩) iX10_init n_X10_init ⟨rfl, by decide, by decide, show (parseMethodDescriptor yX10_init.desc).map (fun d => d.parameters.length) = some 0 by decide +kernel⟩ rfl (by decide) (by decide) (Nat.le_of_ble_eq_true rfl) ⟨by decide, by decide⟩ (by decide) rfl rfl rfl rfl (by decide) (by decide +kernel) (by decide +kernel) (by decide +kernel) (by decide +kernel) rfl rfl (by decide) ?_
  refine aw_putF 48 rfl dX11_init_45 fX11_29 (fun q h => by cases h; exact ⟨rfl, rfl⟩) rfl rfl rfl (fun _ => ⟨rfl, rfl⟩) ?_
  refine aw_pw ⟨by decide, by decide⟩ (fun _ kk => pw_aload_n 49 rfl dX11_init_48 rfl kk) ?_
  refine aw_new 52 rfl dX11_init_49 rfl (by decide) qX11_33 dfv2 (by decide) (by decide) 19 rfl (by decide) ⟨iL_zero (L := (shI 17 lIX10 ++ (shI 13 lIX6 ++ (shI 9 lIX6 ++ (shI 1 lIX1 ++ []))))) (by decide +kernel), rU_zero (L := ((0, 3, 17) :: (shR 17 [] lRX10 ++ ((0, 2, 13) :: (shR 13 [] lRX6 ++ ((0, 1, 9) :: (shR 9 [] lRX6 ++ ((0, 0, 1) :: (shR 1 [] lRX1 ++ []))))))))) (by decide +kernel)⟩ (rU_ne (L := ((0, 3, 17) :: (shR 17 [] lRX10 ++ ((0, 2, 13) :: (shR 13 [] lRX6 ++ ((0, 1, 9) :: (shR 9 [] lRX6 ++ ((0, 0, 1) :: (shR 1 [] lRX1 ++ []))))))))) (by decide +kernel)) rfl rfl ?_
  refine aw_pw ⟨by decide, by decide⟩ (fun _ kk => pw_dup 53 rfl dX11_init_52 rfl kk) ?_
  refine aw_ctorM (o := 19) (hs := []) (rest := [.ref 19, .ref 0]) lIX2 lRX2 (shI 17 lIX10 ++ (shI 13 lIX6 ++ (shI 9 lIX6 ++ (shI 1 lIX1 ++ [])))) ((0, 3, 17) :: (shR 17 [] lRX10 ++ ((0, 2, 13) :: (shR 13 [] lRX6 ++ ((0, 1, 9) :: (shR 9 [] lRX6 ++ ((0, 0, 1) :: (shR 1 [] lRX1 ++ [])))))))) rfl rfl 56 rfl dX11_init_53 (Or.inr ⟨_, nX11_35⟩) iX2_init n_X2_init ⟨rfl, by decide, by decide, show (parseMethodDescriptor yX2_init.desc).map (fun d => d.parameters.length) = some 0 by decide +kernel⟩ rfl (by decide) (by decide) (Nat.le_of_ble_eq_true rfl) ⟨by decide, by decide⟩ (by decide) rfl rfl rfl rfl (by decide) (by decide +kernel) (by decide +kernel) (by decide +kernel) (by decide +kernel) rfl rfl (by decide) ?_
  refine aw_putF 59 rfl dX11_init_56 fX11_36 (fun q h => by cases h; exact ⟨rfl, rfl⟩) rfl rfl rfl (fun _ => ⟨rfl, rfl⟩) ?_
  refine aw_pw ⟨by decide, by decide⟩ (fun _ kk => pw_aload_n 60 rfl dX11_init_59 rfl kk) ?_
  refine aw_new 63 rfl dX11_init_60 rfl (by decide) qX11_40 dfv4 (by decide) (by decide) 21 rfl (by decide) ⟨iL_zero (L := (shI 19 lIX2 ++ (shI 17 lIX10 ++ (shI 13 lIX6 ++ (shI 9 lIX6 ++ (shI 1 lIX1 ++ [])))))) (by decide +kernel), rU_zero (L := ((0, 4, 19) :: (shR 19 [] lRX2 ++ ((0, 3, 17) :: (shR 17 [] lRX10 ++ ((0, 2, 13) :: (shR 13 [] lRX6 ++ ((0, 1, 9) :: (shR 9 [] lRX6 ++ ((0, 0, 1) :: (shR 1 [] lRX1 ++ []))))))))))) (by decide +kernel)⟩ (rU_ne (L := ((0, 4, 19) :: (shR 19 [] lRX2 ++ ((0, 3, 17) :: (shR 17 [] lRX10 ++ ((0, 2, 13) :: (shR 13 [] lRX6 ++ ((0, 1, 9) :: (shR 9 [] lRX6 ++ ((0, 0, 1) :: (shR 1 [] lRX1 ++ []))))))))))) (by decide +kernel)) rfl rfl ?_
  refine aw_pw ⟨by decide, by decide⟩ (fun _ kk => pw_dup 64 rfl dX11_init_63 rfl kk) ?_
  refine aw_ctorM (o := 21) (hs := []) (rest := [.ref 21, .ref 0]) lIX4 lRX4 (shI 19 lIX2 ++ (shI 17 lIX10 ++ (shI 13 lIX6 ++ (shI 9 lIX6 ++ (shI 1 lIX1 ++ []))))) ((0, 4, 19) :: (shR 19 [] lRX2 ++ ((0, 3, 17) :: (shR 17 [] lRX10 ++ ((0, 2, 13) :: (shR 13 [] lRX6 ++ ((0, 1, 9) :: (shR 9 [] lRX6 ++ ((0, 0, 1) :: (shR 1 [] lRX1 ++ [])))))))))) rfl rfl 67 rfl dX11_init_64 (Or.inr ⟨_, nX11_42⟩) iX4_init n_X4_init ⟨rfl, by decide, by decide, show (parseMethodDescriptor yX4_init.desc).map (fun d => d.parameters.length) = some 0 by decide +kernel⟩ rfl (by decide) (by decide) (Nat.le_of_ble_eq_true rfl) ⟨by decide, by decide⟩ (by decide) rfl rfl rfl rfl (by decide) (by decide +kernel) (by decide +kernel) (by decide +kernel) (by decide +kernel) rfl rfl (by decide) ?_
  refine aw_putF 70 rfl dX11_init_67 fX11_43 (fun q h => by cases h; exact ⟨rfl, rfl⟩) rfl rfl rfl (fun _ => ⟨rfl, rfl⟩) ?_
  refine aw_pw ⟨by decide, by decide⟩ (fun _ kk => pw_aload_n 71 rfl dX11_init_70 rfl kk) ?_
  refine aw_new 74 rfl dX11_init_71 rfl (by decide) qX11_47 dfv3 (by decide) (by decide) 40 rfl (by decide) ⟨iL_zero (L := (shI 21 lIX4 ++ (shI 19 lIX2 ++ (shI 17 lIX10 ++ (shI 13 lIX6 ++ (shI 9 lIX6 ++ (shI 1 lIX1 ++ []))))))) (by decide +kernel), rU_zero (L := ((0, 5, 21) :: (shR 21 [] lRX4 ++ ((0, 4, 19) :: (shR 19 [] lRX2 ++ ((0, 3, 17) :: (shR 17 [] lRX10 ++ ((0, 2, 13) :: (shR 13 [] lRX6 ++ ((0, 1, 9) :: (shR 9 [] lRX6 ++ ((0, 0, 1) :: (shR 1 [] lRX1 ++ []))))))))))))) (by decide +kernel)⟩ (rU_ne (L := ((0, 5, 21) :: (shR 21 [] lRX4 ++ ((0, 4, 19) :: (shR 19 [] lRX2 ++ ((0, 3, 17) :: (shR 17 [] lRX10 ++ ((0, 2, 13) :: (shR 13 [] lRX6 ++ ((0, 1, 9) :: (shR 9 [] lRX6 ++ ((0, 0, 1) :: (shR 1 [] lRX1 ++ []))))))))))))) (by decide +kernel)) rfl rfl ?_
  refine aw_pw ⟨by decide, by decide⟩ (fun _ kk => pw_dup 75 rfl dX11_init_74 rfl kk) ?_
  refine aw_pw ⟨by decide, by decide⟩ (fun _ kk => pw_aload_n 76 rfl dX11_init_75 rfl kk) ?_
  refine aw_pw ⟨by decide, by decide⟩ (fun _ kk => pw_getR (a := 1) 79 rfl dX11_init_76 fX11_10 rfl rfl (by decide +kernel) kk) ?_
  refine aw_pw ⟨by decide, by decide⟩ (fun _ kk => pw_aload_n 80 rfl dX11_init_79 rfl kk) ?_
  refine aw_pw ⟨by decide, by decide⟩ (fun _ kk => pw_getR (a := 9) 83 rfl dX11_init_80 fX11_19 rfl rfl (by decide +kernel) kk) ?_
  refine aw_pw ⟨by decide, by decide⟩ (fun _ kk => pw_aload_n 84 rfl dX11_init_83 rfl kk) ?_
  refine aw_pw ⟨by decide, by decide⟩ (fun _ kk => pw_getR (a := 19) 87 rfl dX11_init_84 fX11_36 rfl rfl (by decide +kernel) kk) ?_
  refine aw_ctorM (o := 40) (hs := [1, 9, 19]) (rest := [.ref 40, .ref 0]) lIX3 lRX3 (shI 21 lIX4 ++ (shI 19 lIX2 ++ (shI 17 lIX10 ++ (shI 13 lIX6 ++ (shI 9 lIX6 ++ (shI 1 lIX1 ++ [])))))) ((0, 5, 21) :: (shR 21 [] lRX4 ++ ((0, 4, 19) :: (shR 19 [] lRX2 ++ ((0, 3, 17) :: (shR 17 [] lRX10 ++ ((0, 2, 13) :: (shR 13 [] lRX6 ++ ((0, 1, 9) :: (shR 9 [] lRX6 ++ ((0, 0, 1) :: (shR 1 [] lRX1 ++ [])))))))))))) rfl rfl 90 rfl dX11_init_87 (Or.inl mX11_49) iX3_init n_X3_init ⟨rfl, by decide, by decide, show (parseMethodDescriptor yX3_init.desc).map (fun d => d.parameters.length) = some 3 by decide +kernel⟩ rfl (by decide) (by decide) (Nat.le_of_ble_eq_true rfl) ⟨by decide, by decide⟩ (by decide) rfl rfl rfl rfl (by decide) (by decide +kernel) (by decide +kernel) (by decide +kernel) (by decide +kernel) rfl rfl (by decide) ?_
  refine aw_putF 93 rfl dX11_init_90 fX11_52 (fun q h => by cases h; exact ⟨rfl, rfl⟩) rfl rfl rfl (fun _ => ⟨rfl, rfl⟩) ?_
  refine aw_pw ⟨by decide, by decide⟩ (fun _ kk => pw_aload_n 94 rfl dX11_init_93 rfl kk) ?_
  refine aw_new 97 rfl dX11_init_94 rfl (by decide) qX11_56 dfv5 (by decide) (by decide) 51 rfl (by decide) ⟨iL_zero (L := (shI 40 lIX3 ++ (shI 21 lIX4 ++ (shI 19 lIX2 ++ (shI 17 lIX10 ++ (shI 13 lIX6 ++ (shI 9 lIX6 ++ (shI 1 lIX1 ++ [])))))))) (by decide +kernel), rU_zero (L := ((0, 6, 40) :: (shR 40 [1, 9, 19] lRX3 ++ ((0, 5, 21) :: (shR 21 [] lRX4 ++ ((0, 4, 19) :: (shR 19 [] lRX2 ++ ((0, 3, 17) :: (shR 17 [] lRX10 ++ ((0, 2, 13) :: (shR 13 [] lRX6 ++ ((0, 1, 9) :: (shR 9 [] lRX6 ++ ((0, 0, 1) :: (shR 1 [] lRX1 ++ []))))))))))))))) (by decide +kernel)⟩ (rU_ne (L := ((0, 6, 40) :: (shR 40 [1, 9, 19] lRX3 ++ ((0, 5, 21) :: (shR 21 [] lRX4 ++ ((0, 4, 19) :: (shR 19 [] lRX2 ++ ((0, 3, 17) :: (shR 17 [] lRX10 ++ ((0, 2, 13) :: (shR 13 [] lRX6 ++ ((0, 1, 9) :: (shR 9 [] lRX6 ++ ((0, 0, 1) :: (shR 1 [] lRX1 ++ []))))))))))))))) (by decide +kernel)) rfl rfl ?_
  refine aw_pw ⟨by decide, by decide⟩ (fun _ kk => pw_dup 98 rfl dX11_init_97 rfl kk) ?_
  refine aw_pw ⟨by decide, by decide⟩ (fun _ kk => pw_aload_n 99 rfl dX11_init_98 rfl kk) ?_
  refine aw_pw ⟨by decide, by decide⟩ (fun _ kk => pw_getR (a := 1) 102 rfl dX11_init_99 fX11_10 rfl rfl (by decide +kernel) kk) ?_
  refine aw_pw ⟨by decide, by decide⟩ (fun _ kk => pw_aload_n 103 rfl dX11_init_102 rfl kk) ?_
  refine aw_pw ⟨by decide, by decide⟩ (fun _ kk => pw_getR (a := 9) 106 rfl dX11_init_103 fX11_19 rfl rfl (by decide +kernel) kk) ?_
  refine aw_pw ⟨by decide, by decide⟩ (fun _ kk => pw_aload_n 107 rfl dX11_init_106 rfl kk) ?_
  refine aw_pw ⟨by decide, by decide⟩ (fun _ kk => pw_getR (a := 19) 110 rfl dX11_init_107 fX11_36 rfl rfl (by decide +kernel) kk) ?_
  refine aw_ctorM (o := 51) (hs := [1, 9, 19]) (rest := [.ref 51, .ref 0]) lIX5 lRX5 (shI 40 lIX3 ++ (shI 21 lIX4 ++ (shI 19 lIX2 ++ (shI 17 lIX10 ++ (shI 13 lIX6 ++ (shI 9 lIX6 ++ (shI 1 lIX1 ++ []))))))) ((0, 6, 40) :: (shR 40 [1, 9, 19] lRX3 ++ ((0, 5, 21) :: (shR 21 [] lRX4 ++ ((0, 4, 19) :: (shR 19 [] lRX2 ++ ((0, 3, 17) :: (shR 17 [] lRX10 ++ ((0, 2, 13) :: (shR 13 [] lRX6 ++ ((0, 1, 9) :: (shR 9 [] lRX6 ++ ((0, 0, 1) :: (shR 1 [] lRX1 ++ [])))))))))))))) rfl rfl 113 rfl dX11_init_110 (Or.inl mX11_58) iX5_init n_X5_init ⟨rfl, by decide, by decide, show (parseMethodDescriptor yX5_init.desc).map (fun d => d.parameters.length) = some 3 by decide +kernel⟩ rfl (by decide) (by decide) (Nat.le_of_ble_eq_true rfl) ⟨by decide, by decide⟩ (by decide) rfl rfl rfl rfl (by decide) (by decide +kernel) (by decide +kernel) (by decide +kernel) (by decide +kernel) rfl rfl (by decide) ?_
  refine aw_putF 116 rfl dX11_init_113 fX11_59 (fun q h => by cases h; exact ⟨rfl, rfl⟩) rfl rfl rfl (fun _ => ⟨rfl, rfl⟩) ?_
  refine aw_pw ⟨by decide, by decide⟩ (fun _ kk => pw_aload_n 117 rfl dX11_init_116 rfl kk) ?_
  refine aw_new 120 rfl dX11_init_117 rfl (by decide) qX11_63 dfv9 (by decide) (by decide) 60 rfl (by decide) ⟨iL_zero (L := (shI 51 lIX5 ++ (shI 40 lIX3 ++ (shI 21 lIX4 ++ (shI 19 lIX2 ++ (shI 17 lIX10 ++ (shI 13 lIX6 ++ (shI 9 lIX6 ++ (shI 1 lIX1 ++ []))))))))) (by decide +kernel), rU_zero (L := ((0, 7, 51) :: (shR 51 [1, 9, 19] lRX5 ++ ((0, 6, 40) :: (shR 40 [1, 9, 19] lRX3 ++ ((0, 5, 21) :: (shR 21 [] lRX4 ++ ((0, 4, 19) :: (shR 19 [] lRX2 ++ ((0, 3, 17) :: (shR 17 [] lRX10 ++ ((0, 2, 13) :: (shR 13 [] lRX6 ++ ((0, 1, 9) :: (shR 9 [] lRX6 ++ ((0, 0, 1) :: (shR 1 [] lRX1 ++ []))))))))))))))))) (by decide +kernel)⟩ (rU_ne (L := ((0, 7, 51) :: (shR 51 [1, 9, 19] lRX5 ++ ((0, 6, 40) :: (shR 40 [1, 9, 19] lRX3 ++ ((0, 5, 21) :: (shR 21 [] lRX4 ++ ((0, 4, 19) :: (shR 19 [] lRX2 ++ ((0, 3, 17) :: (shR 17 [] lRX10 ++ ((0, 2, 13) :: (shR 13 [] lRX6 ++ ((0, 1, 9) :: (shR 9 [] lRX6 ++ ((0, 0, 1) :: (shR 1 [] lRX1 ++ []))))))))))))))))) (by decide +kernel)) rfl rfl ?_
  refine aw_pw ⟨by decide, by decide⟩ (fun _ kk => pw_dup 121 rfl dX11_init_120 rfl kk) ?_
  refine aw_pw ⟨by decide, by decide⟩ (fun _ kk => pw_aload_n 122 rfl dX11_init_121 rfl kk) ?_
  refine aw_pw ⟨by decide, by decide⟩ (fun _ kk => pw_getR (a := 1) 125 rfl dX11_init_122 fX11_10 rfl rfl (by decide +kernel) kk) ?_
  refine aw_pw ⟨by decide, by decide⟩ (fun _ kk => pw_aload_n 126 rfl dX11_init_125 rfl kk) ?_
  refine aw_pw ⟨by decide, by decide⟩ (fun _ kk => pw_getR (a := 19) 129 rfl dX11_init_126 fX11_36 rfl rfl (by decide +kernel) kk) ?_
  refine aw_ctorM (o := 60) (hs := [1, 19]) (rest := [.ref 60, .ref 0]) lIX9 lRX9 (shI 51 lIX5 ++ (shI 40 lIX3 ++ (shI 21 lIX4 ++ (shI 19 lIX2 ++ (shI 17 lIX10 ++ (shI 13 lIX6 ++ (shI 9 lIX6 ++ (shI 1 lIX1 ++ [])))))))) ((0, 7, 51) :: (shR 51 [1, 9, 19] lRX5 ++ ((0, 6, 40) :: (shR 40 [1, 9, 19] lRX3 ++ ((0, 5, 21) :: (shR 21 [] lRX4 ++ ((0, 4, 19) :: (shR 19 [] lRX2 ++ ((0, 3, 17) :: (shR 17 [] lRX10 ++ ((0, 2, 13) :: (shR 13 [] lRX6 ++ ((0, 1, 9) :: (shR 9 [] lRX6 ++ ((0, 0, 1) :: (shR 1 [] lRX1 ++ [])))))))))))))))) rfl rfl 132 rfl dX11_init_129 (Or.inl mX11_65) iX9_init n_X9_init ⟨rfl, by decide, by decide, show (parseMethodDescriptor yX9_init.desc).map (fun d => d.parameters.length) = some 2 by decide +kernel⟩ rfl (by decide) (by decide) (Nat.le_of_ble_eq_true rfl) ⟨by decide, by decide⟩ (by decide) rfl rfl rfl rfl (by decide) (by decide +kernel) (by decide +kernel) (by decide +kernel) (by decide +kernel) rfl rfl (by decide) ?_
  refine aw_putF 135 rfl dX11_init_132 fX11_68 (fun q h => by cases h; exact ⟨rfl, rfl⟩) rfl rfl rfl (fun _ => ⟨rfl, rfl⟩) ?_
  refine aw_pw ⟨by decide, by decide⟩ (fun _ kk => pw_aload_n 136 rfl dX11_init_135 rfl kk) ?_
  refine aw_new 139 rfl dX11_init_136 rfl (by decide) qX11_72 dfv7 (by decide) (by decide) 62 rfl (by decide) ⟨iL_zero (L := (shI 60 lIX9 ++ (shI 51 lIX5 ++ (shI 40 lIX3 ++ (shI 21 lIX4 ++ (shI 19 lIX2 ++ (shI 17 lIX10 ++ (shI 13 lIX6 ++ (shI 9 lIX6 ++ (shI 1 lIX1 ++ [])))))))))) (by decide +kernel), rU_zero (L := ((0, 8, 60) :: (shR 60 [1, 19] lRX9 ++ ((0, 7, 51) :: (shR 51 [1, 9, 19] lRX5 ++ ((0, 6, 40) :: (shR 40 [1, 9, 19] lRX3 ++ ((0, 5, 21) :: (shR 21 [] lRX4 ++ ((0, 4, 19) :: (shR 19 [] lRX2 ++ ((0, 3, 17) :: (shR 17 [] lRX10 ++ ((0, 2, 13) :: (shR 13 [] lRX6 ++ ((0, 1, 9) :: (shR 9 [] lRX6 ++ ((0, 0, 1) :: (shR 1 [] lRX1 ++ []))))))))))))))))))) (by decide +kernel)⟩ (rU_ne (L := ((0, 8, 60) :: (shR 60 [1, 19] lRX9 ++ ((0, 7, 51) :: (shR 51 [1, 9, 19] lRX5 ++ ((0, 6, 40) :: (shR 40 [1, 9, 19] lRX3 ++ ((0, 5, 21) :: (shR 21 [] lRX4 ++ ((0, 4, 19) :: (shR 19 [] lRX2 ++ ((0, 3, 17) :: (shR 17 [] lRX10 ++ ((0, 2, 13) :: (shR 13 [] lRX6 ++ ((0, 1, 9) :: (shR 9 [] lRX6 ++ ((0, 0, 1) :: (shR 1 [] lRX1 ++ []))))))))))))))))))) (by decide +kernel)) rfl rfl ?_
  refine aw_pw ⟨by decide, by decide⟩ (fun _ kk => pw_dup 140 rfl dX11_init_139 rfl kk) ?_
  refine aw_pw ⟨by decide, by decide⟩ (fun _ kk => pw_aload_n 141 rfl dX11_init_140 rfl kk) ?_
  refine aw_pw ⟨by decide, by decide⟩ (fun _ kk => pw_getR (a := 1) 144 rfl dX11_init_141 fX11_10 rfl rfl (by decide +kernel) kk) ?_
  refine aw_pw ⟨by decide, by decide⟩ (fun _ kk => pw_aload_n 145 rfl dX11_init_144 rfl kk) ?_
  refine aw_pw ⟨by decide, by decide⟩ (fun _ kk => pw_getR (a := 19) 148 rfl dX11_init_145 fX11_36 rfl rfl (by decide +kernel) kk) ?_
  refine aw_ctorM (o := 62) (hs := [1, 19]) (rest := [.ref 62, .ref 0]) lIX7 lRX7 (shI 60 lIX9 ++ (shI 51 lIX5 ++ (shI 40 lIX3 ++ (shI 21 lIX4 ++ (shI 19 lIX2 ++ (shI 17 lIX10 ++ (shI 13 lIX6 ++ (shI 9 lIX6 ++ (shI 1 lIX1 ++ []))))))))) ((0, 8, 60) :: (shR 60 [1, 19] lRX9 ++ ((0, 7, 51) :: (shR 51 [1, 9, 19] lRX5 ++ ((0, 6, 40) :: (shR 40 [1, 9, 19] lRX3 ++ ((0, 5, 21) :: (shR 21 [] lRX4 ++ ((0, 4, 19) :: (shR 19 [] lRX2 ++ ((0, 3, 17) :: (shR 17 [] lRX10 ++ ((0, 2, 13) :: (shR 13 [] lRX6 ++ ((0, 1, 9) :: (shR 9 [] lRX6 ++ ((0, 0, 1) :: (shR 1 [] lRX1 ++ [])))))))))))))))))) rfl rfl 151 rfl dX11_init_148 (Or.inl mX11_74) iX7_init n_X7_init ⟨rfl, by decide, by decide, show (parseMethodDescriptor yX7_init.desc).map (fun d => d.parameters.length) = some 2 by decide +kernel⟩ rfl (by decide) (by decide) (Nat.le_of_ble_eq_true rfl) ⟨by decide, by decide⟩ (by decide) rfl rfl rfl rfl (by decide) (by decide +kernel) (by decide +kernel) (by decide +kernel) (by decide +kernel) rfl rfl (by decide) ?_
  refine aw_putF 154 rfl dX11_init_151 fX11_75 (fun q h => by cases h; exact ⟨rfl, rfl⟩) rfl rfl rfl (fun _ => ⟨rfl, rfl⟩) ?_
  refine aw_pw ⟨by decide, by decide⟩ (fun _ kk => pw_aload_n 155 rfl dX11_init_154 rfl kk) ?_
  refine aw_new 158 rfl dX11_init_155 rfl (by decide) qX11_79 dfv8 (by decide) (by decide) 64 rfl (by decide) ⟨iL_zero (L := (shI 62 lIX7 ++ (shI 60 lIX9 ++ (shI 51 lIX5 ++ (shI 40 lIX3 ++ (shI 21 lIX4 ++ (shI 19 lIX2 ++ (shI 17 lIX10 ++ (shI 13 lIX6 ++ (shI 9 lIX6 ++ (shI 1 lIX1 ++ []))))))))))) (by decide +kernel), rU_zero (L := ((0, 9, 62) :: (shR 62 [1, 19] lRX7 ++ ((0, 8, 60) :: (shR 60 [1, 19] lRX9 ++ ((0, 7, 51) :: (shR 51 [1, 9, 19] lRX5 ++ ((0, 6, 40) :: (shR 40 [1, 9, 19] lRX3 ++ ((0, 5, 21) :: (shR 21 [] lRX4 ++ ((0, 4, 19) :: (shR 19 [] lRX2 ++ ((0, 3, 17) :: (shR 17 [] lRX10 ++ ((0, 2, 13) :: (shR 13 [] lRX6 ++ ((0, 1, 9) :: (shR 9 [] lRX6 ++ ((0, 0, 1) :: (shR 1 [] lRX1 ++ []))))))))))))))))))))) (by decide +kernel)⟩ (rU_ne (L := ((0, 9, 62) :: (shR 62 [1, 19] lRX7 ++ ((0, 8, 60) :: (shR 60 [1, 19] lRX9 ++ ((0, 7, 51) :: (shR 51 [1, 9, 19] lRX5 ++ ((0, 6, 40) :: (shR 40 [1, 9, 19] lRX3 ++ ((0, 5, 21) :: (shR 21 [] lRX4 ++ ((0, 4, 19) :: (shR 19 [] lRX2 ++ ((0, 3, 17) :: (shR 17 [] lRX10 ++ ((0, 2, 13) :: (shR 13 [] lRX6 ++ ((0, 1, 9) :: (shR 9 [] lRX6 ++ ((0, 0, 1) :: (shR 1 [] lRX1 ++ []))))))))))))))))))))) (by decide +kernel)) rfl rfl ?_
  refine aw_pw ⟨by decide, by decide⟩ (fun _ kk => pw_dup 159 rfl dX11_init_158 rfl kk) ?_
  refine aw_pw ⟨by decide, by decide⟩ (fun _ kk => pw_aload_n 160 rfl dX11_init_159 rfl kk) ?_
  refine aw_pw ⟨by decide, by decide⟩ (fun _ kk => pw_getR (a := 19) 163 rfl dX11_init_160 fX11_36 rfl rfl (by decide +kernel) kk) ?_
  refine aw_ctorM (o := 64) (hs := [19]) (rest := [.ref 64, .ref 0]) lIX8 lRX8 (shI 62 lIX7 ++ (shI 60 lIX9 ++ (shI 51 lIX5 ++ (shI 40 lIX3 ++ (shI 21 lIX4 ++ (shI 19 lIX2 ++ (shI 17 lIX10 ++ (shI 13 lIX6 ++ (shI 9 lIX6 ++ (shI 1 lIX1 ++ [])))))))))) ((0, 9, 62) :: (shR 62 [1, 19] lRX7 ++ ((0, 8, 60) :: (shR 60 [1, 19] lRX9 ++ ((0, 7, 51) :: (shR 51 [1, 9, 19] lRX5 ++ ((0, 6, 40) :: (shR 40 [1, 9, 19] lRX3 ++ ((0, 5, 21) :: (shR 21 [] lRX4 ++ ((0, 4, 19) :: (shR 19 [] lRX2 ++ ((0, 3, 17) :: (shR 17 [] lRX10 ++ ((0, 2, 13) :: (shR 13 [] lRX6 ++ ((0, 1, 9) :: (shR 9 [] lRX6 ++ ((0, 0, 1) :: (shR 1 [] lRX1 ++ [])))))))))))))))))))) rfl rfl 166 rfl dX11_init_163 (Or.inl mX11_81) iX8_init n_X8_init ⟨rfl, by decide, by decide, show (parseMethodDescriptor yX8_init.desc).map (fun d => d.parameters.length) = some 1 by decide +kernel⟩ rfl (by decide) (by decide) (Nat.le_of_ble_eq_true rfl) ⟨by decide, by decide⟩ (by decide) rfl rfl rfl rfl (by decide) (by decide +kernel) (by decide +kernel) (by decide +kernel) (by decide +kernel) rfl rfl (by decide) ?_
  refine aw_putF 169 rfl dX11_init_166 fX11_84 (fun q h => by cases h; exact ⟨rfl, rfl⟩) rfl rfl rfl (fun _ => ⟨rfl, rfl⟩) ?_
  refine aw_pw ⟨by decide, by decide⟩ (fun _ kk => pw_aload_n 170 rfl dX11_init_169 rfl kk) ?_
  refine aw_new 173 rfl dX11_init_170 rfl (by decide) qX11_88 dfv0 (by decide) (by decide) 67 rfl (by decide) ⟨iL_zero (L := (shI 64 lIX8 ++ (shI 62 lIX7 ++ (shI 60 lIX9 ++ (shI 51 lIX5 ++ (shI 40 lIX3 ++ (shI 21 lIX4 ++ (shI 19 lIX2 ++ (shI 17 lIX10 ++ (shI 13 lIX6 ++ (shI 9 lIX6 ++ (shI 1 lIX1 ++ [])))))))))))) (by decide +kernel), rU_zero (L := ((0, 10, 64) :: (shR 64 [19] lRX8 ++ ((0, 9, 62) :: (shR 62 [1, 19] lRX7 ++ ((0, 8, 60) :: (shR 60 [1, 19] lRX9 ++ ((0, 7, 51) :: (shR 51 [1, 9, 19] lRX5 ++ ((0, 6, 40) :: (shR 40 [1, 9, 19] lRX3 ++ ((0, 5, 21) :: (shR 21 [] lRX4 ++ ((0, 4, 19) :: (shR 19 [] lRX2 ++ ((0, 3, 17) :: (shR 17 [] lRX10 ++ ((0, 2, 13) :: (shR 13 [] lRX6 ++ ((0, 1, 9) :: (shR 9 [] lRX6 ++ ((0, 0, 1) :: (shR 1 [] lRX1 ++ []))))))))))))))))))))))) (by decide +kernel)⟩ (rU_ne (L := ((0, 10, 64) :: (shR 64 [19] lRX8 ++ ((0, 9, 62) :: (shR 62 [1, 19] lRX7 ++ ((0, 8, 60) :: (shR 60 [1, 19] lRX9 ++ ((0, 7, 51) :: (shR 51 [1, 9, 19] lRX5 ++ ((0, 6, 40) :: (shR 40 [1, 9, 19] lRX3 ++ ((0, 5, 21) :: (shR 21 [] lRX4 ++ ((0, 4, 19) :: (shR 19 [] lRX2 ++ ((0, 3, 17) :: (shR 17 [] lRX10 ++ ((0, 2, 13) :: (shR 13 [] lRX6 ++ ((0, 1, 9) :: (shR 9 [] lRX6 ++ ((0, 0, 1) :: (shR 1 [] lRX1 ++ []))))))))))))))))))))))) (by decide +kernel)) rfl rfl ?_
  refine aw_pw ⟨by decide, by decide⟩ (fun _ kk => pw_dup 174 rfl dX11_init_173 rfl kk) ?_
  refine aw_pw ⟨by decide, by decide⟩ (fun _ kk => pw_aload_n 175 rfl dX11_init_174 rfl kk) ?_
  refine aw_pw ⟨by decide, by decide⟩ (fun _ kk => pw_getR (a := 19) 178 rfl dX11_init_175 fX11_36 rfl rfl (by decide +kernel) kk) ?_
  refine aw_ctorM (o := 67) (hs := [19]) (rest := [.ref 67, .ref 0]) lIX0 lRX0 (shI 64 lIX8 ++ (shI 62 lIX7 ++ (shI 60 lIX9 ++ (shI 51 lIX5 ++ (shI 40 lIX3 ++ (shI 21 lIX4 ++ (shI 19 lIX2 ++ (shI 17 lIX10 ++ (shI 13 lIX6 ++ (shI 9 lIX6 ++ (shI 1 lIX1 ++ []))))))))))) ((0, 10, 64) :: (shR 64 [19] lRX8 ++ ((0, 9, 62) :: (shR 62 [1, 19] lRX7 ++ ((0, 8, 60) :: (shR 60 [1, 19] lRX9 ++ ((0, 7, 51) :: (shR 51 [1, 9, 19] lRX5 ++ ((0, 6, 40) :: (shR 40 [1, 9, 19] lRX3 ++ ((0, 5, 21) :: (shR 21 [] lRX4 ++ ((0, 4, 19) :: (shR 19 [] lRX2 ++ ((0, 3, 17) :: (shR 17 [] lRX10 ++ ((0, 2, 13) :: (shR 13 [] lRX6 ++ ((0, 1, 9) :: (shR 9 [] lRX6 ++ ((0, 0, 1) :: (shR 1 [] lRX1 ++ [])))))))))))))))))))))) rfl rfl 181 rfl dX11_init_178 (Or.inl mX11_90) iX0_init n_X0_init ⟨rfl, by decide, by decide, show (parseMethodDescriptor yX0_init.desc).map (fun d => d.parameters.length) = some 1 by decide +kernel⟩ rfl (by decide) (by decide) (Nat.le_of_ble_eq_true rfl) ⟨by decide, by decide⟩ (by decide) rfl rfl rfl rfl (by decide) (by decide +kernel) (by decide +kernel) (by decide +kernel) (by decide +kernel) rfl rfl (by decide) ?_
  refine aw_putF 184 rfl dX11_init_181 fX11_91 (fun q h => by cases h; exact ⟨rfl, rfl⟩) rfl rfl rfl (fun _ => ⟨rfl, rfl⟩) ?_
  exact aw_done ⟨dX11_init_184, rfl, rfl, rfl, rfl, rfl, rfl, rfl⟩
def tTX12 : pS := [(100, 32), (100, 7), (102, 80), (101, 16), (100, 7), (102, 40), (102, 40), (100, 7), (100, 384), (100, 32), (100, 32), (100, 7), (100, 12), (100, 240), (100, 8), (100, 7), (100, 7), (100, 12), (100, 12), (100, 10), (100, 10), (103, 882), (100, 64), (103, 2), (100, 2)]
def lIX12 : List (Nat × Nat × Int32) := ((1, 29, nI 7) :: ((1, 28, nI 5) :: []))
def lRX12 : List (Nat × Nat × Nat) := ((0, 41, 25) :: ((0, 40, 24) :: ((0, 39, 23) :: ((0, 36, 22) :: ((0, 34, 21) :: ((0, 33, 20) :: ((0, 31, 19) :: ((0, 30, 18) :: ((0, 29, 17) :: ((0, 28, 16) :: ((0, 27, 15) :: ((0, 26, 14) :: ((0, 25, 13) :: ((0, 23, 12) :: ((0, 22, 11) :: ((0, 21, 10) :: ((0, 19, 9) :: ((0, 18, 8) :: ((0, 15, 7) :: ((0, 14, 6) :: ((0, 13, 5) :: ((0, 5, 4) :: ((0, 3, 3) :: ((0, 2, 2) :: ((0, 0, 1) :: [])))))))))))))))))))))))))
theorem n_X12_init : NC 1 yX12_init cX12_init 1 [] 12 42 tTX12 (iL lIX12) (z2 0) (rU lRX12) 25 1952 := by
  refine NC.of [some (.ref 0)] rfl rfl (Nat.le_of_ble_eq_true rfl) rfl (by decide) ?_
  refine aw_pw ⟨by decide, by decide⟩ (fun _ kk => pw_aload_n 1 rfl dX12_init_0 rfl kk) ?_
  refine aw_obj 4 rfl dX12_init_1 mX12_3 obI (by decide) (Nat.le_of_ble_eq_true rfl) ?_
  refine aw_pw ⟨by decide, by decide⟩ (fun _ kk => pw_aload_n 5 rfl dX12_init_4 rfl kk) ?_
  refine aw_pw ⟨by decide, by decide⟩ (fun _ kk => pw_bipush (v := nI 32) 7 rfl dX12_init_5 rfl kk) ?_
  refine aw_newa (k := 100) (N := 32) (ty := .int) 9 rfl dX12_init_7 aclI rfl rfl (by decide) (fun _ => rfl) (by decide) (by decide) (by decide) (by decide) (by decide) 1 rfl (by decide) ⟨iL_zero (L := []) (by decide +kernel), rfl⟩ (rU_ne (L := []) (by decide +kernel)) rfl rfl ?_
  refine aw_putF 12 rfl dX12_init_9 fX12_9 (fun q h => by cases h; exact ⟨rfl, rfl⟩) rfl rfl rfl (fun _ => ⟨rfl, rfl⟩) ?_
  refine aw_pw ⟨by decide, by decide⟩ (fun _ kk => pw_aload_n 13 rfl dX12_init_12 rfl kk) ?_
  refine aw_pw ⟨by decide, by decide⟩ (fun _ kk => pw_bipush (v := nI 7) 15 rfl dX12_init_13 rfl kk) ?_
  refine aw_newa (k := 100) (N := 7) (ty := .int) 17 rfl dX12_init_15 aclI rfl rfl (by decide) (fun _ => rfl) (by decide) (by decide) (by decide) (by decide) (by decide) 2 rfl (by decide) ⟨iL_zero (L := []) (by decide +kernel), rfl⟩ (rU_ne (L := ((0, 0, 1) :: [])) (by decide +kernel)) rfl rfl ?_
  refine aw_putF 20 rfl dX12_init_17 fX12_13 (fun q h => by cases h; exact ⟨rfl, rfl⟩) rfl rfl rfl (fun _ => ⟨rfl, rfl⟩) ?_
  refine aw_pw ⟨by decide, by decide⟩ (fun _ kk => pw_aload_n 21 rfl dX12_init_20 rfl kk) ?_
  refine aw_pw ⟨by decide, by decide⟩ (fun _ kk => pw_bipush (v := nI 80) 23 rfl dX12_init_21 rfl kk) ?_
  refine aw_newa (k := 102) (N := 80) (ty := .byte) 25 rfl dX12_init_23 aclB rfl rfl (by decide) (fun _ => rfl) (by decide) (by decide) (by decide) (by decide) (by decide) 3 rfl (by decide) ⟨iL_zero (L := []) (by decide +kernel), rfl⟩ (rU_ne (L := ((0, 2, 2) :: ((0, 0, 1) :: []))) (by decide +kernel)) rfl rfl ?_
  refine aw_putF 28 rfl dX12_init_25 fX12_16 (fun q h => by cases h; exact ⟨rfl, rfl⟩) rfl rfl rfl (fun _ => ⟨rfl, rfl⟩) ?_
  refine aw_pw ⟨by decide, by decide⟩ (fun _ kk => pw_aload_n 29 rfl dX12_init_28 rfl kk) ?_
  refine aw_pw ⟨by decide, by decide⟩ (fun _ kk => pw_bipush (v := nI 16) 31 rfl dX12_init_29 rfl kk) ?_
  refine aw_newa (k := 101) (N := 16) (ty := .long) 33 rfl dX12_init_31 aclJ rfl rfl (by decide) (fun _ => rfl) (by decide) (by decide) (by decide) (by decide) (by decide) 4 rfl (by decide) ⟨iL_zero (L := []) (by decide +kernel), rfl⟩ (rU_ne (L := ((0, 3, 3) :: ((0, 2, 2) :: ((0, 0, 1) :: [])))) (by decide +kernel)) rfl rfl ?_
  refine aw_putF 36 rfl dX12_init_33 fX12_20 (fun q h => by cases h; exact ⟨rfl, rfl⟩) rfl rfl rfl (fun _ => ⟨rfl, rfl⟩) ?_
  refine aw_pw ⟨by decide, by decide⟩ (fun _ kk => pw_aload_n 37 rfl dX12_init_36 rfl kk) ?_
  refine aw_pw ⟨by decide, by decide⟩ (fun _ kk => pw_bipush (v := nI 7) 39 rfl dX12_init_37 rfl kk) ?_
  refine aw_newa (k := 100) (N := 7) (ty := .int) 41 rfl dX12_init_39 aclI rfl rfl (by decide) (fun _ => rfl) (by decide) (by decide) (by decide) (by decide) (by decide) 5 rfl (by decide) ⟨iL_zero (L := []) (by decide +kernel), rfl⟩ (rU_ne (L := ((0, 5, 4) :: ((0, 3, 3) :: ((0, 2, 2) :: ((0, 0, 1) :: []))))) (by decide +kernel)) rfl rfl ?_
  refine aw_putF 44 rfl dX12_init_41 fX12_24 (fun q h => by cases h; exact ⟨rfl, rfl⟩) rfl rfl rfl (fun _ => ⟨rfl, rfl⟩) ?_
  refine aw_pw ⟨by decide, by decide⟩ (fun _ kk => pw_aload_n 45 rfl dX12_init_44 rfl kk) ?_
  refine aw_pw ⟨by decide, by decide⟩ (fun _ kk => pw_bipush (v := nI 40) 47 rfl dX12_init_45 rfl kk) ?_
  refine aw_newa (k := 102) (N := 40) (ty := .byte) 49 rfl dX12_init_47 aclB rfl rfl (by decide) (fun _ => rfl) (by decide) (by decide) (by decide) (by decide) (by decide) 6 rfl (by decide) ⟨iL_zero (L := []) (by decide +kernel), rfl⟩ (rU_ne (L := ((0, 13, 5) :: ((0, 5, 4) :: ((0, 3, 3) :: ((0, 2, 2) :: ((0, 0, 1) :: [])))))) (by decide +kernel)) rfl rfl ?_
  refine aw_pw ⟨by decide, by decide⟩ (fun _ kk => pw_putR 52 rfl dX12_init_49 fX12_27 w12_14 rfl rfl (fun _ => ⟨rfl, rfl⟩) kk) ?_
  refine aw_pw ⟨by decide, by decide⟩ (fun _ kk => pw_aload_n 53 rfl dX12_init_52 rfl kk) ?_
  refine aw_pw ⟨by decide, by decide⟩ (fun _ kk => pw_bipush (v := nI 40) 55 rfl dX12_init_53 rfl kk) ?_
  refine aw_newa (k := 102) (N := 40) (ty := .byte) 57 rfl dX12_init_55 aclB rfl rfl (by decide) (fun _ => rfl) (by decide) (by decide) (by decide) (by decide) (by decide) 7 rfl (by decide) ⟨iL_zero (L := []) (by decide +kernel), rfl⟩ (rU_ne (L := ((0, 14, 6) :: ((0, 13, 5) :: ((0, 5, 4) :: ((0, 3, 3) :: ((0, 2, 2) :: ((0, 0, 1) :: []))))))) (by decide +kernel)) rfl rfl ?_
  refine aw_pw ⟨by decide, by decide⟩ (fun _ kk => pw_putR 60 rfl dX12_init_57 fX12_30 w12_15 rfl rfl (fun _ => ⟨rfl, rfl⟩) kk) ?_
  refine aw_pw ⟨by decide, by decide⟩ (fun _ kk => pw_aload_n 61 rfl dX12_init_60 rfl kk) ?_
  refine aw_pw ⟨by decide, by decide⟩ (fun _ kk => pw_bipush (v := nI 7) 63 rfl dX12_init_61 rfl kk) ?_
  refine aw_newa (k := 100) (N := 7) (ty := .int) 65 rfl dX12_init_63 aclI rfl rfl (by decide) (fun _ => rfl) (by decide) (by decide) (by decide) (by decide) (by decide) 8 rfl (by decide) ⟨iL_zero (L := []) (by decide +kernel), rfl⟩ (rU_ne (L := ((0, 15, 7) :: ((0, 14, 6) :: ((0, 13, 5) :: ((0, 5, 4) :: ((0, 3, 3) :: ((0, 2, 2) :: ((0, 0, 1) :: [])))))))) (by decide +kernel)) rfl rfl ?_
  refine aw_putF 68 rfl dX12_init_65 fX12_33 (fun q h => by cases h; exact ⟨rfl, rfl⟩) rfl rfl rfl (fun _ => ⟨rfl, rfl⟩) ?_
  refine aw_pw ⟨by decide, by decide⟩ (fun _ kk => pw_aload_n 69 rfl dX12_init_68 rfl kk) ?_
  refine aw_pw ⟨by decide, by decide⟩ (fun _ kk => pw_sipush (v := nI 384) 72 rfl dX12_init_69 rfl kk) ?_
  refine aw_newa (k := 100) (N := 384) (ty := .int) 74 rfl dX12_init_72 aclI rfl rfl (by decide) (fun _ => rfl) (by decide) (by decide) (by decide) (by decide) (by decide) 9 rfl (by decide) ⟨iL_zero (L := []) (by decide +kernel), rfl⟩ (rU_ne (L := ((0, 18, 8) :: ((0, 15, 7) :: ((0, 14, 6) :: ((0, 13, 5) :: ((0, 5, 4) :: ((0, 3, 3) :: ((0, 2, 2) :: ((0, 0, 1) :: []))))))))) (by decide +kernel)) rfl rfl ?_
  refine aw_putF 77 rfl dX12_init_74 fX12_36 (fun q h => by cases h; exact ⟨rfl, rfl⟩) rfl rfl rfl (fun _ => ⟨rfl, rfl⟩) ?_
  refine aw_pw ⟨by decide, by decide⟩ (fun _ kk => pw_aload_n 78 rfl dX12_init_77 rfl kk) ?_
  refine aw_pw ⟨by decide, by decide⟩ (fun _ kk => pw_bipush (v := nI 32) 80 rfl dX12_init_78 rfl kk) ?_
  refine aw_newa (k := 100) (N := 32) (ty := .int) 82 rfl dX12_init_80 aclI rfl rfl (by decide) (fun _ => rfl) (by decide) (by decide) (by decide) (by decide) (by decide) 10 rfl (by decide) ⟨iL_zero (L := []) (by decide +kernel), rfl⟩ (rU_ne (L := ((0, 19, 9) :: ((0, 18, 8) :: ((0, 15, 7) :: ((0, 14, 6) :: ((0, 13, 5) :: ((0, 5, 4) :: ((0, 3, 3) :: ((0, 2, 2) :: ((0, 0, 1) :: [])))))))))) (by decide +kernel)) rfl rfl ?_
  refine aw_putF 85 rfl dX12_init_82 fX12_39 (fun q h => by cases h; exact ⟨rfl, rfl⟩) rfl rfl rfl (fun _ => ⟨rfl, rfl⟩) ?_
  refine aw_pw ⟨by decide, by decide⟩ (fun _ kk => pw_aload_n 86 rfl dX12_init_85 rfl kk) ?_
  refine aw_pw ⟨by decide, by decide⟩ (fun _ kk => pw_bipush (v := nI 32) 88 rfl dX12_init_86 rfl kk) ?_
  refine aw_newa (k := 100) (N := 32) (ty := .int) 90 rfl dX12_init_88 aclI rfl rfl (by decide) (fun _ => rfl) (by decide) (by decide) (by decide) (by decide) (by decide) 11 rfl (by decide) ⟨iL_zero (L := []) (by decide +kernel), rfl⟩ (rU_ne (L := ((0, 21, 10) :: ((0, 19, 9) :: ((0, 18, 8) :: ((0, 15, 7) :: ((0, 14, 6) :: ((0, 13, 5) :: ((0, 5, 4) :: ((0, 3, 3) :: ((0, 2, 2) :: ((0, 0, 1) :: []))))))))))) (by decide +kernel)) rfl rfl ?_
  refine aw_putF 93 rfl dX12_init_90 fX12_42 (fun q h => by cases h; exact ⟨rfl, rfl⟩) rfl rfl rfl (fun _ => ⟨rfl, rfl⟩) ?_
  refine aw_pw ⟨by decide, by decide⟩ (fun _ kk => pw_aload_n 94 rfl dX12_init_93 rfl kk) ?_
  refine aw_pw ⟨by decide, by decide⟩ (fun _ kk => pw_bipush (v := nI 7) 96 rfl dX12_init_94 rfl kk) ?_
  refine aw_newa (k := 100) (N := 7) (ty := .int) 98 rfl dX12_init_96 aclI rfl rfl (by decide) (fun _ => rfl) (by decide) (by decide) (by decide) (by decide) (by decide) 12 rfl (by decide) ⟨iL_zero (L := []) (by decide +kernel), rfl⟩ (rU_ne (L := ((0, 22, 11) :: ((0, 21, 10) :: ((0, 19, 9) :: ((0, 18, 8) :: ((0, 15, 7) :: ((0, 14, 6) :: ((0, 13, 5) :: ((0, 5, 4) :: ((0, 3, 3) :: ((0, 2, 2) :: ((0, 0, 1) :: [])))))))))))) (by decide +kernel)) rfl rfl ?_
  refine aw_putF 101 rfl dX12_init_98 fX12_45 (fun q h => by cases h; exact ⟨rfl, rfl⟩) rfl rfl rfl (fun _ => ⟨rfl, rfl⟩) ?_
  refine aw_pw ⟨by decide, by decide⟩ (fun _ kk => pw_aload_n 102 rfl dX12_init_101 rfl kk) ?_
  refine aw_pw ⟨by decide, by decide⟩ (fun _ kk => pw_bipush (v := nI 12) 104 rfl dX12_init_102 rfl kk) ?_
  refine aw_newa (k := 100) (N := 12) (ty := .int) 106 rfl dX12_init_104 aclI rfl rfl (by decide) (fun _ => rfl) (by decide) (by decide) (by decide) (by decide) (by decide) 13 rfl (by decide) ⟨iL_zero (L := []) (by decide +kernel), rfl⟩ (rU_ne (L := ((0, 23, 12) :: ((0, 22, 11) :: ((0, 21, 10) :: ((0, 19, 9) :: ((0, 18, 8) :: ((0, 15, 7) :: ((0, 14, 6) :: ((0, 13, 5) :: ((0, 5, 4) :: ((0, 3, 3) :: ((0, 2, 2) :: ((0, 0, 1) :: []))))))))))))) (by decide +kernel)) rfl rfl ?_
  refine aw_putF 109 rfl dX12_init_106 fX12_48 (fun q h => by cases h; exact ⟨rfl, rfl⟩) rfl rfl rfl (fun _ => ⟨rfl, rfl⟩) ?_
  refine aw_pw ⟨by decide, by decide⟩ (fun _ kk => pw_aload_n 110 rfl dX12_init_109 rfl kk) ?_
  refine aw_pw ⟨by decide, by decide⟩ (fun _ kk => pw_sipush (v := nI 240) 113 rfl dX12_init_110 rfl kk) ?_
  refine aw_newa (k := 100) (N := 240) (ty := .int) 115 rfl dX12_init_113 aclI rfl rfl (by decide) (fun _ => rfl) (by decide) (by decide) (by decide) (by decide) (by decide) 14 rfl (by decide) ⟨iL_zero (L := []) (by decide +kernel), rfl⟩ (rU_ne (L := ((0, 25, 13) :: ((0, 23, 12) :: ((0, 22, 11) :: ((0, 21, 10) :: ((0, 19, 9) :: ((0, 18, 8) :: ((0, 15, 7) :: ((0, 14, 6) :: ((0, 13, 5) :: ((0, 5, 4) :: ((0, 3, 3) :: ((0, 2, 2) :: ((0, 0, 1) :: [])))))))))))))) (by decide +kernel)) rfl rfl ?_
  refine aw_putF 118 rfl dX12_init_115 fX12_51 (fun q h => by cases h; exact ⟨rfl, rfl⟩) rfl rfl rfl (fun _ => ⟨rfl, rfl⟩) ?_
  refine aw_pw ⟨by decide, by decide⟩ (fun _ kk => pw_aload_n 119 rfl dX12_init_118 rfl kk) ?_
  refine aw_pw ⟨by decide, by decide⟩ (fun _ kk => pw_bipush (v := nI 8) 121 rfl dX12_init_119 rfl kk) ?_
  refine aw_newa (k := 100) (N := 8) (ty := .int) 123 rfl dX12_init_121 aclI rfl rfl (by decide) (fun _ => rfl) (by decide) (by decide) (by decide) (by decide) (by decide) 15 rfl (by decide) ⟨iL_zero (L := []) (by decide +kernel), rfl⟩ (rU_ne (L := ((0, 26, 14) :: ((0, 25, 13) :: ((0, 23, 12) :: ((0, 22, 11) :: ((0, 21, 10) :: ((0, 19, 9) :: ((0, 18, 8) :: ((0, 15, 7) :: ((0, 14, 6) :: ((0, 13, 5) :: ((0, 5, 4) :: ((0, 3, 3) :: ((0, 2, 2) :: ((0, 0, 1) :: []))))))))))))))) (by decide +kernel)) rfl rfl ?_
  refine aw_putF 126 rfl dX12_init_123 fX12_54 (fun q h => by cases h; exact ⟨rfl, rfl⟩) rfl rfl rfl (fun _ => ⟨rfl, rfl⟩) ?_
  refine aw_pw ⟨by decide, by decide⟩ (fun _ kk => pw_aload_n 127 rfl dX12_init_126 rfl kk) ?_
  refine aw_pw ⟨by decide, by decide⟩ (fun _ kk => pw_bipush (v := nI 7) 129 rfl dX12_init_127 rfl kk) ?_
  refine aw_newa (k := 100) (N := 7) (ty := .int) 131 rfl dX12_init_129 aclI rfl rfl (by decide) (fun _ => rfl) (by decide) (by decide) (by decide) (by decide) (by decide) 16 rfl (by decide) ⟨iL_zero (L := []) (by decide +kernel), rfl⟩ (rU_ne (L := ((0, 27, 15) :: ((0, 26, 14) :: ((0, 25, 13) :: ((0, 23, 12) :: ((0, 22, 11) :: ((0, 21, 10) :: ((0, 19, 9) :: ((0, 18, 8) :: ((0, 15, 7) :: ((0, 14, 6) :: ((0, 13, 5) :: ((0, 5, 4) :: ((0, 3, 3) :: ((0, 2, 2) :: ((0, 0, 1) :: [])))))))))))))))) (by decide +kernel)) rfl rfl ?_
  refine aw_putF 134 rfl dX12_init_131 fX12_57 (fun q h => by cases h; exact ⟨rfl, rfl⟩) rfl rfl rfl (fun _ => ⟨rfl, rfl⟩) ?_
  refine aw_pw ⟨by decide, by decide⟩ (fun _ kk => pw_aload_n 135 rfl dX12_init_134 rfl kk) ?_
  refine aw_pw ⟨by decide, by decide⟩ (fun _ kk => pw_bipush (v := nI 7) 137 rfl dX12_init_135 rfl kk) ?_
  refine aw_newa (k := 100) (N := 7) (ty := .int) 139 rfl dX12_init_137 aclI rfl rfl (by decide) (fun _ => rfl) (by decide) (by decide) (by decide) (by decide) (by decide) 17 rfl (by decide) ⟨iL_zero (L := []) (by decide +kernel), rfl⟩ (rU_ne (L := ((0, 28, 16) :: ((0, 27, 15) :: ((0, 26, 14) :: ((0, 25, 13) :: ((0, 23, 12) :: ((0, 22, 11) :: ((0, 21, 10) :: ((0, 19, 9) :: ((0, 18, 8) :: ((0, 15, 7) :: ((0, 14, 6) :: ((0, 13, 5) :: ((0, 5, 4) :: ((0, 3, 3) :: ((0, 2, 2) :: ((0, 0, 1) :: []))))))))))))))))) (by decide +kernel)) rfl rfl ?_
  refine aw_putF 142 rfl dX12_init_139 fX12_60 (fun q h => by cases h; exact ⟨rfl, rfl⟩) rfl rfl rfl (fun _ => ⟨rfl, rfl⟩) ?_
  refine aw_pw ⟨by decide, by decide⟩ (fun _ kk => pw_aload_n 143 rfl dX12_init_142 rfl kk) ?_
  refine aw_pw ⟨by decide, by decide⟩ (fun _ kk => pw_bipush (v := nI 12) 145 rfl dX12_init_143 rfl kk) ?_
  refine aw_newa (k := 100) (N := 12) (ty := .int) 147 rfl dX12_init_145 aclI rfl rfl (by decide) (fun _ => rfl) (by decide) (by decide) (by decide) (by decide) (by decide) 18 rfl (by decide) ⟨iL_zero (L := []) (by decide +kernel), rfl⟩ (rU_ne (L := ((0, 29, 17) :: ((0, 28, 16) :: ((0, 27, 15) :: ((0, 26, 14) :: ((0, 25, 13) :: ((0, 23, 12) :: ((0, 22, 11) :: ((0, 21, 10) :: ((0, 19, 9) :: ((0, 18, 8) :: ((0, 15, 7) :: ((0, 14, 6) :: ((0, 13, 5) :: ((0, 5, 4) :: ((0, 3, 3) :: ((0, 2, 2) :: ((0, 0, 1) :: [])))))))))))))))))) (by decide +kernel)) rfl rfl ?_
  refine aw_putF 150 rfl dX12_init_147 fX12_63 (fun q h => by cases h; exact ⟨rfl, rfl⟩) rfl rfl rfl (fun _ => ⟨rfl, rfl⟩) ?_
  refine aw_pw ⟨by decide, by decide⟩ (fun _ kk => pw_aload_n 151 rfl dX12_init_150 rfl kk) ?_
  refine aw_pw ⟨by decide, by decide⟩ (fun _ kk => pw_bipush (v := nI 12) 153 rfl dX12_init_151 rfl kk) ?_
  refine aw_newa (k := 100) (N := 12) (ty := .int) 155 rfl dX12_init_153 aclI rfl rfl (by decide) (fun _ => rfl) (by decide) (by decide) (by decide) (by decide) (by decide) 19 rfl (by decide) ⟨iL_zero (L := []) (by decide +kernel), rfl⟩ (rU_ne (L := ((0, 30, 18) :: ((0, 29, 17) :: ((0, 28, 16) :: ((0, 27, 15) :: ((0, 26, 14) :: ((0, 25, 13) :: ((0, 23, 12) :: ((0, 22, 11) :: ((0, 21, 10) :: ((0, 19, 9) :: ((0, 18, 8) :: ((0, 15, 7) :: ((0, 14, 6) :: ((0, 13, 5) :: ((0, 5, 4) :: ((0, 3, 3) :: ((0, 2, 2) :: ((0, 0, 1) :: []))))))))))))))))))) (by decide +kernel)) rfl rfl ?_
  refine aw_putF 158 rfl dX12_init_155 fX12_66 (fun q h => by cases h; exact ⟨rfl, rfl⟩) rfl rfl rfl (fun _ => ⟨rfl, rfl⟩) ?_
  refine aw_pw ⟨by decide, by decide⟩ (fun _ kk => pw_aload_n 159 rfl dX12_init_158 rfl kk) ?_
  refine aw_pw ⟨by decide, by decide⟩ (fun _ kk => pw_bipush (v := nI 10) 161 rfl dX12_init_159 rfl kk) ?_
  refine aw_newa (k := 100) (N := 10) (ty := .int) 163 rfl dX12_init_161 aclI rfl rfl (by decide) (fun _ => rfl) (by decide) (by decide) (by decide) (by decide) (by decide) 20 rfl (by decide) ⟨iL_zero (L := []) (by decide +kernel), rfl⟩ (rU_ne (L := ((0, 31, 19) :: ((0, 30, 18) :: ((0, 29, 17) :: ((0, 28, 16) :: ((0, 27, 15) :: ((0, 26, 14) :: ((0, 25, 13) :: ((0, 23, 12) :: ((0, 22, 11) :: ((0, 21, 10) :: ((0, 19, 9) :: ((0, 18, 8) :: ((0, 15, 7) :: ((0, 14, 6) :: ((0, 13, 5) :: ((0, 5, 4) :: ((0, 3, 3) :: ((0, 2, 2) :: ((0, 0, 1) :: [])))))))))))))))))))) (by decide +kernel)) rfl rfl ?_
  refine aw_putF 166 rfl dX12_init_163 fX12_69 (fun q h => by cases h; exact ⟨rfl, rfl⟩) rfl rfl rfl (fun _ => ⟨rfl, rfl⟩) ?_
  refine aw_pw ⟨by decide, by decide⟩ (fun _ kk => pw_aload_n 167 rfl dX12_init_166 rfl kk) ?_
  refine aw_pw ⟨by decide, by decide⟩ (fun _ kk => pw_bipush (v := nI 10) 169 rfl dX12_init_167 rfl kk) ?_
  refine aw_newa (k := 100) (N := 10) (ty := .int) 171 rfl dX12_init_169 aclI rfl rfl (by decide) (fun _ => rfl) (by decide) (by decide) (by decide) (by decide) (by decide) 21 rfl (by decide) ⟨iL_zero (L := []) (by decide +kernel), rfl⟩ (rU_ne (L := ((0, 33, 20) :: ((0, 31, 19) :: ((0, 30, 18) :: ((0, 29, 17) :: ((0, 28, 16) :: ((0, 27, 15) :: ((0, 26, 14) :: ((0, 25, 13) :: ((0, 23, 12) :: ((0, 22, 11) :: ((0, 21, 10) :: ((0, 19, 9) :: ((0, 18, 8) :: ((0, 15, 7) :: ((0, 14, 6) :: ((0, 13, 5) :: ((0, 5, 4) :: ((0, 3, 3) :: ((0, 2, 2) :: ((0, 0, 1) :: []))))))))))))))))))))) (by decide +kernel)) rfl rfl ?_
  refine aw_putF 174 rfl dX12_init_171 fX12_72 (fun q h => by cases h; exact ⟨rfl, rfl⟩) rfl rfl rfl (fun _ => ⟨rfl, rfl⟩) ?_
  refine aw_pw ⟨by decide, by decide⟩ (fun _ kk => pw_aload_n 175 rfl dX12_init_174 rfl kk) ?_
  refine aw_pw ⟨by decide, by decide⟩ (fun _ kk => pw_sipush (v := nI 882) 178 rfl dX12_init_175 rfl kk) ?_
  refine aw_newa (k := 103) (N := 882) (ty := .boolean) 180 rfl dX12_init_178 aclZ rfl rfl (by decide) (fun _ => rfl) (by decide) (by decide) (by decide) (by decide) (by decide) 22 rfl (by decide) ⟨iL_zero (L := []) (by decide +kernel), rfl⟩ (rU_ne (L := ((0, 34, 21) :: ((0, 33, 20) :: ((0, 31, 19) :: ((0, 30, 18) :: ((0, 29, 17) :: ((0, 28, 16) :: ((0, 27, 15) :: ((0, 26, 14) :: ((0, 25, 13) :: ((0, 23, 12) :: ((0, 22, 11) :: ((0, 21, 10) :: ((0, 19, 9) :: ((0, 18, 8) :: ((0, 15, 7) :: ((0, 14, 6) :: ((0, 13, 5) :: ((0, 5, 4) :: ((0, 3, 3) :: ((0, 2, 2) :: ((0, 0, 1) :: [])))))))))))))))))))))) (by decide +kernel)) rfl rfl ?_
  refine aw_putF 183 rfl dX12_init_180 fX12_75 (fun q h => by cases h; exact ⟨rfl, rfl⟩) rfl rfl rfl (fun _ => ⟨rfl, rfl⟩) ?_
  refine aw_pw ⟨by decide, by decide⟩ (fun _ kk => pw_aload_n 184 rfl dX12_init_183 rfl kk) ?_
  refine aw_pw ⟨by decide, by decide⟩ (fun _ kk => pw_bipush (v := nI 64) 186 rfl dX12_init_184 rfl kk) ?_
  refine aw_newa (k := 100) (N := 64) (ty := .int) 188 rfl dX12_init_186 aclI rfl rfl (by decide) (fun _ => rfl) (by decide) (by decide) (by decide) (by decide) (by decide) 23 rfl (by decide) ⟨iL_zero (L := []) (by decide +kernel), rfl⟩ (rU_ne (L := ((0, 36, 22) :: ((0, 34, 21) :: ((0, 33, 20) :: ((0, 31, 19) :: ((0, 30, 18) :: ((0, 29, 17) :: ((0, 28, 16) :: ((0, 27, 15) :: ((0, 26, 14) :: ((0, 25, 13) :: ((0, 23, 12) :: ((0, 22, 11) :: ((0, 21, 10) :: ((0, 19, 9) :: ((0, 18, 8) :: ((0, 15, 7) :: ((0, 14, 6) :: ((0, 13, 5) :: ((0, 5, 4) :: ((0, 3, 3) :: ((0, 2, 2) :: ((0, 0, 1) :: []))))))))))))))))))))))) (by decide +kernel)) rfl rfl ?_
  refine aw_putF 191 rfl dX12_init_188 fX12_79 (fun q h => by cases h; exact ⟨rfl, rfl⟩) rfl rfl rfl (fun _ => ⟨rfl, rfl⟩) ?_
  refine aw_pw ⟨by decide, by decide⟩ (fun _ kk => pw_aload_n 192 rfl dX12_init_191 rfl kk) ?_
  refine aw_pw ⟨by decide, by decide⟩ (fun _ kk => pw_iconst (v := nI 2) 193 rfl dX12_init_192 rfl kk) ?_
  refine aw_newa (k := 103) (N := 2) (ty := .boolean) 195 rfl dX12_init_193 aclZ rfl rfl (by decide) (fun _ => rfl) (by decide) (by decide) (by decide) (by decide) (by decide) 24 rfl (by decide) ⟨iL_zero (L := []) (by decide +kernel), rfl⟩ (rU_ne (L := ((0, 39, 23) :: ((0, 36, 22) :: ((0, 34, 21) :: ((0, 33, 20) :: ((0, 31, 19) :: ((0, 30, 18) :: ((0, 29, 17) :: ((0, 28, 16) :: ((0, 27, 15) :: ((0, 26, 14) :: ((0, 25, 13) :: ((0, 23, 12) :: ((0, 22, 11) :: ((0, 21, 10) :: ((0, 19, 9) :: ((0, 18, 8) :: ((0, 15, 7) :: ((0, 14, 6) :: ((0, 13, 5) :: ((0, 5, 4) :: ((0, 3, 3) :: ((0, 2, 2) :: ((0, 0, 1) :: [])))))))))))))))))))))))) (by decide +kernel)) rfl rfl ?_
  refine aw_putF 198 rfl dX12_init_195 fX12_82 (fun q h => by cases h; exact ⟨rfl, rfl⟩) rfl rfl rfl (fun _ => ⟨rfl, rfl⟩) ?_
  refine aw_pw ⟨by decide, by decide⟩ (fun _ kk => pw_aload_n 199 rfl dX12_init_198 rfl kk) ?_
  refine aw_pw ⟨by decide, by decide⟩ (fun _ kk => pw_iconst (v := nI 2) 200 rfl dX12_init_199 rfl kk) ?_
  refine aw_newa (k := 100) (N := 2) (ty := .int) 202 rfl dX12_init_200 aclI rfl rfl (by decide) (fun _ => rfl) (by decide) (by decide) (by decide) (by decide) (by decide) 25 rfl (by decide) ⟨iL_zero (L := []) (by decide +kernel), rfl⟩ (rU_ne (L := ((0, 40, 24) :: ((0, 39, 23) :: ((0, 36, 22) :: ((0, 34, 21) :: ((0, 33, 20) :: ((0, 31, 19) :: ((0, 30, 18) :: ((0, 29, 17) :: ((0, 28, 16) :: ((0, 27, 15) :: ((0, 26, 14) :: ((0, 25, 13) :: ((0, 23, 12) :: ((0, 22, 11) :: ((0, 21, 10) :: ((0, 19, 9) :: ((0, 18, 8) :: ((0, 15, 7) :: ((0, 14, 6) :: ((0, 13, 5) :: ((0, 5, 4) :: ((0, 3, 3) :: ((0, 2, 2) :: ((0, 0, 1) :: []))))))))))))))))))))))))) (by decide +kernel)) rfl rfl ?_
  refine aw_putF 205 rfl dX12_init_202 fX12_85 (fun q h => by cases h; exact ⟨rfl, rfl⟩) rfl rfl rfl (fun _ => ⟨rfl, rfl⟩) ?_
  refine aw_pw ⟨by decide, by decide⟩ (fun _ kk => pw_aload_n 206 rfl dX12_init_205 rfl kk) ?_
  refine aw_pw ⟨by decide, by decide⟩ (fun _ kk => pw_getR (a := 1) 209 rfl dX12_init_206 fX12_9 rfl rfl (by decide +kernel) kk) ?_
  refine aw_pw ⟨by decide, by decide⟩ (fun _ kk => pw_bipush (v := nI 28) 211 rfl dX12_init_209 rfl kk) ?_
  refine aw_pw ⟨by decide, by decide⟩ (fun _ kk => pw_iconst (v := nI 5) 212 rfl dX12_init_211 rfl kk) ?_
  refine aw_pw ⟨by decide, by decide⟩ (fun _ kk => pw_iastN 213 rfl dX12_init_212 rfl (by decide) (by decide) kk) ?_
  refine aw_pw ⟨by decide, by decide⟩ (fun _ kk => pw_aload_n 214 rfl dX12_init_213 rfl kk) ?_
  refine aw_pw ⟨by decide, by decide⟩ (fun _ kk => pw_getR (a := 1) 217 rfl dX12_init_214 fX12_9 rfl rfl (by decide +kernel) kk) ?_
  refine aw_pw ⟨by decide, by decide⟩ (fun _ kk => pw_bipush (v := nI 29) 219 rfl dX12_init_217 rfl kk) ?_
  refine aw_pw ⟨by decide, by decide⟩ (fun _ kk => pw_bipush (v := nI 7) 221 rfl dX12_init_219 rfl kk) ?_
  refine aw_pw ⟨by decide, by decide⟩ (fun _ kk => pw_iastN 222 rfl dX12_init_221 rfl (by decide) (by decide) kk) ?_
  exact aw_done ⟨dX12_init_222, rfl, rfl, rfl, rfl, rfl, rfl, rfl⟩
