/-! the reference as it is told -/
def MT (I : pI) (tx : List Nat) : Prop := I 0 4 = nI tx.length ∧ tx.length ≤ 80 ∧ ∀ j c, tx[j]? = some c → I 3 j = byV c ∧ c < 256
def MN (I : pI) (J : pJ) (rw : List Int64) : Prop := I 0 6 = nI rw.length ∧ rw.length ≤ 12 ∧ ∀ j x, rw[j]? = some x → J 4 j = x
def MU (I : pI) (us : List (Nat → Nat)) : Prop := I 0 20 = nI us.length ∧ us.length ≤ 12 ∧ ∀ j u, us[j]? = some u → ∀ k, k < 32 → I 9 (32 * j + k) = nI (u k)
def MK (I : pI) (n : Nat) (kp : Nat → Option (Nat → Nat)) : Prop := ∃ cm, I 0 38 = nI cm ∧ cm ≤ n ∧ ∀ i, i < 2 → ∃ kc, I 25 i = nI kc ∧ kc ≤ cm ∧ match kp i with
  | some u => I 24 i = nI 1 ∧ kc = cm ∧ ∀ k, k < 32 → I 23 (32 * i + k) = nI (u k)
  | none => I 24 i = nI 0 ∨ (I 24 i = nI 1 ∧ kc < cm)
def MH (I : pI) (hd : List (Nat × Nat)) : Prop := I 0 32 = nI hd.length ∧ hd.length ≤ 12 ∧ ∀ j p, hd[j]? = some p → I 18 j = nI p.1 ∧ I 19 j = nI p.2 ∧ p.1 < 5 ∧ p.2 ≤ moN p.1
def MG (I : pI) (sw : List (Nat × Nat)) : Prop := I 0 35 = nI sw.length ∧ sw.length ≤ 10 ∧ ∀ j p, sw[j]? = some p → I 20 j = nI p.1 ∧ I 21 j = nI p.2 ∧ p.1 ≤ 9 ∧ p.2 ≤ 3
def MA (I : pI) (J : pJ) : aSt → Prop
  | (n, pc, b, us, kp, rw, tx, rt, hd, sw) => MC I n pc ∧ MB I 1 b ∧ MT I tx ∧ MN I J rw ∧ MRl I 6 rt ∧ MU I us ∧ MK I n kp ∧ MH I hd ∧ MG I sw
def MDg (g : Nat) (I : pI) : Prop := ∃ dl, MD I dl ∧ dl.length ≤ g
def moP (g : Nat) (x : Int32 × aSt) : Option Value → pI → pJ → pR → Prop := fun r' I' J' R' => r' = some (.int x.1) ∧ MA I' J' x.2 ∧ MDg g I' ∧ ∃ rd', R' = RM rd' (some 6)
/-- what is told of the state, but for the ROW -/
def fMs (I I' : pI) : Prop := ∀ a j, (a = 1 ∨ a = 2 ∨ a = 3 ∨ a = 6 ∨ a = 9 ∨ (18 ≤ a ∧ a ≤ 21) ∨ (23 ≤ a ∧ a ≤ 25) ∨ (a = 0 ∧ (j = 1 ∨ j = 4 ∨ j = 16 ∨ j = 20 ∨ j = 32 ∨ j = 35 ∨ j = 38))) → I' a j = I a j
theorem fMs.refl {I : pI} : fMs I I := fun _ _ _ => rfl
theorem fMs.trans {I I' I'' : pI} (h : fMs I I') (g : fMs I' I'') : fMs I I'' := fun a j q => by rw [g a j q, h a j q]
theorem MC_f {I I' : pI} {n : Nat} {pc : Nat → Nat} (h : MC I n pc) (h1 : I' 0 1 = I 0 1) (h2 : ∀ j, I' 2 j = I 2 j) : MC I' n pc := ⟨h.1, by rw [h1]; exact h.2.1, fun k hk => by rw [h2]; exact h.2.2 k hk⟩
theorem MB_f {I I' : pI} {a : Nat} {b : Nat → Nat} (h : MB I a b) (h1 : ∀ j, I' a j = I a j) : MB I' a b := fun k hk => by rw [h1]; exact h k hk
theorem MT_f {I I' : pI} {tx : List Nat} (h : MT I tx) (h1 : I' 0 4 = I 0 4) (h2 : ∀ j, I' 3 j = I 3 j) : MT I' tx := ⟨by rw [h1]; exact h.1, h.2.1, fun j c hj => by rw [h2]; exact h.2.2 j c hj⟩
theorem MN_f {I I' : pI} {J : pJ} {rw : List Int64} (h : MN I J rw) (h1 : I' 0 6 = I 0 6) : MN I' J rw := ⟨by rw [h1]; exact h.1, h.2⟩
theorem MRl_f {I I' : pI} {a : Nat} {rt : List Nat} (h : MRl I a rt) (h1 : I' 0 16 = I 0 16) (h2 : ∀ j, I' a j = I a j) : MRl I' a rt := ⟨h.1, by rw [h1]; exact h.2.1, fun j c hj => by rw [h2]; exact h.2.2.1 j c hj, h.2.2.2⟩
theorem MU_f {I I' : pI} {us : List (Nat → Nat)} (h : MU I us) (h1 : I' 0 20 = I 0 20) (h2 : ∀ j, I' 9 j = I 9 j) : MU I' us := ⟨by rw [h1]; exact h.1, h.2.1, fun j u hj k hk => by rw [h2]; exact h.2.2 j u hj k hk⟩
theorem MK_f {I I' : pI} {n : Nat} {kp : Nat → Option (Nat → Nat)} (h : MK I n kp) (h1 : I' 0 38 = I 0 38) (h2 : ∀ j, I' 23 j = I 23 j) (h3 : ∀ j, I' 24 j = I 24 j) (h4 : ∀ j, I' 25 j = I 25 j) : MK I' n kp := by
  obtain ⟨cm, a1, a2, a3⟩ := h
  refine ⟨cm, by rw [h1]; exact a1, a2, fun i hi => ?_⟩
  obtain ⟨kc, b1, b2, b3⟩ := a3 i hi
  refine ⟨kc, by rw [h4]; exact b1, b2, ?_⟩
  revert b3
  rcases kp i with _ | u
  · intro b3; rw [h3]; exact b3
  · rintro ⟨c1, c2, c3⟩; exact ⟨by rw [h3]; exact c1, c2, fun k hk => by rw [h2]; exact c3 k hk⟩
theorem MH_f {I I' : pI} {hd : List (Nat × Nat)} (h : MH I hd) (h1 : I' 0 32 = I 0 32) (h2 : ∀ j, I' 18 j = I 18 j) (h3 : ∀ j, I' 19 j = I 19 j) : MH I' hd := ⟨by rw [h1]; exact h.1, h.2.1, fun j p hj => by rw [h2, h3]; exact h.2.2 j p hj⟩
theorem MG_f {I I' : pI} {sw : List (Nat × Nat)} (h : MG I sw) (h1 : I' 0 35 = I 0 35) (h2 : ∀ j, I' 20 j = I 20 j) (h3 : ∀ j, I' 21 j = I 21 j) : MG I' sw := ⟨by rw [h1]; exact h.1, h.2.1, fun j p hj => by rw [h2, h3]; exact h.2.2 j p hj⟩
theorem MA_rw {I I' : pI} {J J' : pJ} {n : Nat} {pc b : Nat → Nat} {us : List (Nat → Nat)} {kp : Nat → Option (Nat → Nat)} {rw rw' : List Int64} {tx rt : List Nat} {hd sw : List (Nat × Nat)} (h : MA I J (n, pc, b, us, kp, rw, tx, rt, hd, sw)) (f : fMs I I') (hN : MN I' J' rw') : MA I' J' (n, pc, b, us, kp, rw', tx, rt, hd, sw) := by
  obtain ⟨a1, a2, a3, a4, a5, a6, a7, a8, a9⟩ := h
  exact ⟨MC_f a1 (f _ _ (by omega)) (fun j => f _ _ (by omega)), MB_f a2 (fun j => f _ _ (by omega)), MT_f a3 (f _ _ (by omega)) (fun j => f _ _ (by omega)), hN, MRl_f a5 (f _ _ (by omega)) (fun j => f _ _ (by omega)), MU_f a6 (f _ _ (by omega)) (fun j => f _ _ (by omega)), MK_f a7 (f _ _ (by omega)) (fun j => f _ _ (by omega)) (fun j => f _ _ (by omega)) (fun j => f _ _ (by omega)), MH_f a8 (f _ _ (by omega)) (fun j => f _ _ (by omega)) (fun j => f _ _ (by omega)), MG_f a9 (f _ _ (by omega)) (fun j => f _ _ (by omega)) (fun j => f _ _ (by omega))⟩
theorem MA_thr {I : pI} {J : pJ} {s : aSt} {v : Int32} (h : MA I J s) : MA (uI I 0 7 v) J s := by
  obtain ⟨n, pc, b, us, kp, rw, tx, rt, hd, sw⟩ := s
  exact MA_rw h (fun a j q => uI_ne (by omega)) (MN_f h.2.2.2.1 (uI_ne (by omega)))
theorem MDg_f {g : Nat} {I I' : pI} (h : MDg g I) (h1 : I' 0 24 = I 0 24) (h2 : ∀ j, I' 13 j = I 13 j) : MDg g I' := by
  obtain ⟨dl, ⟨a1, a2, a3⟩, a4⟩ := h
  exact ⟨dl, ⟨by rw [h1]; exact a1, a2, fun j x hj hx => by rw [h2]; exact a3 j x hj hx⟩, a4⟩
theorem MDg.mono {g g' : Nat} {I : pI} (h : MDg g I) (hg : g ≤ g') : MDg g' I := by
  obtain ⟨dl, a1, a2⟩ := h
  exact ⟨dl, a1, by omega⟩
theorem MSt_A {I : pI} {J : pJ} {n : Nat} {pc b : Nat → Nat} {us : List (Nat → Nat)} {kp : Nat → Option (Nat → Nat)} {rw : List Int64} {tx rt : List Nat} {hd sw : List (Nat × Nat)} (h : MA I J (n, pc, b, us, kp, rw, tx, rt, hd, sw)) : MSt 236 (some 6) I (ruE rt) := m_steps (Or.inl rfl) h.2.2.2.2.1
theorem fMs_mFr {I I' : pI} (h : mFr 11 I I') : fMs I I' := fun a j q => h a j (by omega) (by omega) (by omega) (by omega) (by omega)
set_option maxRecDepth 100000 in
set_option maxHeartbeats 2000000 in
theorem m_lay {d h t k : Nat} {b : Nat → Nat} {I : pI} {J : pJ} {R : pR} (hh : h = 1 ∨ h = 11) {nt : Nat} (ht : SM[t]? = some (100, nt)) (hne : t ≠ h) (hk : k + 32 ≤ nt) (hnt : nt ≤ 1000) (hB : MB I h b) : PC SM (d) yX12_lay cX12_lay 4 none [.ref h, .ref t, .int (nI k)] (I) (J) (R) (fun r' I' J' R' => r' = none ∧ (∀ j, j < 32 → I' t (k + j) = nI (b j)) ∧ (∀ a j, ¬ (a = t ∧ k ≤ j ∧ j < k + 32) → I' a j = I a j) ∧ J = J' ∧ R' = R) := by
  refine PC.of [some (.ref h), some (.ref t), some (.int (nI k)), none] rfl rfl (Nat.le_of_ble_eq_true rfl) ?_
  refine pw_iconst (v := nI 0) 1 rfl dX12_lay_0 rfl ?_
  refine pw_istore_n 2 rfl dX12_lay_1 (by decide) ?_
  rotate_left
  have L := nat_loop 32 (fun i => ∀ (I' : pI), (∀ j, j < i → I' t (k + j) = nI (b j)) → (∀ a j, ¬ (a = t ∧ k ≤ j ∧ j < k + i) → I' a j = I a j) → PW SM yX12_lay.cls cX12_lay 4 (d) 2 [some (.ref h), some (.ref t), some (.int (nI k)), some (.int (nI i))] [] (I') (J) (R) (rX cX12_lay none (fun r' I' J' R' => r' = none ∧ (∀ j, j < 32 → I' t (k + j) = nI (b j)) ∧ (∀ a j, ¬ (a = t ∧ k ≤ j ∧ j < k + 32) → I' a j = I a j) ∧ J = J' ∧ R' = R))) ?_ ?_
  · exact L I (fun j hj => by omega) (fun _ _ _ => rfl)
  · intro I' g1 g2
    refine pw_iload_n 3 rfl dX12_lay_2 rfl ?_
    refine pw_bipush (v := nI 32) 5 rfl dX12_lay_3 rfl ?_
    refine pw_icmp_ge (tgt := 22) 8 rfl dX12_lay_5 rfl (fun h5 => ?_) (fun h5 => absurd (by (simp (disch := omega) only [nI_leI, nI_ltI, nI_eq, show (0 : Int32) = nI 0 from rfl, not_true_eq_false, not_false_eq_true] <;> omega)) h5)
    refine pw_vret dX12_lay_22 ?_
    rotate_left
    exact ⟨rfl, g1, g2, rfl, rfl⟩
  · intro i hi ih I' g1 g2
    have e : I' h i = nI (b i) := by rw [g2 h i (fun z => hne z.1.symm)]; exact hB i hi
    refine pw_iload_n 3 rfl dX12_lay_2 rfl ?_
    refine pw_bipush (v := nI 32) 5 rfl dX12_lay_3 rfl ?_
    refine pw_icmp_ge (tgt := 22) 8 rfl dX12_lay_5 rfl (fun h5 => absurd h5 (by (simp (disch := omega) only [nI_leI, nI_ltI, nI_eq, show (0 : Int32) = nI 0 from rfl, not_true_eq_false, not_false_eq_true] <;> omega))) (fun h5 => ?_)
    refine pw_aload_n 9 rfl dX12_lay_8 rfl ?_
    refine pw_iload_n 10 rfl dX12_lay_9 rfl ?_
    refine pw_iload_n 11 rfl dX12_lay_10 rfl ?_
    first | refine pw_iaddN 12 rfl dX12_lay_11 ?_ | refine pw_iadd 12 rfl dX12_lay_11 ?_
    refine pw_aload_n 13 rfl dX12_lay_12 rfl ?_
    refine pw_iload_n 14 rfl dX12_lay_13 rfl ?_
    refine pw_ialdN 15 rfl dX12_lay_14 (by first | rfl | assumption | exact rowS hh | exact mtS hm | exact ruS hr | exact mtA1 hm | exact mtA2 hm | exact mtA3 hm | exact mtA4 hm | exact mtA5 hm | exact mtA6 hm | exact mtA7 hm | exact ruA1 hr | exact ruA2 hr | exact ruA3 hr) (by omega) (by first | decide | omega) ?_
    rotate_left
    rw [e]
    refine pw_iastN 16 rfl dX12_lay_15 (by first | rfl | assumption | exact rowS hh | exact mtS hm | exact ruS hr | exact mtA1 hm | exact mtA2 hm | exact mtA3 hm | exact mtA4 hm | exact mtA5 hm | exact mtA6 hm | exact mtA7 hm | exact ruA1 hr | exact ruA2 hr | exact ruA3 hr) (by omega) (by first | decide | omega) ?_
    refine pw_iincN 19 rfl dX12_lay_16 (by decide) rfl ?_
    refine pw_goto (tgt := 2) dX12_lay_19 rfl ?_
    rotate_left
    refine ih _ (fun j hj => ?_) (fun a j q => ?_)
    · by_cases ej : j = i
      · subst ej; exact uI_eq _ _ _ _
      · rw [uI_ne (by omega)]; exact g1 j (by omega)
    · rw [uI_ne (by omega)]; exact g2 a j (by omega)
set_option maxRecDepth 100000 in
set_option maxHeartbeats 2000000 in
theorem m_tell {d : Nat} {v : Int64} {rw : List Int64} {I : pI} {J : pJ} {rd rl : Option Nat} (hN : MN I J rw) (hl : rw.length < 12) : PC SM (d) yX12_tell cX12_tell 3 none [.ref 0, .long v] (I) (J) (RM rd rl) (fun r' I' J' R' => r' = none ∧ MN I' J' (rw ++ [v]) ∧ (∀ a j, ¬ (a = 0 ∧ j = 6) → I' a j = I a j) ∧ R' = RM rd rl) := by
  refine PC.of [some (.ref 0), some (.long v), none] rfl rfl (Nat.le_of_ble_eq_true rfl) ?_
  obtain ⟨n1, n2, n3⟩ := hN
  refine pw_aload_n 1 rfl dX12_tell_0 rfl ?_
  refine pw_getR 4 rfl dX12_tell_1 fX12_20 (by first | rfl | assumption | exact rowS hh | exact mtS hm | exact ruS hr | exact mtA1 hm | exact mtA2 hm | exact mtA3 hm | exact mtA4 hm | exact mtA5 hm | exact mtA6 hm | exact mtA7 hm | exact ruA1 hr | exact ruA2 hr | exact ruA3 hr) rfl (by first | rfl | assumption | exact mtR0 hm | exact mtR1 hm | exact mtR2 hm | exact mtR3 hm | exact mtR4 hm | exact mtR5 hm | exact mtR6 hm | exact ruR0 hr | exact ruR1 hr | exact ruR3 hr) ?_
  refine pw_aload_n 5 rfl dX12_tell_4 rfl ?_
  refine pw_getI 8 rfl dX12_tell_5 fX12_92 (by first | rfl | assumption | exact rowS hh | exact mtS hm | exact ruS hr | exact mtA1 hm | exact mtA2 hm | exact mtA3 hm | exact mtA4 hm | exact mtA5 hm | exact mtA6 hm | exact mtA7 hm | exact ruA1 hr | exact ruA2 hr | exact ruA3 hr) rfl ?_
  rotate_left
  rw [n1]
  refine pw_lload_n 9 rfl dX12_tell_8 rfl ?_
  refine pw_lastN 10 rfl dX12_tell_9 (by first | rfl | assumption | exact rowS hh | exact mtS hm | exact ruS hr | exact mtA1 hm | exact mtA2 hm | exact mtA3 hm | exact mtA4 hm | exact mtA5 hm | exact mtA6 hm | exact mtA7 hm | exact ruA1 hr | exact ruA2 hr | exact ruA3 hr) (by omega) (by first | decide | omega) ?_
  refine pw_aload_n 11 rfl dX12_tell_10 rfl ?_
  refine pw_dup 12 rfl dX12_tell_11 rfl ?_
  refine pw_getI 15 rfl dX12_tell_12 fX12_92 (by first | rfl | assumption | exact rowS hh | exact mtS hm | exact ruS hr | exact mtA1 hm | exact mtA2 hm | exact mtA3 hm | exact mtA4 hm | exact mtA5 hm | exact mtA6 hm | exact mtA7 hm | exact ruA1 hr | exact ruA2 hr | exact ruA3 hr) rfl ?_
  rotate_left
  rw [n1]
  refine pw_iconst (v := nI 1) 16 rfl dX12_tell_15 rfl ?_
  first | refine pw_iaddN 17 rfl dX12_tell_16 ?_ | refine pw_iadd 17 rfl dX12_tell_16 ?_
  refine pw_putI 20 rfl dX12_tell_17 fX12_92 w12_6 (by first | rfl | assumption | exact rowS hh | exact mtS hm | exact ruS hr | exact mtA1 hm | exact mtA2 hm | exact mtA3 hm | exact mtA4 hm | exact mtA5 hm | exact mtA6 hm | exact mtA7 hm | exact ruA1 hr | exact ruA2 hr | exact ruA3 hr) rfl rfl rfl ?_
  refine pw_vret dX12_tell_20 ?_
  rotate_left
  refine ⟨rfl, ⟨?_, ?_, fun j x hj => ?_⟩, fun a j q => uI_ne (by omega), rfl⟩
  · rw [uI_eq, List.length_append]; rfl
  · rw [List.length_append]; show rw.length + 1 ≤ 12; omega
  · have hjl := (List.getElem?_eq_some_iff.mp hj).1
    rw [List.length_append] at hjl
    have hjl' : j < rw.length + 1 := hjl
    by_cases e : j = rw.length
    · subst e
      rw [List.getElem?_append_right (Nat.le_refl _), Nat.sub_self] at hj
      cases hj
      rw [uJ_at, if_pos rfl, if_pos rfl]
    · rw [List.getElem?_append_left (by omega)] at hj
      rw [uJ_at, if_pos rfl, if_neg e]
      exact n3 j x hj
