/-! the object as it is told: climbers, paces, the row, what can be undone, what is kept, the ROW, THE TEXT, the RULE's text, heard, seen -/
abbrev aSt := Nat × (Nat → Nat) × (Nat → Nat) × List (Nat → Nat) × (Nat → Option (Nat → Nat)) × List Int64 × List Nat × List Nat × List (Nat × Nat) × List (Nat × Nat)
def XA (I : pI) (J : pJ) : aSt → Prop
  | (n, pc, b, us, kp, rw, tx, rt, hd, sw) => XM I 1 n pc b ∧ XE I 9 (ruE rt) ∧ XN I J rw ∧ XT I tx ∧ XU I us ∧ XK I kp ∧ XH I hd ∧ XG I sw
def WA : aSt → Prop
  | (n, pc, b, us, kp, _, _, _, _, _) => WN n pc b ∧ (∀ u ∈ us, WN n pc u) ∧ (∀ i u, kp i = some u → WN n pc u)
def oP (x : Int32 × aSt) : Option Value → pI → pJ → pR → Prop := fun r' I' J' R' => r' = some (.int x.1) ∧ XA I' J' x.2 ∧ R' = RX
abbrev qFn := Nat → (Nat → Nat) → (Nat → Nat) → ((Nat → Int32) → Nat) → List Int64 → List (Nat × Nat) → List (Nat × Nat) → Int32 × List Int64
def qOp (f : qFn) : aSt → Int32 × aSt
  | (n, pc, b, us, kp, rw, tx, rt, hd, sw) => ((f n pc b (ruE rt) rw hd sw).1, (n, pc, b, us, kp, (f n pc b (ruE rt) rw hd sw).2, tx, rt, hd, sw))
def fW (I I' : pI) : Prop := ∀ a, (1 ≤ a ∧ a ≤ 10) ∨ a = 17 ∨ a = 18 ∨ (21 ≤ a ∧ a ≤ 39 ∧ a ≠ 25) ∨ (62 ≤ a ∧ a ≤ 65) → I' a = I a
theorem XA_rw {I I' : pI} {J J' : pJ} {n : Nat} {pc b : Nat → Nat} {us : List (Nat → Nat)} {kp : Nat → Option (Nat → Nat)} {rw rw' : List Int64} {tx rt : List Nat} {hd sw : List (Nat × Nat)} (h : XA I J (n, pc, b, us, kp, rw, tx, rt, hd, sw)) (hf : fW I I') (hN : XN I' J' rw') : XA I' J' (n, pc, b, us, kp, rw', tx, rt, hd, sw) := by
  obtain ⟨a1, a2, a3, a4, a5, a6, a7, a8⟩ := h
  refine ⟨XM_fr a1 (fun a h1 h2 => hf a (by omega)), XE_fr a2 (hf 9 (by omega)) (hf 10 (by omega)), hN, XT_fr a4 (hf 17 (by omega)) (hf 18 (by omega)), XU_fr a5 (fun a h1 h2 h3 h4 => hf a (by omega)), XK_fr a6 (hf 24 (by omega)) (hf 38 (by omega)) (hf 39 (by omega)), XH_fr a7 (hf 62 (by omega)) (hf 63 (by omega)), XG_fr a8 (by rw [hf 64 (by omega)]) (hf 65 (by omega))⟩
theorem fW_O {I I' : pI} (h : fO I I') : fW I I' := fun a ha => h a (by omega) (by omega) (by omega)
theorem fW_P {I I' : pI} (h : fP I I') : fW I I' := fun a ha => h a (by omega) (by omega) (by omega)
theorem fW_S {I I' : pI} (h : fS I I') : fW I I' := fun a ha => h a (by omega) (by omega)
theorem fW_19 {I I' : pI} (h : ∀ a, a ≠ 19 → I' a = I a) : fW I I' := fun a ha => h a (by omega)
theorem out_in {lo hi N : Nat} (h1 : lo ≤ N) (h2 : N ≤ hi) (h : hi < 1073741824) : outV (nI N) (nI lo) (nI hi) = nI 0 := outV_n (fun q => by
  rcases q with q | q
  · rw [nI_ltI (by omega) (by omega)] at q; omega
  · rw [nI_ltI (by omega) (by omega)] at q; omega)
def fewO (o : Option Nat) (rw : List Int64) : Int32 × List Int64 := match o with
  | none => (-2, rw)
  | some s => (nI (popc s), [lI s])
theorem fewP_O {o : Option Nat} {rw : List Int64} {r' : Option Value} {I' : pI} {J' : pJ} (h : fewP o rw r' I' J') : r' = some (.int (fewO o rw).1) ∧ XN I' J' (fewO o rw).2 := by
  rcases o with _ | s
  · exact h
  · exact h
def emO (n : Nat) (b : Nat → Nat → Nat) (rw : List Int64) (o : Option Nat) : Int32 × List Int64 := match o with
  | none => (-2, rw)
  | some t => (nI t, [lI (b t 29)])
theorem fstL_none {ok : Nat → Bool} : ∀ {k}, (∀ j, j < k → ok j = false) → fstL ok k = none
  | 0, _ => rfl
  | k + 1, h => by rw [fstL_n (h k (by omega))]; exact fstL_none (fun j hj => h j (by omega))
theorem fstL_at {ok : Nat → Bool} {t : Nat} : ∀ {k}, t < k → (∀ j, j < t → ok j = false) → ok t = true → fstL ok k = some t
  | 0, h, _, _ => by omega
  | k + 1, h, h1, h2 => by
    by_cases e : t = k
    · subst e
      refine fstL_y ?_ h2
      refine (fstL_cnt ok t).mp ?_
      exact fstL_none h1
    · exact fstL_s (fstL_at (by omega) h1 h2)
theorem qOf_cases {n : Nat} (h7 : n ≤ 7) (w : Int32) : (∃ q, q < n ∧ w = nI q ∧ qOf n w = some q ∧ hasV n w = nI 1) ∨ (qOf n w = none ∧ hasV n w = nI 0) := by
  rcases pk_ix w (n := n) (by omega) with h | h | ⟨j, hj, rfl⟩
  · exact Or.inr ⟨qOf_no (Or.inl h), hasV_no (Or.inl h)⟩
  · exact Or.inr ⟨qOf_no (Or.inr h), hasV_no (Or.inr h)⟩
  · exact Or.inl ⟨j, hj, rfl, qOf_y hj h7, hasV_y hj h7⟩
