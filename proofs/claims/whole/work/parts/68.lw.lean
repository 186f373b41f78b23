/-! walks of the law: both worlds, the row that is asked for, and the script beside them -/
def sCx (l : Launch) (L : Nat) (xs : Nat → Int32) (ad : Nat → Nat) (A : Nat → Prop) (s : State) : Prop := va_X (ad 200) L xs s s.heap ∧ ad 200 < s.heap.size ∧ (¬ A (ad 200)) ∧ exE A s ∧ l.stackTraces = false
def LW (B : Nat) (L : Nat) (xs : Nat → Int32) (S : pS) (own : String) (cc : ByteArray) (nL d : Nat) (pc : Nat) (locs : pLc) (st : List Value) (I : pI) (J : pJ) (R : pR) (X : pXt) : Prop :=
  ∀ (l : Launch) (D : va_G) (ad : Nat → Nat) (ac : Nat → ClassId) (p : Program) (e : Env) (Rm : Room) (s : State) (m : MethodId) (args : Array Value) (below : List Frame) (meth : Method) (c : Code) (A : Nat → Prop) (cs sl : Nat), pCx D S ad ac own cc nL d p Rm s m args c A cs sl → (cs + 10 * B ≤ Rm.cells ∧ sl + 100 * B ≤ Rm.slots) → sCx l L xs ad A s → ∀ (Qs : State → Prop),
    (∀ (pc' : Nat) (locs' : pLc) (st' : List Value) (I' : pI) (J' : pJ) (R' : pR) (H' : Heap) (lcs' : List Loc) (ls' : Array Slot) (cs' sl' : Nat), cs' ≤ Rm.cells ∧ sl' ≤ Rm.slots → X pc' locs' st' I' J' R' → pRl D S ad ac I' J' R' A s.heap H' lcs' → pLo ad ls' nL locs' → W p l e Rm s m args below meth c H' lcs' cs' sl' Qs (F0 m pc' ls' (st'.map (tv ad)))) →
    ∀ (H : Heap) (lcs : List Loc) (ls : Array Slot), pRl D S ad ac I J R A s.heap H lcs → pLo ad ls nL locs → W p l e Rm s m args below meth c H lcs cs sl Qs (F0 m pc ls (st.map (tv ad)))
section LROWS
variable {B L : Nat} {xs : Nat → Int32} {S : pS} {own : String} {cc : ByteArray} {nL d pc : Nat} {locs : pLc} {st : List Value} {I : pI} {J : pJ} {R : pR} {X : pXt}
theorem lw_done (h : X pc locs st I J R) : LW B L xs S own cc nL d pc locs st I J R X := fun _ _ _ _ _ _ _ _ _ _ _ _ _ _ _ _ hc _ _ _ hX H lcs ls hr hl => hX _ _ _ _ _ _ H lcs ls _ _ hc.2.2.2.1.2.2 h hr hl
theorem lw_pw {pc' : Nat} {locs' : pLc} {st' : List Value} {I' : pI} {J' : pJ} {R' : pR} (h : ∀ Y : pXt, PW S own cc nL d pc' locs' st' I' J' R' Y → PW S own cc nL d pc locs st I J R Y) (k : LW B L xs S own cc nL d pc' locs' st' I' J' R' X) : LW B L xs S own cc nL d pc locs st I J R X :=
  fun l D ad ac p e Rm s m args below meth c A cs sl hc hB hs Qs hX H lcs ls hr hl => h (fun a1 a2 a3 a4 a5 a6 => a1 = pc' ∧ a2 = locs' ∧ a3 = st' ∧ a4 = I' ∧ a5 = J' ∧ a6 = R') (pw_done ⟨rfl, rfl, rfl, rfl, rfl, rfl⟩) l D ad ac p e Rm s m args below meth c A cs sl hc Qs (fun a1 a2 a3 a4 a5 a6 H' lcs' ls' hx hr' hl' => by
    obtain ⟨rfl, rfl, rfl, rfl, rfl, rfl⟩ := hx
    exact k l D ad ac p e Rm s m args below meth c A cs sl hc hB hs Qs hX H' lcs' ls' hr' hl') H lcs ls hr hl
theorem lw_call {pc' : Nat} {rest : List Value} {Ps : Option Value → pI → pJ → pR → Prop} (h : ∀ Y : pXt, (∀ (r : Option Value) (I' : pI) (J' : pJ) (R' : pR), Ps r I' J' R' → PW S own cc nL d pc' locs (r.toList ++ rest) I' J' R' Y) → PW S own cc nL d pc locs st I J R Y) (k : ∀ (r : Option Value) (I' : pI) (J' : pJ) (R' : pR), Ps r I' J' R' → LW B L xs S own cc nL d pc' locs (r.toList ++ rest) I' J' R' X) : LW B L xs S own cc nL d pc locs st I J R X :=
  fun l D ad ac p e Rm s m args below meth c A cs sl hc hB hs Qs hX H lcs ls hr hl => h (fun a1 a2 a3 a4 a5 a6 => ∃ r, Ps r a4 a5 a6 ∧ a1 = pc' ∧ a2 = locs ∧ a3 = r.toList ++ rest) (fun r I' J' R' hp => pw_done ⟨r, hp, rfl, rfl, rfl⟩) l D ad ac p e Rm s m args below meth c A cs sl hc Qs (fun a1 a2 a3 a4 a5 a6 H' lcs' ls' hx hr' hl' => by
    obtain ⟨r, hp, rfl, rfl, rfl⟩ := hx
    exact k r a4 a5 a6 hp l D ad ac p e Rm s m args below meth c A cs sl hc hB hs Qs hX H' lcs' ls' hr' hl') H lcs ls hr hl
theorem lw_sld {i : Int32} (pc' : Nat) (hp : pc + 1 = pc') (hd : decode cc pc = .ok (.iaload, 1)) (hi : vp_in i L) (k : LW B L xs S own cc nL d pc' locs (.int (xs i.toNatClampNeg) :: st) I J R X) : LW B L xs S own cc nL d pc locs (.int i :: .ref 200 :: st) I J R X := by
  subst hp
  exact fun l D ad ac p e Rm s m args below meth c A cs sl hc hB hs Qs hX H lcs ls hr hl => va_sld hc.1.1 hc.1.2.1 hs.1 hs.2.1 hs.2.2.1 hr.2 hi hd (k l D ad ac p e Rm s m args below meth c A cs sl hc hB hs Qs hX H lcs ls hr hl)
theorem lw_sldN {j : Nat} (pc' : Nat) (hp : pc + 1 = pc') (hd : decode cc pc = .ok (.iaload, 1)) (hj : j < L) (hL : L < 2 ^ 31) (k : LW B L xs S own cc nL d pc' locs (.int (xs j) :: st) I J R X) : LW B L xs S own cc nL d pc locs (.int (nI j) :: .ref 200 :: st) I J R X := by
  refine lw_sld pc' hp hd (vp_in_nI hj hL) ?_
  rw [nI_clamp (Nat.lt_trans hj hL)]
  exact k
theorem lw_slen (pc' : Nat) (hp : pc + 1 = pc') (hd : decode cc pc = .ok (.arraylength, 1)) (k : LW B L xs S own cc nL d pc' locs (.int (nI L) :: st) I J R X) : LW B L xs S own cc nL d pc locs (.ref 200 :: st) I J R X := by
  subst hp
  exact fun l D ad ac p e Rm s m args below meth c A cs sl hc hB hs Qs hX H lcs ls hr hl => va_slen hc.1.1 hc.1.2.1 hs.1 hs.2.1 hs.2.2.1 hr.2 hd (k l D ad ac p e Rm s m args below meth c A cs sl hc hB hs Qs hX H lcs ls hr hl)
/-- a helper that catches: one of the budget's calls -/
theorem lw_callX {idx d' maxL : Nat} {y : MethodName} {bytes : ByteArray} {hh : List (Nat × Nat × Nat × Nat)} {as rest : List Value} {Ps : Option Value → pI → pJ → pR → Prop} (pc' : Nat) (hp : pc + 3 = pc') (hd : decode cc pc = .ok (.invokestatic idx, 3)) (hL : Cond.methodLink own idx y ∈ gt) (hV : Cond.static y ∈ gt ∧ Cond.initialized y.cls ∈ gt ∧ Cond.codeWith y bytes maxL (some .int) hh ∈ gt) (hC : LCn d' y bytes maxL hh as I J R Ps) (hy : y.cls ≠ "java/lang/invoke/MethodHandle" ∧ y.cls ≠ "java/lang/invoke/VarHandle" ∧ (parseMethodDescriptor y.desc).map (fun d => d.parameters.length) = some as.length) (hdd : d' + 1 ≤ d) (hm : maxL ≤ 21) (hsm : (rest.map fun v => v.category).sum ≤ 8) (hst : st = as.reverse ++ rest)
    (k : ∀ (r : Option Value) (I' : pI) (J' : pJ) (R' : pR), Ps r I' J' R' → LW B L xs SL own cc nL d pc' locs (r.toList ++ rest) I' J' R' X) : LW (B + 1) L xs SL own cc nL d pc locs st I J R X := by
  subst hp
  exact fun l D ad ac p e Rm s m args below meth c A cs sl hc hB hs Qs hX H lcs ls hr hl => by
    have hrr := hc.2.2.2.1
    subst hst
    rw [tv_rev]
    have hG : GoodIn gt (va_wsS own idx y (Cond.codeWith y bytes maxL (some .int) hh :: gt)) := fun w hw => by
      have : w ∈ gt := by
        unfold va_wsS at hw
        rcases List.mem_append.mp hw with h | h
        · simp only [List.mem_cons, List.not_mem_nil, or_false] at h
          rcases h with rfl | rfl | rfl
          · exact hL
          · exact hV.1
          · exact hV.2.1
        · rcases List.mem_cons.mp h with rfl | h
          · exact hV.2.2
          · exact h
      exact ⟨this, gt_good this⟩
    have hrun := vx_runSX (hh := hh) (g := F0 m pc ls ((as.map (tv ad)).reverse ++ rest.map (tv ad))) (As := as.map (tv ad)) (rest := rest.map (tv ad)) (below := below) (meth := meth) (e := e) (locs := lcs) (H := H) (cells := cs) (slots := sl) (R := Rm) (Pc := va_Pc (as.map (tv ad)) (fun U => pB D SL ad ac I J R H.size U ∧ exE (pA SL ad H.size) U)) hc.1 (hC l D ad ac H.size hs.2.2.2.2)
      (vx_cwSW as.length hc.1.2.2.2.2 hG rfl rfl rfl hy ⟨by show d' + 1 ≤ _; omega, by show 8 + (maxL + 11) + 40 * d' ≤ _; omega⟩)
      ⟨xB_blind, fun U hU hW => ⟨rfl, pB_at hc hr U hU hW, hs.2.2.2.1.moved hW (lcs := lcs) (by rw [hU]; exact hr.2) (pA_in hc hr.2)⟩⟩ rfl (by simp) hl.1 rfl (lv_room (tv_sum hsm)) hd ⟨by omega, by omega⟩
    intro T0 hT0 X0
    rcases hrun T0 hT0 X0 with ⟨v, st₀, t, T', Lx, h0, X', hLx, e1, e2, ⟨⟨r, I', J', R', hv, hp, hb⟩, hz', hk'⟩, stp⟩ | ⟨q, st₀, t, T', Lx, E, ce, h0, X', hLx, e1, e2, hf, -⟩
    · cases hv
      rw [h0] at hz' hk'
      have hpain := pA_in hc hr.2
      have hr1 : pRl D SL ad ac I' J' R' A s.heap T'.heap (lcs ++ Lx) := ⟨by rw [e1]; exact hb, Nat.le_trans hr.2.1 (by rw [e1]; exact hz'), fun q q1 q2 => by rw [e1, hk' q (Nat.lt_of_lt_of_le q1 hr.2.1) (fun z => q2 (hpain q z))]; exact hr.2.2.1 q q1 q2, fun q hq => by
        rcases List.mem_append.mp hq with h | h
        · exact hr.2.2.2 q h
        · exact hpain _ (hLx q h)⟩
      have k9 := k r I' J' R' hp l D ad ac p e Rm s m args below meth c A (cs + 1) (sl + 6) ⟨hc.1, hc.2.1, hc.2.2.1, ⟨hc.2.2.2.1.1, hc.2.2.2.1.2.1, by omega, by omega⟩, hc.2.2.2.2.1, hc.2.2.2.2.2⟩ ⟨by omega, by omega⟩ hs Qs hX T'.heap (lcs ++ Lx) ls hr1 hl
      rw [← tv_opt] at k9
      obtain ⟨t2, a1, b1⟩ := k9 T' rfl X'
      exact ⟨t2, stp t2 a1, b1⟩
    · exact hf.elim
end LROWS
/-- both objects tell the same state -/
def LI (s : aSt) (g : Nat) (I : pI) (J : pJ) (R : pR) : Prop := (∃ I1 J1, XA I1 J1 s ∧ agr 0 SX I1 J1 RX I J R) ∧ ∃ I2 J2 rd, MA I2 J2 s ∧ MDg g I2 ∧ agr 70 SM I2 J2 (RM rd (some 6)) I J R
theorem agr_out {o : Nat} {S : pS} {I1 I I2 : pI} {J1 J J2 : pJ} {R1 R R2 : pR} (h : agr o S I1 J1 R1 I J R) {o2 n2 : Nat} (hk : ∀ k, ¬ (o2 ≤ k ∧ k < o2 + n2) → I2 k = I k ∧ J2 k = J k ∧ R2 k = R k) (hd : o + S.length ≤ o2 ∨ o2 + n2 ≤ o) : agr o S I1 J1 R1 I2 J2 R2 := fun k q => by
  obtain ⟨a1, a2, a3⟩ := h k q
  obtain ⟨b1, b2, b3⟩ := hk (o + k) (by omega)
  exact ⟨b1.trans a1, b2.trans a2, b3.trans a3⟩
