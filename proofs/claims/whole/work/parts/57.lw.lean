/-! walks of the law: both worlds, the row that is asked for, and the script beside them -/
def SL : pS := SX ++ SM ++ [(101, 1)]
theorem sl_len : SL.length = 97 := rfl
theorem sl_x : ∀ k, k < SX.length → SL[0 + k]? = SX[k]? := by decide +kernel
theorem sl_m : ∀ k, k < SM.length → SL[70 + k]? = SM[k]? := by decide +kernel
def sCx (L : Nat) (xs : Nat → Int32) (ad : Nat → Nat) (A : Nat → Prop) (s : State) : Prop := va_X (ad 200) L xs s s.heap ∧ ad 200 < s.heap.size ∧ ¬ A (ad 200)
def LW (B : Nat) (L : Nat) (xs : Nat → Int32) (S : pS) (own : String) (cc : ByteArray) (nL d : Nat) (pc : Nat) (locs : pLc) (st : List Value) (I : pI) (J : pJ) (R : pR) (X : pXt) : Prop :=
  ∀ (l : Launch) (D : va_G) (ad : Nat → Nat) (ac : Nat → ClassId) (p : Program) (e : Env) (Rm : Room) (s : State) (m : MethodId) (args : Array Value) (below : List Frame) (meth : Method) (c : Code) (A : Nat → Prop) (cs sl : Nat), pCx D S ad ac own cc nL d p Rm s m args c A cs sl → (cs + 10 * B ≤ Rm.cells ∧ sl + 100 * B ≤ Rm.slots) → sCx L xs ad A s → ∀ (Qs : State → Prop),
    (∀ (pc' : Nat) (locs' : pLc) (st' : List Value) (I' : pI) (J' : pJ) (R' : pR) (H' : Heap) (lcs' : List Loc) (ls' : Array Slot) (cs' sl' : Nat), cs' ≤ Rm.cells ∧ sl' ≤ Rm.slots → X pc' locs' st' I' J' R' → pRl D S ad ac I' J' R' A s.heap H' lcs' → pLo ad ls' nL locs' → W p l e Rm s m args below meth c H' lcs' cs' sl' Qs (F0 m pc' ls' (st'.map (tv ad)))) →
    ∀ (H : Heap) (lcs : List Loc) (ls : Array Slot), pRl D S ad ac I J R A s.heap H lcs → pLo ad ls nL locs → W p l e Rm s m args below meth c H lcs cs sl Qs (F0 m pc ls (st.map (tv ad)))
section LROWS
variable {B L : Nat} {xs : Nat → Int32} {S : pS} {own : String} {cc : ByteArray} {nL d pc : Nat} {locs : pLc} {st : List Value} {I : pI} {J : pJ} {R : pR} {X : pXt}
theorem lw_done (h : X pc locs st I J R) : LW B L xs S own cc nL d pc locs st I J R X := fun _ _ _ _ _ _ _ _ _ _ _ _ _ _ _ _ hc _ _ _ hX H lcs ls hr hl => hX _ _ _ _ _ _ H lcs ls _ _ hc.2.2.2.1.2.2 h hr hl
theorem lw_pw {pc' : Nat} {locs' : pLc} {st' : List Value} {I' : pI} {J' : pJ} {R' : pR} (h : ∀ Y : pXt, PW S own cc nL d pc' locs' st' I' J' R' Y → PW S own cc nL d pc locs st I J R Y) (k : LW B L xs S own cc nL d pc' locs' st' I' J' R' X) : LW B L xs S own cc nL d pc locs st I J R X :=
  fun l D ad ac p e Rm s m args below meth c A cs sl hc hB hs Qs hX H lcs ls hr hl => h (fun a1 a2 a3 a4 a5 a6 => a1 = pc' ∧ a2 = locs' ∧ a3 = st' ∧ a4 = I' ∧ a5 = J' ∧ a6 = R') (pw_done ⟨rfl, rfl, rfl, rfl, rfl, rfl⟩) l D ad ac p e Rm s m args below meth c A cs sl hc Qs (fun a1 a2 a3 a4 a5 a6 H' lcs' ls' hx hr' hl' => by
    obtain ⟨rfl, rfl, rfl, rfl, rfl, rfl⟩ := hx
    exact k l D ad ac p e Rm s m args below meth c A cs sl hc hB hs Qs hX H' lcs' ls' hr' hl') H lcs ls hr hl
theorem lw_call {pc' : Nat} {rest : List Value} {Ps : Option Value → pI → pJ → pR → Prop} (h : ∀ Y : pXt, (∀ (r : Option Value) (I' : pI) (J' : pJ) (R' : pR), Ps r I' J' R' → PW S own cc nL d pc' locs (r.toList ++ rest) I' J' R' Y) → PW S own cc nL d pc locs st I J R Y) (k : ∀ (r : Option Value) (I' : pI) (J' : pJ) (R' : pR), Ps r I' J' R' → LW B L xs S own cc nL d pc' locs (r.toList ++ rest) I' J' R' X) : LW B L xs S own cc nL d pc locs st I J R X :=
  fun l D ad ac p e Rm s m args below meth c A cs sl hc hB hs Qs hX H lcs ls hr hl => h (fun a1 a2 a3 a4 a5 a6 => ∃ r, Ps r a4 a5 a6 ∧ a1 = pc' ∧ a2 = locs ∧ a3 = r.toList ++ rest) (fun r I' J' R' hp => pw_done ⟨r, hp, rfl, rfl, rfl⟩) l D ad ac p e Rm s m args below meth c A cs sl hc Qs (fun a1 a2 a3 a4 a5 a6 H' lcs' ls' hx hr' hl' => by
    obtain ⟨r, hp, rfl, rfl, rfl⟩ := hx
    exact k r a4 a5 a6 hp l D ad ac p e Rm s m args below meth c A cs sl hc hB hs Qs hX H' lcs' ls' hr' hl') H lcs ls hr hl
theorem lw_sld {i : Int32} (pc' : Nat) (hp : pc + 1 = pc') (hd : decode cc pc = .ok (.iaload, 1)) (hi : vp_in i L) (k : LW B L xs S own cc nL d pc' locs (.int (xs i.toNatClampNeg) :: st) I J R X) : LW B L xs S own cc nL d pc locs (.int i :: .ref 200 :: st) I J R X := by
  subst hp
  exact fun l D ad ac p e Rm s m args below meth c A cs sl hc hB hs Qs hX H lcs ls hr hl => va_sld hc.1.1 hc.1.2.1 hs.1 hs.2.1 hs.2.2 hr.2 hi hd (k l D ad ac p e Rm s m args below meth c A cs sl hc hB hs Qs hX H lcs ls hr hl)
theorem lw_sldN {j : Nat} (pc' : Nat) (hp : pc + 1 = pc') (hd : decode cc pc = .ok (.iaload, 1)) (hj : j < L) (hL : L < 2 ^ 31) (k : LW B L xs S own cc nL d pc' locs (.int (xs j) :: st) I J R X) : LW B L xs S own cc nL d pc locs (.int (nI j) :: .ref 200 :: st) I J R X := by
  refine lw_sld pc' hp hd (vp_in_nI hj hL) ?_
  rw [nI_clamp (Nat.lt_trans hj hL)]
  exact k
theorem lw_slen (pc' : Nat) (hp : pc + 1 = pc') (hd : decode cc pc = .ok (.arraylength, 1)) (k : LW B L xs S own cc nL d pc' locs (.int (nI L) :: st) I J R X) : LW B L xs S own cc nL d pc locs (.ref 200 :: st) I J R X := by
  subst hp
  exact fun l D ad ac p e Rm s m args below meth c A cs sl hc hB hs Qs hX H lcs ls hr hl => va_slen hc.1.1 hc.1.2.1 hs.1 hs.2.1 hs.2.2 hr.2 hd (k l D ad ac p e Rm s m args below meth c A cs sl hc hB hs Qs hX H lcs ls hr hl)
end LROWS
/-- both objects tell the same state -/
def LI (s : aSt) (g : Nat) (I : pI) (J : pJ) (R : pR) : Prop := (∃ I1 J1, XA I1 J1 s ∧ agr 0 SX I1 J1 RX I J R) ∧ ∃ I2 J2 rd, MA I2 J2 s ∧ MDg g I2 ∧ agr 70 SM I2 J2 (RM rd (some 6)) I J R
theorem agr_out {o : Nat} {S : pS} {I1 I I2 : pI} {J1 J J2 : pJ} {R1 R R2 : pR} (h : agr o S I1 J1 R1 I J R) {o2 n2 : Nat} (hk : ∀ k, ¬ (o2 ≤ k ∧ k < o2 + n2) → I2 k = I k ∧ J2 k = J k ∧ R2 k = R k) (hd : o + S.length ≤ o2 ∨ o2 + n2 ≤ o) : agr o S I1 J1 R1 I2 J2 R2 := fun k q => by
  obtain ⟨a1, a2, a3⟩ := h k q
  obtain ⟨b1, b2, b3⟩ := hk (o + k) (by omega)
  exact ⟨b1.trans a1, b2.trans a2, b3.trans a3⟩
