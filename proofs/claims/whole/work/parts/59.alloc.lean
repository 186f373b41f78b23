/-! walks that make cells -/
theorem va_AOA.moved {ty : FieldType} {u U : State} (hal : u.vm.Alike U.vm) (h : va_AOA ty u) : va_AOA ty U := by
  have h' : (Cond.arrayOver (.array ty)).holds #[] u none u [] = true := h
  show (Cond.arrayOver (.array ty)).holds #[] U none U [] = true
  simp only [Cond.holds, Cond.value, beq_iff_eq] at h' ⊢
  cases hc : u.vm.findClass (FieldType.array ty).toString with
  | none => simp [hc] at h'
  | some comp =>
    simp only [hc, Option.bind_some, Option.bind_eq_some_iff, Option.map_eq_some_iff] at h'
    obtain ⟨c, hi, k, hk, hb⟩ := h'
    obtain ⟨k', hk', e⟩ := hal.2.2 _ _ hk
    rw [hal.findClass, hc]
    simp only [Option.bind_some, Option.bind_eq_some_iff, Option.map_eq_some_iff]
    refine ⟨c, (hal.arrayIdx comp).trans hi, k', hk', ?_⟩
    have hk2 : k'.kind = k.kind := by rw [e]
    rw [hk2, hal.findClass]
    exact hb
def aCx (D : va_G) (own : String) (cc : ByteArray) (nL d cM sM : Nat) (ini : Bool) (p : Program) (Rm : Room) (s : State) (m : MethodId) (args : Array Value) (meth : Method) (c : Code) (A : Nat → Prop) : Prop :=
  CallFix p m c cc nL s args gt own ∧ (∀ q, s.heap.size ≤ q → A q) ∧ va_K D vwCl [] s ∧ (d ≤ Rm.frames ∧ 40 * d ≤ Rm.locals ∧ cM ≤ Rm.cells ∧ sM ≤ Rm.slots) ∧ pX A s ∧ (ini = true → meth.name = "<init>") ∧ va_AOA .int s
def aRl (D : va_G) (n0 : Nat) (ad0 : Nat → Nat) (S : pS) (ad : Nat → Nat) (ac : Nat → ClassId) (I : pI) (J : pJ) (R : pR) (A : Nat → Prop) (s : State) (H : Heap) (lcs : List Loc) : Prop :=
  va_P D vwCl (pW S I J R ad ac) H ∧ va_S A s.heap H lcs ∧ pK D S ac s ∧ ((∀ i j, i < S.length → j < S.length → ad i = ad j → i = j) ∧ ∀ i, i < S.length → A (ad i)) ∧ (∀ h, h < n0 ∨ 1000 ≤ h → ad h = ad0 h) ∧ n0 ≤ S.length
abbrev pXa : Type := Nat → pLc → List Value → pS → pI → pJ → pR → Nat → Nat → Prop
def AW (n0 : Nat) (own : String) (cc : ByteArray) (nL d cM sM : Nat) (ini : Bool) (pc : Nat) (locs : pLc) (st : List Value) (S : pS) (I : pI) (J : pJ) (R : pR) (cs sl : Nat) (X : pXa) : Prop :=
  ∀ (l : Launch) (D : va_G) (ad0 : Nat → Nat) (p : Program) (e : Env) (Rm : Room) (s : State) (m : MethodId) (args : Array Value) (below : List Frame) (meth : Method) (c : Code) (A : Nat → Prop), aCx D own cc nL d cM sM ini p Rm s m args meth c A → ∀ (Qs : State → Prop),
    (∀ (pc' : Nat) (locs' : pLc) (st' : List Value) (S' : pS) (I' : pI) (J' : pJ) (R' : pR) (cs' sl' : Nat) (ad' : Nat → Nat) (ac' : Nat → ClassId) (H' : Heap) (lcs' : List Loc) (ls' : Array Slot), X pc' locs' st' S' I' J' R' cs' sl' → aRl D n0 ad0 S' ad' ac' I' J' R' A s H' lcs' → pLo ad' ls' nL locs' → W p l e Rm s m args below meth c H' lcs' cs' sl' Qs (F0 m pc' ls' (st'.map (tv ad')))) →
    ∀ (ad : Nat → Nat) (ac : Nat → ClassId) (H : Heap) (lcs : List Loc) (ls : Array Slot), aRl D n0 ad0 S ad ac I J R A s H lcs → pLo ad ls nL locs → W p l e Rm s m args below meth c H lcs cs sl Qs (F0 m pc ls (st.map (tv ad)))
/-- no reference among the handles from a on below b -/
def hrV (a b : Nat) (v : Value) : Bool := match v with
  | .ref h => !(decide (a ≤ h) && decide (h < b))
  | _ => true
def hrL (a b : Nat) (locs : pLc) : Bool := locs.all (fun o => match o with
  | none => true
  | some v => hrV a b v)
theorem hrV_tv {a b : Nat} {ad ad' : Nat → Nat} (h : ∀ k, ¬ (a ≤ k ∧ k < b) → ad' k = ad k) {v : Value} (hv : hrV a b v = true) : tv ad' v = tv ad v := by
  cases v with
  | ref k =>
    have : ¬ (a ≤ k ∧ k < b) := by
      intro z
      rw [hrV, decide_eq_true z.1, decide_eq_true z.2] at hv
      cases hv
    show Value.ref (ad' k) = Value.ref (ad k)
    rw [h k this]
  | _ => rfl
theorem hrL_lo {a b : Nat} {ad ad' : Nat → Nat} {ls : Array Slot} {nL : Nat} {locs : pLc} (h : ∀ k, ¬ (a ≤ k ∧ k < b) → ad' k = ad k) (hl : hrL a b locs = true) (hp : pLo ad ls nL locs) : pLo ad' ls nL locs := by
  refine ⟨hp.1, hp.2.1, fun i v hi => ?_⟩
  have hm : some v ∈ locs := List.mem_of_getElem? hi
  have := List.all_eq_true.mp hl _ hm
  rw [hrV_tv h this]
  exact hp.2.2 i v hi
theorem hrS_st {a b : Nat} {ad ad' : Nat → Nat} {st : List Value} (h : ∀ k, ¬ (a ≤ k ∧ k < b) → ad' k = ad k) (hs : st.all (hrV a b) = true) : st.map (tv ad') = st.map (tv ad) := List.map_congr_left (fun v hv => hrV_tv h (List.all_eq_true.mp hs v hv))
theorem pE_ad {ad ad' : Nat → Nat} {ca : ClassId} {sh : Nat × Nat} {Ih : Nat → Int32} {Jh : Nat → Int64} {Rh : Nat → Option Nat} (h : ∀ j x, Rh j = some x → ad' x = ad x) : pE ad' ca sh Ih Jh Rh = pE ad ca sh Ih Jh Rh := by
  have e : (fun j => (Rh j).map ad') = (fun j => (Rh j).map ad) := funext (fun j => by
    cases e : Rh j with
    | none => rfl
    | some x => show some (ad' x) = some (ad x); rw [h j x e])
  have e2 : pFs ad' Ih Rh sh.1 sh.2 = pFs ad Ih Rh sh.1 sh.2 := by
    unfold pFs
    refine List.map_congr_left (fun k _ => ?_)
    have ek := congrFun e k
    unfold pF
    split <;> first | rfl | (show va_rf ((Rh k).map ad') = va_rf ((Rh k).map ad); rw [ek])
  unfold pE
  rw [e2, e]
section AROWS
variable {n0 : Nat} {own : String} {cc : ByteArray} {nL d cM sM : Nat} {ini : Bool} {pc : Nat} {locs : pLc} {st : List Value} {S : pS} {I : pI} {J : pJ} {R : pR} {cs sl : Nat} {X : pXa}
theorem aw_done (h : X pc locs st S I J R cs sl) : AW n0 own cc nL d cM sM ini pc locs st S I J R cs sl X := fun _ _ _ _ _ _ _ _ _ _ _ _ _ _ _ hX ad ac H lcs ls hr hl => hX _ _ _ _ _ _ _ _ _ ad ac H lcs ls h hr hl
theorem aw_pw {pc' : Nat} {locs' : pLc} {st' : List Value} {I' : pI} {J' : pJ} {R' : pR} (hcs : cs ≤ cM ∧ sl ≤ sM) (h : ∀ Y : pXt, PW S own cc nL d pc' locs' st' I' J' R' Y → PW S own cc nL d pc locs st I J R Y) (k : AW n0 own cc nL d cM sM ini pc' locs' st' S I' J' R' cs sl X) : AW n0 own cc nL d cM sM ini pc locs st S I J R cs sl X :=
  fun l D ad0 p e Rm s m args below meth c A hc Qs hX ad ac H lcs ls hr hl => h (fun a1 a2 a3 a4 a5 a6 => a1 = pc' ∧ a2 = locs' ∧ a3 = st' ∧ a4 = I' ∧ a5 = J' ∧ a6 = R') (pw_done ⟨rfl, rfl, rfl, rfl, rfl, rfl⟩) l D ad ac p e Rm s m args below meth c A cs sl ⟨hc.1, hc.2.1, hr.2.2.1, ⟨hc.2.2.2.1.1, hc.2.2.2.1.2.1, by have := hc.2.2.2.1.2.2; omega, by have := hc.2.2.2.1.2.2; omega⟩, hc.2.2.2.2.1, hr.2.2.2.1⟩ Qs (fun a1 a2 a3 a4 a5 a6 H' lcs' ls' hx hr' hl' => by
    obtain ⟨rfl, rfl, rfl, rfl, rfl, rfl⟩ := hx
    exact k l D ad0 p e Rm s m args below meth c A hc Qs hX ad ac H' lcs' ls' ⟨hr'.1, hr'.2, hr.2.2⟩ hl') H lcs ls ⟨hr.1, hr.2.1⟩ hl
theorem aw_obj {idx h : Nat} (pc' : Nat) (hp : pc + 3 = pc') (hd : decode cc pc = .ok (.invokespecial idx, 3)) (hL : Cond.methodLink own idx Lib.objectInit ∈ gt) (hO : Cond.instanceMethod Lib.objectInit ∈ gt ∧ Cond.code Lib.objectInit ⟨#[0xb1]⟩ 1 none ∈ gt) (hf : 1 ≤ d) (hs : (st.map fun v => v.category).sum ≤ 8) (k : AW n0 own cc nL d cM sM ini pc' locs st S I J R cs sl X) : AW n0 own cc nL d cM sM ini pc locs (.ref h :: st) S I J R cs sl X := by
  subst hp
  exact fun l D ad0 p e Rm s m args below meth c A hc Qs hX ad ac H lcs ls hr hl => by
    have hrr := hc.2.2.2.1
    refine W.objInit hc.1.1 hc.1.2.1 hc.1.2.2.2.1 (hc.1.2.2.2.2 _ hL) (hc.1.2.2.2.2 _ hO.1) (hc.1.2.2.2.2 _ hO.2) rfl (by show ls.size = _; rw [hl.1]; exact hc.1.2.2.1.symm) (a := ad h) (rest := st.map (tv ad)) rfl hd (by omega) (by have := tv_sum (ad := ad) hs; show 2 * 0 + _ + 12 ≤ _; omega) ?_
    exact k l D ad0 p e Rm s m args below meth c A hc Qs hX ad ac H lcs ls hr hl
end AROWS
