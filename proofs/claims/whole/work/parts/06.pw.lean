/-! A METHOD'S WALK OVER A PURE PICTURE: cells by handles 0, 1, ..; ints I, longs J, references R; S: what each cell is (a class of vwCl and its fields, or 100 + kind of an array and its length). -/
abbrev pI : Type := Nat → Nat → Int32
abbrev pJ : Type := Nat → Nat → Int64
abbrev pR : Type := Nat → Nat → Option Nat
abbrev pS : Type := List (Nat × Nat)
abbrev pLc : Type := List (Option Value)
abbrev pXt : Type := Nat → pLc → List Value → pI → pJ → pR → Prop
def tv (ad : Nat → Nat) (v : Value) : Value := match v with
  | .ref h => .ref (ad h)
  | .int x => .int x
  | .long x => .long x
  | w => w
theorem tv_cat (ad : Nat → Nat) (v : Value) : (tv ad v).category = v.category := by cases v <;> rfl
theorem tv_cats (ad : Nat → Nat) (st : List Value) : ((st.map (tv ad)).map fun v => v.category) = st.map fun v => v.category := by
  rw [List.map_map]
  exact List.map_congr_left (fun v _ => tv_cat ad v)
/-- field types that are no references -/
def isI (ty : FieldType) : Bool := match ty with
  | .object _ => false
  | .array _ => false
  | _ => true
def pF (ad : Nat → Nat) (Ih : Nat → Int32) (Rh : Nat → Option Nat) (ty : FieldType) (k : Nat) : Value := match ty with
  | .object _ => va_rf ((Rh k).map ad)
  | .array _ => va_rf ((Rh k).map ad)
  | _ => .int (Ih k)
theorem pF_int {ad : Nat → Nat} {Ih : Nat → Int32} {Rh : Nat → Option Nat} {ty : FieldType} {k : Nat} (h : isI ty = true) : pF ad Ih Rh ty k = .int (Ih k) := by
  cases ty <;> first | rfl | cases h
theorem pF_ref {ad : Nat → Nat} {Ih : Nat → Int32} {Rh : Nat → Option Nat} {ty : FieldType} {k : Nat} (h : isI ty = false) : pF ad Ih Rh ty k = va_rf ((Rh k).map ad) := by
  cases ty <;> first | rfl | cases h
def pFs (ad : Nat → Nat) (Ih : Nat → Int32) (Rh : Nat → Option Nat) (c n : Nat) : List Value := (List.range n).map (fun k => pF ad Ih Rh (pTy c k) k)
theorem pFs_get {ad : Nat → Nat} {Ih : Nat → Int32} {Rh : Nat → Option Nat} {c n k : Nat} (h : k < n) : (pFs ad Ih Rh c n)[k]? = some (pF ad Ih Rh (pTy c k) k) := by
  unfold pFs
  rw [List.getElem?_map, List.getElem?_range h]
  rfl
theorem pFs_len {ad : Nat → Nat} {Ih : Nat → Int32} {Rh : Nat → Option Nat} {c n : Nat} : (pFs ad Ih Rh c n).length = n := by simp [pFs]
theorem pFs_set {ad : Nat → Nat} {Ih Ih' : Nat → Int32} {Rh Rh' : Nat → Option Nat} {c n k : Nat} {v : Value} (hk : k < n) (hv : v = pF ad Ih' Rh' (pTy c k) k) (ho : ∀ j, j ≠ k → Ih j = Ih' j ∧ Rh j = Rh' j) :
    (pFs ad Ih Rh c n).set k v = pFs ad Ih' Rh' c n := by
  apply List.ext_getElem?
  intro j
  rw [List.getElem?_set]
  by_cases hj : j < n
  · by_cases e1 : k = j
    · subst e1
      rw [if_pos rfl, if_pos (by rw [pFs_len]; exact hj), pFs_get hj, hv]
    · rw [if_neg e1, pFs_get hj, pFs_get hj]
      obtain ⟨a1, a2⟩ := ho j (fun q => e1 q.symm)
      cases hty : pTy c j <;> simp only [pF, a1, a2]
  · have e1 : ¬ k = j := fun q => hj (q ▸ hk)
    rw [if_neg e1, List.getElem?_eq_none (by rw [pFs_len]; omega), List.getElem?_eq_none (by rw [pFs_len]; omega)]
def pE (ad : Nat → Nat) (ca : ClassId) (sh : Nat × Nat) (Ih : Nat → Int32) (Jh : Nat → Int64) (Rh : Nat → Option Nat) : va_E :=
  if sh.1 < 100 then .inr (sh.1, pFs ad Ih Rh sh.1 sh.2) else .inl (ca, sh.2, if sh.1 = 101 then .inr (.inl Jh) else if sh.1 = 104 then .inr (.inr (.inr (.inr (fun k => (Rh k).map ad)))) else .inl Ih)
def pW (S : pS) (I : pI) (J : pJ) (R : pR) (ad : Nat → Nat) (ac : Nat → ClassId) : va_W := (List.range S.length).map (fun h => (ad h, pE ad (ac h) (S.getD h (0, 0)) (I h) (J h) (R h)))
section PWORLD
variable {S : pS} {I I' : pI} {J J' : pJ} {R R' : pR} {ad : Nat → Nat} {ac : Nat → ClassId}
theorem pW_len : (pW S I J R ad ac).length = S.length := by simp [pW]
theorem pW_get {h : Nat} {sh : Nat × Nat} (hS : S[h]? = some sh) : (pW S I J R ad ac)[h]? = some (ad h, pE ad (ac h) sh (I h) (J h) (R h)) := by
  have hl : h < S.length := (List.getElem?_eq_some_iff.mp hS).1
  unfold pW
  rw [List.getElem?_map, List.getElem?_range hl]
  simp [List.getD, hS]
theorem pW_at {k : Nat} {q : Nat × va_E} (h : (pW S I J R ad ac)[k]? = some q) : k < S.length ∧ q.1 = ad k := by
  have hl : k < S.length := by
    have := (List.getElem?_eq_some_iff.mp h).1
    rwa [pW_len] at this
  obtain ⟨sh, hs⟩ : ∃ sh, S[k]? = some sh := ⟨_, List.getElem?_eq_getElem hl⟩
  rw [pW_get hs] at h
  cases h
  exact ⟨hl, rfl⟩
theorem pW_set {h : Nat} {sh : Nat × Nat} {e : va_E} (hS : S[h]? = some sh) (he : e = pE ad (ac h) sh (I' h) (J' h) (R' h)) (ho : ∀ a, a ≠ h → I a = I' a ∧ J a = J' a ∧ R a = R' a) :
    (pW S I J R ad ac).set h (ad h, e) = pW S I' J' R' ad ac := by
  apply List.ext_getElem?
  intro k
  rw [List.getElem?_set]
  by_cases hk : k < S.length
  · obtain ⟨sk, hsk⟩ : ∃ sk, S[k]? = some sk := ⟨_, List.getElem?_eq_getElem hk⟩
    by_cases e1 : h = k
    · subst e1
      rw [if_pos rfl, if_pos (by rw [pW_len]; exact hk), pW_get hsk, he]
      cases hS.symm.trans hsk
      rfl
    · rw [if_neg e1, pW_get hsk, pW_get hsk]
      obtain ⟨a1, a2, a3⟩ := ho k (fun q => e1 q.symm)
      rw [a1, a2, a3]
  · have hh : h < S.length := (List.getElem?_eq_some_iff.mp hS).1
    have e1 : ¬ h = k := fun q => hk (q ▸ hh)
    rw [if_neg e1, List.getElem?_eq_none (by rw [pW_len]; omega), List.getElem?_eq_none (by rw [pW_len]; omega)]
end PWORLD
def uI (I : pI) (h k : Nat) (v : Int32) : pI := fun a => if a = h then upd (I h) k v else I a
def uJ (J : pJ) (h k : Nat) (v : Int64) : pJ := fun a => if a = h then vp_updL (J h) k v else J a
def uR (R : pR) (h k : Nat) (v : Option Nat) : pR := fun a => if a = h then (fun j => if j = k then v else R h j) else R a
theorem uI_at (I : pI) (h k : Nat) (v : Int32) (a b : Nat) : uI I h k v a b = if a = h then (if b = k then v else I a b) else I a b := by
  unfold uI upd
  by_cases e : a = h
  · subst e; simp
  · simp [e]
theorem uJ_at (J : pJ) (h k : Nat) (v : Int64) (a b : Nat) : uJ J h k v a b = if a = h then (if b = k then v else J a b) else J a b := by
  unfold uJ vp_updL
  by_cases e : a = h
  · subst e; simp
  · simp [e]
theorem uR_at (R : pR) (h k : Nat) (v : Option Nat) (a b : Nat) : uR R h k v a b = if a = h then (if b = k then v else R a b) else R a b := by
  unfold uR
  by_cases e : a = h
  · subst e; simp
  · simp [e]
/-- the kinds of arrays -/
def pAt (k : Nat) : Option FieldType := match k with
  | 100 => some .int
  | 101 => some .long
  | 102 => some .byte
  | 103 => some .boolean
  | 104 => some (.array .int)
  | _ => none
/-! locals by their places -/
def clr (o : Option Value) : Option Value := match o with
  | some (.long _) => none
  | some (.double _) => none
  | o => o
theorem clr_some {o : Option Value} {w : Value} (h : clr o = some w) : o = some w ∧ ¬ w.category = 2 := by
  cases o with
  | none => cases h
  | some v => cases v <;> first | (cases h; done) | (cases h; exact ⟨rfl, fun q => by cases q⟩)
def setL : pLc → Nat → Value → pLc
  | [], _, _ => []
  | _ :: t, 0, v => some v :: t
  | a :: t, 1, v => clr a :: setL t 0 v
  | a :: t, n + 2, v => a :: setL t (n + 1) v
def setN : pLc → pLc
  | [] => []
  | _ :: t => none :: t
def setL2 : pLc → Nat → Value → pLc
  | [], _, _ => []
  | _ :: t, 0, v => some v :: setN t
  | a :: t, 1, v => clr a :: setL2 t 0 v
  | a :: t, n + 2, v => a :: setL2 t (n + 1) v
theorem setL_len : ∀ (l : pLc) (i : Nat) (v : Value), (setL l i v).length = l.length
  | [], _, _ => rfl
  | _ :: _, 0, _ => rfl
  | _ :: t, 1, v => congrArg (· + 1) (setL_len t 0 v)
  | _ :: t, n + 2, v => congrArg (· + 1) (setL_len t (n + 1) v)
theorem setL_get : ∀ (l : pLc) (i j : Nat) (v w : Value), (setL l i v)[j]? = some (some w) → (j = i ∧ w = v) ∨ (j ≠ i ∧ l[j]? = some (some w) ∧ ¬ (j + 1 = i ∧ w.category = 2))
  | [], _, _, _, _, h => by cases h
  | _ :: _, 0, 0, _, _, h => by cases h; exact Or.inl ⟨rfl, rfl⟩
  | _ :: _, 0, j + 1, _, _, h => Or.inr ⟨by omega, h, by omega⟩
  | a :: t, 1, 0, v, w, h => by
    have h1 : some (clr a) = some (some w) := h
    obtain ⟨e, f⟩ := clr_some (Option.some.inj h1)
    exact Or.inr ⟨by omega, by rw [e]; rfl, fun q => f q.2⟩
  | a :: t, 1, j + 1, v, w, h => by
    rcases setL_get t 0 j v w h with ⟨e1, e2⟩ | ⟨e1, e2, e3⟩
    · exact Or.inl ⟨by omega, e2⟩
    · exact Or.inr ⟨by omega, e2, by omega⟩
  | a :: t, n + 2, 0, v, w, h => Or.inr ⟨by omega, h, by omega⟩
  | a :: t, n + 2, j + 1, v, w, h => by
    rcases setL_get t (n + 1) j v w h with ⟨e1, e2⟩ | ⟨e1, e2, e3⟩
    · exact Or.inl ⟨by omega, e2⟩
    · exact Or.inr ⟨by omega, e2, fun q => e3 ⟨by omega, q.2⟩⟩
theorem setL2_len : ∀ (l : pLc) (i : Nat) (v : Value), (setL2 l i v).length = l.length
  | [], _, _ => rfl
  | [_], 0, _ => rfl
  | _ :: _ :: _, 0, _ => rfl
  | _ :: t, 1, v => congrArg (· + 1) (setL2_len t 0 v)
  | _ :: t, n + 2, v => congrArg (· + 1) (setL2_len t (n + 1) v)
theorem setL2_get : ∀ (l : pLc) (i j : Nat) (v w : Value), (setL2 l i v)[j]? = some (some w) → (j = i ∧ w = v) ∨ (j ≠ i ∧ j ≠ i + 1 ∧ l[j]? = some (some w) ∧ ¬ (j + 1 = i ∧ w.category = 2))
  | [], _, _, _, _, h => by cases h
  | _ :: _, 0, 0, _, _, h => by cases h; exact Or.inl ⟨rfl, rfl⟩
  | [_], 0, j + 1, _, _, h => by cases h
  | _ :: _ :: _, 0, 1, _, _, h => by cases h
  | _ :: _ :: _, 0, j + 2, _, _, h => Or.inr ⟨by omega, by omega, h, by omega⟩
  | a :: t, 1, 0, v, w, h => by
    have h1 : some (clr a) = some (some w) := h
    obtain ⟨e, f⟩ := clr_some (Option.some.inj h1)
    exact Or.inr ⟨by omega, by omega, by rw [e]; rfl, fun q => f q.2⟩
  | a :: t, 1, j + 1, v, w, h => by
    rcases setL2_get t 0 j v w h with ⟨e1, e2⟩ | ⟨e1, e0, e2, e3⟩
    · exact Or.inl ⟨by omega, e2⟩
    · exact Or.inr ⟨by omega, by omega, e2, by omega⟩
  | a :: t, n + 2, 0, v, w, h => Or.inr ⟨by omega, by omega, h, by omega⟩
  | a :: t, n + 2, j + 1, v, w, h => by
    rcases setL2_get t (n + 1) j v w h with ⟨e1, e2⟩ | ⟨e1, e0, e2, e3⟩
    · exact Or.inl ⟨by omega, e2⟩
    · exact Or.inr ⟨by omega, by omega, e2, fun q => e3 ⟨by omega, q.2⟩⟩
def pLl (ad : Nat → Nat) : Nat → pLc → List (Nat × Value)
  | _, [] => []
  | i, none :: t => pLl ad (i + 1) t
  | i, some v :: t => (i, tv ad v) :: pLl ad (i + 1) t
theorem pLl_mem (ad : Nat → Nat) : ∀ (l : pLc) (i : Nat) (q : Nat × Value), q ∈ pLl ad i l ↔ ∃ k v, q = (i + k, tv ad v) ∧ l[k]? = some (some v)
  | [], i, q => Iff.intro (fun h => by cases h) (fun ⟨k, v, _, h⟩ => by cases h)
  | none :: t, i, q => by
    show q ∈ pLl ad (i + 1) t ↔ _
    rw [pLl_mem ad t (i + 1) q]
    constructor
    · rintro ⟨k, v, e, h⟩
      exact ⟨k + 1, v, by rw [e]; congr 1; omega, h⟩
    · rintro ⟨k, v, e, h⟩
      cases k with
      | zero => cases h
      | succ k => exact ⟨k, v, by rw [e]; congr 1; omega, h⟩
  | some v0 :: t, i, q => by
    show q ∈ (i, tv ad v0) :: pLl ad (i + 1) t ↔ _
    rw [List.mem_cons, pLl_mem ad t (i + 1) q]
    constructor
    · rintro (e | ⟨k, v, e, h⟩)
      · exact ⟨0, v0, e, rfl⟩
      · exact ⟨k + 1, v, by rw [e]; congr 1; omega, h⟩
    · rintro ⟨k, v, e, h⟩
      cases k with
      | zero => cases h; exact Or.inl e
      | succ k => exact Or.inr ⟨k, v, by rw [e]; congr 1; omega, h⟩
def pLo (ad : Nat → Nat) (ls : Array Slot) (nL : Nat) (locs : pLc) : Prop := ls.size = nL ∧ lv_wf ls ∧ ∀ (i : Nat) (v : Value), locs[i]? = some (some v) → ls[i]? = some (.val (tv ad v))
theorem pLo.has {ad : Nat → Nat} {ls : Array Slot} {nL : Nat} {locs : pLc} (h : pLo ad ls nL locs) : lv_has ls nL (pLl ad 0 locs) := by
  refine ⟨h.1, h.2.1, fun q hq => ?_⟩
  obtain ⟨k, v, e, hk⟩ := (pLl_mem ad locs 0 q).mp hq
  rw [e, Nat.zero_add]
  exact h.2.2 k v hk
theorem pLo.set {ad : Nat → Nat} {ls' : Array Slot} {nL i : Nat} {locs : pLc} {v : Value} (h : lv_has ls' nL ((i, tv ad v) :: (pLl ad 0 locs).filter (fun q => !(q.1 == i) && !(q.1 + 1 == i && q.2.category == 2)))) : pLo ad ls' nL (setL locs i v) := by
  refine ⟨h.1, h.2.1, fun j w hj => ?_⟩
  rcases setL_get locs i j v w hj with ⟨rfl, rfl⟩ | ⟨e1, e2, e3⟩
  · exact h.2.2 (j, tv ad w) List.mem_cons_self
  · refine h.2.2 (j, tv ad w) (List.mem_cons_of_mem _ (List.mem_filter.mpr ⟨(pLl_mem ad locs 0 _).mpr ⟨j, w, by rw [Nat.zero_add], e2⟩, ?_⟩))
    simp only [tv_cat, Bool.and_eq_true, Bool.not_eq_true', beq_eq_false_iff_ne, Bool.and_eq_false_iff]
    refine ⟨e1, ?_⟩
    by_cases e4 : j + 1 = i
    · exact Or.inr (fun q => e3 ⟨e4, q⟩)
    · exact Or.inl e4
theorem pLo.set2 {ad : Nat → Nat} {ls' : Array Slot} {nL i : Nat} {locs : pLc} {v : Value} (h : lv_has ls' nL ((i, tv ad v) :: (pLl ad 0 locs).filter (fun q => !(q.1 == i) && (!(q.1 == i + 1) && !(q.1 + 1 == i && q.2.category == 2))))) : pLo ad ls' nL (setL2 locs i v) := by
  refine ⟨h.1, h.2.1, fun j w hj => ?_⟩
  rcases setL2_get locs i j v w hj with ⟨rfl, rfl⟩ | ⟨e1, e0, e2, e3⟩
  · exact h.2.2 (j, tv ad w) List.mem_cons_self
  · refine h.2.2 (j, tv ad w) (List.mem_cons_of_mem _ (List.mem_filter.mpr ⟨(pLl_mem ad locs 0 _).mpr ⟨j, w, by rw [Nat.zero_add], e2⟩, ?_⟩))
    simp only [tv_cat, Bool.and_eq_true, Bool.not_eq_true', beq_eq_false_iff_ne, Bool.and_eq_false_iff]
    refine ⟨e1, e0, ?_⟩
    by_cases e4 : j + 1 = i
    · exact Or.inr (fun q => e3 ⟨e4, q⟩)
    · exact Or.inl e4
/-- the locals with which a method begins -/
def pEn : List Value → pLc
  | [] => []
  | v :: vs => if v.category = 2 then some v :: none :: pEn vs else some v :: pEn vs
theorem pEn_get (ad : Nat → Nat) : ∀ (vs : List Value) (i k : Nat) (v : Value), (pEn vs)[k]? = some (some v) → (i + k, tv ad v) ∈ lv_args i (vs.map (tv ad))
  | [], _, _, _, h => by cases h
  | u :: vs, i, k, v, h => by
    show (i + k, tv ad v) ∈ (i, tv ad u) :: lv_args (if (tv ad u).category = 2 then i + 2 else i + 1) (vs.map (tv ad))
    rw [tv_cat]
    unfold pEn at h
    by_cases hc : u.category = 2
    · rw [if_pos hc] at h ⊢
      match k, h with
      | 0, h => cases h; exact List.mem_cons_self
      | 1, h => cases h
      | k + 2, h =>
        have := pEn_get ad vs (i + 2) k v h
        rw [show i + (k + 2) = i + 2 + k by omega]
        exact List.mem_cons_of_mem _ this
    · rw [if_neg hc] at h ⊢
      match k, h with
      | 0, h => cases h; exact List.mem_cons_self
      | k + 1, h =>
        have := pEn_get ad vs (i + 1) k v h
        rw [show i + (k + 1) = i + 1 + k by omega]
        exact List.mem_cons_of_mem _ this
/-! what stands around a walk -/
def pK (D : va_G) (S : pS) (ac : Nat → ClassId) (s : State) : Prop := va_K D vwCl [] s ∧ ∀ (h k n : Nat) (ty : FieldType), S[h]? = some (k, n) → pAt k = some ty → ArrOfT s (ac h) ty ∧ va_RA s (ac h) ty
theorem pK.moved {D : va_G} {S : pS} {ac : Nat → ClassId} {u U : State} (hvm : u.vm.Alike U.vm) (h : pK D S ac u) : pK D S ac U := ⟨va_K.moved hvm h.1, fun a k n ty h1 h2 => ⟨arrOfT_moved hvm (h.2 a k n ty h1 h2).1, (h.2 a k n ty h1 h2).2.moved hvm⟩⟩
theorem pK.at {D : va_G} {S : pS} {ac : Nat → ClassId} {s : State} (h : pK D S ac s) {a k n : Nat} {ty : FieldType} (h1 : S[a]? = some (k, n)) (h2 : pAt k = some ty) : va_K D vwCl [(ac a, ty)] s := by
  refine ⟨h.1.1, fun i q hi => ?_⟩
  cases i with
  | zero => cases hi; exact h.2 a k n ty h1 h2
  | succ i => simp at hi
def pMo : Nat → Int32 := fun j => match j with
  | 0 => 9
  | 1 => 99
  | 2 => 2
  | 3 => 9
  | _ => 1
/-- what stays out of a walk's cells: nest words, the row of MOST_OF -/
def pX (A : Nat → Prop) (s : State) : Prop := (∀ w ∈ pNw, va_Nw w s) ∧ ∃ t, va_Z RX7 "MOST_OF" "[I" (.ref t) A s s.heap ∧ va_T .int t 5 (fun j => .int (pMo j)) A s s.heap
theorem pX.moved {A B : Nat → Prop} {s U : State} {lcs : List Loc} (h : pX A s) (hW : s.WarmedH U.vm) (hS : va_S A s.heap U.heap lcs) (hB : ∀ q, B q → A q) : pX B U := by
  obtain ⟨h1, t, h2, h3⟩ := h
  refine ⟨fun w hw => ?_, t, va_Z.moved hW.alike ((h2.kept (fun a ha hn => hS.2.1 a ha hn)).narrow hB), va_T.moved hW.alike ((h3.kept (fun a ha hn => hS.2.1 a ha hn)).narrow hB)⟩
  obtain ⟨a, i, x, b, rfl⟩ := pNw_form w hw
  exact va_Nw.warmM hW (h1 _ hw)
theorem pX.calling {A : Nat → Prop} {U : State} {g : JFrame} {mk : MethodId} {a : Array Value} (h : pX A U) : pX A (U.calling g mk a) := by
  obtain ⟨h1, t, h2, h3⟩ := h
  refine ⟨fun w hw => ?_, t, va_Z.moved (u := U) (U := U.calling g mk a) (Vm.Alike.refl U.vm) h2, va_T.moved (u := U) (U := U.calling g mk a) (Vm.Alike.refl U.vm) h3⟩
  obtain ⟨a1, i, x, b, rfl⟩ := pNw_form w hw
  exact va_Nw.same rfl (u := U) (U := U.calling g mk a) rfl (h1 _ hw)
def pCx (D : va_G) (S : pS) (ad : Nat → Nat) (ac : Nat → ClassId) (own : String) (cc : ByteArray) (nL d : Nat) (p : Program) (Rm : Room) (s : State) (m : MethodId) (args : Array Value) (c : Code) (A : Nat → Prop) (cs sl : Nat) : Prop :=
  CallFix p m c cc nL s args gt own ∧ (∀ q, s.heap.size ≤ q → A q) ∧ pK D S ac s ∧ (d ≤ Rm.frames ∧ 40 * d ≤ Rm.locals ∧ cs ≤ Rm.cells ∧ sl ≤ Rm.slots) ∧ pX A s ∧ ((∀ i j, i < S.length → j < S.length → ad i = ad j → i = j) ∧ ∀ i, i < S.length → A (ad i))
theorem pD_of {S : pS} {ad : Nat → Nat} {A : Nat → Prop} (h : (∀ i j, i < S.length → j < S.length → ad i = ad j → i = j) ∧ ∀ i, i < S.length → A (ad i)) (I : pI) (J : pJ) (R : pR) (ac : Nat → ClassId) : va_D A (pW S I J R ad ac) := by
  refine ⟨fun i j a b hi hj e => ?_, fun k q hk => ?_⟩
  · obtain ⟨h1, h2⟩ := pW_at hi
    obtain ⟨h3, h4⟩ := pW_at hj
    exact h.1 i j h1 h3 (by rw [← h2, ← h4, e])
  · obtain ⟨h1, h2⟩ := pW_at hk
    rw [h2]
    exact h.2 k h1
def pRl (D : va_G) (S : pS) (ad : Nat → Nat) (ac : Nat → ClassId) (I : pI) (J : pJ) (R : pR) (A : Nat → Prop) (H0 H : Heap) (lcs : List Loc) : Prop := va_P D vwCl (pW S I J R ad ac) H ∧ va_S A H0 H lcs
/-- from (pc, locs, st, I, J, R) the walk comes to a place where X holds -/
def PW (S : pS) (own : String) (cc : ByteArray) (nL d : Nat) (pc : Nat) (locs : pLc) (st : List Value) (I : pI) (J : pJ) (R : pR) (X : pXt) : Prop :=
  ∀ (l : Launch) (D : va_G) (ad : Nat → Nat) (ac : Nat → ClassId) (p : Program) (e : Env) (Rm : Room) (s : State) (m : MethodId) (args : Array Value) (below : List Frame) (meth : Method) (c : Code) (A : Nat → Prop) (cs sl : Nat), pCx D S ad ac own cc nL d p Rm s m args c A cs sl → ∀ (Qs : State → Prop),
    (∀ (pc' : Nat) (locs' : pLc) (st' : List Value) (I' : pI) (J' : pJ) (R' : pR) (H' : Heap) (lcs' : List Loc) (ls' : Array Slot), X pc' locs' st' I' J' R' → pRl D S ad ac I' J' R' A s.heap H' lcs' → pLo ad ls' nL locs' → W p l e Rm s m args below meth c H' lcs' cs sl Qs (F0 m pc' ls' (st'.map (tv ad)))) →
    ∀ (H : Heap) (lcs : List Loc) (ls : Array Slot), pRl D S ad ac I J R A s.heap H lcs → pLo ad ls nL locs → W p l e Rm s m args below meth c H lcs cs sl Qs (F0 m pc ls (st.map (tv ad)))
section PWROWS
variable {S : pS} {own : String} {cc : ByteArray} {nL d pc : Nat} {locs : pLc} {st : List Value} {I : pI} {J : pJ} {R : pR} {X : pXt}
theorem pw_done (h : X pc locs st I J R) : PW S own cc nL d pc locs st I J R X := fun _ _ _ _ _ _ _ _ _ _ _ _ _ _ _ _ _ _ hX H lcs ls hr hl => hX _ _ _ _ _ _ H lcs ls h hr hl
theorem pw_mono {X' : pXt} (h : PW S own cc nL d pc locs st I J R X') (hm : ∀ pc' locs' st' I' J' R', X' pc' locs' st' I' J' R' → X pc' locs' st' I' J' R') : PW S own cc nL d pc locs st I J R X :=
  fun l D ad ac p e Rm s m args below meth c A cs sl hc Qs hX H lcs ls hr hl => h l D ad ac p e Rm s m args below meth c A cs sl hc Qs (fun a1 a2 a3 a4 a5 a6 H' lcs' ls' hx => hX a1 a2 a3 a4 a5 a6 H' lcs' ls' (hm _ _ _ _ _ _ hx)) H lcs ls hr hl
/-- a walk to a place, then on -/
theorem pw_then {X' : pXt} (h : PW S own cc nL d pc locs st I J R X') (hm : ∀ pc' locs' st' I' J' R', X' pc' locs' st' I' J' R' → PW S own cc nL d pc' locs' st' I' J' R' X) : PW S own cc nL d pc locs st I J R X :=
  fun l D ad ac p e Rm s m args below meth c A cs sl hc Qs hX H lcs ls hr hl => h l D ad ac p e Rm s m args below meth c A cs sl hc Qs (fun a1 a2 a3 a4 a5 a6 H' lcs' ls' hx hr' hl' => hm _ _ _ _ _ _ hx l D ad ac p e Rm s m args below meth c A cs sl hc Qs hX H' lcs' ls' hr' hl') H lcs ls hr hl
/-- a place that is the same by its numbers -/
theorem pw_eq {pc' : Nat} {locs' : pLc} {st' : List Value} (h : PW S own cc nL d pc' locs' st' I J R X) (e1 : pc = pc') (e2 : locs = locs') (e3 : st = st') : PW S own cc nL d pc locs st I J R X := by subst e1; subst e2; subst e3; exact h
/-- fewer locals are known -/
theorem pw_drop {locs' : pLc} (h : PW S own cc nL d pc locs' st I J R X) (hs : ∀ (i : Nat) (v : Value), locs'[i]? = some (some v) → locs[i]? = some (some v)) : PW S own cc nL d pc locs st I J R X :=
  fun l D ad ac p e Rm s m args below meth c A cs sl hc Qs hX H lcs ls hr hl => h l D ad ac p e Rm s m args below meth c A cs sl hc Qs hX H lcs ls hr ⟨hl.1, hl.2.1, fun i v hi => hl.2.2 i v (hs i v hi)⟩
theorem pw_go {pc' : Nat} {st' : List Value} (f : ∀ (l : Launch) (ad : Nat → Nat) (p : Program) (e : Env) (Rm : Room) (s : State) (m : MethodId) (args : Array Value) (below : List Frame) (meth : Method) (c : Code) (H : Heap) (lcs : List Loc) (ls : Array Slot) (Qs : State → Prop) (cs sl : Nat), p.tables.exec = Jvm.exec → c.code = cc →
      W p l e Rm s m args below meth c H lcs cs sl Qs (F0 m pc' ls (st'.map (tv ad))) → W p l e Rm s m args below meth c H lcs cs sl Qs (F0 m pc ls (st.map (tv ad))))
    (k : PW S own cc nL d pc' locs st' I J R X) : PW S own cc nL d pc locs st I J R X :=
  fun l D ad ac p e Rm s m args below meth c A cs sl hc Qs hX H lcs ls hr hl => f l ad p e Rm s m args below meth c H lcs ls Qs cs sl hc.1.1 hc.1.2.1 (k l D ad ac p e Rm s m args below meth c A cs sl hc Qs hX H lcs ls hr hl)
-- numbers, the stack
theorem pw_iconst {n : Int} {v : Int32} (pc' : Nat) (hp : pc + 1 = pc') (hd : decode cc pc = .ok (.iconst n, 1)) (hv : Int32.ofInt n = v) (k : PW S own cc nL d pc' locs (.int v :: st) I J R X) : PW S own cc nL d pc locs st I J R X := by
  subst hp
  exact pw_go (fun _ _ _ _ _ _ _ _ _ _ _ _ _ _ _ _ _ hx hb kk => lv_iconst hx hb hd hv kk) k
theorem pw_bipush {n : Int} {v : Int32} (pc' : Nat) (hp : pc + 2 = pc') (hd : decode cc pc = .ok (.bipush n, 2)) (hv : (Int8.ofInt n).toInt32 = v) (k : PW S own cc nL d pc' locs (.int v :: st) I J R X) : PW S own cc nL d pc locs st I J R X := by
  subst hp
  exact pw_go (fun _ _ _ _ _ _ _ _ _ _ _ _ _ _ _ _ _ hx hb kk => lv_bipush hx hb hd hv kk) k
theorem pw_sipush {n : Int} {v : Int32} (pc' : Nat) (hp : pc + 3 = pc') (hd : decode cc pc = .ok (.sipush n, 3)) (hv : (Int16.ofInt n).toInt32 = v) (k : PW S own cc nL d pc' locs (.int v :: st) I J R X) : PW S own cc nL d pc locs st I J R X := by
  subst hp
  exact pw_go (fun _ _ _ _ _ _ _ _ _ _ _ _ _ _ _ _ _ hx hb kk => lv_sipush hx hb hd hv kk) k
theorem pw_lconst {n : Fin 2} {v : Int64} (pc' : Nat) (hp : pc + 1 = pc') (hd : decode cc pc = .ok (.lconst n, 1)) (hv : Int64.ofNat (n : Nat) = v) (k : PW S own cc nL d pc' locs (.long v :: st) I J R X) : PW S own cc nL d pc locs st I J R X := by
  subst hp
  exact pw_go (fun _ _ _ _ _ _ _ _ _ _ _ _ _ _ _ _ _ hx hb kk => lv_lconst hx hb hd hv kk) k
theorem pw_dup {v : Value} (pc' : Nat) (hp : pc + 1 = pc') (hd : decode cc pc = .ok (.dup, 1)) (hv : v.category = 1) (k : PW S own cc nL d pc' locs (v :: v :: st) I J R X) : PW S own cc nL d pc locs (v :: st) I J R X := by
  subst hp
  exact pw_go (fun _ ad _ _ _ _ _ _ _ _ _ _ _ _ _ _ _ hx hb kk => lv_dup hx hb hd ((tv_cat ad v).trans hv) kk) k
theorem pw_pop {v : Value} (pc' : Nat) (hp : pc + 1 = pc') (hd : decode cc pc = .ok (.pop, 1)) (hv : v.category = 1) (k : PW S own cc nL d pc' locs st I J R X) : PW S own cc nL d pc locs (v :: st) I J R X := by
  subst hp
  exact pw_go (fun _ ad _ _ _ _ _ _ _ _ _ _ _ _ _ _ _ hx hb kk => lv_pop hx hb hd ((tv_cat ad v).trans hv) kk) k
theorem pw_dup_x1 {v w : Value} (pc' : Nat) (hp : pc + 1 = pc') (hd : decode cc pc = .ok (.dup_x1, 1)) (hv : v.category = 1) (hw : w.category = 1) (k : PW S own cc nL d pc' locs (v :: w :: v :: st) I J R X) : PW S own cc nL d pc locs (v :: w :: st) I J R X := by
  subst hp
  exact pw_go (fun _ ad _ _ _ _ _ _ _ _ _ _ _ _ _ _ _ hx hb kk => lv_dup_x1 hx hb hd ((tv_cat ad v).trans hv) ((tv_cat ad w).trans hw) kk) k
theorem pw_dup2 {v w : Value} (pc' : Nat) (hp : pc + 1 = pc') (hd : decode cc pc = .ok (.dup2, 1)) (hv : v.category = 1) (hw : w.category = 1) (k : PW S own cc nL d pc' locs (v :: w :: v :: w :: st) I J R X) : PW S own cc nL d pc locs (v :: w :: st) I J R X := by
  subst hp
  exact pw_go (fun _ ad _ _ _ _ _ _ _ _ _ _ _ _ _ _ _ hx hb kk => lv_dup2_11 hx hb hd ((tv_cat ad v).trans hv) ((tv_cat ad w).trans hw) kk) k
theorem pw_ldc {idx : Nat} {v : Int32} (pc' : Nat) (hp : pc + 2 = pc') (hd : decode cc pc = .ok (.ldc idx, 2)) (hw : Cond.constant own idx v ∈ gt) (k : PW S own cc nL d pc' locs (.int v :: st) I J R X) : PW S own cc nL d pc locs st I J R X := by
  subst hp
  exact fun l D ad ac p e Rm s m args below meth c A cs sl hc Qs hX H lcs ls hr hl => lv_ldc hc.1.1 hc.1.2.1 hc.1.2.2.2.1 (hc.1.2.2.2.2 _ hw) hd (k l D ad ac p e Rm s m args below meth c A cs sl hc Qs hX H lcs ls hr hl)
theorem pw_ldcw {idx : Nat} {v : Int32} (pc' : Nat) (hp : pc + 3 = pc') (hd : decode cc pc = .ok (.ldc_w idx, 3)) (hw : Cond.constant own idx v ∈ gt) (k : PW S own cc nL d pc' locs (.int v :: st) I J R X) : PW S own cc nL d pc locs st I J R X := by
  subst hp
  exact fun l D ad ac p e Rm s m args below meth c A cs sl hc Qs hX H lcs ls hr hl => lv_ldcw hc.1.1 hc.1.2.1 hc.1.2.2.2.1 (hc.1.2.2.2.2 _ hw) hd (k l D ad ac p e Rm s m args below meth c A cs sl hc Qs hX H lcs ls hr hl)
theorem pw_iadd {x y : Int32} (pc' : Nat) (hp : pc + 1 = pc') (hd : decode cc pc = .ok (.iadd, 1)) (k : PW S own cc nL d pc' locs (.int (x + y) :: st) I J R X) : PW S own cc nL d pc locs (.int y :: .int x :: st) I J R X := by
  subst hp
  exact pw_go (fun _ _ _ _ _ _ _ _ _ _ _ _ _ _ _ _ _ hx hb kk => lv_iadd hx hb hd kk) k
theorem pw_isub {x y : Int32} (pc' : Nat) (hp : pc + 1 = pc') (hd : decode cc pc = .ok (.isub, 1)) (k : PW S own cc nL d pc' locs (.int (x - y) :: st) I J R X) : PW S own cc nL d pc locs (.int y :: .int x :: st) I J R X := by
  subst hp
  exact pw_go (fun _ _ _ _ _ _ _ _ _ _ _ _ _ _ _ _ _ hx hb kk => lv_isub hx hb hd kk) k
theorem pw_imul {x y : Int32} (pc' : Nat) (hp : pc + 1 = pc') (hd : decode cc pc = .ok (.imul, 1)) (k : PW S own cc nL d pc' locs (.int (x * y) :: st) I J R X) : PW S own cc nL d pc locs (.int y :: .int x :: st) I J R X := by
  subst hp
  exact pw_go (fun _ _ _ _ _ _ _ _ _ _ _ _ _ _ _ _ _ hx hb kk => lv_imul hx hb hd kk) k
theorem pw_iand {x y : Int32} (pc' : Nat) (hp : pc + 1 = pc') (hd : decode cc pc = .ok (.iand, 1)) (k : PW S own cc nL d pc' locs (.int (x &&& y) :: st) I J R X) : PW S own cc nL d pc locs (.int y :: .int x :: st) I J R X := by
  subst hp
  exact pw_go (fun _ _ _ _ _ _ _ _ _ _ _ _ _ _ _ _ _ hx hb kk => lv_iand hx hb hd kk) k
theorem pw_ior {x y : Int32} (pc' : Nat) (hp : pc + 1 = pc') (hd : decode cc pc = .ok (.ior, 1)) (k : PW S own cc nL d pc' locs (.int (x ||| y) :: st) I J R X) : PW S own cc nL d pc locs (.int y :: .int x :: st) I J R X := by
  subst hp
  exact pw_go (fun _ _ _ _ _ _ _ _ _ _ _ _ _ _ _ _ _ hx hb kk => lv_ior hx hb hd kk) k
theorem pw_ixor {x y : Int32} (pc' : Nat) (hp : pc + 1 = pc') (hd : decode cc pc = .ok (.ixor, 1)) (k : PW S own cc nL d pc' locs (.int (x ^^^ y) :: st) I J R X) : PW S own cc nL d pc locs (.int y :: .int x :: st) I J R X := by
  subst hp
  exact pw_go (fun _ _ _ _ _ _ _ _ _ _ _ _ _ _ _ _ _ hx hb kk => lv_ixor hx hb hd kk) k
theorem pw_ishl {x y : Int32} (pc' : Nat) (hp : pc + 1 = pc') (hd : decode cc pc = .ok (.ishl, 1)) (k : PW S own cc nL d pc' locs (.int (x <<< (y &&& 31)) :: st) I J R X) : PW S own cc nL d pc locs (.int y :: .int x :: st) I J R X := by
  subst hp
  exact pw_go (fun _ _ _ _ _ _ _ _ _ _ _ _ _ _ _ _ _ hx hb kk => lv_ishl hx hb hd kk) k
theorem pw_ishr {x y : Int32} (pc' : Nat) (hp : pc + 1 = pc') (hd : decode cc pc = .ok (.ishr, 1)) (k : PW S own cc nL d pc' locs (.int (x >>> (y &&& 31)) :: st) I J R X) : PW S own cc nL d pc locs (.int y :: .int x :: st) I J R X := by
  subst hp
  exact pw_go (fun _ _ _ _ _ _ _ _ _ _ _ _ _ _ _ _ _ hx hb kk => lv_ishr hx hb hd kk) k
theorem pw_iushr {x y v : Int32} (pc' : Nat) (hp : pc + 1 = pc') (hd : decode cc pc = .ok (.iushr, 1)) (hv : (x.toUInt32 >>> (y.toUInt32 &&& Int32.toUInt32 31)).toInt32 = v) (k : PW S own cc nL d pc' locs (.int v :: st) I J R X) : PW S own cc nL d pc locs (.int y :: .int x :: st) I J R X := by
  subst hp
  exact pw_go (fun _ _ _ _ _ _ _ _ _ _ _ _ _ _ _ _ _ hx hb kk => lv_iushr hx hb hd hv kk) k
theorem pw_idiv {x y : Int32} (pc' : Nat) (hp : pc + 1 = pc') (hd : decode cc pc = .ok (.idiv, 1)) (hne : ¬ y = 0) (k : PW S own cc nL d pc' locs (.int (x / y) :: st) I J R X) : PW S own cc nL d pc locs (.int y :: .int x :: st) I J R X := by
  subst hp
  exact pw_go (fun _ _ _ _ _ _ _ _ _ _ _ _ _ _ _ _ _ hx hb kk => lv_idiv hx hb hd hne kk) k
theorem pw_irem {x y : Int32} (pc' : Nat) (hp : pc + 1 = pc') (hd : decode cc pc = .ok (.irem, 1)) (hne : ¬ y = 0) (k : PW S own cc nL d pc' locs (.int (x - x / y * y) :: st) I J R X) : PW S own cc nL d pc locs (.int y :: .int x :: st) I J R X := by
  subst hp
  exact pw_go (fun _ _ _ _ _ _ _ _ _ _ _ _ _ _ _ _ _ hx hb kk => lv_irem hx hb hd hne kk) k
theorem pw_ineg {x : Int32} (pc' : Nat) (hp : pc + 1 = pc') (hd : decode cc pc = .ok (.ineg, 1)) (k : PW S own cc nL d pc' locs (.int (-x) :: st) I J R X) : PW S own cc nL d pc locs (.int x :: st) I J R X := by
  subst hp
  exact pw_go (fun _ _ _ _ _ _ _ _ _ _ _ _ _ _ _ _ _ hx hb kk => lv_ineg hx hb hd kk) k
theorem pw_ladd {x y : Int64} (pc' : Nat) (hp : pc + 1 = pc') (hd : decode cc pc = .ok (.ladd, 1)) (k : PW S own cc nL d pc' locs (.long (x + y) :: st) I J R X) : PW S own cc nL d pc locs (.long y :: .long x :: st) I J R X := by
  subst hp
  exact pw_go (fun _ _ _ _ _ _ _ _ _ _ _ _ _ _ _ _ _ hx hb kk => lv_ladd hx hb hd kk) k
theorem pw_lsub {x y : Int64} (pc' : Nat) (hp : pc + 1 = pc') (hd : decode cc pc = .ok (.lsub, 1)) (k : PW S own cc nL d pc' locs (.long (x - y) :: st) I J R X) : PW S own cc nL d pc locs (.long y :: .long x :: st) I J R X := by
  subst hp
  exact pw_go (fun _ _ _ _ _ _ _ _ _ _ _ _ _ _ _ _ _ hx hb kk => lv_lsub hx hb hd kk) k
theorem pw_lmul {x y : Int64} (pc' : Nat) (hp : pc + 1 = pc') (hd : decode cc pc = .ok (.lmul, 1)) (k : PW S own cc nL d pc' locs (.long (x * y) :: st) I J R X) : PW S own cc nL d pc locs (.long y :: .long x :: st) I J R X := by
  subst hp
  exact pw_go (fun _ _ _ _ _ _ _ _ _ _ _ _ _ _ _ _ _ hx hb kk => lv_lmul hx hb hd kk) k
theorem pw_ldiv {x y : Int64} (pc' : Nat) (hp : pc + 1 = pc') (hd : decode cc pc = .ok (.ldiv, 1)) (hne : ¬ y = 0) (k : PW S own cc nL d pc' locs (.long (x / y) :: st) I J R X) : PW S own cc nL d pc locs (.long y :: .long x :: st) I J R X := by
  subst hp
  exact pw_go (fun _ _ _ _ _ _ _ _ _ _ _ _ _ _ _ _ _ hx hb kk => lv_ldiv hx hb hd hne kk) k
theorem pw_lrem {x y : Int64} (pc' : Nat) (hp : pc + 1 = pc') (hd : decode cc pc = .ok (.lrem, 1)) (hne : ¬ y = 0) (k : PW S own cc nL d pc' locs (.long (x - x / y * y) :: st) I J R X) : PW S own cc nL d pc locs (.long y :: .long x :: st) I J R X := by
  subst hp
  exact pw_go (fun _ _ _ _ _ _ _ _ _ _ _ _ _ _ _ _ _ hx hb kk => lv_lrem hx hb hd hne kk) k
theorem pw_lcmp {x y : Int64} (pc' : Nat) (hp : pc + 1 = pc') (hd : decode cc pc = .ok (.lcmp, 1)) (k : PW S own cc nL d pc' locs (.int (lg_cmp x y) :: st) I J R X) : PW S own cc nL d pc locs (.long y :: .long x :: st) I J R X := by
  subst hp
  exact pw_go (fun _ _ _ _ _ _ _ _ _ _ _ _ _ _ _ _ _ hx hb kk => W.lcmp hx hb hd kk) k
theorem pw_i2l {x : Int32} (pc' : Nat) (hp : pc + 1 = pc') (hd : decode cc pc = .ok (.i2l, 1)) (k : PW S own cc nL d pc' locs (.long x.toInt64 :: st) I J R X) : PW S own cc nL d pc locs (.int x :: st) I J R X := by
  subst hp
  exact pw_go (fun _ _ _ _ _ _ _ _ _ _ _ _ _ _ _ _ _ hx hb kk => lv_i2l hx hb hd rfl kk) k
theorem pw_i2b {x : Int32} (pc' : Nat) (hp : pc + 1 = pc') (hd : decode cc pc = .ok (.i2b, 1)) (k : PW S own cc nL d pc' locs (.int x.toInt8.toInt32 :: st) I J R X) : PW S own cc nL d pc locs (.int x :: st) I J R X := by
  subst hp
  exact pw_go (fun _ _ _ _ _ _ _ _ _ _ _ _ _ _ _ _ _ hx hb kk => lv_i2b hx hb hd rfl kk) k
theorem pw_i2s {x : Int32} (pc' : Nat) (hp : pc + 1 = pc') (hd : decode cc pc = .ok (.i2s, 1)) (k : PW S own cc nL d pc' locs (.int x.toInt16.toInt32 :: st) I J R X) : PW S own cc nL d pc locs (.int x :: st) I J R X := by
  subst hp
  exact pw_go (fun _ _ _ _ _ _ _ _ _ _ _ _ _ _ _ _ _ hx hb kk => lv_i2s hx hb hd rfl kk) k
theorem pw_goto {off : Int} {tgt : Nat} (hd : decode cc pc = .ok (.goto off, 3)) (ht : (pc : Int) + off = (tgt : Int)) (k : PW S own cc nL d tgt locs st I J R X) : PW S own cc nL d pc locs st I J R X := pw_go (fun _ _ _ _ _ _ _ _ _ _ _ _ _ _ _ _ _ hx hb kk => lv_goto hx hb hd ht kk) k
theorem pw_if_eq {x : Int32} {off : Int} {tgt : Nat} (pc' : Nat) (hp : pc + 3 = pc') (hd : decode cc pc = .ok (.ifCond .eq off, 3)) (ht : (pc : Int) + off = (tgt : Int)) (kt : x = 0 → PW S own cc nL d tgt locs st I J R X) (kf : ¬ (x = 0) → PW S own cc nL d pc' locs st I J R X) : PW S own cc nL d pc locs (.int x :: st) I J R X := by
  subst hp
  exact fun l D ad ac p e Rm s m args below meth c A cs sl hc Qs hX H lcs ls hr hl => lv_if_eq hc.1.1 hc.1.2.1 hd ht (fun h => kt h l D ad ac p e Rm s m args below meth c A cs sl hc Qs hX H lcs ls hr hl) (fun h => kf h l D ad ac p e Rm s m args below meth c A cs sl hc Qs hX H lcs ls hr hl)
theorem pw_icmp_eq {x y : Int32} {off : Int} {tgt : Nat} (pc' : Nat) (hp : pc + 3 = pc') (hd : decode cc pc = .ok (.if_icmp .eq off, 3)) (ht : (pc : Int) + off = (tgt : Int)) (kt : x = y → PW S own cc nL d tgt locs st I J R X) (kf : ¬ (x = y) → PW S own cc nL d pc' locs st I J R X) : PW S own cc nL d pc locs (.int y :: .int x :: st) I J R X := by
  subst hp
  exact fun l D ad ac p e Rm s m args below meth c A cs sl hc Qs hX H lcs ls hr hl => lv_icmp_eq hc.1.1 hc.1.2.1 hd ht (fun h => kt h l D ad ac p e Rm s m args below meth c A cs sl hc Qs hX H lcs ls hr hl) (fun h => kf h l D ad ac p e Rm s m args below meth c A cs sl hc Qs hX H lcs ls hr hl)
theorem pw_if_lt {x : Int32} {off : Int} {tgt : Nat} (pc' : Nat) (hp : pc + 3 = pc') (hd : decode cc pc = .ok (.ifCond .lt off, 3)) (ht : (pc : Int) + off = (tgt : Int)) (kt : x < 0 → PW S own cc nL d tgt locs st I J R X) (kf : ¬ (x < 0) → PW S own cc nL d pc' locs st I J R X) : PW S own cc nL d pc locs (.int x :: st) I J R X := by
  subst hp
  exact fun l D ad ac p e Rm s m args below meth c A cs sl hc Qs hX H lcs ls hr hl => lv_if_lt hc.1.1 hc.1.2.1 hd ht (fun h => kt h l D ad ac p e Rm s m args below meth c A cs sl hc Qs hX H lcs ls hr hl) (fun h => kf h l D ad ac p e Rm s m args below meth c A cs sl hc Qs hX H lcs ls hr hl)
theorem pw_icmp_lt {x y : Int32} {off : Int} {tgt : Nat} (pc' : Nat) (hp : pc + 3 = pc') (hd : decode cc pc = .ok (.if_icmp .lt off, 3)) (ht : (pc : Int) + off = (tgt : Int)) (kt : x < y → PW S own cc nL d tgt locs st I J R X) (kf : ¬ (x < y) → PW S own cc nL d pc' locs st I J R X) : PW S own cc nL d pc locs (.int y :: .int x :: st) I J R X := by
  subst hp
  exact fun l D ad ac p e Rm s m args below meth c A cs sl hc Qs hX H lcs ls hr hl => lv_icmp_lt hc.1.1 hc.1.2.1 hd ht (fun h => kt h l D ad ac p e Rm s m args below meth c A cs sl hc Qs hX H lcs ls hr hl) (fun h => kf h l D ad ac p e Rm s m args below meth c A cs sl hc Qs hX H lcs ls hr hl)
theorem pw_if_ge {x : Int32} {off : Int} {tgt : Nat} (pc' : Nat) (hp : pc + 3 = pc') (hd : decode cc pc = .ok (.ifCond .ge off, 3)) (ht : (pc : Int) + off = (tgt : Int)) (kt : 0 ≤ x → PW S own cc nL d tgt locs st I J R X) (kf : ¬ (0 ≤ x) → PW S own cc nL d pc' locs st I J R X) : PW S own cc nL d pc locs (.int x :: st) I J R X := by
  subst hp
  exact fun l D ad ac p e Rm s m args below meth c A cs sl hc Qs hX H lcs ls hr hl => lv_if_ge hc.1.1 hc.1.2.1 hd ht (fun h => kt h l D ad ac p e Rm s m args below meth c A cs sl hc Qs hX H lcs ls hr hl) (fun h => kf h l D ad ac p e Rm s m args below meth c A cs sl hc Qs hX H lcs ls hr hl)
theorem pw_icmp_ge {x y : Int32} {off : Int} {tgt : Nat} (pc' : Nat) (hp : pc + 3 = pc') (hd : decode cc pc = .ok (.if_icmp .ge off, 3)) (ht : (pc : Int) + off = (tgt : Int)) (kt : y ≤ x → PW S own cc nL d tgt locs st I J R X) (kf : ¬ (y ≤ x) → PW S own cc nL d pc' locs st I J R X) : PW S own cc nL d pc locs (.int y :: .int x :: st) I J R X := by
  subst hp
  exact fun l D ad ac p e Rm s m args below meth c A cs sl hc Qs hX H lcs ls hr hl => lv_icmp_ge hc.1.1 hc.1.2.1 hd ht (fun h => kt h l D ad ac p e Rm s m args below meth c A cs sl hc Qs hX H lcs ls hr hl) (fun h => kf h l D ad ac p e Rm s m args below meth c A cs sl hc Qs hX H lcs ls hr hl)
theorem pw_if_gt {x : Int32} {off : Int} {tgt : Nat} (pc' : Nat) (hp : pc + 3 = pc') (hd : decode cc pc = .ok (.ifCond .gt off, 3)) (ht : (pc : Int) + off = (tgt : Int)) (kt : 0 < x → PW S own cc nL d tgt locs st I J R X) (kf : ¬ (0 < x) → PW S own cc nL d pc' locs st I J R X) : PW S own cc nL d pc locs (.int x :: st) I J R X := by
  subst hp
  exact fun l D ad ac p e Rm s m args below meth c A cs sl hc Qs hX H lcs ls hr hl => lv_if_gt hc.1.1 hc.1.2.1 hd ht (fun h => kt h l D ad ac p e Rm s m args below meth c A cs sl hc Qs hX H lcs ls hr hl) (fun h => kf h l D ad ac p e Rm s m args below meth c A cs sl hc Qs hX H lcs ls hr hl)
theorem pw_icmp_gt {x y : Int32} {off : Int} {tgt : Nat} (pc' : Nat) (hp : pc + 3 = pc') (hd : decode cc pc = .ok (.if_icmp .gt off, 3)) (ht : (pc : Int) + off = (tgt : Int)) (kt : y < x → PW S own cc nL d tgt locs st I J R X) (kf : ¬ (y < x) → PW S own cc nL d pc' locs st I J R X) : PW S own cc nL d pc locs (.int y :: .int x :: st) I J R X := by
  subst hp
  exact fun l D ad ac p e Rm s m args below meth c A cs sl hc Qs hX H lcs ls hr hl => lv_icmp_gt hc.1.1 hc.1.2.1 hd ht (fun h => kt h l D ad ac p e Rm s m args below meth c A cs sl hc Qs hX H lcs ls hr hl) (fun h => kf h l D ad ac p e Rm s m args below meth c A cs sl hc Qs hX H lcs ls hr hl)
theorem pw_if_le {x : Int32} {off : Int} {tgt : Nat} (pc' : Nat) (hp : pc + 3 = pc') (hd : decode cc pc = .ok (.ifCond .le off, 3)) (ht : (pc : Int) + off = (tgt : Int)) (kt : x ≤ 0 → PW S own cc nL d tgt locs st I J R X) (kf : ¬ (x ≤ 0) → PW S own cc nL d pc' locs st I J R X) : PW S own cc nL d pc locs (.int x :: st) I J R X := by
  subst hp
  exact fun l D ad ac p e Rm s m args below meth c A cs sl hc Qs hX H lcs ls hr hl => lv_if_le hc.1.1 hc.1.2.1 hd ht (fun h => kt h l D ad ac p e Rm s m args below meth c A cs sl hc Qs hX H lcs ls hr hl) (fun h => kf h l D ad ac p e Rm s m args below meth c A cs sl hc Qs hX H lcs ls hr hl)
theorem pw_icmp_le {x y : Int32} {off : Int} {tgt : Nat} (pc' : Nat) (hp : pc + 3 = pc') (hd : decode cc pc = .ok (.if_icmp .le off, 3)) (ht : (pc : Int) + off = (tgt : Int)) (kt : x ≤ y → PW S own cc nL d tgt locs st I J R X) (kf : ¬ (x ≤ y) → PW S own cc nL d pc' locs st I J R X) : PW S own cc nL d pc locs (.int y :: .int x :: st) I J R X := by
  subst hp
  exact fun l D ad ac p e Rm s m args below meth c A cs sl hc Qs hX H lcs ls hr hl => lv_icmp_le hc.1.1 hc.1.2.1 hd ht (fun h => kt h l D ad ac p e Rm s m args below meth c A cs sl hc Qs hX H lcs ls hr hl) (fun h => kf h l D ad ac p e Rm s m args below meth c A cs sl hc Qs hX H lcs ls hr hl)
theorem pw_if_ne {x : Int32} {off : Int} {tgt : Nat} (pc' : Nat) (hp : pc + 3 = pc') (hd : decode cc pc = .ok (.ifCond .ne off, 3)) (ht : (pc : Int) + off = (tgt : Int)) (kt : ¬ x = 0 → PW S own cc nL d tgt locs st I J R X) (kf : x = 0 → PW S own cc nL d pc' locs st I J R X) : PW S own cc nL d pc locs (.int x :: st) I J R X := by
  subst hp
  exact fun l D ad ac p e Rm s m args below meth c A cs sl hc Qs hX H lcs ls hr hl => lv_if_ne hc.1.1 hc.1.2.1 hd ht (fun h => kt h l D ad ac p e Rm s m args below meth c A cs sl hc Qs hX H lcs ls hr hl) (fun h => kf h l D ad ac p e Rm s m args below meth c A cs sl hc Qs hX H lcs ls hr hl)
theorem pw_icmp_ne {x y : Int32} {off : Int} {tgt : Nat} (pc' : Nat) (hp : pc + 3 = pc') (hd : decode cc pc = .ok (.if_icmp .ne off, 3)) (ht : (pc : Int) + off = (tgt : Int)) (kt : ¬ x = y → PW S own cc nL d tgt locs st I J R X) (kf : x = y → PW S own cc nL d pc' locs st I J R X) : PW S own cc nL d pc locs (.int y :: .int x :: st) I J R X := by
  subst hp
  exact fun l D ad ac p e Rm s m args below meth c A cs sl hc Qs hX H lcs ls hr hl => lv_icmp_ne hc.1.1 hc.1.2.1 hd ht (fun h => kt h l D ad ac p e Rm s m args below meth c A cs sl hc Qs hX H lcs ls hr hl) (fun h => kf h l D ad ac p e Rm s m args below meth c A cs sl hc Qs hX H lcs ls hr hl)
theorem pw_iload_n {i : Fin 4} {x : Int32} (pc' : Nat) (hp : pc + 1 = pc') (hd : decode cc pc = .ok (.iload_n i, 1)) (h : locs[(i : Nat)]? = some (some (.int x))) (k : PW S own cc nL d pc' locs (.int x :: st) I J R X) : PW S own cc nL d pc locs st I J R X := by
  subst hp
  exact fun l D ad ac p e Rm s m args below meth c A cs sl hc Qs hX H lcs ls hr hl => lv_iload_n hc.1.1 hc.1.2.1 hd rfl (hl.2.2 _ _ h) (k l D ad ac p e Rm s m args below meth c A cs sl hc Qs hX H lcs ls hr hl)
theorem pw_iload {i : Nat} {x : Int32} (pc' : Nat) (hp : pc + 2 = pc') (hd : decode cc pc = .ok (.iload i, 2)) (h : locs[i]? = some (some (.int x))) (k : PW S own cc nL d pc' locs (.int x :: st) I J R X) : PW S own cc nL d pc locs st I J R X := by
  subst hp
  exact fun l D ad ac p e Rm s m args below meth c A cs sl hc Qs hX H lcs ls hr hl => lv_iload hc.1.1 hc.1.2.1 hd (hl.2.2 _ _ h) (k l D ad ac p e Rm s m args below meth c A cs sl hc Qs hX H lcs ls hr hl)
theorem pw_lload_n {i : Fin 4} {x : Int64} (pc' : Nat) (hp : pc + 1 = pc') (hd : decode cc pc = .ok (.lload_n i, 1)) (h : locs[(i : Nat)]? = some (some (.long x))) (k : PW S own cc nL d pc' locs (.long x :: st) I J R X) : PW S own cc nL d pc locs st I J R X := by
  subst hp
  exact fun l D ad ac p e Rm s m args below meth c A cs sl hc Qs hX H lcs ls hr hl => lv_lload_n hc.1.1 hc.1.2.1 hd rfl (hl.2.2 _ _ h) (k l D ad ac p e Rm s m args below meth c A cs sl hc Qs hX H lcs ls hr hl)
theorem pw_lload {i : Nat} {x : Int64} (pc' : Nat) (hp : pc + 2 = pc') (hd : decode cc pc = .ok (.lload i, 2)) (h : locs[i]? = some (some (.long x))) (k : PW S own cc nL d pc' locs (.long x :: st) I J R X) : PW S own cc nL d pc locs st I J R X := by
  subst hp
  exact fun l D ad ac p e Rm s m args below meth c A cs sl hc Qs hX H lcs ls hr hl => lv_lload hc.1.1 hc.1.2.1 hd (hl.2.2 _ _ h) (k l D ad ac p e Rm s m args below meth c A cs sl hc Qs hX H lcs ls hr hl)
theorem pw_aload_n {i : Fin 4} {x : Nat} (pc' : Nat) (hp : pc + 1 = pc') (hd : decode cc pc = .ok (.aload_n i, 1)) (h : locs[(i : Nat)]? = some (some (.ref x))) (k : PW S own cc nL d pc' locs (.ref x :: st) I J R X) : PW S own cc nL d pc locs st I J R X := by
  subst hp
  exact fun l D ad ac p e Rm s m args below meth c A cs sl hc Qs hX H lcs ls hr hl => lv_aload_n hc.1.1 hc.1.2.1 hd rfl (hl.2.2 _ _ h) (k l D ad ac p e Rm s m args below meth c A cs sl hc Qs hX H lcs ls hr hl)
theorem pw_aload {i : Nat} {x : Nat} (pc' : Nat) (hp : pc + 2 = pc') (hd : decode cc pc = .ok (.aload i, 2)) (h : locs[i]? = some (some (.ref x))) (k : PW S own cc nL d pc' locs (.ref x :: st) I J R X) : PW S own cc nL d pc locs st I J R X := by
  subst hp
  exact fun l D ad ac p e Rm s m args below meth c A cs sl hc Qs hX H lcs ls hr hl => lv_aload hc.1.1 hc.1.2.1 hd (hl.2.2 _ _ h) (k l D ad ac p e Rm s m args below meth c A cs sl hc Qs hX H lcs ls hr hl)
theorem pw_istore_n {i : Fin 4} {x : Int32} (pc' : Nat) (hp : pc + 1 = pc') (hd : decode cc pc = .ok (.istore_n i, 1)) (h : (i : Nat) < nL) (k : PW S own cc nL d pc' (setL locs i (.int x)) st I J R X) : PW S own cc nL d pc locs (.int x :: st) I J R X := by
  subst hp
  exact fun l D ad ac p e Rm s m args below meth c A cs sl hc Qs hX H lcs ls hr hl => lv_istore_n hc.1.1 hc.1.2.1 hd rfl hl.has h rfl (fun ls' hl' => k l D ad ac p e Rm s m args below meth c A cs sl hc Qs hX H lcs ls' hr (pLo.set hl'))
theorem pw_istore {i : Nat} {x : Int32} (pc' : Nat) (hp : pc + 2 = pc') (hd : decode cc pc = .ok (.istore i, 2)) (h : i < nL) (k : PW S own cc nL d pc' (setL locs i (.int x)) st I J R X) : PW S own cc nL d pc locs (.int x :: st) I J R X := by
  subst hp
  exact fun l D ad ac p e Rm s m args below meth c A cs sl hc Qs hX H lcs ls hr hl => lv_istore hc.1.1 hc.1.2.1 hd hl.has h rfl (fun ls' hl' => k l D ad ac p e Rm s m args below meth c A cs sl hc Qs hX H lcs ls' hr (pLo.set hl'))
theorem pw_lstore_n {i : Fin 4} {x : Int64} (pc' : Nat) (hp : pc + 1 = pc') (hd : decode cc pc = .ok (.lstore_n i, 1)) (h : (i : Nat) + 1 < nL) (k : PW S own cc nL d pc' (setL2 locs i (.long x)) st I J R X) : PW S own cc nL d pc locs (.long x :: st) I J R X := by
  subst hp
  exact fun l D ad ac p e Rm s m args below meth c A cs sl hc Qs hX H lcs ls hr hl => lv_lstore_n hc.1.1 hc.1.2.1 hd rfl hl.has h rfl (fun ls' hl' => k l D ad ac p e Rm s m args below meth c A cs sl hc Qs hX H lcs ls' hr (pLo.set2 hl'))
theorem pw_lstore {i : Nat} {x : Int64} (pc' : Nat) (hp : pc + 2 = pc') (hd : decode cc pc = .ok (.lstore i, 2)) (h : i + 1 < nL) (k : PW S own cc nL d pc' (setL2 locs i (.long x)) st I J R X) : PW S own cc nL d pc locs (.long x :: st) I J R X := by
  subst hp
  exact fun l D ad ac p e Rm s m args below meth c A cs sl hc Qs hX H lcs ls hr hl => lv_lstore hc.1.1 hc.1.2.1 hd hl.has h rfl (fun ls' hl' => k l D ad ac p e Rm s m args below meth c A cs sl hc Qs hX H lcs ls' hr (pLo.set2 hl'))
theorem pw_astore_n {i : Fin 4} {x : Nat} (pc' : Nat) (hp : pc + 1 = pc') (hd : decode cc pc = .ok (.astore_n i, 1)) (h : (i : Nat) < nL) (k : PW S own cc nL d pc' (setL locs i (.ref x)) st I J R X) : PW S own cc nL d pc locs (.ref x :: st) I J R X := by
  subst hp
  exact fun l D ad ac p e Rm s m args below meth c A cs sl hc Qs hX H lcs ls hr hl => lv_astore_n hc.1.1 hc.1.2.1 hd rfl hl.has h rfl (fun ls' hl' => k l D ad ac p e Rm s m args below meth c A cs sl hc Qs hX H lcs ls' hr (pLo.set hl'))
theorem pw_astore {i : Nat} {x : Nat} (pc' : Nat) (hp : pc + 2 = pc') (hd : decode cc pc = .ok (.astore i, 2)) (h : i < nL) (k : PW S own cc nL d pc' (setL locs i (.ref x)) st I J R X) : PW S own cc nL d pc locs (.ref x :: st) I J R X := by
  subst hp
  exact fun l D ad ac p e Rm s m args below meth c A cs sl hc Qs hX H lcs ls hr hl => lv_astore hc.1.1 hc.1.2.1 hd hl.has h rfl (fun ls' hl' => k l D ad ac p e Rm s m args below meth c A cs sl hc Qs hX H lcs ls' hr (pLo.set hl'))
theorem pw_iinc {i : Nat} {n : Int} {x : Int32} (pc' : Nat) (hp : pc + 3 = pc') (hd : decode cc pc = .ok (.iinc i n, 3)) (h : i < nL) (hx : locs[i]? = some (some (.int x))) (k : PW S own cc nL d pc' (setL locs i (.int (x + Int32.ofInt n))) st I J R X) : PW S own cc nL d pc locs st I J R X := by
  subst hp
  exact fun l D ad ac p e Rm s m args below meth c A cs sl hc Qs hX H lcs ls hr hl => by
    obtain ⟨j, hj⟩ := List.getElem?_of_mem ((pLl_mem ad locs 0 (i, Value.int x)).mpr ⟨i, .int x, by rw [Nat.zero_add]; rfl, hx⟩)
    exact lv_iinc (k := j) hc.1.1 hc.1.2.1 hd hl.has hj rfl h rfl (fun ls' hl' => k l D ad ac p e Rm s m args below meth c A cs sl hc Qs hX H lcs ls' hr (pLo.set hl'))
theorem pw_tableIn {dflt lo hi : Int} {offs : Array Int} {len : Nat} {x : Int32} {off : Int} {tgt : Nat} (hd : decode cc pc = .ok (.tableswitch dflt lo hi offs, len)) (h1 : ¬ x.toInt < lo) (h2 : ¬ hi < x.toInt) (ho : offs[(x.toInt - lo).toNat]? = some off) (ht : (pc : Int) + off = (tgt : Int)) (k : PW S own cc nL d tgt locs st I J R X) : PW S own cc nL d pc locs (.int x :: st) I J R X := pw_go (fun _ _ _ _ _ _ _ _ _ _ _ _ _ _ _ _ _ hx hb kk => lv_tableIn hx hb hd h1 h2 ho ht kk) k
theorem pw_tableOut {dflt lo hi : Int} {offs : Array Int} {len : Nat} {x : Int32} {tgt : Nat} (hd : decode cc pc = .ok (.tableswitch dflt lo hi offs, len)) (h : x.toInt < lo ∨ hi < x.toInt) (ht : (pc : Int) + dflt = (tgt : Int)) (k : PW S own cc nL d tgt locs st I J R X) : PW S own cc nL d pc locs (.int x :: st) I J R X := pw_go (fun _ _ _ _ _ _ _ _ _ _ _ _ _ _ _ _ _ hx hb kk => lv_tableOut hx hb hd h ht kk) k
theorem pw_lookup {dflt : Int} {ps : Array (Int × Int)} {len : Nat} {x : Int32} {off : Int} {tgt : Nat} (hd : decode cc pc = .ok (.lookupswitch dflt ps, len)) (hp : (ps.toList.zip (ps.toList.drop 1)).all (fun (a, next) => a.1 < next.1) = true) (ho : Op.lookupswitch.offset ps.toList dflt x.toInt = off) (ht : (pc : Int) + off = (tgt : Int)) (k : PW S own cc nL d tgt locs st I J R X) : PW S own cc nL d pc locs (.int x :: st) I J R X := pw_go (fun _ _ _ _ _ _ _ _ _ _ _ _ _ _ _ _ _ hx hb kk => lv_lookup hx hb hd hp ho ht kk) k
theorem pE_obj {ad : Nat → Nat} {ca : ClassId} {ci n : Nat} {Ih : Nat → Int32} {Jh : Nat → Int64} {Rh : Nat → Option Nat} (h : ci < 100) : pE ad ca (ci, n) Ih Jh Rh = .inr (ci, pFs ad Ih Rh ci n) := if_pos h
theorem pw_getI {idx ci n k h : Nat} (pc' : Nat) (hp : pc + 3 = pc') (hd : decode cc pc = .ok (.getfield idx, 3)) (hF : pFL own idx ci n k) (hS : S[h]? = some (ci, n)) (ht : isI (pTy ci k) = true) (kk : PW S own cc nL d pc' locs (.int (I h k) :: st) I J R X) : PW S own cc nL d pc locs (.ref h :: st) I J R X := by
  subst hp
  exact fun l D ad ac p e Rm s m args below meth c A cs sl hc Qs hX H lcs ls hr hl => by
    obtain ⟨⟨C, T, N⟩, h1, h2, h3, h4, h5⟩ := hF
    cases h2
    have hw := pW_get (I := I) (J := J) (R := R) (ad := ad) (ac := ac) hS
    rw [pE_obj h4] at hw
    exact va_get (v := .int (I h k)) hc.1.1 hc.1.2.1 hc.1.2.2.2.2 (pIn ci _ h1) hc.1.2.2.2.1 hc.2.2.1.1 hr.1 h hw h1 k h3 (hc.1.2.2.2.2 _ h5) (fun _ h9 => h9) ((pFs_get h3).trans (congrArg some (pF_int ht))) hd (kk l D ad ac p e Rm s m args below meth c A cs sl hc Qs hX H lcs ls hr hl)
theorem pw_getR {idx ci n k h a : Nat} (pc' : Nat) (hp : pc + 3 = pc') (hd : decode cc pc = .ok (.getfield idx, 3)) (hF : pFL own idx ci n k) (hS : S[h]? = some (ci, n)) (ht : isI (pTy ci k) = false) (hR : R h k = some a) (kk : PW S own cc nL d pc' locs (.ref a :: st) I J R X) : PW S own cc nL d pc locs (.ref h :: st) I J R X := by
  subst hp
  exact fun l D ad ac p e Rm s m args below meth c A cs sl hc Qs hX H lcs ls hr hl => by
    obtain ⟨⟨C, T, N⟩, h1, h2, h3, h4, h5⟩ := hF
    cases h2
    have hw := pW_get (I := I) (J := J) (R := R) (ad := ad) (ac := ac) hS
    rw [pE_obj h4] at hw
    exact va_get (v := .ref (ad a)) hc.1.1 hc.1.2.1 hc.1.2.2.2.2 (pIn ci _ h1) hc.1.2.2.2.1 hc.2.2.1.1 hr.1 h hw h1 k h3 (hc.1.2.2.2.2 _ h5) (fun _ h9 => h9) ((pFs_get h3).trans (congrArg some ((pF_ref ht).trans (by rw [hR]; rfl)))) hd (kk l D ad ac p e Rm s m args below meth c A cs sl hc Qs hX H lcs ls hr hl)
theorem pw_putI {idx ci n k h : Nat} {v : Int32} (pc' : Nat) (hp : pc + 3 = pc') (hd : decode cc pc = .ok (.putfield idx, 3)) (hF : pFL own idx ci n k) (hfin : pFW ci k) (hS : S[h]? = some (ci, n)) (ht : isI (pTy ci k) = true) (hn : narrow (pTy ci k) (.int v) = .int v) (hf : fits (pTy ci k) (.int v) = true) (kk : PW S own cc nL d pc' locs st (uI I h k v) J R X) : PW S own cc nL d pc locs (.int v :: .ref h :: st) I J R X := by
  subst hp
  exact fun l D ad ac p e Rm s m args below meth c A cs sl hc Qs hX H lcs ls hr hl => by
    obtain ⟨⟨C, T, N⟩, h1, h2, h3, h4, h5⟩ := hF
    cases h2
    have hw := pW_get (I := I) (J := J) (R := R) (ad := ad) (ac := ac) hS
    rw [pE_obj h4] at hw
    have hD := pD_of hc.2.2.2.2.2 I J R ac
    refine va_put (v := .int v) hc.1.1 hc.1.2.1 hc.1.2.2.2.2 (pIn ci _ h1) (pTy ci) (pTyok ci _ h1) (pNm ci _ h1) hc.1.2.2.2.1 hc.2.2.1.1 hr.1 hD hr.2 h hw h1 k h3 (hc.1.2.2.2.2 _ h5) (fun _ h9 => h9) (hfin _ h1) (pTyok ci _ h1 k h3) hn hf (by rw [pFs_len]; exact h3) hd (fun H1 lcs1 hP1 hD1 hS1 => ?_)
    rw [pW_set (I' := uI I h k v) (J' := J) (R' := R) hS (by rw [pE_obj h4, pFs_set h3 (Ih' := uI I h k v h) (Rh' := R h) (by rw [pF_int ht]; simp [uI, upd]) (fun j hj => ⟨by simp [uI, upd, hj], rfl⟩)]) (fun a ha => ⟨by simp [uI, ha], rfl, rfl⟩)] at hP1
    exact kk l D ad ac p e Rm s m args below meth c A cs sl hc Qs hX H1 lcs1 ls ⟨hP1, hS1⟩ hl
theorem pw_putR {idx ci n k h a : Nat} (pc' : Nat) (hp : pc + 3 = pc') (hd : decode cc pc = .ok (.putfield idx, 3)) (hF : pFL own idx ci n k) (hfin : pFW ci k) (hS : S[h]? = some (ci, n)) (ht : isI (pTy ci k) = false) (hn : ∀ x : Nat, narrow (pTy ci k) (.ref x) = .ref x ∧ fits (pTy ci k) (.ref x) = true) (kk : PW S own cc nL d pc' locs st I J (uR R h k (some a)) X) : PW S own cc nL d pc locs (.ref a :: .ref h :: st) I J R X := by
  subst hp
  exact fun l D ad ac p e Rm s m args below meth c A cs sl hc Qs hX H lcs ls hr hl => by
    obtain ⟨⟨C, T, N⟩, h1, h2, h3, h4, h5⟩ := hF
    cases h2
    have hw := pW_get (I := I) (J := J) (R := R) (ad := ad) (ac := ac) hS
    rw [pE_obj h4] at hw
    have hD := pD_of hc.2.2.2.2.2 I J R ac
    refine va_put (v := .ref (ad a)) hc.1.1 hc.1.2.1 hc.1.2.2.2.2 (pIn ci _ h1) (pTy ci) (pTyok ci _ h1) (pNm ci _ h1) hc.1.2.2.2.1 hc.2.2.1.1 hr.1 hD hr.2 h hw h1 k h3 (hc.1.2.2.2.2 _ h5) (fun _ h9 => h9) (hfin _ h1) (pTyok ci _ h1 k h3) (hn _).1 (hn _).2 (by rw [pFs_len]; exact h3) hd (fun H1 lcs1 hP1 hD1 hS1 => ?_)
    rw [pW_set (I' := I) (J' := J) (R' := uR R h k (some a)) hS (by rw [pE_obj h4, pFs_set h3 (Ih' := I h) (Rh' := uR R h k (some a) h) (by rw [pF_ref ht]; simp [uR, va_rf]) (fun j hj => ⟨rfl, by simp [uR, hj]⟩)]) (fun a' ha => ⟨rfl, rfl, by simp [uR, ha]⟩)] at hP1
    exact kk l D ad ac p e Rm s m args below meth c A cs sl hc Qs hX H1 lcs1 ls ⟨hP1, hS1⟩ hl
theorem pw_iald {h n : Nat} {i : Int32} (pc' : Nat) (hp : pc + 1 = pc') (hd : decode cc pc = .ok (.iaload, 1)) (hS : S[h]? = some (100, n)) (hi : vp_in i n) (k : PW S own cc nL d pc' locs (.int (I h i.toNatClampNeg) :: st) I J R X) : PW S own cc nL d pc locs (.int i :: .ref h :: st) I J R X := by
  subst hp
  exact fun l D ad ac p e Rm s m args below meth c A cs sl hc Qs hX H lcs ls hr hl => va_iald hc.1.1 hc.1.2.1 (hc.2.2.1.at hS (ty := .int) rfl) hr.1 h 0 (pW_get hS) rfl hi hd (k l D ad ac p e Rm s m args below meth c A cs sl hc Qs hX H lcs ls hr hl)
theorem pw_bald {h n : Nat} {i : Int32} (pc' : Nat) (hp : pc + 1 = pc') (hd : decode cc pc = .ok (.baload, 1)) (hS : S[h]? = some (102, n)) (hi : vp_in i n) (k : PW S own cc nL d pc' locs (.int (I h i.toNatClampNeg) :: st) I J R X) : PW S own cc nL d pc locs (.int i :: .ref h :: st) I J R X := by
  subst hp
  exact fun l D ad ac p e Rm s m args below meth c A cs sl hc Qs hX H lcs ls hr hl => va_bald hc.1.1 hc.1.2.1 (hc.2.2.1.at hS (ty := .byte) rfl) hr.1 h 0 (pW_get hS) rfl hi hd (k l D ad ac p e Rm s m args below meth c A cs sl hc Qs hX H lcs ls hr hl)
theorem pw_zald {h n : Nat} {i : Int32} (pc' : Nat) (hp : pc + 1 = pc') (hd : decode cc pc = .ok (.baload, 1)) (hS : S[h]? = some (103, n)) (hi : vp_in i n) (k : PW S own cc nL d pc' locs (.int (I h i.toNatClampNeg) :: st) I J R X) : PW S own cc nL d pc locs (.int i :: .ref h :: st) I J R X := by
  subst hp
  exact fun l D ad ac p e Rm s m args below meth c A cs sl hc Qs hX H lcs ls hr hl => va_zald hc.1.1 hc.1.2.1 (hc.2.2.1.at hS (ty := .boolean) rfl) hr.1 h 0 (pW_get hS) rfl hi hd (k l D ad ac p e Rm s m args below meth c A cs sl hc Qs hX H lcs ls hr hl)
theorem pw_lald {h n : Nat} {i : Int32} (pc' : Nat) (hp : pc + 1 = pc') (hd : decode cc pc = .ok (.laload, 1)) (hS : S[h]? = some (101, n)) (hi : vp_in i n) (k : PW S own cc nL d pc' locs (.long (J h i.toNatClampNeg) :: st) I J R X) : PW S own cc nL d pc locs (.int i :: .ref h :: st) I J R X := by
  subst hp
  exact fun l D ad ac p e Rm s m args below meth c A cs sl hc Qs hX H lcs ls hr hl => va_lald hc.1.1 hc.1.2.1 (hc.2.2.1.at hS (ty := .long) rfl) hr.1 h 0 (pW_get hS) rfl hi hd (k l D ad ac p e Rm s m args below meth c A cs sl hc Qs hX H lcs ls hr hl)
theorem pw_iast {h n : Nat} {i : Int32} {x : Int32} (pc' : Nat) (hp : pc + 1 = pc') (hd : decode cc pc = .ok (.iastore, 1)) (hS : S[h]? = some (100, n)) (hi : vp_in i n) (k : PW S own cc nL d pc' locs st (uI I h i.toNatClampNeg x) J R X) : PW S own cc nL d pc locs (.int x :: .int i :: .ref h :: st) I J R X := by
  subst hp
  exact fun l D ad ac p e Rm s m args below meth c A cs sl hc Qs hX H lcs ls hr hl => va_iast hc.1.1 hc.1.2.1 (hc.2.2.1.at hS (ty := .int) rfl) hr.1 (pD_of hc.2.2.2.2.2 I J R ac) hr.2 h 0 (pW_get hS) rfl hi hd (fun H1 lcs1 hP1 hD1 hS1 => by
    rw [pW_set (I' := (uI I h i.toNatClampNeg x)) (J' := J) (R' := R) hS (by simp [pE, uI]) (fun a ha => ⟨by simp [uI, ha], by simp [uI, ha], rfl⟩)] at hP1
    exact k l D ad ac p e Rm s m args below meth c A cs sl hc Qs hX H1 lcs1 ls ⟨hP1, hS1⟩ hl)
theorem pw_bast {h n : Nat} {i : Int32} {x : Int32} (pc' : Nat) (hp : pc + 1 = pc') (hd : decode cc pc = .ok (.bastore, 1)) (hS : S[h]? = some (102, n)) (hi : vp_in i n) (k : PW S own cc nL d pc' locs st (uI I h i.toNatClampNeg (vp_nar .byte x)) J R X) : PW S own cc nL d pc locs (.int x :: .int i :: .ref h :: st) I J R X := by
  subst hp
  exact fun l D ad ac p e Rm s m args below meth c A cs sl hc Qs hX H lcs ls hr hl => va_bast hc.1.1 hc.1.2.1 (hc.2.2.1.at hS (ty := .byte) rfl) hr.1 (pD_of hc.2.2.2.2.2 I J R ac) hr.2 h 0 (pW_get hS) rfl hi hd (fun H1 lcs1 hP1 hD1 hS1 => by
    rw [pW_set (I' := (uI I h i.toNatClampNeg (vp_nar .byte x))) (J' := J) (R' := R) hS (by simp [pE, uI]) (fun a ha => ⟨by simp [uI, ha], by simp [uI, ha], rfl⟩)] at hP1
    exact k l D ad ac p e Rm s m args below meth c A cs sl hc Qs hX H1 lcs1 ls ⟨hP1, hS1⟩ hl)
theorem pw_zast {h n : Nat} {i : Int32} {x : Int32} (pc' : Nat) (hp : pc + 1 = pc') (hd : decode cc pc = .ok (.bastore, 1)) (hS : S[h]? = some (103, n)) (hi : vp_in i n) (k : PW S own cc nL d pc' locs st (uI I h i.toNatClampNeg (vp_nar .boolean x)) J R X) : PW S own cc nL d pc locs (.int x :: .int i :: .ref h :: st) I J R X := by
  subst hp
  exact fun l D ad ac p e Rm s m args below meth c A cs sl hc Qs hX H lcs ls hr hl => va_zast hc.1.1 hc.1.2.1 (hc.2.2.1.at hS (ty := .boolean) rfl) hr.1 (pD_of hc.2.2.2.2.2 I J R ac) hr.2 h 0 (pW_get hS) rfl hi hd (fun H1 lcs1 hP1 hD1 hS1 => by
    rw [pW_set (I' := (uI I h i.toNatClampNeg (vp_nar .boolean x))) (J' := J) (R' := R) hS (by simp [pE, uI]) (fun a ha => ⟨by simp [uI, ha], by simp [uI, ha], rfl⟩)] at hP1
    exact k l D ad ac p e Rm s m args below meth c A cs sl hc Qs hX H1 lcs1 ls ⟨hP1, hS1⟩ hl)
theorem pw_last {h n : Nat} {i : Int32} {x : Int64} (pc' : Nat) (hp : pc + 1 = pc') (hd : decode cc pc = .ok (.lastore, 1)) (hS : S[h]? = some (101, n)) (hi : vp_in i n) (k : PW S own cc nL d pc' locs st I (uJ J h i.toNatClampNeg x) R X) : PW S own cc nL d pc locs (.long x :: .int i :: .ref h :: st) I J R X := by
  subst hp
  exact fun l D ad ac p e Rm s m args below meth c A cs sl hc Qs hX H lcs ls hr hl => va_last hc.1.1 hc.1.2.1 (hc.2.2.1.at hS (ty := .long) rfl) hr.1 (pD_of hc.2.2.2.2.2 I J R ac) hr.2 h 0 (pW_get hS) rfl hi hd (fun H1 lcs1 hP1 hD1 hS1 => by
    rw [pW_set (I' := I) (J' := (uJ J h i.toNatClampNeg x)) (R' := R) hS (by simp [pE, uJ]) (fun a ha => ⟨by simp [uJ, ha], by simp [uJ, ha], rfl⟩)] at hP1
    exact k l D ad ac p e Rm s m args below meth c A cs sl hc Qs hX H1 lcs1 ls ⟨hP1, hS1⟩ hl)
theorem pw_alen {h kd n : Nat} {ty : FieldType} {v : Int32} (pc' : Nat) (hp : pc + 1 = pc') (hd : decode cc pc = .ok (.arraylength, 1)) (hS : S[h]? = some (kd, n)) (hk : pAt kd = some ty) (h1 : ¬ kd < 100) (hv : Int32.ofNat n = v) (k : PW S own cc nL d pc' locs (.int v :: st) I J R X) : PW S own cc nL d pc locs (.ref h :: st) I J R X := by
  subst hp
  exact fun l D ad ac p e Rm s m args below meth c A cs sl hc Qs hX H lcs ls hr hl => va_alen hc.1.1 hc.1.2.1 (hc.2.2.1.at hS hk) hr.1 h 0 ((pW_get hS).trans (by rw [pE, if_neg h1])) rfl hv hd (k l D ad ac p e Rm s m args below meth c A cs sl hc Qs hX H lcs ls hr hl)
theorem pw_mmax {idx : Nat} {x y : Int32} (pc' : Nat) (hp : pc + 3 = pc') (hd : decode cc pc = .ok (.invokestatic idx, 3)) (hL : Cond.methodLink own idx Lib.Math.max.name ∈ gt) (hs : (st.map fun v => v.category).sum ≤ 8) (k : PW S own cc nL (d + 1) pc' locs (.int (if x < y then y else x) :: st) I J R X) : PW S own cc nL (d + 1) pc locs (.int y :: .int x :: st) I J R X := by
  subst hp
  exact fun l D ad ac p e Rm s m args below meth c A cs sl hc Qs hX H lcs ls hr hl => va_mmax hc.1.1 hc.1.2.1 (hc.1.2.2.1.trans hl.1.symm) hc.1.2.2.2.1 (hc.1.2.2.2.2 _ hL) (hc.1.2.2.2.2 _ g_mmax.1) (hc.1.2.2.2.2 _ g_math) (hc.1.2.2.2.2 _ g_mmax.2) (by have := hc.2.2.2.1.1; omega) (by have := hc.2.2.2.1.2; rw [tv_cats]; omega) (by have := hc.2.2.2.1.2; omega) (by have := hc.2.2.2.1.2; omega) hd (k l D ad ac p e Rm s m args below meth c A cs sl hc Qs hX H lcs ls hr hl)
theorem pw_mmin {idx : Nat} {x y : Int32} (pc' : Nat) (hp : pc + 3 = pc') (hd : decode cc pc = .ok (.invokestatic idx, 3)) (hL : Cond.methodLink own idx Lib.Math.min.name ∈ gt) (hs : (st.map fun v => v.category).sum ≤ 8) (k : PW S own cc nL (d + 1) pc' locs (.int (if y < x then y else x) :: st) I J R X) : PW S own cc nL (d + 1) pc locs (.int y :: .int x :: st) I J R X := by
  subst hp
  exact fun l D ad ac p e Rm s m args below meth c A cs sl hc Qs hX H lcs ls hr hl => va_mmin hc.1.1 hc.1.2.1 (hc.1.2.2.1.trans hl.1.symm) hc.1.2.2.2.1 (hc.1.2.2.2.2 _ hL) (hc.1.2.2.2.2 _ g_mmin.1) (hc.1.2.2.2.2 _ g_math) (hc.1.2.2.2.2 _ g_mmin.2) (by have := hc.2.2.2.1.1; omega) (by have := hc.2.2.2.1.2; rw [tv_cats]; omega) (by have := hc.2.2.2.1.2; omega) (by have := hc.2.2.2.1.2; omega) hd (k l D ad ac p e Rm s m args below meth c A cs sl hc Qs hX H lcs ls hr hl)
theorem pw_mabs {idx : Nat} {x : Int32} (pc' : Nat) (hp : pc + 3 = pc') (hd : decode cc pc = .ok (.invokestatic idx, 3)) (hL : Cond.methodLink own idx Lib.Math.abs.name ∈ gt) (hs : (st.map fun v => v.category).sum ≤ 8) (k : PW S own cc nL (d + 1) pc' locs (.int (if 0 ≤ x then x else 0 - x) :: st) I J R X) : PW S own cc nL (d + 1) pc locs (.int x :: st) I J R X := by
  subst hp
  exact fun l D ad ac p e Rm s m args below meth c A cs sl hc Qs hX H lcs ls hr hl => va_mabs hc.1.1 hc.1.2.1 (hc.1.2.2.1.trans hl.1.symm) hc.1.2.2.2.1 (hc.1.2.2.2.2 _ hL) (hc.1.2.2.2.2 _ g_mabs.1) (hc.1.2.2.2.2 _ g_math) (hc.1.2.2.2.2 _ g_mabs.2) (by have := hc.2.2.2.1.1; omega) (by have := hc.2.2.2.1.2; rw [tv_cats]; omega) (by have := hc.2.2.2.1.2; omega) (by have := hc.2.2.2.1.2; omega) hd (k l D ad ac p e Rm s m args below meth c A cs sl hc Qs hX H lcs ls hr hl)
end PWROWS
