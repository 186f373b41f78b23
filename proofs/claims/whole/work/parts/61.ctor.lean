/-! constructors: contracts of methods that fill the cell they are given, and make cells -/
def z2 {α : Type} (v : α) : Nat → Nat → α := fun _ _ => v
def nRm (d mc ms : Nat) : Room := { frames := d, cells := mc, slots := ms, locals := 40 * d }
def nB (D : va_G) (S0 : pS) (ad : Nat → Nat) (sz : Nat) (U : State) : Prop := U.heap.size = sz ∧ va_P D vwCl (pW S0 (z2 0) (z2 0) (z2 none) ad (fun _ => 0)) U.heap ∧ va_K D vwCl [] U ∧ pX (pA S0 ad sz) U ∧ va_AOA .int U
def nQ (D : va_G) (S0 S' : pS) (ad : Nat → Nat) (I : pI) (J : pJ) (R : pR) (sz : Nat) : Array Value → State → Outcome → State → Prop := fun _ st o t =>
  (∃ (ad' : Nat → Nat) (ac' : Nat → ClassId), o = .returned none ∧ va_P D vwCl (pW S' I J R ad' ac') t.heap ∧ pK D S' ac' t ∧ (∀ i j, i < S'.length → j < S'.length → ad' i = ad' j → i = j) ∧ (∀ h, h < S0.length ∨ 1000 ≤ h → ad' h = ad h) ∧ (∀ h, S0.length ≤ h → h < S'.length → sz ≤ ad' h)) ∧ va_F (pA S0 ad sz) st t
def NC (d : Nat) (y : MethodName) (cc : ByteArray) (nL : Nat) (as : List Value) (ci n : Nat) (T : pS) (I : pI) (J : pJ) (R : pR) (mc ms : Nat) : Prop :=
  ∀ (l : Launch) (D : va_G) (ad : Nat → Nat) (sz : Nat), Met l y (Cond.code y cc nL none :: gt) (nRm d mc ms) (va_Pc ((Value.ref 0 :: as).map (tv ad)) (nB D [(ci, n)] ad sz)) (nQ D [(ci, n)] ((ci, n) :: T) ad I J R sz) mc ms (pA [(ci, n)] ad sz)
theorem nB_blind {D : va_G} {S : pS} {ad : Nat → Nat} {sz : Nat} {as : List Value} : FrameBlind (va_Pc as (nB D S ad sz)) := by
  intro a U g mk q
  obtain ⟨q0, q1, q2, q3, q5, q6⟩ := q
  exact ⟨q0, q1, q2, va_K.moved (u := U) (U := U.calling g mk a) (Vm.Alike.refl U.vm) q3, pX.calling q5, va_AOA.moved (u := U) (U := U.calling g mk a) (Vm.Alike.refl U.vm) q6⟩
/-- where a constructor ends -/
def nX (cc : ByteArray) (S' : pS) (I : pI) (J : pJ) (R : pR) (mc ms : Nat) : pXa := fun pc _ st S I' J' R' cs sl => decode cc pc = .ok (.return_, 1) ∧ st = [] ∧ S = S' ∧ I' = I ∧ J' = J ∧ R' = R ∧ cs = mc ∧ sl = ms
theorem NC.of {d : Nat} {y : MethodName} {cc : ByteArray} {nL : Nat} {as : List Value} {ci n : Nat} {T : pS} {I : pI} {J : pJ} {R : pR} {mc ms : Nat} (locs0 : pLc) (hl0 : pEn (.ref 0 :: as) ++ List.replicate (nL - (lg_sl (.ref 0 :: as)).length) none = locs0) (hy : plainName y.cls = true) (hn : (lg_sl (.ref 0 :: as)).length ≤ nL) (hi : y.name = "<init>") (hci : ci < 100)
    (h : AW 1 y.cls cc nL d mc ms true 0 locs0 [] [(ci, n)] (z2 0) (z2 0) (z2 none) 0 0 (nX cc ((ci, n) :: T) I J R mc ms)) : NC d y cc nL as ci n T I J R mc ms := by
  intro l D ad sz
  subst hl0
  refine Met.ofW (cc := cc) (maxL := nL) (ret := none) hy rfl ?_
  intro p e s m args below meth c s₁ B hml hv
  obtain ⟨rfl, hsz, hP, hK, hpx, hao⟩ := hv
  subst hsz
  have hx := B.exec
  have hb := B.bytes
  have hr := B.returns
  have hts := atoms_spec (ws := Cond.code y cc nL none :: gt) B.pre
  have hown : s.vm.findClass y.cls = some m.cls := findClass_of_methodNamed B.named
  have hlocks := B.notSynchronized
  have hlen : (lg_sl ((Value.ref 0 :: as).map (tv ad))).length ≤ nL := by
    have e : ∀ vs : List Value, (lg_sl (vs.map (tv ad))).length = (lg_sl vs).length := by
      intro vs
      induction vs with
      | nil => rfl
      | cons v vs ih => cases v <;> simp_all [lg_sl, tv, Value.category]
    rw [e]; exact hn
  have hl := lv_entry ((Value.ref 0 :: as).map (tv ad)) (n := nL) hlen
  rw [lg_entry_eq]
  generalize (lg_sl ((Value.ref 0 :: as).map (tv ad)) ++ List.replicate (nL - (lg_sl ((Value.ref 0 :: as).map (tv ad))).length) Slot.unset).toArray = ls at hl ⊢
  refine h l D ad p e _ s m _ below meth c (pA [(ci, n)] ad s.heap.size) ⟨⟨hx, hb, hml, hown, fun w hw => hts w (List.mem_cons_of_mem _ hw)⟩, fun q hq => Or.inr hq, hK, ⟨Nat.le_refl _, Nat.le_refl _, Nat.le_refl _, Nat.le_refl _⟩, hpx, fun _ => (name_of_methodNamed B.named B.method).1.trans hi, hao⟩ _ ?_ ad (fun _ => 0) s.heap [] ls ⟨hP, va_S.rf, ⟨hK, fun a k n ty h1 h2 => ?_⟩, ⟨fun i j h1 h2 _ => ?_, fun i hi => Or.inl ⟨i, hi, rfl⟩⟩, fun _ _ => rfl, Nat.le_refl _⟩ ⟨hl.1, hl.2.1, fun i v hi => hl.2.2 (i, tv ad v) (by
    have hi2 : (pEn (.ref 0 :: as))[i]? = some (some v) := by
      by_cases hlt : i < (pEn (.ref 0 :: as)).length
      · rwa [List.getElem?_append_left hlt] at hi
      · rw [List.getElem?_append_right (by omega)] at hi
        have := List.eq_of_mem_replicate (List.mem_of_getElem? hi)
        cases this
    have := pEn_get ad (.ref 0 :: as) 0 i v hi2; rwa [Nat.zero_add] at this)⟩
  · intro pc' locs' st' S' I' J' R' cs' sl' ad' ac' H' lcs' ls' hX hr' hl'
    obtain ⟨hd, rfl, rfl, rfl, rfl, rfl, rfl, rfl⟩ := hX
    obtain ⟨r1, r2, r3, r4, r5, r7⟩ := hr'
    refine W.vret hx hb hr (fun t ht hW => ⟨⟨ad', ac', rfl, by rw [ht]; exact r1, r3.moved hW.alike, r4.1, r5, fun h h1 h2 => ?_⟩, r2.F ht⟩) r2.2.2 hd
    rcases r4.2 h h2 with ⟨h9, g1, g2⟩ | g
    · rw [← r5 h9 (Or.inl g1)] at g2
      have := r4.1 h9 h (by have : h9 < 1 := g1; simp; omega) h2 g2
      have h1' : 1 ≤ h := h1
      have : h9 < 1 := g1
      omega
    · exact g
  · exfalso
    cases a with
    | zero =>
      cases h1
      unfold pAt at h2
      split at h2 <;> first | omega | cases h2
    | succ a => simp at h1
  · have h1' : i < 1 := h1
    have h2' : j < 1 := h2
    omega
/-! what a constructor's handles are for its caller: its cells from o on, its arguments as -/
def rho (o : Nat) (hs : List Nat) (h : Nat) : Nat := if h < 1000 then o + h else hs.getD (h - 1000) 0
theorem aw_ctor {T : pS} {Ic : pI} {Jc : pJ} {Rc : pR} {I2 : pI} {J2 : pJ} {R2 : pR}
    {n0 : Nat} {own : String} {cc : ByteArray} {nL d cM sM : Nat} {ini : Bool} {pc : Nat} {locs : pLc} {st : List Value} {S : pS} {I : pI} {J : pJ} {R : pR} {cs sl : Nat} {X : pXa} {y : MethodName} {bytes : ByteArray} {maxL d' mc ms ci n o : Nat} {asl : List Value} {hs : List Nat} {rest : List Value}
    (run : ∀ (l : Launch) (D : va_G) (ad : Nat → Nat) (p : Program) (e : Env) (Rm : Room) (s : State) (m : MethodId) (args : Array Value) (below : List Frame) (meth : Method) (c : Code) (A : Nat → Prop) (H : Heap) (lcs : List Loc) (ls : Array Slot) (Pc : Array Value → State → Prop) (Qc : Array Value → State → Outcome → State → Prop) (free : Addr → Prop) (b : Addr) (As : List Value), aCx D own cc nL d cM sM ini p Rm s m args meth c A → Met l y (Cond.code y bytes maxL none :: gt) (nRm d' mc ms) Pc Qc mc ms free → PreS s H Pc (.ref b :: As) → As.length = asl.length → ls.size = nL →
      va_Run p l e Rm s m args below meth c H lcs cs sl mc ms (F0 m pc ls (As.reverse ++ .ref b :: rest.map (tv ad))) (rest.map (tv ad)) (Qc (Value.ref b :: As).toArray) free)
    (pc' : Nat) (hp : pc + 3 = pc') (hC : NC d' y bytes maxL asl ci n T Ic Jc Rc mc ms) (hci : ci < 100) (hasl : asl = (List.range hs.length).map (fun i => .ref (1000 + i))) (hst : st = (hs.map (fun h => Value.ref h)).reverse ++ .ref o :: rest) (hS : S.length = o + 1) (hSo : S[o]? = some (ci, n)) (hbig : o + 1 + T.length < 1000) (hz : I o = (fun _ => 0) ∧ J o = (fun _ => 0) ∧ R o = (fun _ => none))
    (hhs : ∀ h ∈ hs, h < o ∨ 1000 ≤ h) (hR : ∀ k j x, k < o → R k j = some x → x < o + 1 ∨ 1000 ≤ x) (hRc : ∀ k j x, k < T.length + 1 → Rc k j = some x → x < T.length + 1 ∨ (1000 ≤ x ∧ x < 1000 + hs.length)) (hlo : hrL (o + 1) (o + 1 + T.length) locs = true) (hsr : rest.all (hrV (o + 1) (o + 1 + T.length)) = true)
    (h2 : ∀ k, k < T.length + 1 → I2 (o + k) = Ic k ∧ J2 (o + k) = Jc k ∧ R2 (o + k) = fun j => (Rc k j).map (rho o hs)) (h3 : ∀ k, k < o → I2 k = I k ∧ J2 k = J k ∧ R2 k = R k)
    (kk : AW n0 own cc nL d cM sM ini pc' locs rest (S ++ T) I2 J2 R2 (cs + mc) (sl + ms) X) (hn0 : n0 ≤ o + 1) : AW n0 own cc nL d cM sM ini pc locs st S I J R cs sl X := by
  subst hp
  exact fun l D ad0 p e Rm s m args below meth c A hc Qs hX ad ac H lcs ls hr hl2 => by
    obtain ⟨r1, r2, r3, r4, r5, r7⟩ := id hr
    let adl : Nat → Nat := fun h => ad (rho o hs h)
    have hA : ∀ q, pA [(ci, n)] adl H.size q → A q := by
      rintro q (⟨h, g1, g2⟩ | g)
      · have : h = 0 := by have : h < 1 := g1; omega
        subst this
        rw [← g2]
        exact r4.2 (o + 0) (by omega)
      · exact hc.2.1 q (Nat.le_trans r2.1 g)
    have hasV : asl.map (tv adl) = (hs.map (fun h => Value.ref h)).map (tv ad) := by
      rw [hasl]
      apply List.ext_getElem?
      intro i
      rw [List.getElem?_map, List.getElem?_map, List.getElem?_map, List.getElem?_map]
      by_cases hi : i < hs.length
      · rw [List.getElem?_range hi, List.getElem?_eq_getElem hi]
        show some (Value.ref (ad (rho o hs (1000 + i)))) = some (Value.ref (ad hs[i]))
        rw [rho, if_neg (by omega), Nat.add_sub_cancel_left, List.getD_eq_getElem?_getD, List.getElem?_eq_getElem hi]
        rfl
      · rw [List.getElem?_eq_none (by simp; omega), List.getElem?_eq_none (by omega)]
        rfl
    have hst2 : st.map (tv ad) = (asl.map (tv adl)).reverse ++ .ref (adl 0) :: rest.map (tv ad) := by
      rw [hst, List.map_append, hasV, List.map_reverse]
      rfl
    rw [hst2]
    have hcell : va_P D vwCl (pW [(ci, n)] (z2 0) (z2 0) (z2 none) adl (fun _ => 0)) H := by
      intro k q hq
      obtain ⟨hk1, -⟩ := pW_at hq
      have : k = 0 := by have : k < 1 := hk1; omega
      subst this
      have g := r1 o _ (pW_get hSo)
      rw [hz.1, hz.2.1, hz.2.2] at g
      rw [pW_get (S := [(ci, n)]) (h := 0) rfl] at hq
      cases hq
      rw [pE_obj hci] at g ⊢
      exact g
    intro T0 hT0 X0
    obtain ⟨v, st₀, t, T', Lx, h0, X', hL, e1, e2, ⟨⟨ad', ac', hv, hP', hK', hinj', hfix', hnew'⟩, hz', hk'⟩, stp⟩ := run l D ad p e Rm s m args below meth c A H lcs ls (va_Pc ((Value.ref 0 :: asl).map (tv adl)) (nB D [(ci, n)] adl H.size)) (nQ D [(ci, n)] ((ci, n) :: T) adl Ic Jc Rc H.size) (pA [(ci, n)] adl H.size) (adl 0) (asl.map (tv adl)) hc (hC l D adl H.size) ⟨nB_blind, fun U hU hW => ⟨rfl, by rw [hU], by rw [hU]; exact hcell, hc.2.2.1.moved hW.alike, hc.2.2.2.2.1.moved hW (lcs := lcs) (by rw [hU]; exact r2) hA, hc.2.2.2.2.2.2.moved hW.alike⟩⟩ (by simp) hl2.1 T0 hT0 X0
    cases hv
    rw [h0] at hz' hk'
    have hlt : ∀ k, k < S.length → ad k < H.size := fun k hk => by
      obtain ⟨sh, hsh⟩ : ∃ sh, S[k]? = some sh := ⟨_, List.getElem?_eq_getElem hk⟩
      exact va_at_ltQ (r1 k _ (pW_get hsh))
    have a0 : ad' 0 = ad o := hfix' 0 (Or.inl Nat.one_pos)
    let ad2 : Nat → Nat := fun h => if o ≤ h ∧ h < o + (T.length + 1) then ad' (h - o) else ad h
    let ac2 : Nat → ClassId := fun h => if o ≤ h ∧ h < o + (T.length + 1) then ac' (h - o) else ac h
    have ad2_in : ∀ k, k < T.length + 1 → ad2 (o + k) = ad' k := fun k hk => by
      show (if _ then _ else _) = _
      rw [if_pos (by omega), Nat.add_sub_cancel_left]
    have ac2_in : ∀ k, k < T.length + 1 → ac2 (o + k) = ac' k := fun k hk => by
      show (if _ then _ else _) = _
      rw [if_pos (by omega), Nat.add_sub_cancel_left]
    have ad2_out : ∀ h, ¬ (o + 1 ≤ h ∧ h < o + 1 + T.length) → ad2 h = ad h := fun h hh => by
      by_cases e : h = o
      · subst e
        have := ad2_in 0 (by omega)
        rw [Nat.add_zero] at this
        rw [this, a0]
      · show (if _ then _ else _) = _
        rw [if_neg (by omega)]
    have ac2_out : ∀ h, h < o → ac2 h = ac h := fun h hh => by
      show (if _ then _ else _) = _
      rw [if_neg (by omega)]
    have hnat : ∀ i : Nat, i < o → ad i ≠ ad o := fun i hi z => by
      have := r4.1 i o (by omega) (by omega) z
      omega
    have hSl : (S ++ T).length = o + (T.length + 1) := by rw [List.length_append]; omega
    have hSin : ∀ k, k < T.length + 1 → (S ++ T)[o + k]? = ((ci, n) :: T)[k]? := by
      intro k hk
      cases k with
      | zero => rw [Nat.add_zero, List.getElem?_append_left (by omega), hSo]; rfl
      | succ k => rw [List.getElem?_append_right (by omega), hS]; show T[_]? = T[k]?; congr 1; omega
    have hSout : ∀ k, k < o → (S ++ T)[k]? = S[k]? := fun k hk => List.getElem?_append_left (by omega)
    have hP2 : va_P D vwCl (pW (S ++ T) I2 J2 R2 ad2 ac2) T'.heap := by
      intro k q hq
      obtain ⟨hk1, -⟩ := pW_at hq
      obtain ⟨sh, hsh⟩ : ∃ sh, (S ++ T)[k]? = some sh := ⟨_, List.getElem?_eq_getElem hk1⟩
      rw [pW_get hsh] at hq
      cases hq
      by_cases hko : k < o
      · rw [hSout k hko] at hsh
        have g := r1 k _ (pW_get hsh)
        obtain ⟨b1, b2, b3⟩ := h3 k hko
        rw [b1, b2, b3, ac2_out k hko, pE_ad (ad := ad) (fun j x hx => ad2_out x (by have := hR k j x hko hx; omega)), ad2_out k (by omega)]
        exact va_at_kept g (by
          rw [e1]
          exact hk' _ (hlt k (by omega)) (by
            rintro (⟨h, g1, g2⟩ | g2)
            · have : h = 0 := by have : h < 1 := g1; omega
              subst this
              exact hnat k hko g2.symm
            · have := hlt k (by omega); omega))
      · obtain ⟨k', rfl⟩ : ∃ k', k = o + k' := ⟨k - o, by omega⟩
        have hk2 : k' < T.length + 1 := by omega
        rw [hSin k' hk2] at hsh
        have g := hP' k' _ (pW_get hsh)
        obtain ⟨b1, b2, b3⟩ := h2 k' hk2
        rw [b1, b2, b3, ac2_in k' hk2, ad2_in k' hk2]
        have e9 : pE ad2 (ac' k') sh (Ic k') (Jc k') (fun j => (Rc k' j).map (rho o hs)) = pE ad' (ac' k') sh (Ic k') (Jc k') (Rc k') := by
          have eq1 : ∀ j, ((Rc k' j).map (rho o hs)).map ad2 = (Rc k' j).map ad' := fun j => by
            cases e : Rc k' j with
            | none => rfl
            | some x =>
              show some (ad2 (rho o hs x)) = some (ad' x)
              rcases hRc k' j x hk2 e with z | z
              · rw [rho, if_pos (by omega), ad2_in x z]
              · have hm : (x - 1000) < hs.length := by omega
                have h9 := hhs _ (List.getElem_mem hm)
                have er : rho o hs x = hs[x - 1000] := by rw [rho, if_neg (by omega), List.getD_eq_getElem?_getD, List.getElem?_eq_getElem hm]; rfl
                rw [er, ad2_out _ (by omega), hfix' x (Or.inr z.1)]
                show _ = some (ad (rho o hs x))
                rw [er]
          have eq2 : (fun j => ((Rc k' j).map (rho o hs)).map ad2) = (fun j => (Rc k' j).map ad') := funext eq1
          have eq3 : pFs ad2 (Ic k') (fun j => (Rc k' j).map (rho o hs)) sh.1 sh.2 = pFs ad' (Ic k') (Rc k') sh.1 sh.2 := by
            unfold pFs
            refine List.map_congr_left (fun k _ => ?_)
            unfold pF
            split <;> first | rfl | (show va_rf _ = va_rf _; rw [eq1])
          unfold pE
          rw [eq3, eq2]
        rw [e9, e1]
        exact g
    have hS2 : va_S A s.heap T'.heap (lcs ++ Lx) := ⟨Nat.le_trans r2.1 (by rw [e1]; exact hz'), fun q q1 q2 => by rw [e1, hk' q (Nat.lt_of_lt_of_le q1 r2.1) (fun z => q2 (hA q z))]; exact r2.2.1 q q1 q2, fun q hq => by
      rcases List.mem_append.mp hq with h | h
      · exact r2.2.2 q h
      · exact hA _ (hL q h)⟩
    have hK2 : pK D (S ++ T) ac2 s := by
      refine ⟨r3.1, fun a k n9 ty q1 q2 => ?_⟩
      have ha := (List.getElem?_eq_some_iff.mp q1).1
      by_cases hao : a < o
      · rw [hSout a hao] at q1
        rw [ac2_out a hao]
        exact r3.2 a k n9 ty q1 q2
      · obtain ⟨k', rfl⟩ : ∃ k', a = o + k' := ⟨a - o, by omega⟩
        have hk2 : k' < T.length + 1 := by omega
        rw [hSin k' hk2] at q1
        rw [ac2_in k' hk2]
        have hKs : pK D ((ci, n) :: T) ac' s := pK.moved (u := t) (U := s) (by rw [← e2]; exact X'.warmed.alike.symm) hK'
        exact hKs.2 k' k n9 ty q1 q2
    have hadA : ∀ i, i < (S ++ T).length → A (ad2 i) := fun i hi => by
      by_cases hio : i < o + 1
      · rw [ad2_out i (by omega)]
        exact r4.2 i (by omega)
      · obtain ⟨k', rfl⟩ : ∃ k', i = o + k' := ⟨i - o, by omega⟩
        rw [ad2_in k' (by omega)]
        exact hc.2.1 _ (Nat.le_trans r2.1 (hnew' k' (by show 1 ≤ k'; omega) (by show k' < T.length + 1; omega)))
    have hinj2 : ∀ i j, i < (S ++ T).length → j < (S ++ T).length → ad2 i = ad2 j → i = j := by
      have mixed : ∀ i j, i < o → j < T.length + 1 → ad2 i ≠ ad2 (o + j) := by
        intro i j hi hj z
        rw [ad2_out i (by omega), ad2_in j hj] at z
        by_cases j0 : j = 0
        · subst j0
          rw [a0] at z
          exact hnat i hi z
        · have := hnew' j (by show 1 ≤ j; omega) (by show j < T.length + 1; omega)
          have := hlt i (by omega)
          omega
      intro i j hi hj z
      by_cases hio : i < o
      · by_cases hjo : j < o
        · rw [ad2_out i (by omega), ad2_out j (by omega)] at z
          exact r4.1 i j (by omega) (by omega) z
        · obtain ⟨k', rfl⟩ : ∃ k', j = o + k' := ⟨j - o, by omega⟩
          exact absurd z (mixed i k' hio (by omega))
      · obtain ⟨i', rfl⟩ : ∃ k', i = o + k' := ⟨i - o, by omega⟩
        by_cases hjo : j < o
        · exact absurd z.symm (mixed j i' hjo (by omega))
        · obtain ⟨k', rfl⟩ : ∃ k', j = o + k' := ⟨j - o, by omega⟩
          rw [ad2_in i' (by omega), ad2_in k' (by omega)] at z
          have := hinj' i' k' (by show i' < T.length + 1; omega) (by show k' < T.length + 1; omega) z
          omega
    have hr2 : aRl D n0 ad0 (S ++ T) ad2 ac2 I2 J2 R2 A s T'.heap (lcs ++ Lx) := ⟨hP2, hS2, hK2, ⟨hinj2, hadA⟩, fun h hh => by
      rw [ad2_out h (by omega)]
      exact r5 h hh, by omega⟩
    have hne : ∀ h, ¬ (o + 1 ≤ h ∧ h < o + 1 + T.length) → ad2 h = ad h := ad2_out
    have k9 := kk l D ad0 p e Rm s m args below meth c A hc Qs hX ad2 ac2 T'.heap (lcs ++ Lx) ls hr2 (hrL_lo hne hlo hl2)
    rw [hrS_st hne hsr] at k9
    obtain ⟨t2, a1, b1⟩ := k9 T' rfl X'
    exact ⟨t2, stp t2 a1, b1⟩
