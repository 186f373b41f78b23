/-! calls -/
def pA (S : pS) (ad : Nat → Nat) (sz : Nat) : Nat → Prop := fun q => (∃ h, h < S.length ∧ ad h = q) ∨ sz ≤ q
def pRm (d : Nat) : Room := { frames := d, cells := 0, slots := 0, locals := 40 * d }
def pB (D : va_G) (S : pS) (ad : Nat → Nat) (ac : Nat → ClassId) (I : pI) (J : pJ) (R : pR) (sz : Nat) (U : State) : Prop :=
  U.heap.size = sz ∧ va_P D vwCl (pW S I J R ad ac) U.heap ∧ pK D S ac U ∧ (∀ i j, i < S.length → j < S.length → ad i = ad j → i = j) ∧ pX (pA S ad sz) U
def pQ (D : va_G) (S : pS) (ad : Nat → Nat) (ac : Nat → ClassId) (sz : Nat) (Ps : Option Value → pI → pJ → pR → Prop) : Array Value → State → Outcome → State → Prop := fun _ st o t =>
  (∃ (r : Option Value) (I' : pI) (J' : pJ) (R' : pR), o = .returned (r.map (tv ad)) ∧ Ps r I' J' R' ∧ va_P D vwCl (pW S I' J' R' ad ac) t.heap) ∧ va_F (pA S ad sz) st t
/-- a method's contract: from args and the picture it returns, and Ps holds of its answer and the new picture -/
def PC (S : pS) (d : Nat) (y : MethodName) (cc : ByteArray) (nL : Nat) (ret : Option FieldType) (as : List Value) (I : pI) (J : pJ) (R : pR) (Ps : Option Value → pI → pJ → pR → Prop) : Prop :=
  ∀ (l : Launch) (D : va_G) (ad : Nat → Nat) (ac : Nat → ClassId) (sz : Nat), Met l y (Cond.code y cc nL ret :: gt) (pRm d) (va_Pc (as.map (tv ad)) (pB D S ad ac I J R sz)) (pQ D S ad ac sz Ps) 0 0 (pA S ad sz)
theorem pB_blind {D : va_G} {S : pS} {ad : Nat → Nat} {ac : Nat → ClassId} {I : pI} {J : pJ} {R : pR} {sz : Nat} {as : List Value} : FrameBlind (va_Pc as (pB D S ad ac I J R sz)) := by
  intro a U g mk q
  obtain ⟨q0, q1, q2, q3, q4, q5⟩ := q
  exact ⟨q0, q1, q2, pK.moved (u := U) (U := U.calling g mk a) (Vm.Alike.refl U.vm) q3, q4, pX.calling q5⟩
/-- where a method may end -/
def rX (cc : ByteArray) (ret : Option FieldType) (Ps : Option Value → pI → pJ → pR → Prop) : pXt := fun pc _ st I J R =>
  (∃ (v : Int32) (ty : FieldType), ret = some ty ∧ narrow ty (.int v) = .int v ∧ decode cc pc = .ok (.ireturn, 1) ∧ st = [.int v] ∧ Ps (some (.int v)) I J R) ∨
  (∃ v : Int64, ret = some .long ∧ decode cc pc = .ok (.lreturn, 1) ∧ st = [.long v] ∧ Ps (some (.long v)) I J R) ∨
  (ret = none ∧ decode cc pc = .ok (.return_, 1) ∧ st = [] ∧ Ps none I J R)
section PCALLS
variable {S : pS} {own : String} {cc : ByteArray} {nL d pc : Nat} {locs : pLc} {st : List Value} {I : pI} {J : pJ} {R : pR} {X : pXt} {Ps : Option Value → pI → pJ → pR → Prop}
theorem pw_iret {v : Int32} {ty : FieldType} (hd : decode cc pc = .ok (.ireturn, 1)) (hn : narrow ty (.int v) = .int v) (h : Ps (some (.int v)) I J R) : PW S own cc nL d pc locs [.int v] I J R (rX cc (some ty) Ps) := pw_done (Or.inl ⟨v, ty, rfl, hn, hd, rfl, h⟩)
theorem pw_lret {v : Int64} (hd : decode cc pc = .ok (.lreturn, 1)) (h : Ps (some (.long v)) I J R) : PW S own cc nL d pc locs [.long v] I J R (rX cc (some .long) Ps) := pw_done (Or.inr (Or.inl ⟨v, rfl, hd, rfl, h⟩))
theorem pw_vret (hd : decode cc pc = .ok (.return_, 1)) (h : Ps none I J R) : PW S own cc nL d pc locs [] I J R (rX cc none Ps) := pw_done (Or.inr (Or.inr ⟨rfl, hd, rfl, h⟩))
/-- a contract out of a walk from the entry -/
theorem PC.of {y : MethodName} {ret : Option FieldType} {as : List Value} (locs0 : pLc) (hl0 : pEn as ++ List.replicate (nL - (lg_sl as).length) none = locs0) (hy : plainName y.cls = true) (hn : (lg_sl as).length ≤ nL) (h : PW S y.cls cc nL d 0 locs0 [] I J R (rX cc ret Ps)) : PC S d y cc nL ret as I J R Ps := by
  intro l D ad ac sz
  subst hl0
  refine Met.ofW (cc := cc) (maxL := nL) (ret := ret) hy rfl ?_
  intro p e s m args below meth c s₁ B hml hv
  obtain ⟨rfl, hsz, hP, hK, hinj, hpx⟩ := hv
  subst hsz
  have hx := B.exec
  have hb := B.bytes
  have hr := B.returns
  have hts := atoms_spec (ws := Cond.code y cc nL ret :: gt) B.pre
  have hown : s.vm.findClass y.cls = some m.cls := findClass_of_methodNamed B.named
  have hlocks := B.notSynchronized
  have hlen : (lg_sl (as.map (tv ad))).length ≤ nL := by
    have e : ∀ vs : List Value, (lg_sl (vs.map (tv ad))).length = (lg_sl vs).length := by
      intro vs
      induction vs with
      | nil => rfl
      | cons v vs ih => cases v <;> simp_all [lg_sl, tv, Value.category]
    rw [e]; exact hn
  have hl := lv_entry (as.map (tv ad)) (n := nL) hlen
  rw [lg_entry_eq]
  generalize (lg_sl (as.map (tv ad)) ++ List.replicate (nL - (lg_sl (as.map (tv ad))).length) Slot.unset).toArray = ls at hl ⊢
  refine h l D ad ac p e _ s m _ below meth c (pA S ad s.heap.size) 0 0 ⟨⟨hx, hb, hml, hown, fun w hw => hts w (List.mem_cons_of_mem _ hw)⟩, fun q hq => Or.inr hq, hK, ⟨Nat.le_refl _, Nat.le_refl _, Nat.zero_le _, Nat.zero_le _⟩, hpx, hinj, fun i hi => Or.inl ⟨i, hi, rfl⟩⟩ _ ?_ s.heap [] ls ⟨hP, va_S.rf⟩ ⟨hl.1, hl.2.1, fun i v hi => hl.2.2 (i, tv ad v) (by
    have hi2 : (pEn as)[i]? = some (some v) := by
      by_cases hlt : i < (pEn as).length
      · rwa [List.getElem?_append_left hlt] at hi
      · rw [List.getElem?_append_right (by omega)] at hi
        have := List.eq_of_mem_replicate (List.mem_of_getElem? hi)
        cases this
    have := pEn_get ad as 0 i v hi2; rwa [Nat.zero_add] at this)⟩
  intro pc' locs' st' I' J' R' H' lcs' ls' hX hr' hl'
  rcases hX with ⟨v, ty, rfl, hnv, hd, rfl, hp⟩ | ⟨v, rfl, hd, rfl, hp⟩ | ⟨rfl, hd, rfl, hp⟩
  · exact W.zret hx hb hr hnv (fun t ht hW => ⟨⟨some (.int v), I', J', R', rfl, hp, by rw [ht]; exact hr'.1⟩, hr'.2.F ht⟩) hr'.2.2.2 hd
  · exact W.lret hx hb hr (fun t ht hW => ⟨⟨some (.long v), I', J', R', rfl, hp, by rw [ht]; exact hr'.1⟩, hr'.2.F ht⟩) hr'.2.2.2 hd
  · exact W.vret hx hb hr (fun t ht hW => ⟨⟨none, I', J', R', rfl, hp, by rw [ht]; exact hr'.1⟩, hr'.2.F ht⟩) hr'.2.2.2 hd
/-- behind a call -/
theorem pw_run {D : va_G} {ad : Nat → Nat} {ac : Nat → ClassId} {l : Launch} {p : Program} {e : Env} {Rm : Room} {s : State} {m : MethodId} {args : Array Value} {below : List Frame} {meth : Method} {c : Code} {A : Nat → Prop} {Qs : State → Prop} {H : Heap} {lcs : List Loc} {ls : Array Slot} {st0 rest : List Value} {free : Addr → Prop} {a : Array Value} {cs sl : Nat}
    (hr : va_Run p l e Rm s m args below meth c H lcs cs sl 0 0 (F0 m pc ls st0) rest (pQ D S ad ac H.size Ps a) free) (hS : va_S A s.heap H lcs) (hA : ∀ q, pA S ad H.size q → A q) (hf : ∀ q, free q → A q)
    (kk : ∀ (r : Option Value) (I' : pI) (J' : pJ) (R' : pR) (H1 : Heap) (lcs1 : List Loc), Ps r I' J' R' → pRl D S ad ac I' J' R' A s.heap H1 lcs1 → W p l e Rm s m args below meth c H1 lcs1 cs sl Qs (F0 m (pc + 3) ls ((r.map (tv ad)).toList ++ rest))) : W p l e Rm s m args below meth c H lcs cs sl Qs (F0 m pc ls st0) := by
  intro T hT X
  obtain ⟨v, st₀, t, T', L, h0, X', hL, e1, e2, ⟨⟨r, I', J', R', hv, hp, hb⟩, hz, hk⟩, st⟩ := hr T hT X
  cases hv
  rw [h0] at hz hk
  obtain ⟨t2, a1, b1⟩ := kk r I' J' R' T'.heap (lcs ++ L) hp ⟨by rw [e1]; exact hb, Nat.le_trans hS.1 (by rw [e1]; exact hz), fun q h1 h2 => by rw [e1, hk q (Nat.lt_of_lt_of_le h1 hS.1) (fun z => h2 (hA q z))]; exact hS.2.1 q h1 h2, fun q hq => by
      rcases List.mem_append.mp hq with h | h
      · exact hS.2.2 q h
      · exact hf _ (hL q h)⟩ T' rfl X'
  exact ⟨t2, st t2 a1, b1⟩
theorem pA_in {D : va_G} {ad : Nat → Nat} {ac : Nat → ClassId} {p : Program} {Rm : Room} {s : State} {m : MethodId} {args : Array Value} {c : Code} {A : Nat → Prop} {H : Heap} {lcs : List Loc} {cs sl : Nat} (hc : pCx D S ad ac own cc nL d p Rm s m args c A cs sl) (hS : va_S A s.heap H lcs) : ∀ q, pA S ad H.size q → A q := by
  rintro q (⟨h, h1, rfl⟩ | h)
  · exact hc.2.2.2.2.2.2 h h1
  · exact hc.2.1 q (Nat.le_trans hS.1 h)
theorem pB_at {D : va_G} {ad : Nat → Nat} {ac : Nat → ClassId} {p : Program} {Rm : Room} {s : State} {m : MethodId} {args : Array Value} {c : Code} {A : Nat → Prop} {H : Heap} {lcs : List Loc} {cs sl : Nat} (hc : pCx D S ad ac own cc nL d p Rm s m args c A cs sl) (hr : pRl D S ad ac I J R A s.heap H lcs) (U : State) (hU : U.heap = H) (hW : s.WarmedH U.vm) : pB D S ad ac I J R H.size U := by
  refine ⟨by rw [hU], by rw [hU]; exact hr.1, hc.2.2.1.moved hW.alike, hc.2.2.2.2.2.1, hc.2.2.2.2.1.moved hW (lcs := lcs) (by rw [hU]; exact hr.2) (pA_in hc hr.2)⟩
theorem tv_rev (ad : Nat → Nat) (as rest : List Value) : (as.reverse ++ rest).map (tv ad) = (as.map (tv ad)).reverse ++ rest.map (tv ad) := by rw [List.map_append, List.map_reverse]
theorem tv_sum {ad : Nat → Nat} {rest : List Value} (h : (rest.map fun v => v.category).sum ≤ 8) : ((rest.map (tv ad)).map fun v => v.category).sum ≤ 8 := by rw [tv_cats]; exact h
theorem tv_opt (ad : Nat → Nat) (r : Option Value) (rest : List Value) : (r.map (tv ad)).toList ++ rest.map (tv ad) = (r.toList ++ rest).map (tv ad) := by cases r <;> rfl
/-- invokevirtual: b the receiver, of class ci -/
theorem pw_callV {idx ci n h d' : Nat} {C : String} {T : u_T} {y : MethodName} {bytes : ByteArray} {maxL : Nat} {ret : Option FieldType} {as rest : List Value} (pc' : Nat) (hp : pc + 3 = pc') (hd : decode cc pc = .ok (.invokevirtual idx, 3)) (hL : Cond.methodLink own idx y ∈ gt) (hV : Cond.instanceMethod y ∈ gt ∧ Cond.selects C y y ∈ gt ∧ Cond.initialized C ∈ gt ∧ Cond.code y bytes maxL ret ∈ gt) (hC : PC S d' y bytes maxL ret (.ref h :: as) I J R Ps)
    (hS : S[h]? = some (ci, n)) (hq : vwCl[ci]? = some (C, T, n)) (hi : ci < 100) (hy : y.cls = C ∧ y.cls ≠ "java/lang/invoke/MethodHandle" ∧ y.cls ≠ "java/lang/invoke/VarHandle" ∧ (parseMethodDescriptor y.desc).map (fun d => d.parameters.length) = some as.length) (hdd : d' + 1 ≤ d) (hm : maxL ≤ 21) (hs : (rest.map fun v => v.category).sum ≤ 8) (hst : st = as.reverse ++ .ref h :: rest)
    (k : ∀ (r : Option Value) (I' : pI) (J' : pJ) (R' : pR), Ps r I' J' R' → PW S own cc nL d pc' locs (r.toList ++ rest) I' J' R' X) : PW S own cc nL d pc locs st I J R X := by
  subst hp
  exact fun l D ad ac p e Rm s m args below meth c A cs sl hc Qs hX H lcs ls hr hl => by
    have hw := pW_get (I := I) (J := J) (R := R) (ad := ad) (ac := ac) hS
    rw [pE_obj hi] at hw
    have hrr := hc.2.2.2.1
    subst hst
    rw [tv_rev]
    refine pw_run (va_runV (C := C) (As := as.map (tv ad)) (rest := rest.map (tv ad)) (b := ad h) (Pc := va_Pc ((Value.ref h :: as).map (tv ad)) (pB D S ad ac I J R H.size)) hc.1 (hC l D ad ac H.size)
      ⟨callB_of as.length hc.1.2.2.2.2 (gt_in hV.2.2.2) rfl rfl rfl (by rw [hy.1]; exact hc.1.2.2.2.2 _ hV.2.2.1) (hc.1.2.2.2.2 _ hL) hy.2 ⟨by show d' + 1 ≤ _; omega, by show 8 + (maxL + 11) + 40 * d' ≤ _; omega⟩, hc.1.2.2.2.2 _ hV.1, hc.1.2.2.2.2 _ hV.2.1⟩
      ⟨pB_blind, va_recv hc.2.2.1.1 hr.1 hq hw, fun U hU hW => ⟨rfl, pB_at hc hr U hU hW⟩⟩ rfl (by simp) hl.1 rfl (lv_room (tv_sum hs)) hd ⟨by omega, by omega⟩) hr.2 (pA_in hc hr.2) (pA_in hc hr.2) (fun r I' J' R' H1 lcs1 hp hr1 => ?_)
    rw [tv_opt]
    exact k r I' J' R' hp l D ad ac p e Rm s m args below meth c A cs sl hc Qs hX H1 lcs1 ls hr1 hl
theorem pw_callS {idx d' : Nat} {y : MethodName} {bytes : ByteArray} {maxL : Nat} {ret : Option FieldType} {as rest : List Value} {C : String} (pc' : Nat) (hp : pc + 3 = pc') (hd : decode cc pc = .ok (.invokestatic idx, 3)) (hL : Cond.methodLink own idx y ∈ gt) (hV : Cond.static y ∈ gt ∧ Cond.initialized C ∈ gt ∧ Cond.code y bytes maxL ret ∈ gt) (hC : PC S d' y bytes maxL ret as I J R Ps)
    (hy : y.cls = C ∧ y.cls ≠ "java/lang/invoke/MethodHandle" ∧ y.cls ≠ "java/lang/invoke/VarHandle" ∧ (parseMethodDescriptor y.desc).map (fun d => d.parameters.length) = some as.length) (hdd : d' + 1 ≤ d) (hm : maxL ≤ 21) (hs : (rest.map fun v => v.category).sum ≤ 8) (hst : st = as.reverse ++ rest)
    (k : ∀ (r : Option Value) (I' : pI) (J' : pJ) (R' : pR), Ps r I' J' R' → PW S own cc nL d pc' locs (r.toList ++ rest) I' J' R' X) : PW S own cc nL d pc locs st I J R X := by
  subst hp
  exact fun l D ad ac p e Rm s m args below meth c A cs sl hc Qs hX H lcs ls hr hl => by
    have hrr := hc.2.2.2.1
    subst hst
    rw [tv_rev]
    refine pw_run (va_runS (As := as.map (tv ad)) (rest := rest.map (tv ad)) (Pc := va_Pc (as.map (tv ad)) (pB D S ad ac I J R H.size)) hc.1 (hC l D ad ac H.size)
      ⟨callB_of as.length hc.1.2.2.2.2 (gt_in hV.2.2) rfl rfl rfl (by rw [hy.1]; exact hc.1.2.2.2.2 _ hV.2.1) (hc.1.2.2.2.2 _ hL) hy.2 ⟨by show d' + 1 ≤ _; omega, by show 8 + (maxL + 11) + 40 * d' ≤ _; omega⟩, hc.1.2.2.2.2 _ hV.1⟩
      ⟨pB_blind, fun U hU hW => ⟨rfl, pB_at hc hr U hU hW⟩⟩ rfl (by simp) hl.1 rfl (lv_room (tv_sum hs)) hd ⟨by omega, by omega⟩) hr.2 (pA_in hc hr.2) (pA_in hc hr.2) (fun r I' J' R' H1 lcs1 hp hr1 => ?_)
    rw [tv_opt]
    exact k r I' J' R' hp l D ad ac p e Rm s m args below meth c A cs sl hc Qs hX H1 lcs1 ls hr1 hl
theorem pw_callN {idx d' : Nat} {y : MethodName} {bytes : ByteArray} {maxL : Nat} {ret : Option FieldType} {as rest : List Value} {C host : String} (pc' : Nat) (hp : pc + 3 = pc') (hd : decode cc pc = .ok (.invokestatic idx, 3)) (hL : Cond.methodLinkNest own idx y host ∈ pNw) (hV : Cond.static y ∈ gt ∧ Cond.initialized C ∈ gt ∧ Cond.code y bytes maxL ret ∈ gt) (hC : PC S d' y bytes maxL ret as I J R Ps)
    (hy : y.cls = C ∧ y.cls ≠ "java/lang/invoke/MethodHandle" ∧ y.cls ≠ "java/lang/invoke/VarHandle" ∧ (parseMethodDescriptor y.desc).map (fun d => d.parameters.length) = some as.length) (hdd : d' + 1 ≤ d) (hm : maxL ≤ 21) (hs : (rest.map fun v => v.category).sum ≤ 8) (hst : st = as.reverse ++ rest)
    (k : ∀ (r : Option Value) (I' : pI) (J' : pJ) (R' : pR), Ps r I' J' R' → PW S own cc nL d pc' locs (r.toList ++ rest) I' J' R' X) : PW S own cc nL d pc locs st I J R X := by
  subst hp
  exact fun l D ad ac p e Rm s m args below meth c A cs sl hc Qs hX H lcs ls hr hl => by
    have hrr := hc.2.2.2.1
    subst hst
    rw [tv_rev]
    refine pw_run (va_runSN (host := host) (As := as.map (tv ad)) (rest := rest.map (tv ad)) (Pc := va_Pc (as.map (tv ad)) (pB D S ad ac I J R H.size)) hc.1 (hC l D ad ac H.size)
      ⟨va_cnB as.length hc.1.2.2.2.2 (gt_in hV.2.2) rfl rfl rfl (hc.2.2.2.2.1.1 _ hL) (by rw [hy.1]; exact hc.1.2.2.2.2 _ hV.2.1) hy.2 ⟨by show d' + 1 ≤ _; omega, by show 8 + (maxL + 11) + 40 * d' ≤ _; omega⟩, hc.1.2.2.2.2 _ hV.1, trivial⟩
      ⟨pB_blind, fun U hU hW => ⟨rfl, pB_at hc hr U hU hW⟩⟩ rfl (by simp) hl.1 rfl (lv_room (tv_sum hs)) hd ⟨by omega, by omega⟩) hr.2 (pA_in hc hr.2) (pA_in hc hr.2) (fun r I' J' R' H1 lcs1 hp hr1 => ?_)
    rw [tv_opt]
    exact k r I' J' R' hp l D ad ac p e Rm s m args below meth c A cs sl hc Qs hX H1 lcs1 ls hr1 hl
/-- a row of rows -/
theorem pw_aald {h n a : Nat} {i : Int32} (pc' : Nat) (hp : pc + 1 = pc') (hd : decode cc pc = .ok (.aaload, 1)) (hS : S[h]? = some (104, n)) (hi : vp_in i n) (hR : R h i.toNatClampNeg = some a) (k : PW S own cc nL d pc' locs (.ref a :: st) I J R X) : PW S own cc nL d pc locs (.int i :: .ref h :: st) I J R X := by
  subst hp
  exact fun l D ad ac p e Rm s m args below meth c A cs sl hc Qs hX H lcs ls hr hl => by
    have hlt : i.toNatClampNeg < n := Nat.not_le.mp fun q => hi (Or.inr q)
    have hw := pW_get (I := I) (J := J) (R := R) (ad := ad) (ac := ac) hS
    have hK := hc.2.2.1.at hS (ty := .array .int) rfl
    refine W.aald (v := .ref (ad a)) (ty := .array .int) hc.1.1 hc.1.2.1 (hr.1 h _ hw) ((hK.2 0 _ rfl).1 n (fun j => va_rf ((R h j).map ad))) rfl (fun q => by cases q) (by show ¬ (i < 0 ∨ (arrV _ _ _).slots.size ≤ _); rw [arrV_size]; exact hi) (by show (arrV _ _ _).slots[_]? = _; rw [arrV_read _ _ hlt]; show some (va_rf ((R h i.toNatClampNeg).map ad)) = _; rw [hR]; rfl) rfl rfl hd (k l D ad ac p e Rm s m args below meth c A cs sl hc Qs hX H lcs ls hr hl)
theorem pw_copy {idx h g n0 n1 : Nat} {sp dp n : Int32} (pc' : Nat) (hp : pc + 3 = pc') (hd : decode cc pc = .ok (.invokestatic idx, 3)) (hL : Cond.methodLink own idx arraycopyName ∈ gt) (hS : S[g]? = some (100, n0)) (hS1 : S[h]? = some (100, n1)) (h1 : ¬ sp < 0) (h2 : ¬ dp < 0) (h3 : ¬ n < 0) (h4 : sp.toNatClampNeg + n.toNatClampNeg ≤ n0) (h5 : dp.toNatClampNeg + n.toNatClampNeg ≤ n1) (hs : (st.map fun v => v.category).sum ≤ 8) (hw : nativeFrameWords "java/lang/System" "arraycopy" 5 ≤ 20)
    (k : PW S own cc nL (d + 1) pc' locs st (fun a => if a = h then va_cpy (I g) (I h) sp.toNatClampNeg dp.toNatClampNeg n.toNatClampNeg else I a) J R X) : PW S own cc nL (d + 1) pc locs (.int n :: .int dp :: .ref h :: .int sp :: .ref g :: st) I J R X := by
  subst hp
  exact fun l D ad ac p e Rm s m args below meth c A cs sl hc Qs hX H lcs ls hr hl => by
    have hrr := hc.2.2.2.1
    have hK : va_K D vwCl [(ac g, .int), (ac h, .int)] s := (hc.2.2.1.at hS (ty := .int) rfl).app (hc.2.2.1.at hS1 (ty := .int) rfl)
    refine va_copyi (ty := .int) hc.1.1 hc.1.2.1 (hc.1.2.2.1.trans hl.1.symm) hc.1.2.2.2.1 (hc.1.2.2.2.2 _ hL) (hc.1.2.2.2.2 _ g_copy.1) (hc.1.2.2.2.2 _ g_copy.2.1) (hc.1.2.2.2.2 _ g_copy.2.2) hK hr.1 (pD_of hc.2.2.2.2.2 I J R ac) hr.2 g h 0 1 (pW_get hS) (pW_get hS1) rfl rfl rfl h1 h2 h3 h4 h5 (fun _ _ => rfl) (by omega) (by rw [tv_cats]; omega) hd (fun H1 lcs1 hP1 hD1 hS2 => ?_)
    rw [pW_set (I' := fun a => if a = h then va_cpy (I g) (I h) sp.toNatClampNeg dp.toNatClampNeg n.toNatClampNeg else I a) (J' := J) (R' := R) hS1 (by simp [pE]) (fun a ha => ⟨by simp [ha], rfl, rfl⟩)] at hP1
    exact k l D ad ac p e Rm s m args below meth c A cs sl hc Qs hX H1 lcs1 ls ⟨hP1, hS2⟩ hl
end PCALLS
theorem PC.mono {S : pS} {d : Nat} {y : MethodName} {cc : ByteArray} {nL : Nat} {ret : Option FieldType} {as : List Value} {I : pI} {J : pJ} {R : pR} {Ps Ps' : Option Value → pI → pJ → pR → Prop} (h : PC S d y cc nL ret as I J R Ps) (hm : ∀ r I' J' R', Ps r I' J' R' → Ps' r I' J' R') : PC S d y cc nL ret as I J R Ps' := by
  intro l D ad ac sz p e ha hc hk s m args below hf happ hpre htr
  obtain ⟨k, o, h1, h2, h3, ⟨⟨⟨r, I', J', R', e1, e2, e3⟩, hF⟩, hL⟩⟩ := h l D ad ac sz p e ha hc hk s m args below hf happ hpre htr
  exact ⟨k, o, h1, h2, h3, ⟨⟨r, I', J', R', e1, hm _ _ _ _ e2, e3⟩, hF⟩, hL⟩
/-- a method that answers v and changes nothing -/
def pPu (v : Value) (I : pI) (J : pJ) (R : pR) : Option Value → pI → pJ → pR → Prop := fun r I' J' R' => r = some v ∧ I' = I ∧ J' = J ∧ R' = R
theorem nat_loop (n : Nat) (P : Nat → Prop) (h0 : P n) (hs : ∀ k, k < n → P (k + 1) → P k) : P 0 := by
  have h : ∀ j, j ≤ n → P (n - j) := by
    intro j
    induction j with
    | zero => intro _; exact h0
    | succ j ih =>
      intro hj
      refine hs (n - (j + 1)) (by omega) ?_
      rw [show n - (j + 1) + 1 = n - j by omega]
      exact ih (by omega)
  have := h n (Nat.le_refl n)
  rwa [Nat.sub_self] at this
/-- from k on -/
theorem nat_from (k0 n : Nat) (P : Nat → Prop) (hk : k0 ≤ n) (h0 : P n) (hs : ∀ k, k0 ≤ k → k < n → P (k + 1) → P k) : P k0 := by
  have h : ∀ j, j ≤ n - k0 → P (n - j) := by
    intro j
    induction j with
    | zero => intro _; exact h0
    | succ j ih =>
      intro hj
      refine hs (n - (j + 1)) (by omega) (by omega) ?_
      rw [show n - (j + 1) + 1 = n - j by omega]
      exact ih (by omega)
  have := h (n - k0) (Nat.le_refl _)
  rwa [show n - (n - k0) = k0 by omega] at this
section PNI
variable {S : pS} {own : String} {cc : ByteArray} {nL d pc : Nat} {locs : pLc} {st : List Value} {I : pI} {J : pJ} {R : pR} {X : pXt} {Ps : Option Value → pI → pJ → pR → Prop}
theorem pw_ialdN {h n k : Nat} (pc' : Nat) (hp : pc + 1 = pc') (hd : decode cc pc = .ok (.iaload, 1)) (hS : S[h]? = some (100, n)) (hk : k < n) (hn : n < 2 ^ 31) (kk : PW S own cc nL d pc' locs (.int (I h k) :: st) I J R X) : PW S own cc nL d pc locs (.int (nI k) :: .ref h :: st) I J R X := by
  refine pw_iald pc' hp hd hS (vp_in_nI hk hn) ?_
  rw [nI_clamp (Nat.lt_trans hk hn)]
  exact kk
theorem pw_iastN {h n k : Nat} {x : Int32} (pc' : Nat) (hp : pc + 1 = pc') (hd : decode cc pc = .ok (.iastore, 1)) (hS : S[h]? = some (100, n)) (hk : k < n) (hn : n < 2 ^ 31) (kk : PW S own cc nL d pc' locs st (uI I h k x) J R X) : PW S own cc nL d pc locs (.int x :: .int (nI k) :: .ref h :: st) I J R X := by
  refine pw_iast pc' hp hd hS (vp_in_nI hk hn) ?_
  rw [nI_clamp (Nat.lt_trans hk hn)]
  exact kk
theorem pw_baldN {h n k : Nat} (pc' : Nat) (hp : pc + 1 = pc') (hd : decode cc pc = .ok (.baload, 1)) (hS : S[h]? = some (102, n)) (hk : k < n) (hn : n < 2 ^ 31) (kk : PW S own cc nL d pc' locs (.int (I h k) :: st) I J R X) : PW S own cc nL d pc locs (.int (nI k) :: .ref h :: st) I J R X := by
  refine pw_bald pc' hp hd hS (vp_in_nI hk hn) ?_
  rw [nI_clamp (Nat.lt_trans hk hn)]
  exact kk
theorem pw_bastN {h n k : Nat} {x : Int32} (pc' : Nat) (hp : pc + 1 = pc') (hd : decode cc pc = .ok (.bastore, 1)) (hS : S[h]? = some (102, n)) (hk : k < n) (hn : n < 2 ^ 31) (kk : PW S own cc nL d pc' locs st (uI I h k (vp_nar .byte x)) J R X) : PW S own cc nL d pc locs (.int x :: .int (nI k) :: .ref h :: st) I J R X := by
  refine pw_bast pc' hp hd hS (vp_in_nI hk hn) ?_
  rw [nI_clamp (Nat.lt_trans hk hn)]
  exact kk
theorem pw_zaldN {h n k : Nat} (pc' : Nat) (hp : pc + 1 = pc') (hd : decode cc pc = .ok (.baload, 1)) (hS : S[h]? = some (103, n)) (hk : k < n) (hn : n < 2 ^ 31) (kk : PW S own cc nL d pc' locs (.int (I h k) :: st) I J R X) : PW S own cc nL d pc locs (.int (nI k) :: .ref h :: st) I J R X := by
  refine pw_zald pc' hp hd hS (vp_in_nI hk hn) ?_
  rw [nI_clamp (Nat.lt_trans hk hn)]
  exact kk
theorem pw_zastN {h n k : Nat} {x : Int32} (pc' : Nat) (hp : pc + 1 = pc') (hd : decode cc pc = .ok (.bastore, 1)) (hS : S[h]? = some (103, n)) (hk : k < n) (hn : n < 2 ^ 31) (kk : PW S own cc nL d pc' locs st (uI I h k (vp_nar .boolean x)) J R X) : PW S own cc nL d pc locs (.int x :: .int (nI k) :: .ref h :: st) I J R X := by
  refine pw_zast pc' hp hd hS (vp_in_nI hk hn) ?_
  rw [nI_clamp (Nat.lt_trans hk hn)]
  exact kk
theorem pw_laldN {h n k : Nat} (pc' : Nat) (hp : pc + 1 = pc') (hd : decode cc pc = .ok (.laload, 1)) (hS : S[h]? = some (101, n)) (hk : k < n) (hn : n < 2 ^ 31) (kk : PW S own cc nL d pc' locs (.long (J h k) :: st) I J R X) : PW S own cc nL d pc locs (.int (nI k) :: .ref h :: st) I J R X := by
  refine pw_lald pc' hp hd hS (vp_in_nI hk hn) ?_
  rw [nI_clamp (Nat.lt_trans hk hn)]
  exact kk
theorem pw_lastN {h n k : Nat} {x : Int64} (pc' : Nat) (hp : pc + 1 = pc') (hd : decode cc pc = .ok (.lastore, 1)) (hS : S[h]? = some (101, n)) (hk : k < n) (hn : n < 2 ^ 31) (kk : PW S own cc nL d pc' locs st I (uJ J h k x) R X) : PW S own cc nL d pc locs (.long x :: .int (nI k) :: .ref h :: st) I J R X := by
  refine pw_last pc' hp hd hS (vp_in_nI hk hn) ?_
  rw [nI_clamp (Nat.lt_trans hk hn)]
  exact kk
theorem pw_aaldN {h n a k : Nat} (pc' : Nat) (hp : pc + 1 = pc') (hd : decode cc pc = .ok (.aaload, 1)) (hS : S[h]? = some (104, n)) (hk : k < n) (hn : n < 2 ^ 31) (hR : R h k = some a) (kk : PW S own cc nL d pc' locs (.ref a :: st) I J R X) : PW S own cc nL d pc locs (.int (nI k) :: .ref h :: st) I J R X := by
  refine pw_aald pc' hp hd hS (vp_in_nI hk hn) ?_ kk
  rw [nI_clamp (Nat.lt_trans hk hn)]
  exact hR
/-- the counter of a loop -/
theorem pw_iincN {i k : Nat} (pc' : Nat) (hp : pc + 3 = pc') (hd : decode cc pc = .ok (.iinc i 1, 3)) (h : i < nL) (hx : locs[i]? = some (some (.int (nI k)))) (kk : PW S own cc nL d pc' (setL locs i (.int (nI (k + 1)))) st I J R X) : PW S own cc nL d pc locs st I J R X := by
  refine pw_iinc pc' hp hd h hx ?_
  rw [show nI k + Int32.ofInt 1 = nI (k + 1) from nI_1 k]
  exact kk
/-- a call that answers v and changes nothing -/
theorem pw_callVP {v : Value} {idx ci n h d' : Nat} {C : String} {T : u_T} {y : MethodName} {bytes : ByteArray} {maxL : Nat} {ret : Option FieldType} {as rest : List Value} (pc' : Nat) (hp : pc + 3 = pc') (hd : decode cc pc = .ok (.invokevirtual idx, 3)) (hL : Cond.methodLink own idx y ∈ gt) (hV : Cond.instanceMethod y ∈ gt ∧ Cond.selects C y y ∈ gt ∧ Cond.initialized C ∈ gt ∧ Cond.code y bytes maxL ret ∈ gt) (hC : PC S d' y bytes maxL ret (.ref h :: as) I J R (pPu v I J R))
    (hS : S[h]? = some (ci, n)) (hq : vwCl[ci]? = some (C, T, n)) (hi : ci < 100) (hy : y.cls = C ∧ y.cls ≠ "java/lang/invoke/MethodHandle" ∧ y.cls ≠ "java/lang/invoke/VarHandle" ∧ (parseMethodDescriptor y.desc).map (fun d => d.parameters.length) = some as.length) (hdd : d' + 1 ≤ d) (hm : maxL ≤ 21) (hs : (rest.map fun v => v.category).sum ≤ 8) (hst : st = as.reverse ++ .ref h :: rest)
    (k : PW S own cc nL d pc' locs (v :: rest) I J R X) : PW S own cc nL d pc locs st I J R X := by
  refine pw_callV pc' hp hd hL hV hC hS hq hi hy hdd hm hs hst (fun r I' J' R' hp => ?_)
  obtain ⟨rfl, rfl, rfl, rfl⟩ := hp
  exact k
theorem pw_callSP {v : Value} {idx d' : Nat} {y : MethodName} {bytes : ByteArray} {maxL : Nat} {ret : Option FieldType} {as rest : List Value} {C : String} (pc' : Nat) (hp : pc + 3 = pc') (hd : decode cc pc = .ok (.invokestatic idx, 3)) (hL : Cond.methodLink own idx y ∈ gt) (hV : Cond.static y ∈ gt ∧ Cond.initialized C ∈ gt ∧ Cond.code y bytes maxL ret ∈ gt) (hC : PC S d' y bytes maxL ret as I J R (pPu v I J R))
    (hy : y.cls = C ∧ y.cls ≠ "java/lang/invoke/MethodHandle" ∧ y.cls ≠ "java/lang/invoke/VarHandle" ∧ (parseMethodDescriptor y.desc).map (fun d => d.parameters.length) = some as.length) (hdd : d' + 1 ≤ d) (hm : maxL ≤ 21) (hs : (rest.map fun v => v.category).sum ≤ 8) (hst : st = as.reverse ++ rest)
    (k : PW S own cc nL d pc' locs (v :: rest) I J R X) : PW S own cc nL d pc locs st I J R X := by
  refine pw_callS pc' hp hd hL hV hC hy hdd hm hs hst (fun r I' J' R' hp => ?_)
  obtain ⟨rfl, rfl, rfl, rfl⟩ := hp
  exact k
theorem pw_callNP {v : Value} {idx d' : Nat} {y : MethodName} {bytes : ByteArray} {maxL : Nat} {ret : Option FieldType} {as rest : List Value} {C host : String} (pc' : Nat) (hp : pc + 3 = pc') (hd : decode cc pc = .ok (.invokestatic idx, 3)) (hL : Cond.methodLinkNest own idx y host ∈ pNw) (hV : Cond.static y ∈ gt ∧ Cond.initialized C ∈ gt ∧ Cond.code y bytes maxL ret ∈ gt) (hC : PC S d' y bytes maxL ret as I J R (pPu v I J R))
    (hy : y.cls = C ∧ y.cls ≠ "java/lang/invoke/MethodHandle" ∧ y.cls ≠ "java/lang/invoke/VarHandle" ∧ (parseMethodDescriptor y.desc).map (fun d => d.parameters.length) = some as.length) (hdd : d' + 1 ≤ d) (hm : maxL ≤ 21) (hs : (rest.map fun v => v.category).sum ≤ 8) (hst : st = as.reverse ++ rest)
    (k : PW S own cc nL d pc' locs (v :: rest) I J R X) : PW S own cc nL d pc locs st I J R X := by
  refine pw_callN pc' hp hd hL hV hC hy hdd hm hs hst (fun r I' J' R' hp => ?_)
  obtain ⟨rfl, rfl, rfl, rfl⟩ := hp
  exact k
end PNI
section PNJ
variable {S : pS} {own : String} {cc : ByteArray} {nL d pc : Nat} {locs : pLc} {st : List Value} {I : pI} {J : pJ} {R : pR} {X : pXt}
theorem pw_isubN {a b : Nat} (pc' : Nat) (hp : pc + 1 = pc') (hd : decode cc pc = .ok (.isub, 1)) (h : b ≤ a) (k : PW S own cc nL d pc' locs (.int (nI (a - b)) :: st) I J R X) : PW S own cc nL d pc locs (.int (nI b) :: .int (nI a) :: st) I J R X := by
  refine pw_isub pc' hp hd ?_
  rw [pk_sub h]
  exact k
theorem pw_iaddN {a b : Nat} (pc' : Nat) (hp : pc + 1 = pc') (hd : decode cc pc = .ok (.iadd, 1)) (k : PW S own cc nL d pc' locs (.int (nI (a + b)) :: st) I J R X) : PW S own cc nL d pc locs (.int (nI b) :: .int (nI a) :: st) I J R X := by
  refine pw_iadd pc' hp hd ?_
  rw [nI_add]
  exact k
theorem pw_imulN {a b : Nat} (pc' : Nat) (hp : pc + 1 = pc') (hd : decode cc pc = .ok (.imul, 1)) (k : PW S own cc nL d pc' locs (.int (nI (a * b)) :: st) I J R X) : PW S own cc nL d pc locs (.int (nI b) :: .int (nI a) :: st) I J R X := by
  refine pw_imul pc' hp hd ?_
  rw [pk_mul]
  exact k
theorem pw_idivN {a b : Nat} (pc' : Nat) (hp : pc + 1 = pc') (hd : decode cc pc = .ok (.idiv, 1)) (ha : a < 2 ^ 31) (h0 : 0 < b) (hb : b < 2 ^ 31) (k : PW S own cc nL d pc' locs (.int (nI (a / b)) :: st) I J R X) : PW S own cc nL d pc locs (.int (nI b) :: .int (nI a) :: st) I J R X := by
  refine pw_idiv pc' hp hd (nI_ne0 h0 hb) ?_
  rw [pk_div ha h0 hb]
  exact k
theorem pw_iremN {a b : Nat} (pc' : Nat) (hp : pc + 1 = pc') (hd : decode cc pc = .ok (.irem, 1)) (ha : a < 2 ^ 31) (h0 : 0 < b) (hb : b < 2 ^ 31) (k : PW S own cc nL d pc' locs (.int (nI (a % b)) :: st) I J R X) : PW S own cc nL d pc locs (.int (nI b) :: .int (nI a) :: st) I J R X := by
  refine pw_irem pc' hp hd (nI_ne0 h0 hb) ?_
  rw [pk_rem ha h0 hb]
  exact k
theorem pw_idecN {i k : Nat} (pc' : Nat) (hp : pc + 3 = pc') (hd : decode cc pc = .ok (.iinc i (-1), 3)) (h : i < nL) (hx : locs[i]? = some (some (.int (nI (k + 1))))) (kk : PW S own cc nL d pc' (setL locs i (.int (nI k))) st I J R X) : PW S own cc nL d pc locs st I J R X := by
  refine pw_iinc pc' hp hd h hx ?_
  rw [show nI (k + 1) + Int32.ofInt (-1) = nI k from pk_m1 k]
  exact kk
theorem pw_iincK {i k c : Nat} (pc' : Nat) (hp : pc + 3 = pc') (hd : decode cc pc = .ok (.iinc i (c : Int), 3)) (h : i < nL) (hx : locs[i]? = some (some (.int (nI k)))) (hc : Int32.ofInt (c : Int) = nI c) (kk : PW S own cc nL d pc' (setL locs i (.int (nI (k + c)))) st I J R X) : PW S own cc nL d pc locs st I J R X := by
  refine pw_iinc pc' hp hd h hx ?_
  rw [hc, nI_add]
  exact kk
end PNJ
