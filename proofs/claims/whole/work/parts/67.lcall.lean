/-! the law's two helpers that catch -/
def LCn (d : Nat) (y : MethodName) (cc : ByteArray) (nL : Nat) (hh : List (Nat × Nat × Nat × Nat)) (as : List Value) (I : pI) (J : pJ) (R : pR) (Ps : Option Value → pI → pJ → pR → Prop) : Prop :=
  ∀ (l : Launch) (D : va_G) (ad : Nat → Nat) (ac : Nat → ClassId) (sz : Nat), l.stackTraces = false → vx_Met l y (Cond.codeWith y cc nL (some .int) hh :: gt) (nRm d 1 6) (va_Pc (as.map (tv ad)) (fun U => pB D SL ad ac I J R sz U ∧ exE (pA SL ad sz) U)) (pQ D SL ad ac sz Ps) (fun _ _ _ => False) 1 6 (pA SL ad sz)
section LCN
variable {d : Nat} {y : MethodName} {cc : ByteArray} {nL : Nat} {hh : List (Nat × Nat × Nat × Nat)} {as : List Value} {I : pI} {J : pJ} {R : pR} {Ps : Option Value → pI → pJ → pR → Prop}
/-- from a walk over the whole body; X: where it comes to -/
theorem LCn.of {X : pXt} (hcls : plainName y.cls = true) (locs0 : pLc) (hl0 : pEn as ++ List.replicate (nL - (lg_sl as).length) none = locs0) (hn : (lg_sl as).length ≤ nL) (h : PW SL y.cls cc nL d 0 locs0 [] I J R X)
    (hX : ∀ (l : Launch) (D : va_G) (ad : Nat → Nat) (ac : Nat → ClassId) (p : Program) (e : Env) (s : State) (m : MethodId) (args : Array Value) (below : List Frame) (meth : Method) (c : Code), l.stackTraces = false → pCx D SL ad ac y.cls cc nL d p (nRm d 1 6) s m args c (pA SL ad s.heap.size) 0 0 → exE (pA SL ad s.heap.size) s → meth.sig.returnType = some .int → meth.locks = false → c.exceptionTable.toList = tableOf hh →
      ∀ (pc' : Nat) (locs' : pLc) (st' : List Value) (I' : pI) (J' : pJ) (R' : pR) (H' : Heap) (lcs' : List Loc) (ls' : Array Slot), X pc' locs' st' I' J' R' → pRl D SL ad ac I' J' R' (pA SL ad s.heap.size) s.heap H' lcs' → pLo ad ls' nL locs' → W p l e (nRm d 1 6) s m args below meth c H' lcs' 0 0 (vx_MQ below (pQ D SL ad ac s.heap.size Ps) (fun _ _ _ => False) args s 1 6 (pA SL ad s.heap.size)) (F0 m pc' ls' (st'.map (tv ad)))) : LCn d y cc nL hh as I J R Ps := by
  intro l D ad ac sz hfl
  subst hl0
  refine vx_ofWH (cc := cc) (maxL := nL) (ret := some .int) (hh := hh) hcls rfl ?_
  intro p e s m args below meth c s₁ B hml hv
  obtain ⟨rfl, ⟨hsz, hP, hK, hinj, hpx⟩, hex⟩ := hv
  subst hsz
  have hx := B.exec
  have hb := B.bytes
  have hts := atoms_spec (ws := Cond.codeWith y cc nL (some .int) hh :: gt) B.pre
  have hts' : ∀ w ∈ gt, w.before _ s = true := fun w hw => hts w (List.mem_cons_of_mem _ hw)
  have hown : s.vm.findClass y.cls = some m.cls := findClass_of_methodNamed B.named
  have htab := vx_table (x := y) B (hts _ List.mem_cons_self)
  have hlen : (lg_sl (as.map (tv ad))).length ≤ nL := by
    have e : ∀ vs : List Value, (lg_sl (vs.map (tv ad))).length = (lg_sl vs).length := by
      intro vs
      induction vs with
      | nil => rfl
      | cons v vs ih => cases v <;> simp_all [lg_sl, tv, Value.category]
    rw [e]; exact hn
  have hl := lv_entry (as.map (tv ad)) (n := nL) hlen
  rw [lg_entry_eq]
  generalize (lg_sl (as.map (tv ad)) ++ List.replicate (nL - (lg_sl (as.map (tv ad))).length) Slot.unset).toArray = ls at hl ⊢
  have hcx : pCx D SL ad ac y.cls cc nL d p (nRm d 1 6) s m (as.map (tv ad)).toArray c (pA SL ad s.heap.size) 0 0 := ⟨⟨hx, hb, hml, hown, hts'⟩, fun q hq => Or.inr hq, hK, ⟨Nat.le_refl _, Nat.le_refl _, Nat.zero_le _, Nat.zero_le _⟩, hpx, hinj, fun i hi => Or.inl ⟨i, hi, rfl⟩⟩
  refine h l D ad ac p e _ s m _ below meth c (pA SL ad s.heap.size) 0 0 hcx _ (fun pc' locs' st' I' J' R' H' lcs' ls' hXX hr' hl' => hX l D ad ac p e s m _ below meth c hfl hcx hex B.returns B.notSynchronized htab pc' locs' st' I' J' R' H' lcs' ls' hXX hr' hl') s.heap [] ls ⟨hP, va_S.rf⟩ ⟨hl.1, hl.2.1, fun i v hi => hl.2.2 (i, tv ad v) (by
    have hi2 : (pEn as)[i]? = some (some v) := by
      by_cases hlt : i < (pEn as).length
      · rwa [List.getElem?_append_left hlt] at hi
      · rw [List.getElem?_append_right (by omega)] at hi
        have := List.eq_of_mem_replicate (List.mem_of_getElem? hi)
        cases this
    have := pEn_get ad as 0 i v hi2; rwa [Nat.zero_add] at this)⟩
theorem lcn_end {l : Launch} {D : va_G} {ad : Nat → Nat} {ac : Nat → ClassId} {p : Program} {e : Env} {Rm : Room} {s : State} {m : MethodId} {args : Array Value} {below : List Frame} {meth : Method} {c : Code} {cs sl : Nat} (hc : pCx D SL ad ac y.cls cc nL d p Rm s m args c (pA SL ad s.heap.size) cs sl) (hr0 : meth.sig.returnType = some .int) (hlocks : meth.locks = false) (hcs : cs ≤ 1 ∧ sl ≤ 6) {pc' : Nat} {locs' : pLc} {st' : List Value} {I' : pI} {J' : pJ} {R' : pR} {H' : Heap} {lcs' : List Loc} {ls' : Array Slot} (hX : rX cc (some .int) Ps pc' locs' st' I' J' R') (hr' : pRl D SL ad ac I' J' R' (pA SL ad s.heap.size) s.heap H' lcs') : W p l e Rm s m args below meth c H' lcs' cs sl (vx_MQ below (pQ D SL ad ac s.heap.size Ps) (fun _ _ _ => False) args s 1 6 (pA SL ad s.heap.size)) (F0 m pc' ls' (st'.map (tv ad))) := by
  refine W.widen hcs.1 hcs.2 (vx_ret ?_)
  rcases hX with ⟨v, ty, e0, hnv, hd, rfl, hp⟩ | ⟨v, e0, hd, rfl, hp⟩ | ⟨e0, hd, rfl, hp⟩
  · cases e0
    exact W.zret hc.1.1 hc.1.2.1 hr0 hnv (fun t ht hW => ⟨⟨some (.int v), I', J', R', rfl, hp, by rw [ht]; exact hr'.1⟩, hr'.2.F ht⟩) hr'.2.2.2 hd
  · cases e0
  · cases e0
theorem LCn.ret (hcls : plainName y.cls = true) (locs0 : pLc) (hl0 : pEn as ++ List.replicate (nL - (lg_sl as).length) none = locs0) (hn : (lg_sl as).length ≤ nL) (h : PW SL y.cls cc nL d 0 locs0 [] I J R (rX cc (some .int) Ps)) : LCn d y cc nL hh as I J R Ps :=
  LCn.of hcls locs0 hl0 hn h (fun l D ad ac p e s m args below meth c hfl hc hex hr0 hlk htab pc' locs' st' I' J' R' H' lcs' ls' hX hr' hl' => lcn_end hc hr0 hlk ⟨Nat.zero_le _, Nat.zero_le _⟩ hX hr')
theorem LCn.thr {y2 : MethodName} {bytes : ByteArray} {maxL d' pcs idx a b hpc hp1 ct h n : Nat} {ret : Option FieldType} {as2 rest : List Value} {C : String} {T : u_T} (hcls : plainName y.cls = true) (locs0 : pLc) (hl0 : pEn as ++ List.replicate (nL - (lg_sl as).length) none = locs0) (hn : (lg_sl as).length ≤ nL) (hhe : hh = [(a, b, hpc, ct)])
    (h1 : PW SL y.cls cc nL d 0 locs0 [] I J R (fun pc _ st I' J' R' => pc = pcs ∧ st = as2.reverse ++ .ref h :: rest ∧ I' = I ∧ J' = J ∧ R' = R))
    (hd : decode cc pcs = .ok (.invokevirtual idx, 3)) (hL : Cond.methodLink y.cls idx y2 ∈ gt) (hV : Cond.instanceMethod y2 ∈ gt ∧ Cond.selects C y2 y2 ∈ gt ∧ Cond.initialized C ∈ gt ∧ Cond.code y2 bytes maxL ret ∈ gt) (hC : XTh SL d' y2 bytes maxL ret (.ref h :: as2) I J R)
    {ci : Nat} (hS : SL[h]? = some (ci, n)) (hq : vwCl[ci]? = some (C, T, n)) (hi : ci < 100) (hy : y2.cls = C ∧ y2.cls ≠ "java/lang/invoke/MethodHandle" ∧ y2.cls ≠ "java/lang/invoke/VarHandle" ∧ (parseMethodDescriptor y2.desc).map (fun d => d.parameters.length) = some as2.length) (hdd : d' + 1 ≤ d) (hm : maxL ≤ 21) (hsm : (rest.map fun v => v.category).sum ≤ 8)
    (hcov : covers ⟨a, b, hpc, ct⟩ pcs = true) (hct : ct ≠ 0) (hcl : Cond.classLink y.cls ct nsE ∈ gt)
    (hast : (∃ i : Fin 4, decode cc hpc = .ok (.astore_n i, 1) ∧ (i : Nat) < nL ∧ hp1 = hpc + 1) ∨ (∃ i : Nat, decode cc hpc = .ok (.astore i, 2) ∧ i < nL ∧ hp1 = hpc + 2))
    (h2 : PW SL y.cls cc nL d hp1 (List.replicate nL none) [] I J R (rX cc (some .int) Ps)) : LCn d y cc nL hh as I J R Ps := by
  refine LCn.of hcls locs0 hl0 hn h1 (fun l D ad ac p e s m args below meth c hfl hc hex hr0 hlk htab pc' locs' st' I' J' R' H' lcs' ls' hX hr hl' => ?_)
  obtain ⟨rfl, rfl, rfl, rfl, rfl⟩ := hX
  have hw := pW_get (I := I') (J := J') (R := R') (ad := ad) (ac := ac) hS
  rw [pE_obj hi] at hw
  have hrr := hc.2.2.2.1
  rw [tv_rev]
  have hrun := vx_runV (g := F0 m pc' ls' ((as2.map (tv ad)).reverse ++ (Value.ref h :: rest).map (tv ad))) (C := C) (As := as2.map (tv ad)) (rest := rest.map (tv ad)) (b := ad h) (below := below) (meth := meth) (e := e) (locs := lcs') (H := H') (cells := 0) (slots := 0) (R := nRm d 1 6) (Pc := va_Pc ((Value.ref h :: as2).map (tv ad)) (fun U => pB D SL ad ac I' J' R' H'.size U ∧ exE (pA SL ad H'.size) U)) hc.1 (hC l D ad ac H'.size hfl)
      ⟨callB_of as2.length hc.1.2.2.2.2 (gt_in hV.2.2.2) rfl rfl rfl (by rw [hy.1]; exact hc.1.2.2.2.2 _ hV.2.2.1) (hc.1.2.2.2.2 _ hL) hy.2 ⟨by show d' + 1 ≤ d; omega, by show 8 + (maxL + 11) + 40 * d' ≤ 40 * d; omega⟩, hc.1.2.2.2.2 _ hV.1, hc.1.2.2.2.2 _ hV.2.1⟩
      ⟨xB_blind, va_recv hc.2.2.1.1 hr.1 hq hw, fun U hU hW => ⟨rfl, pB_at hc hr U hU hW, hex.moved hW (lcs := lcs') (by rw [hU]; exact hr.2) (pA_in hc hr.2)⟩⟩ rfl (by simp) hl'.1 rfl (lv_room (tv_sum hsm)) hd ⟨Nat.le_refl _, Nat.le_refl _⟩
  intro T0 hT0 X0
  rcases hrun T0 hT0 X0 with ⟨v, st₀, t, T', Lx, h0, X', hLx, e1, e2, hf, -⟩ | ⟨q, st₀, t, T', Lx, E, ce, h0, X', hLx, e1, e2, ⟨rfl, hP', hz', hk'⟩, hce, hcv, hclE, stp⟩
  · exact hf.elim
  · rw [h0] at hz' hk'
    have hpain := pA_in hc hr.2
    have hr1 : pRl D SL ad ac I' J' R' (pA SL ad s.heap.size) s.heap T'.heap (lcs' ++ Lx) := ⟨by rw [e1]; exact hP', Nat.le_trans hr.2.1 (by rw [e1]; exact hz'), fun q q1 q2 => by rw [e1, hk' q (Nat.lt_of_lt_of_le q1 hr.2.1) (fun z => q2 (hpain q z))]; exact hr.2.2.1 q q1 q2, fun q hq => by
      rcases List.mem_append.mp hq with h | h
      · exact hr.2.2.2 q h
      · exact hpain _ (hLx q h)⟩
    have hno : lv_has ls' nL (pLl ad 0 []) := pLo.has (locs := []) ⟨hl'.1, hl'.2.1, fun i v hi => by cases hi⟩
    have hend : ∀ ls2 : Array Slot, (ls2.size = nL ∧ lv_wf ls2) → W p l e (nRm d 1 6) s m args below meth c T'.heap (lcs' ++ Lx) (0 + 1) (0 + 6) (vx_MQ below (pQ D SL ad ac s.heap.size Ps) (fun _ _ _ => False) args s 1 6 (pA SL ad s.heap.size)) (F0 m hp1 ls2 []) := fun ls2 hls => by
      have hc1 : pCx D SL ad ac y.cls cc nL d p (nRm d 1 6) s m args c (pA SL ad s.heap.size) (0 + 1) (0 + 6) := ⟨hc.1, hc.2.1, hc.2.2.1, ⟨hc.2.2.2.1.1, hc.2.2.2.1.2.1, Nat.le_refl _, Nat.le_refl _⟩, hc.2.2.2.2.1, hc.2.2.2.2.2⟩
      exact h2 l D ad ac p e _ s m args below meth c _ (0 + 1) (0 + 6) hc1 _ (fun pc9 locs9 st9 I9 J9 R9 H9 lcs9 ls9 hX9 hr9 hl9 => lcn_end hc1 hr0 hlk ⟨Nat.le_refl _, Nat.le_refl _⟩ hX9 hr9) T'.heap (lcs' ++ Lx) ls2 hr1 ⟨hls.1, hls.2, fun i v hi => by
        have := List.eq_of_mem_replicate (List.mem_of_getElem? hi)
        cases this⟩
    have hW : vx_W p l e (nRm d 1 6) s m args below meth c T'.heap (lcs' ++ Lx) (0 + 1) (0 + 6) (vx_MQ below (pQ D SL ad ac s.heap.size Ps) (fun _ _ _ => False) args s 1 6 (pA SL ad s.heap.size)) (F0 m pc' ls' (rest.map (tv ad))) q := by
      refine vx_catch (own := y.cls) (name := nsE) (E := nsE) (ce := ce) hc.1.2.2.2.1 [] ⟨a, b, hpc, ct⟩ [] (by rw [htab, hhe]; rfl) (fun z hz => nomatch hz) hcov hct (hc.1.2.2.2.2 _ hcl) (va_Nw.use rfl (hex.1 _ (by unfold nsX; simp))) (by rw [e1]; exact hce) hcv hclE ?_
      rcases hast with ⟨i, hdi, hi9, rfl⟩ | ⟨i, hdi, hi9, rfl⟩
      · exact lv_astore_n hc.1.1 hc.1.2.1 hdi rfl hno hi9 rfl (fun ls2 hl2 => hend ls2 ⟨hl2.1, hl2.2.1⟩)
      · exact lv_astore hc.1.1 hc.1.2.1 hdi hno hi9 rfl (fun ls2 hl2 => hend ls2 ⟨hl2.1, hl2.2.1⟩)
    obtain ⟨t2, a1, b1⟩ := hW T' rfl X'
    exact ⟨t2, stp.trans a1, b1⟩
end LCN
