/-! rows that make a cell -/
theorem pW_snoc {S : pS} {sh : Nat × Nat} {I : pI} {J : pJ} {R : pR} {ad ad' : Nat → Nat} {ac ac' : Nat → ClassId} (h : ∀ k, k < S.length → ad' k = ad k ∧ ac' k = ac k) (hR : ∀ k j x, k < S.length → R k j = some x → ad' x = ad x) : pW (S ++ [sh]) I J R ad' ac' = pW S I J R ad ac ++ [(ad' S.length, pE ad' (ac' S.length) sh (I S.length) (J S.length) (R S.length))] := by
  unfold pW
  rw [List.length_append, show S.length + [sh].length = S.length + 1 from rfl, List.range_succ, List.map_append]
  congr 1
  · refine List.map_congr_left (fun k hk => ?_)
    have hk' := List.mem_range.mp hk
    obtain ⟨a4, a5⟩ := h k hk'
    rw [a4, a5]
    rw [show (S ++ [sh]).getD k (0, 0) = S.getD k (0, 0) from by rw [List.getD_eq_getElem?_getD, List.getD_eq_getElem?_getD, List.getElem?_append_left hk']]
    rw [pE_ad (fun j x hx => hR k j x hk' hx)]
  · rw [List.map_cons, List.map_nil]
    rw [show (S ++ [sh]).getD S.length (0, 0) = sh from by rw [List.getD_eq_getElem?_getD, List.getElem?_append_right (Nat.le_refl _), Nat.sub_self]; rfl]
def upA {α : Type} (f : Nat → α) (n : Nat) (v : α) : Nat → α := fun h => if h = n then v else f h
theorem upA_eq {α : Type} (f : Nat → α) (n : Nat) (v : α) : upA f n v n = v := if_pos rfl
theorem upA_ne {α : Type} {f : Nat → α} {n h : Nat} {v : α} (q : h ≠ n) : upA f n v h = f h := if_neg q
theorem aRl_snoc {D : va_G} {n0 : Nat} {ad0 : Nat → Nat} {S : pS} {sh : Nat × Nat} {ad : Nat → Nat} {ac : Nat → ClassId} {I : pI} {J : pJ} {R : pR} {A : Nat → Prop} {s : State} {H H1 : Heap} {lcs lcs1 : List Loc} {q : Nat} {cA : ClassId} {e : va_E} (hr : aRl D n0 ad0 S ad ac I J R A s H lcs) (hl : S.length < 1000) (hR : ∀ k j, k < S.length → R k j ≠ some S.length) (he : e = pE (upA ad S.length q) cA sh (I S.length) (J S.length) (R S.length)) (hP : va_P D vwCl (pW S I J R ad ac ++ [(q, e)]) H1) (hD : va_D A (pW S I J R ad ac ++ [(q, e)])) (hS : va_S A s.heap H1 lcs1) (hK : ∀ ty, pAt sh.1 = some ty → ArrOfT s cA ty ∧ va_RA s cA ty) : aRl D n0 ad0 (S ++ [sh]) (upA ad S.length q) (upA ac S.length cA) I J R A s H1 lcs1 := by
  obtain ⟨r1, r2, r3, r4, r5, r7⟩ := hr
  have ew : pW (S ++ [sh]) I J R (upA ad S.length q) (upA ac S.length cA) = pW S I J R ad ac ++ [(q, e)] := by
    rw [pW_snoc (ad := ad) (ac := ac) (fun k hk => ⟨upA_ne (by omega), upA_ne (by omega)⟩) (fun k j x hk hx => upA_ne (fun z => hR k j hk (by rw [hx, z]))), upA_eq, upA_eq, he]
  have hlen : (S ++ [sh]).length = S.length + 1 := by rw [List.length_append]; rfl
  refine ⟨by rw [ew]; exact hP, hS, ⟨r3.1, fun a k n ty h1 h2 => ?_⟩, ⟨fun i j hi hj eq => ?_, fun i hi => ?_⟩, fun h hh => ?_, by omega⟩
  · by_cases ea : a = S.length
    · subst ea
      rw [List.getElem?_append_right (Nat.le_refl _), Nat.sub_self] at h1
      cases h1
      rw [upA_eq]
      exact hK ty h2
    · have hlt := (List.getElem?_eq_some_iff.mp h1).1
      rw [List.getElem?_append_left (by omega)] at h1
      rw [upA_ne ea]
      exact r3.2 a k n ty h1 h2
  · have gi : ∀ i, i < S.length + 1 → ∃ z, (pW S I J R ad ac ++ [(q, e)])[i]? = some z ∧ z.1 = upA ad S.length q i := by
      intro i hi
      rw [← ew]
      obtain ⟨s9, h9⟩ : ∃ s9, (S ++ [sh])[i]? = some s9 := ⟨_, List.getElem?_eq_getElem (by omega)⟩
      exact ⟨_, pW_get h9, rfl⟩
    obtain ⟨z1, y1, y2⟩ := gi i (by omega)
    obtain ⟨z2, y3, y4⟩ := gi j (by omega)
    exact hD.1 i j z1 z2 y1 y3 (by rw [y2, y4]; exact eq)
  · by_cases ei : i = S.length
    · rw [ei, upA_eq]
      have : (pW S I J R ad ac ++ [(q, e)])[S.length]? = some (q, e) := by rw [List.getElem?_append_right (by rw [pW_len]; exact Nat.le_refl _), pW_len, Nat.sub_self]; rfl
      exact hD.2 _ _ this
    · rw [upA_ne ei]; exact r4.2 i (by omega)
  · rw [upA_ne (by omega)]; exact r5 h hh
section AROWS2
variable {n0 : Nat} {own : String} {cc : ByteArray} {nL d cM sM : Nat} {ini : Bool} {pc : Nat} {locs : pLc} {st : List Value} {S : pS} {I : pI} {J : pJ} {R : pR} {cs sl : Nat} {X : pXa}
theorem aw_newa {n : Int32} {N k : Nat} {atype : ArrayType} {ty : FieldType} (pc' : Nat) (hp : pc + 2 = pc') (hd : decode cc pc = .ok (.newarray atype, 2)) (hw : Cond.arrayClass (newarray.typeOf atype) ∈ gt) (hty : newarray.typeOf atype = ty) (hat : pAt k = some ty) (hk : 100 ≤ k ∧ k ≤ 103) (ha : ∀ cA : ClassId, vp_cell cA (N, if k = 101 then .inr (.inl (fun _ => 0)) else .inl (fun _ => 0)) = arrV cA N (fun _ => defaultValue ty)) (hn : ¬ n < 0) (hN : n.toNatClampNeg = N) (hbytes : N * componentBytes ty ≤ 536870912) (hc1 : cs + 1 ≤ cM) (hs1 : sl + N ≤ sM) (n1 : Nat) (hn1 : S.length = n1) (hl : n1 < 1000) (hz : I n1 = (fun _ => 0) ∧ J n1 = (fun _ => 0)) (hR : ∀ k j, k < n1 → R k j ≠ some n1) (hlo : hrL n1 (n1 + 1) locs = true) (hst : st.all (hrV n1 (n1 + 1)) = true)
    (kk : AW n0 own cc nL d cM sM ini pc' locs (.ref n1 :: st) (S ++ [(k, N)]) I J R (cs + 1) (sl + N) X) : AW n0 own cc nL d cM sM ini pc locs (.int n :: st) S I J R cs sl X := by
  subst hp
  subst hn1
  exact fun l D ad0 p e Rm s m args below meth c A hc Qs hX ad ac H lcs ls hr hl2 => by
    have hrr := hc.2.2.2.1
    refine va_newa hc.1.1 hc.1.2.1 (hc.1.2.2.2.2 _ hw) hty hc.2.2.1 hr.1 (pD_of hr.2.2.2.1 I J R ac) hr.2.1 hc.2.1 (a0 := (N, if k = 101 then .inr (.inl (fun _ => 0)) else .inl (fun _ => 0))) ha hn hN hbytes (by omega) (by omega) hd (fun q cA H1 hK1 hP1 hD1 hS1 => ?_)
    have hr1 := aRl_snoc (sh := (k, N)) (cA := cA) hr hl hR (by
      unfold pE
      show _ = if k < 100 then _ else Sum.inl (cA, N, if k = 101 then _ else if k = 104 then _ else _)
      rw [if_neg (show ¬ k < 100 by omega), if_neg (show ¬ k = 104 by omega), hz.1, hz.2]) hP1 hD1 hS1 (fun ty h => by rw [hat] at h; cases h; exact hK1.2 0 _ rfl)
    have hne : ∀ h, ¬ (S.length ≤ h ∧ h < S.length + 1) → upA ad S.length q h = ad h := fun h z => upA_ne (by omega)
    have := kk l D ad0 p e Rm s m args below meth c A hc Qs hX _ _ H1 lcs ls hr1 (hrL_lo hne hlo hl2)
    rw [List.map_cons, hrS_st hne hst, show tv (upA ad S.length q) (Value.ref S.length) = Value.ref q from by show Value.ref _ = _; rw [upA_eq]] at this
    exact this
theorem pF_zero {f : Nat → Nat} {ty : FieldType} {k : Nat} (h : defaultValue ty = pF (fun _ => 0) (fun _ => 0) (fun _ => none) ty k) : defaultValue ty = pF f (fun _ => 0) (fun _ => none) ty k := by
  rw [h]
  unfold pF
  split <;> rfl
theorem aw_new {idx ci n : Nat} {C : String} {T : u_T} (pc' : Nat) (hp : pc + 3 = pc') (hd : decode cc pc = .ok (.new idx, 3)) (hq : vwCl[ci]? = some (C, T, n)) (hi : ci < 100) (hw : Cond.classLink own idx C ∈ gt ∧ Cond.instantiable C n ∈ gt ∧ Cond.initialized C ∈ gt) (hfs : ∀ j, j < n → defaultValue (pTy ci j) = pF (fun _ => 0) (fun _ => 0) (fun _ => none) (pTy ci j) j) (hc1 : cs + 1 ≤ cM) (hs1 : sl + n ≤ sM) (n1 : Nat) (hn1 : S.length = n1) (hl : n1 < 1000) (hz : I n1 = (fun _ => 0) ∧ R n1 = (fun _ => none)) (hR : ∀ k j, k < n1 → R k j ≠ some n1) (hlo : hrL n1 (n1 + 1) locs = true) (hst : st.all (hrV n1 (n1 + 1)) = true)
    (kk : AW n0 own cc nL d cM sM ini pc' locs (.ref n1 :: st) (S ++ [(ci, n)]) I J R (cs + 1) (sl + n) X) : AW n0 own cc nL d cM sM ini pc locs st S I J R cs sl X := by
  subst hp
  subst hn1
  exact fun l D ad0 p e Rm s m args below meth c A hc Qs hX ad ac H lcs ls hr hl2 => by
    have hrr := hc.2.2.2.1
    refine va_new (fs := pFs (fun _ => 0) (fun _ => 0) (fun _ => none) ci n) hc.1.1 hc.1.2.1 hc.1.2.2.2.2 (pIn ci _ hq) (pTy ci) (pTyok ci _ hq) hc.1.2.2.2.1 (hc.1.2.2.2.2 _ hw.1) (hc.1.2.2.2.2 _ hw.2.1) (hc.1.2.2.2.2 _ hw.2.2) hc.2.2.1 hr.1 (pD_of hr.2.2.2.1 I J R ac) hr.2.1 hc.2.1 hq (fun j hj => ?_) (by omega) (by show sl + n ≤ _; omega) hd (fun q H1 hP1 hD1 hS1 => ?_)
    · show _ = ((pFs (fun _ => 0) (fun _ => 0) (fun _ => none) ci n)[j]?).getD _
      rw [pFs_get hj]
      exact hfs j hj
    have hr1 := aRl_snoc (sh := (ci, n)) (cA := 0) hr hl hR (by
      rw [pE_obj hi, hz.1, hz.2]
      congr 2) hP1 hD1 hS1 (fun ty h => by
        exfalso
        unfold pAt at h
        split at h <;> first | omega | cases h)
    have hne : ∀ h, ¬ (S.length ≤ h ∧ h < S.length + 1) → upA ad S.length q h = ad h := fun h z => upA_ne (by omega)
    have := kk l D ad0 p e Rm s m args below meth c A hc Qs hX _ _ H1 lcs ls hr1 (hrL_lo hne hlo hl2)
    rw [List.map_cons, hrS_st hne hst, show tv (upA ad S.length q) (Value.ref S.length) = Value.ref q from by show Value.ref _ = _; rw [upA_eq]] at this
    exact this
/-- a final field, or one that is not, filled with a reference -/
theorem aw_putF {idx ci n k h a : Nat} (pc' : Nat) (hp : pc + 3 = pc') (hd : decode cc pc = .ok (.putfield idx, 3)) (hF : pFL own idx ci n k) (hfin : ∀ q, vwCl[ci]? = some q → (q.2.1 k).2.2.2 = true ∧ (q.2.1 k).1 = own) (hin : ini = true) (hS : S[h]? = some (ci, n)) (ht : isI (pTy ci k) = false) (hn : ∀ x : Nat, narrow (pTy ci k) (.ref x) = .ref x ∧ fits (pTy ci k) (.ref x) = true) (kk : AW n0 own cc nL d cM sM ini pc' locs st S I J (uR R h k (some a)) cs sl X) : AW n0 own cc nL d cM sM ini pc locs (.ref a :: .ref h :: st) S I J R cs sl X := by
  subst hp
  exact fun l D ad0 p e Rm s m args below meth c A hc Qs hX ad ac H lcs ls hr hl2 => by
    obtain ⟨⟨C, T, N⟩, h1, h2, h3, h4, h5⟩ := hF
    cases h2
    have hw := pW_get (I := I) (J := J) (R := R) (ad := ad) (ac := ac) hS
    rw [pE_obj h4] at hw
    have hD := pD_of hr.2.2.2.1 I J R ac
    refine va_putF (v := .ref (ad a)) hc.1.1 hc.1.2.1 hc.1.2.2.2.2 (pIn ci _ h1) (pTy ci) (pTyok ci _ h1) (pNm ci _ h1) hc.1.2.2.2.1 hc.2.2.1 hr.1 hD hr.2.1 h hw h1 k h3 (hc.1.2.2.2.2 _ h5) (fun _ h9 => h9) (hfin _ h1).1 (hc.2.2.2.2.2.1 hin) (hfin _ h1).2 (pTyok ci _ h1 k h3) (hn _).1 (hn _).2 (by rw [pFs_len]; exact h3) hd (fun H1 lcs1 hP1 hD1 hS1 => ?_)
    rw [pW_set (I' := I) (J' := J) (R' := uR R h k (some a)) hS (by rw [pE_obj h4, pFs_set h3 (Ih' := I h) (Rh' := uR R h k (some a) h) (by rw [pF_ref ht]; simp [uR, va_rf]) (fun j hj => ⟨rfl, by simp [uR, hj]⟩)]) (fun a' ha => ⟨rfl, rfl, by simp [uR, ha]⟩)] at hP1
    exact kk l D ad0 p e Rm s m args below meth c A hc Qs hX ad ac H1 lcs1 ls ⟨hP1, hS1, hr.2.2⟩ hl2
end AROWS2
