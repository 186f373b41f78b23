/-! a row of rows of numbers -/
theorem aw_mna {n0 : Nat} {own : String} {cc : ByteArray} {nL d cM sM : Nat} {ini : Bool} {pc : Nat} {locs : pLc} {st : List Value} {S : pS} {I : pI} {J : pJ} {R R2 : pR} {cs sl : Nat} {X : pXa} {n k : Int32} {N K idx : Nat} (pc' : Nat) (hp : pc + 4 = pc') (hd : decode cc pc = .ok (.multianewarray idx 2, 4)) (hw : Cond.classLink own idx ("[" ++ (FieldType.array .int).toString) ∈ gt ∧ Cond.arrayClass .int ∈ gt) (hn : ¬ n < 0) (hk : ¬ k < 0) (hN : n.toNatClampNeg = N) (hKk : k.toNatClampNeg = K) (hb : N ≤ 1000 ∧ K ≤ 1000) (hc1 : cs + (1 + N) ≤ cM) (hs1 : sl + (N + N * K) ≤ sM) (n1 : Nat) (hn1 : S.length = n1) (hl : n1 + 1 + N < 1000) (hz : ∀ h, n1 ≤ h → h < n1 + 1 + N → I h = (fun _ => 0)) (hR : ∀ k j x, k < n1 → R k j = some x → x < n1 ∨ 1000 ≤ x) (hR2 : ∀ k, k < n1 → R2 k = R k) (hR3 : R2 n1 = fun i => if i < N then some (n1 + 1 + i) else none) (hlo : hrL n1 (n1 + 1 + N) locs = true) (hst : st.all (hrV n1 (n1 + 1 + N)) = true)
    (kk : AW n0 own cc nL d cM sM ini pc' locs (.ref n1 :: st) (S ++ (104, N) :: List.replicate N (100, K)) I J R2 (cs + 1 + N) (sl + N + N * K) X) : AW n0 own cc nL d cM sM ini pc locs (.int k :: .int n :: st) S I J R cs sl X := by
  subst hp
  subst hn1
  exact fun l D ad0 p e Rm s m args below meth c A hc Qs hX ad ac H lcs ls hr hl2 => by
    have hrr := hc.2.2.2.1
    obtain ⟨r1, r2, r3, r4, r5, r7⟩ := id hr
    have hwA := hc.1.2.2.2.2 _ hw.2
    obtain ⟨cy, kA, comp, hcy, hkA, hkind⟩ := Cond.arrayClass_spec hwA
    refine va_mna (X := pW S I J R ad ac) (L := []) (f := fun _ => .inl (0, 0, .inl (fun _ => 0))) (z := (K, .inl (fun _ => 0))) (ty := .int) (cy := cy) hc.1.1 hc.1.2.1 hc.1.2.2.2.1 (hc.1.2.2.2.2 _ hw.1) hc.2.2.2.2.2.2 hwA hcy hc.2.2.1 (by simpa [va_pl] using r1) (by simpa [va_pl] using pD_of r4 I J R ac) r2 hc.2.1 hn hk hN hKk (by omega) (by show K * 4 ≤ _; omega) (by omega) rfl rfl (by omega) (by omega) (fun c => by
      show ({ cls := c, slots := Array.replicate K (.int 0), vm := .none } : Cell) = _
      rw [arrV_new]
      rfl) hd (fun q r cA H1 hinj hnL hK1 hP1 hD1 hS1 => ?_)
    let ad2 : Nat → Nat := fun h => if h = S.length then q else if S.length < h ∧ h < S.length + 1 + N then r (h - S.length - 1) else ad h
    let ac2 : Nat → ClassId := fun h => if h = S.length then cA else if S.length < h ∧ h < S.length + 1 + N then cy else ac h
    have ad2_0 : ad2 S.length = q := if_pos rfl
    have ad2_r : ∀ i, i < N → ad2 (S.length + 1 + i) = r i := fun i hi => by
      show (if _ then _ else _) = _
      rw [if_neg (by omega), if_pos (by omega)]
      congr 1
      omega
    have hne : ∀ h, ¬ (S.length ≤ h ∧ h < S.length + 1 + N) → ad2 h = ad h := fun h hh => by
      show (if _ then _ else _) = _
      rw [if_neg (by omega), if_neg (by omega)]
    have ac2_0 : ac2 S.length = cA := if_pos rfl
    have ac2_r : ∀ i, i < N → ac2 (S.length + 1 + i) = cy := fun i hi => by
      show (if _ then _ else _) = _
      rw [if_neg (by omega), if_pos (by omega)]
    have ac2_ne : ∀ h, h < S.length → ac2 h = ac h := fun h hh => by
      show (if _ then _ else _) = _
      rw [if_neg (by omega), if_neg (by omega)]
    have hlen : (S ++ (104, N) :: List.replicate N (100, K)).length = S.length + 1 + N := by simp; omega
    have hS_0 : ∀ a, a < S.length → (S ++ (104, N) :: List.replicate N (100, K))[a]? = S[a]? := fun a ha => List.getElem?_append_left ha
    have hS_1 : (S ++ (104, N) :: List.replicate N (100, K))[S.length]? = some (104, N) := by rw [List.getElem?_append_right (Nat.le_refl _), Nat.sub_self]; rfl
    have hS_2 : ∀ i, i < N → (S ++ (104, N) :: List.replicate N (100, K))[S.length + 1 + i]? = some (100, K) := fun i hi => by
      rw [List.getElem?_append_right (by omega), show S.length + 1 + i - S.length = i + 1 by omega, List.getElem?_cons_succ, List.getElem?_replicate, if_pos hi]
    generalize hLw : ((pW S I J R ad ac ++ [(q, Sum.inl (cA, N, Sum.inr (Sum.inr (Sum.inr (Sum.inr (fun i => if i < N then some (r i) else none))))))]) ++ va_pl ([] ++ (List.range N).map r) (vr_up (fun _ => Sum.inl (0, 0, Sum.inl (fun _ => 0))) ((List.range N).map r) (Sum.inl (cy, (K, Sum.inl (fun _ => 0)))))) = Lw at hP1 hD1
    have hx : (pW S I J R ad ac).length = S.length := pW_len
    have hG : ∀ a sh, (S ++ (104, N) :: List.replicate N (100, K))[a]? = some sh → Lw[a]? = some (ad2 a, pE ad2 (ac2 a) sh (I a) (J a) (R2 a)) := by
      intro a sh ha
      have hlt := (List.getElem?_eq_some_iff.mp ha).1
      rw [hlen] at hlt
      rw [← hLw]
      by_cases c1 : a < S.length
      · rw [hS_0 a c1] at ha
        rw [List.append_assoc, List.getElem?_append_left (by rw [hx]; exact c1), pW_get ha, hne a (by omega), ac2_ne a c1, hR2 a c1, pE_ad (ad := ad) (fun j x hx => hne x (by have := hR a j x c1 hx; omega))]
      · by_cases c2 : a = S.length
        · subst c2
          rw [hS_1] at ha
          cases ha
          rw [List.append_assoc, List.getElem?_append_right (by rw [hx]; exact Nat.le_refl _), hx, Nat.sub_self, ad2_0, ac2_0, hR3]
          show some (q, _) = some (q, _)
          unfold pE
          show some (q, _) = some (q, if 104 < 100 then _ else Sum.inl (cA, N, if 104 = 101 then _ else if 104 = 104 then _ else _))
          rw [if_neg (by decide), if_neg (by decide), if_pos rfl]
          have ef : (fun i => if i < N then some (r i) else none) = (fun i => (if i < N then some (S.length + 1 + i) else none).map ad2) := funext (fun i => by
            by_cases hi : i < N
            · rw [if_pos hi, if_pos hi]; show _ = some (ad2 _); rw [ad2_r i hi]
            · rw [if_neg hi, if_neg hi]; rfl)
          rw [ef]
        · obtain ⟨i, rfl⟩ : ∃ i, a = S.length + 1 + i := ⟨a - S.length - 1, by omega⟩
          have hi : i < N := by omega
          rw [hS_2 i hi] at ha
          cases ha
          have ex : (pW S I J R ad ac ++ [(q, Sum.inl (cA, N, Sum.inr (Sum.inr (Sum.inr (Sum.inr (fun i => if i < N then some (r i) else none))))))]).length = S.length + 1 := by rw [List.length_append, hx]; rfl
          rw [List.getElem?_append_right (by rw [ex]; omega), ex, show S.length + 1 + i - (S.length + 1) = i by omega, ad2_r i hi, ac2_r i hi, hz _ (by omega) (by omega)]
          unfold va_pl
          rw [List.getElem?_map, List.nil_append, List.getElem?_map, List.getElem?_range hi]
          show some (r i, _) = _
          rw [vr_up_in (List.mem_map.mpr ⟨i, List.mem_range.mpr hi, rfl⟩)]
          rfl
    have hr1 : aRl D n0 ad0 (S ++ (104, N) :: List.replicate N (100, K)) ad2 ac2 I J R2 A s H1 lcs := by
      refine ⟨fun a z hz' => ?_, hS1, ⟨r3.1, fun a k9 n9 ty h1 h2 => ?_⟩, ⟨fun i j hi hj eq => ?_, fun i hi => ?_⟩, fun h hh => ?_, by omega⟩
      · obtain ⟨hk1, -⟩ := pW_at hz'
        obtain ⟨sh, hsh⟩ : ∃ sh, (S ++ (104, N) :: List.replicate N (100, K))[a]? = some sh := ⟨_, List.getElem?_eq_getElem hk1⟩
        rw [pW_get hsh] at hz'
        cases hz'
        exact hP1 a _ (hG a sh hsh)
      · have hlt := (List.getElem?_eq_some_iff.mp h1).1
        rw [hlen] at hlt
        by_cases c1 : a < S.length
        · rw [hS_0 a c1] at h1
          rw [ac2_ne a c1]
          exact r3.2 a k9 n9 ty h1 h2
        · by_cases c2 : a = S.length
          · subst c2
            rw [hS_1] at h1
            cases h1
            cases h2
            rw [ac2_0]
            exact hK1.2 0 _ rfl
          · obtain ⟨i, rfl⟩ : ∃ i, a = S.length + 1 + i := ⟨a - S.length - 1, by omega⟩
            have hi : i < N := by omega
            rw [hS_2 i hi] at h1
            cases h1
            cases h2
            rw [ac2_r i hi]
            exact ⟨fun n z => ⟨fun k h => (by cases h), kA, hkA, comp, hkind⟩, hcy⟩
      · obtain ⟨s1, h1⟩ : ∃ sh, (S ++ (104, N) :: List.replicate N (100, K))[i]? = some sh := ⟨_, List.getElem?_eq_getElem hi⟩
        obtain ⟨s2, h2⟩ : ∃ sh, (S ++ (104, N) :: List.replicate N (100, K))[j]? = some sh := ⟨_, List.getElem?_eq_getElem hj⟩
        exact hD1.1 i j _ _ (hG i s1 h1) (hG j s2 h2) eq
      · obtain ⟨s1, h1⟩ : ∃ sh, (S ++ (104, N) :: List.replicate N (100, K))[i]? = some sh := ⟨_, List.getElem?_eq_getElem hi⟩
        exact hD1.2 i _ (hG i s1 h1)
      · rw [hne h (by omega)]; exact r5 h hh
    have := kk l D ad0 p e Rm s m args below meth c A hc Qs hX ad2 ac2 H1 lcs ls hr1 (hrL_lo hne hlo hl2)
    rw [List.map_cons, hrS_st hne hst, show tv ad2 (Value.ref S.length) = Value.ref q from by show Value.ref _ = _; rw [ad2_0]] at this
    exact this
def mnL (n1 N : Nat) : List (Nat × Nat × Nat) := (List.range N).map (fun j => (n1, j, n1 + 1 + j))
