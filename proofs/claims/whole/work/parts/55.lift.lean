/-! a contract over a part of a world is one over the world -/
def shV (o : Nat) (v : Value) : Value := match v with
  | .ref h => .ref (o + h)
  | w => w
theorem tv_shV (ad : Nat → Nat) (o : Nat) (v : Value) : tv ad (shV o v) = tv (fun k => ad (o + k)) v := by cases v <;> rfl
theorem pF_sh (ad : Nat → Nat) (o : Nat) (Ih : Nat → Int32) (Rk : Nat → Option Nat) (ty : FieldType) (k : Nat) : pF ad Ih (fun j => (Rk j).map (o + ·)) ty k = pF (fun k => ad (o + k)) Ih Rk ty k := by
  unfold pF
  split <;> first | rfl | (rw [Option.map_map]; rfl)
theorem pE_sh (ad : Nat → Nat) (o : Nat) (ca : ClassId) (sh : Nat × Nat) (Ih : Nat → Int32) (Jh : Nat → Int64) (Rk : Nat → Option Nat) : pE ad ca sh Ih Jh (fun j => (Rk j).map (o + ·)) = pE (fun k => ad (o + k)) ca sh Ih Jh Rk := by
  have e : pFs ad Ih (fun j => (Rk j).map (o + ·)) sh.1 sh.2 = pFs (fun k => ad (o + k)) Ih Rk sh.1 sh.2 := by
    unfold pFs
    exact List.map_congr_left (fun k _ => pF_sh ad o Ih Rk _ k)
  have e2 : (fun k => ((Rk k).map (o + ·)).map ad) = (fun k => (Rk k).map (fun k => ad (o + k))) := funext (fun k => by rw [Option.map_map]; rfl)
  unfold pE
  rw [e]
  show (if sh.1 < 100 then _ else Sum.inl (ca, sh.2, if sh.1 = 101 then _ else if sh.1 = 104 then Sum.inr (Sum.inr (Sum.inr (Sum.inr (fun k => ((Rk k).map (o + ·)).map ad)))) else _)) = _
  rw [e2]
theorem va_at_ltQ {D : va_G} {cl : List vw_C} {q : Nat × va_E} {H : Heap} (h : va_at D cl q H) : q.1 < H.size := by
  obtain ⟨a, e⟩ := q
  cases e with
  | inl x => exact (Array.getElem?_eq_some_iff.mp (show H[a]? = some _ from h)).1
  | inr x =>
    obtain ⟨r, h1, cell, g1, -⟩ := h
    exact (Array.getElem?_eq_some_iff.mp g1).1
theorem va_at_kept {D : va_G} {cl : List vw_C} {q : Nat × va_E} {H H1 : Heap} (h : va_at D cl q H) (hk : H1[q.1]? = H[q.1]?) : va_at D cl q H1 := by
  obtain ⟨a, e⟩ := q
  cases e with
  | inl x => exact (show H1[a]? = some _ from hk.trans h)
  | inr x =>
    obtain ⟨r, h1, cell, g1, g2⟩ := h
    exact ⟨r, h1, cell, hk.trans g1, g2⟩
theorem pX.narrow {A B : Nat → Prop} {s : State} (h : pX A s) (hB : ∀ q, B q → A q) : pX B s := by
  obtain ⟨h1, t, h2, h3⟩ := h
  exact ⟨h1, t, h2.narrow hB, h3.narrow hB⟩
def gl {α : Type} (o n : Nat) (f1 f : Nat → α) : Nat → α := fun h => if o ≤ h ∧ h < o + n then f1 (h - o) else f h
theorem gl_in {α : Type} {o n k : Nat} {f1 f : Nat → α} (h : k < n) : gl o n f1 f (o + k) = f1 k := by rw [gl, if_pos (by omega), Nat.add_sub_cancel_left]
theorem gl_out {α : Type} {o n k : Nat} {f1 f : Nat → α} (h : ¬ (o ≤ k ∧ k < o + n)) : gl o n f1 f k = f k := if_neg h
/-- big pictures whose part from o on is that of S -/
def agr (o : Nat) (S : pS) (I1 : pI) (J1 : pJ) (R1 : pR) (I : pI) (J : pJ) (R : pR) : Prop := ∀ k, k < S.length → I (o + k) = I1 k ∧ J (o + k) = J1 k ∧ R (o + k) = fun j => (R1 k j).map (o + ·)
def lfP (o : Nat) (S : pS) (I : pI) (J : pJ) (R : pR) (Ps : Option Value → pI → pJ → pR → Prop) : Option Value → pI → pJ → pR → Prop := fun r I2 J2 R2 => ∃ r1 I1 J1 R1, Ps r1 I1 J1 R1 ∧ r = r1.map (shV o) ∧ agr o S I1 J1 R1 I2 J2 R2 ∧ ∀ k, ¬ (o ≤ k ∧ k < o + S.length) → I2 k = I k ∧ J2 k = J k ∧ R2 k = R k
theorem PC.lift {S S' : pS} {o : Nat} (hS : ∀ k, k < S.length → S'[o + k]? = S[k]?) (hl : o + S.length ≤ S'.length) {d : Nat} {y : MethodName} {cc : ByteArray} {nL : Nat} {ret : Option FieldType} {as : List Value} {I1 I : pI} {J1 J : pJ} {R1 R : pR} {Ps : Option Value → pI → pJ → pR → Prop} (h : PC S d y cc nL ret as I1 J1 R1 Ps) (ha : agr o S I1 J1 R1 I J R) : PC S' d y cc nL ret (as.map (shV o)) I J R (lfP o S I J R Ps) := by
  intro l D ad ac sz p e hA hc hk s m args below hf happ hpre htr
  obtain ⟨hargs, hsz, hP, hK, hinj, hpx⟩ := hpre
  have hpa : ∀ q, pA S (fun k => ad (o + k)) sz q → pA S' ad sz q := by
    rintro q (⟨k, k1, rfl⟩ | z)
    · exact Or.inl ⟨o + k, by omega, rfl⟩
    · exact Or.inr z
  have cellP : ∀ (I' : pI) (J' : pJ) (R' : pR) (I2 : pI) (J2 : pJ) (R2 : pR) (H : Heap), agr o S I2 J2 R2 I' J' R' → va_P D vwCl (pW S' I' J' R' ad ac) H → va_P D vwCl (pW S I2 J2 R2 (fun k => ad (o + k)) (fun k => ac (o + k))) H := by
    intro I' J' R' I2 J2 R2 H hag hp k q hq
    obtain ⟨hk1, -⟩ := pW_at hq
    obtain ⟨sh, hsh⟩ : ∃ sh, S[k]? = some sh := ⟨_, List.getElem?_eq_getElem hk1⟩
    rw [pW_get hsh] at hq
    cases hq
    obtain ⟨a1, a2, a3⟩ := hag k hk1
    have h2 := hp (o + k) _ (pW_get (S := S') (h := o + k) (by rw [hS k hk1]; exact hsh))
    rw [a1, a2, a3, pE_sh] at h2
    exact h2
  obtain ⟨k, oo, h1, h2, h3, ⟨⟨⟨r, I2, J2, R2, e1, e2, e3⟩, hF⟩, Lx, hL1, hL2⟩⟩ := h l D (fun k => ad (o + k)) (fun k => ac (o + k)) sz p e hA hc hk s m args below hf happ ⟨by rw [hargs, List.map_map]; congr 1; exact List.map_congr_left (fun v _ => tv_shV ad o v), hsz, cellP I J R I1 J1 R1 _ ha hP, ⟨hK.1, fun a k n ty q1 q2 => hK.2 (o + a) k n ty (by rw [hS a (List.getElem?_eq_some_iff.mp q1).1]; exact q1) q2⟩, fun i j q1 q2 q3 => by have := hinj (o + i) (o + j) (by omega) (by omega) q3; omega, hpx.narrow hpa⟩ htr
  refine ⟨k, oo, h1, h2, h3, ⟨⟨⟨r.map (shV o), gl o S.length I2 I, gl o S.length J2 J, gl o S.length (fun k j => (R2 k j).map (o + ·)) R, ?_, ⟨r, I2, J2, R2, e2, rfl, fun k q => ⟨gl_in q, gl_in q, gl_in q⟩, fun k q => ⟨gl_out q, gl_out q, gl_out q⟩⟩, ?_⟩, hF.1, fun q q1 q2 => hF.2 q q1 (fun z => q2 (hpa q z))⟩, Lx, hL1, fun q hq => hpa _ (hL2 q hq)⟩⟩
  · rw [e1]
    cases r with
    | none => rfl
    | some v => show Outcome.returned (some _) = Outcome.returned (some _); rw [tv_shV]
  · intro a q hq
    obtain ⟨ha1, -⟩ := pW_at hq
    obtain ⟨sh, hsh⟩ : ∃ sh, S'[a]? = some sh := ⟨_, List.getElem?_eq_getElem ha1⟩
    rw [pW_get hsh] at hq
    cases hq
    by_cases c : o ≤ a ∧ a < o + S.length
    · obtain ⟨b, rfl⟩ : ∃ b, a = o + b := ⟨a - o, by omega⟩
      have hb : b < S.length := by omega
      rw [gl_in hb, gl_in hb, gl_in hb, pE_sh]
      exact e3 b _ (pW_get (by rw [← hS b hb]; exact hsh))
    · rw [gl_out c, gl_out c, gl_out c]
      have h0 := hP a _ (pW_get hsh)
      refine va_at_kept h0 (hF.2 _ (va_at_ltQ h0) ?_)
      rintro (⟨b, b1, b2⟩ | z)
      · have := hinj (o + b) a (by omega) ha1 b2
        omega
      · have := va_at_ltQ h0
        rw [hsz] at this
        exact absurd z (Nat.not_le.mpr this)
