/-! a RULE as a text: how the reference reads it (descending), how the class reads it (signs waiting); both the same -/
def pNum (v : Nat) : Nat → List Nat → Nat × List Nat
  | 0, r => (v, r)
  | _ + 1, [] => (v, [])
  | k + 1, c :: r => if isDg c = true then pNum (10 * v + (c - 48)) k r else (v, c :: r)
def pThing (X : List Nat → Except (List Nat) (((Nat → Int32) → Int32) × List Nat)) (may : Bool) : List Nat → Except (List Nat) (((Nat → Int32) → Int32) × List Nat)
  | [] => .error []
  | c :: cs => if c = 45 then (match pThing X may cs with
      | .error r => .error r
      | .ok q => .ok (fun lt => -(q.1 lt), q.2))
    else if c = 40 ∧ may = true then (match X cs with
      | .error r => .error r
      | .ok q => if q.2.head? = some 41 then .ok (q.1, q.2.tail) else .error q.2)
    else if isDg c = true then .ok (fun _ => nI (pNum (c - 48) 2 cs).1, (pNum (c - 48) 2 cs).2)
    else if letB c = true then .ok (fun lt => lt c, cs) else .error (c :: cs)
def pLoop (T : List Nat → Except (List Nat) (((Nat → Int32) → Int32) × List Nat)) (c1 c2 : Nat) : Nat → ((Nat → Int32) → Int32) → List Nat → Except (List Nat) (((Nat → Int32) → Int32) × List Nat)
  | 0, f, r => .ok (f, r)
  | _ + 1, f, [] => .ok (f, [])
  | k + 1, f, c :: cs => if c = c1 ∨ c = c2 then (match T cs with
      | .error e => .error e
      | .ok q => pLoop T c1 c2 k (fun lt => jn c (f lt) (q.1 lt)) q.2) else .ok (f, c :: cs)
def pLp (T : List Nat → Except (List Nat) (((Nat → Int32) → Int32) × List Nat)) (c1 c2 : Nat) (cs : List Nat) : Except (List Nat) (((Nat → Int32) → Int32) × List Nat) := match T cs with
  | .error e => .error e
  | .ok q => pLoop T c1 c2 q.2.length q.1 q.2
def pCmp (S : List Nat → Except (List Nat) (((Nat → Int32) → Int32) × List Nat)) (cs : List Nat) : Except (List Nat) (((Nat → Int32) → Int32) × List Nat) := match S cs with
  | .error e => .error e
  | .ok (f, []) => .ok (f, [])
  | .ok (f, c :: r) => if c = 60 ∨ c = 62 ∨ c = 61 then (match S r with
      | .error e => .error e
      | .ok q => .ok (fun lt => jn c (f lt) (q.1 lt), q.2)) else .ok (f, c :: r)
def pHeld : Nat → List Nat → Except (List Nat) (((Nat → Int32) → Int32) × List Nat)
  | 0, cs => pCmp (pLp (pLp (pThing (fun r => .error r) false) 42 47) 43 45) cs
  | k + 1, cs => pCmp (pLp (pLp (pThing (pHeld k) true) 42 47) 43 45) cs
def strn (c : Nat) : Nat := if c = 60 ∨ c = 62 ∨ c = 61 then 1 else if c = 43 ∨ c = 45 then 2 else if c = 42 ∨ c = 47 then 3 else if c = 256 then 4 else 0
def rls (s : Nat) : List Nat → List Nat → List Nat × List Nat
  | [], cd => ([], cd)
  | w :: ws, cd => if strn w < s then (w :: ws, cd) else rls s ws (cd ++ [1000 + w])
/-- the class's reading: codes, waiting (the last first), depth, compared, wants a thing, digits -/
abbrev mSt := List Nat × List Nat × Nat × (Nat → Bool) × Bool × Nat
def mSp (z : mSt) (c : Nat) : Option mSt := match z with
  | (cd, wt, dp, cm, wn, dg) => if wn = true then
      (if c = 45 then some (cd, 256 :: wt, dp, cm, true, dg)
      else if c = 40 then (if 4 ≤ dp then none else some (cd, 40 :: wt, dp + 1, fun i => if i = dp + 1 then false else cm i, true, dg))
      else if isDg c = true then some (cd ++ [c - 48], wt, dp, cm, false, 1)
      else if letB c = true then some (cd ++ [1000 + c], wt, dp, cm, false, 0) else none)
    else (if isDg c = true then (if dg < 1 ∨ 2 < dg then none else some (cd.dropLast ++ [cd.getLastD 0 * 10 + (c - 48)], wt, dp, cm, false, dg + 1))
      else if c = 41 then (if dp < 1 then none else some ((rls 1 wt cd).2, (rls 1 wt cd).1.tail, dp - 1, cm, false, 0))
      else if c = 256 ∨ strn c < 1 ∨ (strn c = 1 ∧ cm dp = true) then none
      else some ((rls (strn c) wt cd).2, c :: (rls (strn c) wt cd).1, dp, if strn c = 1 then (fun i => if i = dp then true else cm i) else cm, true, dg))
def runM (z : mSt) : List Nat → Except (List Nat) mSt
  | [] => .ok z
  | c :: cs => match mSp z c with
    | none => .error (c :: cs)
    | some z' => runM z' cs
theorem rls_all {s : Nat} {wt : List Nat} (hw : ∀ w, wt.head? = some w → strn w < s) : ∀ (P cd : List Nat), (∀ w ∈ P, s ≤ strn w) → rls s (P ++ wt) cd = (wt, cd ++ P.map (fun w => 1000 + w))
  | [], cd, _ => by
    rcases wt with _ | ⟨w, ws⟩
    · simp [rls]
    · simp [rls, hw w rfl]
  | p :: P, cd, h => by
    have h1 := h p (List.mem_cons_self ..)
    show rls s (p :: (P ++ wt)) cd = _
    rw [rls, if_neg (by omega), rls_all hw P _ (fun w hm => h w (List.mem_cons_of_mem _ hm))]
    simp
def hdOk (s : Nat) (cmd : Bool) (r : List Nat) : Prop := ∀ c, r.head? = some c → (s ≤ 3 → c ≠ 42 ∧ c ≠ 47) ∧ (s ≤ 2 → c ≠ 43 ∧ c ≠ 45) ∧ (s ≤ 1 → (c = 60 ∨ c = 62 ∨ c = 61) → cmd = true)
/-- where the class stands when a piece of strength s has been read -/
def gPo (s : Nat) (cd wt : List Nat) (dp : Nat) (cm : Nat → Bool) (f : (Nat → Int32) → Int32) (r : List Nat) (z : Except (List Nat) mSt) : Prop :=
  ∃ c1 P cm' dg', z = runM (cd ++ c1, P ++ wt, dp, cm', false, dg') r ∧ (∀ w ∈ P, s ≤ strn w) ∧ (∀ i, i < dp + (if s ≤ 1 then 0 else 1) → cm' i = cm i) ∧
    (∀ lt st, evC lt (c1 ++ P.map (fun w => 1000 + w)) st = f lt :: st) ∧ (dg' < 1 ∨ 2 < dg' ∨ ∀ c, r.head? = some c → isDg c = false) ∧ hdOk s (cm' dp) r
def gRe (s : Nat) (cs cd wt : List Nat) (dp : Nat) (cm : Nat → Bool) (z : Except (List Nat) mSt) : Except (List Nat) (((Nat → Int32) → Int32) × List Nat) → Prop
  | .error e => e.length ≤ cs.length ∧ (if e = [] then ∃ y, z = .ok y ∧ (y.2.2.2.2.1 = true ∨ 0 < y.2.2.1) else z = .error e)
  | .ok q => q.2.length < cs.length ∧ gPo s cd wt dp cm q.1 q.2 z
def Gd (s : Nat) (X : List Nat → Except (List Nat) (((Nat → Int32) → Int32) × List Nat)) (dp : Nat) : Prop := ∀ cs cd wt cm dg, (s ≤ 3 → ∀ w, wt.head? = some w → strn w < s) → (s ≤ 1 → cm dp = false) → gRe s cs cd wt dp cm (runM (cd, wt, dp, cm, true, dg) cs) (X cs)
theorem evC_app (lt : Nat → Int32) : ∀ (a b : List Nat) (s : List Int32), evC lt (a ++ b) s = evC lt b (evC lt a s)
  | [], _, _ => rfl
  | c :: a, b, s => by show evC lt (a ++ b) _ = evC lt b (evC lt a _); exact evC_app lt a b _
theorem evC_num {lt : Nat → Int32} {v : Nat} {st : List Int32} (h : v < 1000) : evC lt [v] st = nI v :: st := by show stC lt v st = _; rw [stC.eq_def, if_pos h]
theorem evC_let {lt : Nat → Int32} {c : Nat} {st : List Int32} (h : letB c = true) : evC lt [1000 + c] st = lt c :: st := by
  show stC lt _ st = _
  rw [stC.eq_def, if_neg (by omega), show 1000 + c - 1000 = c by omega, if_pos h]
theorem evC_neg {lt : Nat → Int32} {x : Int32} {st : List Int32} : evC lt [1000 + 256] (x :: st) = (-x) :: st := by
  rw [evC, evC, stC.eq_def, if_neg (by omega), if_neg (by decide), if_pos rfl]
theorem evC_op {lt : Nat → Int32} {c : Nat} {x y : Int32} {st : List Int32} (h : isOp c) : evC lt [1000 + c] (y :: x :: st) = jn c x y :: st := by
  obtain ⟨h1, h2, h3⟩ := op_nlet h
  rw [evC, evC, stC.eq_def, if_neg (by omega), show 1000 + c - 1000 = c by omega, if_neg (by rw [h1]; decide), if_neg (by omega)]
theorem strn_op {c : Nat} (h : 1 ≤ strn c) (h2 : c ≠ 256) : isOp c := by
  unfold strn at h
  unfold isOp
  by_cases a : c = 60 ∨ c = 62 ∨ c = 61
  · omega
  · rw [if_neg a] at h
    by_cases b : c = 43 ∨ c = 45
    · omega
    · rw [if_neg b] at h
      by_cases d : c = 42 ∨ c = 47
      · omega
      · rw [if_neg d, if_neg h2] at h; omega
theorem pNum_run {cd wt : List Nat} {dp : Nat} {cm : Nat → Bool} : ∀ (k v dg : Nat) (r : List Nat), dg + k = 3 → 1 ≤ dg → (pNum v k r).2.length ≤ r.length ∧ ∃ dg', runM (cd ++ [v], wt, dp, cm, false, dg) r = runM (cd ++ [(pNum v k r).1], wt, dp, cm, false, dg') (pNum v k r).2 ∧ (2 < dg' ∨ ∀ c, (pNum v k r).2.head? = some c → isDg c = false)
  | 0, v, dg, r, h, h1 => ⟨Nat.le_refl _, dg, rfl, Or.inl (by omega)⟩
  | k + 1, v, dg, [], h, h1 => ⟨Nat.le_refl _, dg, rfl, Or.inr (fun c hc => by cases hc)⟩
  | k + 1, v, dg, c :: r, h, h1 => by
    by_cases hd : isDg c = true
    · obtain ⟨e1, dg', e2, e3⟩ := pNum_run k (10 * v + (c - 48)) (dg + 1) r (by omega) (by omega) (cd := cd) (wt := wt) (dp := dp) (cm := cm)
      rw [pNum, if_pos hd]
      refine ⟨by rw [List.length_cons]; omega, dg', ?_, e3⟩
      rw [← e2, runM, mSp]
      simp only [if_neg (show ¬ (false = true) by decide), if_pos hd, if_neg (show ¬ (dg < 1 ∨ 2 < dg) by omega), List.dropLast_concat, List.getLastD_concat]
      rw [Nat.mul_comm]
    · rw [pNum, if_neg hd]
      refine ⟨Nat.le_refl _, dg, rfl, Or.inr (fun c' hc => ?_)⟩
      rw [List.head?_cons, Option.some.injEq] at hc
      rw [← hc]
      cases e : isDg c with
      | false => rfl
      | true => exact absurd e hd
theorem pNum_lt : ∀ (k v : Nat) (r : List Nat), (pNum v k r).1 < (v + 1) * 10 ^ k
  | 0, v, r => by rw [pNum]; omega
  | k + 1, v, [] => by
    rw [pNum, Nat.pow_succ]
    have := Nat.pow_pos (n := k) (show 0 < 10 by decide)
    have h2 := Nat.mul_le_mul_left (v + 1) (show 1 ≤ 10 ^ k * 10 by omega)
    show v < _
    omega
  | k + 1, v, c :: r => by
    rw [pNum]
    by_cases hd : isDg c = true
    · rw [if_pos hd]
      have h := pNum_lt k (10 * v + (c - 48)) r
      have hc : c ≤ 57 := by simp [isDg] at hd; exact hd.2
      have h2 := Nat.mul_le_mul_right (10 ^ k) (show 10 * v + (c - 48) + 1 ≤ (v + 1) * 10 by omega)
      rw [Nat.pow_succ, Nat.mul_comm (10 ^ k) 10, ← Nat.mul_assoc]
      omega
    · rw [if_neg hd, Nat.pow_succ]
      have := Nat.pow_pos (n := k) (show 0 < 10 by decide)
      have h2 := Nat.mul_le_mul_left (v + 1) (show 1 ≤ 10 ^ k * 10 by omega)
      show v < _
      omega
theorem thing_gd {X : List Nat → Except (List Nat) (((Nat → Int32) → Int32) × List Nat)} {may : Bool} {dp : Nat} (hm : may = true ↔ dp < 4) (hX : may = true → Gd 1 X (dp + 1)) : Gd 4 (pThing X may) dp := by
  intro cs
  induction cs with
  | nil =>
    intro cd wt cm dg _ _
    exact ⟨Nat.le_refl _, by rw [if_pos rfl]; exact ⟨_, rfl, Or.inl rfl⟩⟩
  | cons c cs ih =>
    intro cd wt cm dg h1 h2
    rw [pThing, runM, mSp]
    by_cases e45 : c = 45
    · simp only [if_pos e45, if_true]
      have h := ih cd (256 :: wt) cm dg (fun q => absurd q (by decide)) (fun q => absurd q (by decide))
      revert h
      rcases pThing X may cs with e | ⟨f, r⟩
      · rintro ⟨a, b⟩
        exact ⟨by rw [List.length_cons]; omega, b⟩
      · rintro ⟨a, c1, P, cm', dg', b1, b2, b3, b4, b5, b6⟩
        refine ⟨by rw [List.length_cons]; exact Nat.lt_succ_of_lt a, c1, P ++ [256], cm', dg', ?_, ?_, b3, ?_, b5, b6⟩
        · rw [b1]; simp
        · intro w hw
          rcases List.mem_append.mp hw with q | q
          · exact b2 w q
          · rw [List.mem_singleton.mp q]; decide
        · intro lt st
          rw [List.map_append, ← List.append_assoc, evC_app, b4]
          exact evC_neg
    · rw [if_neg e45, if_neg e45, if_pos rfl]
      by_cases e40 : c = 40
      · subst e40
        rw [if_pos rfl]
        by_cases hd : dp < 4
        · have hy := hm.mpr hd
          rw [if_pos (show 40 = 40 ∧ may = true from ⟨rfl, hy⟩), if_neg (show ¬ 4 ≤ dp by omega)]
          have h := hX hy cs cd (40 :: wt) (fun i => if i = dp + 1 then false else cm i) dg (fun _ w hw => by
            rw [List.head?_cons, Option.some.injEq] at hw
            rw [← hw]; decide) (fun _ => if_pos rfl)
          revert h
          rcases X cs with e | ⟨f, r⟩
          · rintro ⟨a, b⟩
            exact ⟨by rw [List.length_cons]; omega, b⟩
          · rintro ⟨a, c1, P, cm', dg', b1, b2, b3, b4, b5, b6⟩
            show gRe 4 _ _ _ _ _ _ (if r.head? = some 41 then _ else _)
            rcases r with _ | ⟨x, r⟩
            · rw [if_neg (by decide)]
              refine ⟨Nat.zero_le _, ?_⟩
              rw [if_pos rfl]
              exact ⟨_, b1, Or.inr (Nat.succ_pos _)⟩
            · rw [List.head?_cons]
              by_cases ex : x = 41
              · rw [if_pos (by rw [ex])]
                have a' : r.length + 1 < cs.length := a
                refine ⟨by rw [List.length_cons]; show r.length < _; omega, c1 ++ P.map (fun w => 1000 + w), [], cm', 0, ?_, fun w hw => (by cases hw), ?_, fun lt st => by rw [List.map_nil, List.append_nil]; exact b4 lt st, Or.inl (by decide), fun q hq => ⟨fun z => absurd z (by decide), fun z => absurd z (by decide), fun z => absurd z (by decide)⟩⟩
                · show runM _ cs = runM _ r
                  rw [b1, show (f, x :: r).snd = x :: r from rfl, runM, mSp]
                  simp only [if_neg (show ¬ (false = true) by decide)]
                  rw [ex, if_neg (by decide), if_pos rfl, if_neg (by omega), rls_all (wt := 40 :: wt) (fun w hw => by
                    rw [List.head?_cons, Option.some.injEq] at hw
                    rw [← hw]; decide) P _ b2]
                  simp
                · intro i hi
                  rw [if_neg (by decide)] at hi
                  rw [b3 i (by rw [if_pos (by decide)]; exact hi)]
                  exact if_neg (by omega)
              · rw [if_neg (by intro q; rw [Option.some.injEq] at q; exact ex q)]
                refine ⟨by rw [List.length_cons]; exact Nat.le_of_lt (Nat.lt_succ_of_lt a), ?_⟩
                rw [if_neg (by intro q; cases q)]
                show runM _ cs = _
                rw [b1, show (f, x :: r).snd = x :: r from rfl, runM, mSp]
                simp only [if_neg (show ¬ (false = true) by decide)]
                obtain ⟨k1, k2, k3⟩ := b6 x rfl
                by_cases hdg : isDg x = true
                · rw [if_pos hdg]
                  rw [if_pos (by
                    rcases b5 with q | q | q
                    · exact Or.inl q
                    · exact Or.inr q
                    · have := q x rfl; rw [hdg] at this; cases this)]
                · rw [if_neg hdg, if_neg ex]
                  rw [if_pos (by
                    by_cases ec : x = 60 ∨ x = 62 ∨ x = 61
                    · exact Or.inr (Or.inr ⟨by rw [strn, if_pos ec], k3 (by decide) ec⟩)
                    · by_cases e256 : x = 256
                      · exact Or.inl e256
                      · refine Or.inr (Or.inl ?_)
                        have q1 := k1 (by decide)
                        have q2 := k2 (by decide)
                        rw [strn, if_neg ec, if_neg (by omega), if_neg (by omega), if_neg e256]
                        decide)]
        · have hn : ¬ (40 = 40 ∧ may = true) := fun q => hd (hm.mp q.2)
          rw [if_neg hn, if_pos (show 4 ≤ dp by omega), if_neg (by decide), if_neg (by decide)]
          exact ⟨Nat.le_refl _, by rw [if_neg (by intro q; cases q)]⟩
      · rw [if_neg (fun q : c = 40 ∧ may = true => e40 q.1), if_neg e40]
        by_cases hdg : isDg c = true
        · rw [if_pos hdg, if_pos hdg]
          obtain ⟨a1, dg', a2, a3⟩ := pNum_run (cd := cd) (wt := wt) (dp := dp) (cm := cm) 2 (c - 48) 1 cs rfl (by decide)
          have hl := pNum_lt 2 (c - 48) cs
          have hc : c ≤ 57 := by simp [isDg] at hdg; exact hdg.2
          refine ⟨by rw [List.length_cons]; exact Nat.lt_succ_of_le a1, [(pNum (c - 48) 2 cs).1], [], cm, dg', a2, fun w hw => (by cases hw), fun _ _ => rfl, fun lt st => ?_, Or.inr a3, fun q hq => ⟨fun z => absurd z (by decide), fun z => absurd z (by decide), fun z => absurd z (by decide)⟩⟩
          exact evC_num (by omega)
        · rw [if_neg hdg, if_neg hdg]
          by_cases hl : letB c = true
          · rw [if_pos hl, if_pos hl]
            exact ⟨by rw [List.length_cons]; exact Nat.lt_succ_self _, [1000 + c], [], cm, 0, rfl, fun w hw => (by cases hw), fun _ _ => rfl, fun lt st => evC_let hl, Or.inl (by decide), fun q hq => ⟨fun z => absurd z (by decide), fun z => absurd z (by decide), fun z => absurd z (by decide)⟩⟩
          · rw [if_neg hl, if_neg hl]
            exact ⟨Nat.le_refl _, by rw [if_neg (by intro q; cases q)]⟩
/-- a sign that joins, taken behind a thing -/
theorem join_sp {s c : Nat} {cd c1 wt P : List Nat} {dp dg : Nat} {cm : Nat → Bool} (hc : strn c = s) (h1 : 1 ≤ s) (hn : isDg c = false) (h41 : c ≠ 41) (h256 : c ≠ 256) (hP : ∀ w ∈ P, s ≤ strn w) (hw : ∀ w, wt.head? = some w → strn w < s) (hm : s = 1 → cm dp = false) : mSp (cd ++ c1, P ++ wt, dp, cm, false, dg) c = some (cd ++ (c1 ++ P.map (fun w => 1000 + w)), c :: wt, dp, if s = 1 then (fun i => if i = dp then true else cm i) else cm, true, dg) := by
  rw [mSp]
  simp only [if_neg (show ¬ (false = true) by decide)]
  rw [if_neg (by rw [hn]; decide), if_neg h41, if_neg (by
    rintro (q | q | ⟨q1, q2⟩)
    · exact h256 q
    · omega
    · rw [hm (by omega)] at q2; cases q2), hc, rls_all hw P _ hP]
  simp
theorem loop_gd {T : List Nat → Except (List Nat) (((Nat → Int32) → Int32) × List Nat)} {a b s dp : Nat} (hs : s = 2 ∧ a = 43 ∧ b = 45 ∨ s = 3 ∧ a = 42 ∧ b = 47) (hT : Gd (s + 1) T dp) : ∀ (k : Nat) (f : (Nat → Int32) → Int32) (r cd wt c1 P : List Nat) (cm : Nat → Bool) (dg : Nat), r.length ≤ k → (∀ w, wt.head? = some w → strn w < s) → (∀ w ∈ P, s ≤ strn w) → (∀ lt st, evC lt (c1 ++ P.map (fun w => 1000 + w)) st = f lt :: st) → (dg < 1 ∨ 2 < dg ∨ ∀ c, r.head? = some c → isDg c = false) → hdOk (s + 1) (cm dp) r →
    (match pLoop T a b k f r with
    | .error e => e.length ≤ r.length ∧ (if e = [] then ∃ y, runM (cd ++ c1, P ++ wt, dp, cm, false, dg) r = .ok y ∧ (y.2.2.2.2.1 = true ∨ 0 < y.2.2.1) else runM (cd ++ c1, P ++ wt, dp, cm, false, dg) r = .error e)
    | .ok q => q.2.length ≤ r.length ∧ gPo s cd wt dp cm q.1 q.2 (runM (cd ++ c1, P ++ wt, dp, cm, false, dg) r)) := by
  intro k
  have fin : ∀ (f : (Nat → Int32) → Int32) (r cd wt c1 P : List Nat) (cm : Nat → Bool) (dg : Nat), (∀ w ∈ P, s ≤ strn w) → (∀ lt st, evC lt (c1 ++ P.map (fun w => 1000 + w)) st = f lt :: st) → (dg < 1 ∨ 2 < dg ∨ ∀ c, r.head? = some c → isDg c = false) → hdOk s (cm dp) r → gPo s cd wt dp cm f r (runM (cd ++ c1, P ++ wt, dp, cm, false, dg) r) := by
    intro f r cd wt c1 P cm dg h1 h2 h3 h4
    exact ⟨c1, P, cm, dg, rfl, h1, fun _ _ => rfl, h2, h3, h4⟩
  induction k with
  | zero =>
    intro f r cd wt c1 P cm dg hr hw hP hE hD hH
    have : r = [] := List.length_eq_zero_iff.mp (by omega)
    subst this
    exact ⟨Nat.le_refl _, fin _ _ _ _ _ _ _ _ hP hE hD (fun c hc => by cases hc)⟩
  | succ k ih =>
    intro f r cd wt c1 P cm dg hr hw hP hE hD hH
    rcases r with _ | ⟨c, r⟩
    · exact ⟨Nat.le_refl _, fin _ _ _ _ _ _ _ _ hP hE hD (fun c hc => by cases hc)⟩
    · rw [pLoop]
      by_cases hc : c = a ∨ c = b
      · rw [if_pos hc]
        have hst : strn c = s ∧ isDg c = false ∧ c ≠ 41 ∧ c ≠ 256 ∧ isOp c := by
          rcases hs with ⟨rfl, rfl, rfl⟩ | ⟨rfl, rfl, rfl⟩ <;> rcases hc with rfl | rfl <;> refine ⟨by decide, by decide, by decide, by decide, ?_⟩ <;> simp [isOp]
        have hstep := join_sp (cd := cd) (c1 := c1) (dp := dp) (dg := dg) (cm := cm) hst.1 (by omega) hst.2.1 hst.2.2.1 hst.2.2.2.1 hP hw (fun q => by omega)
        rw [if_neg (by omega)] at hstep
        have h := hT r (cd ++ (c1 ++ P.map (fun w => 1000 + w))) (c :: wt) cm dg (fun _ w hw' => by
          rw [List.head?_cons, Option.some.injEq] at hw'
          rw [← hw', hst.1]; omega) (fun q => by omega)
        have hrun : runM (cd ++ c1, P ++ wt, dp, cm, false, dg) (c :: r) = runM (cd ++ (c1 ++ P.map (fun w => 1000 + w)), c :: wt, dp, cm, true, dg) r := by rw [runM, hstep]
        rw [hrun]
        revert h
        rcases T r with e | ⟨g, r'⟩
        · rintro ⟨p, q⟩
          exact ⟨by rw [List.length_cons]; omega, q⟩
        · rintro ⟨p, c2, P2, cm', dg', b1, b2, b3, b4, b5, b6⟩
          have h := ih (fun lt => jn c (f lt) (g lt)) r' cd wt (c1 ++ P.map (fun w => 1000 + w) ++ c2) (P2 ++ [c]) cm' dg' (by
            have p' : r'.length < r.length := p
            rw [List.length_cons] at hr
            omega) hw (by
            intro w hw'
            rcases List.mem_append.mp hw' with q | q
            · have := b2 w q; omega
            · rw [List.mem_singleton.mp q, hst.1]; omega) (by
            intro lt st
            rw [List.map_append, show c1 ++ P.map (fun w => 1000 + w) ++ c2 ++ (P2.map (fun w => 1000 + w) ++ [c].map (fun w => 1000 + w)) = (c1 ++ P.map (fun w => 1000 + w)) ++ ((c2 ++ P2.map (fun w => 1000 + w)) ++ [1000 + c]) by simp, evC_app, hE, evC_app, b4]
            exact evC_op hst.2.2.2.2) b5 b6
          rw [b1]
          rw [show cd ++ (c1 ++ P.map (fun w => 1000 + w)) ++ c2 = cd ++ (c1 ++ P.map (fun w => 1000 + w) ++ c2) by simp, show P2 ++ c :: wt = (P2 ++ [c]) ++ wt by simp]
          have p' : r'.length < r.length := p
          revert h
          simp only
          rcases pLoop T a b k (fun lt => jn c (f lt) (g lt)) r' with e | ⟨f2, r2⟩
          · rintro ⟨u, v⟩
            exact ⟨by rw [List.length_cons]; omega, v⟩
          · rintro ⟨u, c3, P3, cm3, dg3, d1, d2, d3, d4, d5, d6⟩
            have u' : r2.length ≤ r'.length := u
            refine ⟨by rw [List.length_cons]; show r2.length ≤ _; omega, c3, P3, cm3, dg3, d1, d2, fun i hi => ?_, d4, d5, d6⟩
            rw [d3 i hi]
            exact b3 i (by rw [if_neg (by omega)]; rw [if_neg (by omega)] at hi; exact hi)
      · rw [if_neg hc]
        refine ⟨Nat.le_refl _, fin _ _ _ _ _ _ _ _ hP hE hD (fun x hx => ?_)⟩
        obtain ⟨k1, k2, k3⟩ := hH x hx
        rw [List.head?_cons, Option.some.injEq] at hx
        rcases hs with ⟨rfl, rfl, rfl⟩ | ⟨rfl, rfl, rfl⟩
        · exact ⟨fun _ => k1 (by decide), fun _ => by omega, fun q => absurd q (by decide)⟩
        · exact ⟨fun _ => by omega, fun q => absurd q (by decide), fun q => absurd q (by decide)⟩
theorem lp_gd {T : List Nat → Except (List Nat) (((Nat → Int32) → Int32) × List Nat)} {a b s dp : Nat} (hs : s = 2 ∧ a = 43 ∧ b = 45 ∨ s = 3 ∧ a = 42 ∧ b = 47) (hT : Gd (s + 1) T dp) : Gd s (pLp T a b) dp := by
  intro cs cd wt cm dg h1 h2
  have hw := h1 (by omega)
  have h := hT cs cd wt cm dg (fun _ w hw' => by have := hw w hw'; omega) (fun q => by omega)
  rw [pLp]
  revert h
  rcases T cs with e | ⟨f, r⟩
  · exact fun h => h
  · rintro ⟨p, c1, P, cm', dg', b1, b2, b3, b4, b5, b6⟩
    have h := loop_gd hs hT r.length f r cd wt c1 P cm' dg' (Nat.le_refl _) hw (fun w q => by have := b2 w q; omega) b4 b5 b6
    rw [b1]
    have p' : r.length < cs.length := p
    show gRe s cs cd wt dp cm _ (pLoop T a b r.length f r)
    revert h
    show (match pLoop T a b r.length f r with
      | .error e => _
      | .ok q => _) → _
    rcases pLoop T a b r.length f r with e | ⟨f2, r2⟩
    · rintro ⟨u, v⟩
      exact ⟨by omega, v⟩
    · rintro ⟨u, c3, P3, cm3, dg3, d1, d2, d3, d4, d5, d6⟩
      have u' : r2.length ≤ r.length := u
      refine ⟨by show r2.length < _; omega, c3, P3, cm3, dg3, d1, d2, fun i hi => ?_, d4, d5, d6⟩
      rw [d3 i hi]
      exact b3 i (by rw [if_neg (by omega)]; rw [if_neg (by omega)] at hi; exact hi)
theorem cmp_gd {S : List Nat → Except (List Nat) (((Nat → Int32) → Int32) × List Nat)} {dp : Nat} (hS : Gd 2 S dp) : Gd 1 (pCmp S) dp := by
  intro cs cd wt cm dg h1 h2
  have hw := h1 (by omega)
  have h := hS cs cd wt cm dg (fun _ w hw' => by have := hw w hw'; omega) (fun q => by omega)
  rw [pCmp]
  revert h
  rcases S cs with e | ⟨f, r⟩
  · exact fun h => h
  · rintro ⟨p, c1, P, cm', dg', b1, b2, b3, b4, b5, b6⟩
    have p' : r.length < cs.length := p
    have hcm : cm' dp = false := by rw [b3 dp (by rw [if_neg (by decide)]; omega)]; exact h2 (by decide)
    rcases r with _ | ⟨c, r⟩
    · exact ⟨p, c1, P, cm', dg', b1, fun w q => by have := b2 w q; omega, fun i hi => b3 i (by rw [if_neg (by decide)]; rw [if_pos (by decide)] at hi; omega), b4, b5, fun c hc => by cases hc⟩
    · by_cases hc : c = 60 ∨ c = 62 ∨ c = 61
      · show gRe 1 _ _ _ _ _ _ (if _ then _ else _)
        rw [if_pos hc]
        have hst : strn c = 1 ∧ isDg c = false ∧ c ≠ 41 ∧ c ≠ 256 ∧ isOp c := by
          rcases hc with rfl | rfl | rfl <;> refine ⟨by decide, by decide, by decide, by decide, ?_⟩ <;> simp [isOp]
        have hstep := join_sp (cd := cd) (c1 := c1) (dp := dp) (dg := dg') (cm := cm') hst.1 (by omega) hst.2.1 hst.2.2.1 hst.2.2.2.1 (fun w q => by have := b2 w q; omega) hw (fun q => hcm)
        rw [if_pos rfl] at hstep
        rw [b1]
        have hrun : runM (cd ++ c1, P ++ wt, dp, cm', false, dg') (c :: r) = runM (cd ++ (c1 ++ P.map (fun w => 1000 + w)), c :: wt, dp, (fun i => if i = dp then true else cm' i), true, dg') r := by rw [runM, hstep]
        rw [show (f, c :: r).snd = c :: r from rfl, hrun]
        have h := hS r (cd ++ (c1 ++ P.map (fun w => 1000 + w))) (c :: wt) (fun i => if i = dp then true else cm' i) dg' (fun _ w hw' => by
          rw [List.head?_cons, Option.some.injEq] at hw'
          rw [← hw', hst.1]; omega) (fun q => by omega)
        rw [List.length_cons] at p'
        revert h
        rcases S r with e | ⟨g, r'⟩
        · rintro ⟨u, v⟩
          exact ⟨by omega, v⟩
        · rintro ⟨u, c2, P2, cm2, dg2, d1, d2, d3, d4, d5, d6⟩
          have u' : r'.length < r.length := u
          refine ⟨by show r'.length < _; omega, c1 ++ P.map (fun w => 1000 + w) ++ c2, P2 ++ [c], cm2, dg2, ?_, ?_, ?_, ?_, d5, ?_⟩
          · rw [d1]; simp
          · intro w hw'
            rcases List.mem_append.mp hw' with q | q
            · have := d2 w q; omega
            · rw [List.mem_singleton.mp q, hst.1]; omega
          · intro i hi
            rw [if_pos (by decide)] at hi
            rw [d3 i (by rw [if_neg (by decide)]; omega)]
            show (if i = dp then true else cm' i) = _
            rw [if_neg (by omega), b3 i (by rw [if_neg (by decide)]; omega)]
          · intro lt st
            rw [List.map_append, show c1 ++ P.map (fun w => 1000 + w) ++ c2 ++ (P2.map (fun w => 1000 + w) ++ [c].map (fun w => 1000 + w)) = (c1 ++ P.map (fun w => 1000 + w)) ++ ((c2 ++ P2.map (fun w => 1000 + w)) ++ [1000 + c]) by simp, evC_app, b4, evC_app, d4]
            exact evC_op hst.2.2.2.2
          · intro x hx
            obtain ⟨k1, k2, k3⟩ := d6 x hx
            refine ⟨fun _ => k1 (by decide), fun _ => k2 (by decide), fun _ _ => ?_⟩
            rw [d3 dp (by rw [if_neg (by decide)]; omega)]
            exact if_pos rfl
      · show gRe 1 _ _ _ _ _ _ (if _ then _ else _)
        rw [if_neg hc]
        refine ⟨p, c1, P, cm', dg', b1, fun w q => by have := b2 w q; omega, fun i hi => b3 i (by rw [if_neg (by decide)]; rw [if_pos (by decide)] at hi; omega), b4, b5, fun x hx => ?_⟩
        obtain ⟨k1, k2, k3⟩ := b6 x hx
        rw [show (f, c :: r).snd = c :: r from rfl, List.head?_cons, Option.some.injEq] at hx
        exact ⟨fun _ => k1 (by decide), fun _ => k2 (by decide), fun _ q => absurd (hx ▸ q) hc⟩
theorem held_gd : ∀ (k dp : Nat), dp + k = 4 → Gd 1 (pHeld k) dp
  | 0, dp, h => by
    intro cs
    rw [pHeld]
    exact cmp_gd (lp_gd (Or.inl ⟨rfl, rfl, rfl⟩) (lp_gd (Or.inr ⟨rfl, rfl, rfl⟩) (thing_gd (may := false) (by simp; omega) (fun q => by cases q)))) cs
  | k + 1, dp, h => by
    intro cs
    rw [pHeld]
    exact cmp_gd (lp_gd (Or.inl ⟨rfl, rfl, rfl⟩) (lp_gd (Or.inr ⟨rfl, rfl, rfl⟩) (thing_gd (may := true) (by simp; omega) (fun _ => held_gd k (dp + 1) (by omega))))) cs
/-- where a text goes wrong as a RULE; what it tells -/
def wrR (tx : List Nat) : Option Nat := if tx = [] then none else match pHeld 4 (tx.take 40) with
  | .error e => some ((tx.take 40).length - e.length)
  | .ok q => if q.2 = [] ∧ tx.length ≤ 40 then none else some ((tx.take 40).length - q.2.length)
def ruF (tx : List Nat) : (Nat → Int32) → Int32 := if tx = [] then (fun lt => nI 1 + lt 112 / nI 4) else match pHeld 4 (tx.take 40) with
  | .error _ => fun _ => nI 0
  | .ok q => q.1
def mIn : mSt := ([], [], 0, fun _ => false, true, 0)
theorem class_rd {tx : List Nat} (h : tx ≠ []) : match runM mIn (tx.take 40) with
    | .error e => wrR tx = some ((tx.take 40).length - e.length)
    | .ok z => if 40 < tx.length then wrR tx = some 40 else if z.2.2.2.2.1 = true ∨ 0 < z.2.2.1 then wrR tx = some tx.length else wrR tx = none ∧ ∀ lt, evC lt (rls 1 z.2.1 z.1).2 [] = [ruF tx lt] := by
  have hg := held_gd 4 0 rfl (tx.take 40) [] [] (fun _ => false) 0 (fun _ w hw => by cases hw) (fun _ => rfl)
  have hl : (tx.take 40).length = min 40 tx.length := List.length_take
  rw [wrR, ruF, if_neg h, if_neg h]
  rw [show mIn = ([], [], 0, fun _ => false, true, 0) from rfl]
  revert hg
  rcases pHeld 4 (tx.take 40) with e | ⟨f, r⟩
  · rintro ⟨a, b⟩
    by_cases he : e = []
    · rw [if_pos he] at b
      obtain ⟨y, b1, b2⟩ := b
      rw [b1]
      subst he
      show if _ then _ else _
      by_cases hL : 40 < tx.length
      · rw [if_pos hL]; show some _ = _; rw [hl, Nat.min_eq_left (by omega)]; rfl
      · rw [if_neg hL, if_pos b2]; show some _ = _; rw [hl, Nat.min_eq_right (by omega)]; rfl
    · rw [if_neg he] at b
      rw [b]
  · rintro ⟨p, c1, P, cm', dg', b1, b2, b3, b4, b5, b6⟩
    rw [b1]
    rcases r with _ | ⟨x, r⟩
    · show if _ then _ else _
      by_cases hL : 40 < tx.length
      · rw [if_pos hL]
        show (if _ then _ else _) = _
        rw [if_neg (by intro q; omega), hl, Nat.min_eq_left (by omega)]; rfl
      · rw [if_neg hL, if_neg (by rintro (q | q) <;> cases q)]
        refine ⟨?_, fun lt => ?_⟩
        · show (if _ then _ else _) = _
          rw [if_pos ⟨rfl, by omega⟩]
        · show evC lt (rls 1 (P ++ []) ([] ++ c1)).2 [] = _
          rw [rls_all (fun w hw => by cases hw) P _ b2]
          exact b4 lt []
    · obtain ⟨k1, k2, k3⟩ := b6 x rfl
      have e : runM (([] : List Nat) ++ c1, P ++ [], 0, cm', false, dg') (x :: r) = .error (x :: r) := by
        rw [runM, mSp]
        simp only [if_neg (show ¬ (false = true) by decide)]
        by_cases hdg : isDg x = true
        · rw [if_pos hdg]
          rw [if_pos (by
            rcases b5 with q | q | q
            · exact Or.inl q
            · exact Or.inr q
            · have := q x rfl; rw [hdg] at this; cases this)]
        · rw [if_neg hdg]
          by_cases ex : x = 41
          · rw [if_pos ex, if_pos (by decide)]
          · rw [if_neg ex]
            rw [if_pos (by
              by_cases ec : x = 60 ∨ x = 62 ∨ x = 61
              · exact Or.inr (Or.inr ⟨by rw [strn, if_pos ec], k3 (by decide) ec⟩)
              · by_cases e256 : x = 256
                · exact Or.inl e256
                · refine Or.inr (Or.inl ?_)
                  have q1 := k1 (by decide)
                  have q2 := k2 (by decide)
                  rw [strn, if_neg ec, if_neg (by omega), if_neg (by omega), if_neg e256]
                  decide)]
      rw [show (f, x :: r).snd = x :: r from rfl, e]
      show (if _ then _ else _) = _
      rw [if_neg (by intro q; cases q.1)]
