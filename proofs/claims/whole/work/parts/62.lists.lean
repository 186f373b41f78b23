/-! pictures by lists of what was put -/
def iL : List (Nat × Nat × Int32) → pI
  | [] => z2 0
  | e :: L => uI (iL L) e.1 e.2.1 e.2.2
def rU : List (Nat × Nat × Nat) → pR
  | [] => z2 none
  | e :: L => uR (rU L) e.1 e.2.1 (some e.2.2)
theorem uI_row {I : pI} {h k a : Nat} {v : Int32} (q : a ≠ h) : uI I h k v a = I a := if_neg q
theorem uR_row {R : pR} {h k a : Nat} {v : Option Nat} (q : a ≠ h) : uR R h k v a = R a := if_neg q
theorem iL_zero {L : List (Nat × Nat × Int32)} {n : Nat} (h : L.all (fun e => e.1 != n) = true) : iL L n = fun _ => 0 := by
  induction L with
  | nil => rfl
  | cons e L ih =>
    simp only [List.all_cons, Bool.and_eq_true, bne_iff_ne] at h
    show uI (iL L) e.1 e.2.1 e.2.2 n = _
    rw [uI_row (fun q => h.1 q.symm)]
    exact ih h.2
theorem rU_zero {L : List (Nat × Nat × Nat)} {n : Nat} (h : L.all (fun e => e.1 != n) = true) : rU L n = fun _ => none := by
  induction L with
  | nil => rfl
  | cons e L ih =>
    simp only [List.all_cons, Bool.and_eq_true, bne_iff_ne] at h
    show uR (rU L) e.1 e.2.1 (some e.2.2) n = _
    rw [uR_row (fun q => h.1 q.symm)]
    exact ih h.2
theorem rU_mem {L : List (Nat × Nat × Nat)} {k j x : Nat} (h : rU L k j = some x) : ∃ e ∈ L, e.2.2 = x := by
  induction L with
  | nil => cases h
  | cons e L ih =>
    have h' : uR (rU L) e.1 e.2.1 (some e.2.2) k j = some x := h
    rw [uR_at] at h'
    split at h'
    · split at h'
      · exact ⟨e, List.mem_cons_self, Option.some.inj h'⟩
      · obtain ⟨e9, h1, h2⟩ := ih h'
        exact ⟨e9, List.mem_cons_of_mem _ h1, h2⟩
    · obtain ⟨e9, h1, h2⟩ := ih h'
      exact ⟨e9, List.mem_cons_of_mem _ h1, h2⟩
theorem rU_ne {L : List (Nat × Nat × Nat)} {n : Nat} (h : L.all (fun e => e.2.2 != n) = true) : ∀ k j, k < n → rU L k j ≠ some n := fun k j _ q => by
  obtain ⟨e, h1, h2⟩ := rU_mem q
  have := List.all_eq_true.mp h e h1
  rw [bne_iff_ne] at this
  exact this h2
theorem rU_lt {L : List (Nat × Nat × Nat)} {o : Nat} (h : L.all (fun e => decide (e.2.2 < o + 1) || decide (1000 ≤ e.2.2)) = true) : ∀ k j x, k < o → rU L k j = some x → x < o + 1 ∨ 1000 ≤ x := fun k j x _ q => by
  obtain ⟨e, h1, h2⟩ := rU_mem q
  have := List.all_eq_true.mp h e h1
  rw [Bool.or_eq_true, decide_eq_true_eq, decide_eq_true_eq, h2] at this
  exact this
theorem rU_in {L : List (Nat × Nat × Nat)} {t na : Nat} (h : L.all (fun e => decide (e.2.2 < t) || (decide (1000 ≤ e.2.2) && decide (e.2.2 < 1000 + na))) = true) : ∀ k j x, k < t → rU L k j = some x → x < t ∨ (1000 ≤ x ∧ x < 1000 + na) := fun k j x _ q => by
  obtain ⟨e, h1, h2⟩ := rU_mem q
  have := List.all_eq_true.mp h e h1
  rw [Bool.or_eq_true, Bool.and_eq_true, decide_eq_true_eq, decide_eq_true_eq, decide_eq_true_eq, h2] at this
  exact this
def shI (o : Nat) (L : List (Nat × Nat × Int32)) : List (Nat × Nat × Int32) := L.map (fun e => (o + e.1, e.2))
def shR (o : Nat) (hs : List Nat) (L : List (Nat × Nat × Nat)) : List (Nat × Nat × Nat) := L.map (fun e => (o + e.1, e.2.1, rho o hs e.2.2))
theorem iL_in {o : Nat} {Lc L : List (Nat × Nat × Int32)} (h : L.all (fun e => decide (e.1 < o)) = true) (k : Nat) : iL (shI o Lc ++ L) (o + k) = iL Lc k := by
  induction Lc with
  | nil =>
    show iL L (o + k) = _
    rw [iL_zero (List.all_eq_true.mpr (fun e he => by have := List.all_eq_true.mp h e he; rw [decide_eq_true_eq] at this; rw [bne_iff_ne]; omega))]
    rfl
  | cons e Lc ih =>
    show uI (iL (shI o Lc ++ L)) (o + e.1) e.2.1 e.2.2 (o + k) = uI (iL Lc) e.1 e.2.1 e.2.2 k
    funext j
    rw [uI_at, uI_at, ih]
    by_cases q : k = e.1
    · rw [if_pos (by omega), if_pos q]
    · rw [if_neg (by omega), if_neg q]
theorem iL_out {o : Nat} {Lc L : List (Nat × Nat × Int32)} (k : Nat) (hk : k < o) : iL (shI o Lc ++ L) k = iL L k := by
  induction Lc with
  | nil => rfl
  | cons e Lc ih =>
    show uI (iL (shI o Lc ++ L)) (o + e.1) e.2.1 e.2.2 k = _
    rw [uI_row (by omega), ih]
theorem rU_app_in {o : Nat} {hs : List Nat} {Lc L : List (Nat × Nat × Nat)} (h : L.all (fun e => decide (e.1 < o)) = true) (k : Nat) : rU (shR o hs Lc ++ L) (o + k) = fun j => (rU Lc k j).map (rho o hs) := by
  induction Lc with
  | nil =>
    show rU L (o + k) = _
    rw [rU_zero (List.all_eq_true.mpr (fun e he => by have := List.all_eq_true.mp h e he; rw [decide_eq_true_eq] at this; rw [bne_iff_ne]; omega))]
    rfl
  | cons e Lc ih =>
    show uR (rU (shR o hs Lc ++ L)) (o + e.1) e.2.1 (some (rho o hs e.2.2)) (o + k) = fun j => (uR (rU Lc) e.1 e.2.1 (some e.2.2) k j).map (rho o hs)
    funext j
    rw [uR_at, uR_at, ih]
    by_cases q : k = e.1
    · rw [if_pos (by omega), if_pos q]
      by_cases q2 : j = e.2.1
      · rw [if_pos q2, if_pos q2]; rfl
      · rw [if_neg q2, if_neg q2]
    · rw [if_neg (by omega), if_neg q]
theorem rU_out {o : Nat} {hs : List Nat} {Lc L : List (Nat × Nat × Nat)} (k : Nat) (hk : k < o) : rU (shR o hs Lc ++ L) k = rU L k := by
  induction Lc with
  | nil => rfl
  | cons e Lc ih =>
    show uR (rU (shR o hs Lc ++ L)) (o + e.1) e.2.1 (some (rho o hs e.2.2)) k = _
    rw [uR_row (by omega), ih]
section ACTOR
variable {T : pS} {n0 : Nat} {own : String} {cc : ByteArray} {nL d cM sM : Nat} {ini : Bool} {pc : Nat} {locs : pLc} {st : List Value} {S : pS} {cs sl : Nat} {X : pXa} {y : MethodName} {bytes : ByteArray} {maxL d' mc ms ci n o : Nat} {asl : List Value} {hs : List Nat} {rest : List Value} {I : pI} {R : pR}
theorem aw_ctorM {idx : Nat} {C : String} (Lc : List (Nat × Nat × Int32)) (Mc : List (Nat × Nat × Nat)) (L : List (Nat × Nat × Int32)) (M : List (Nat × Nat × Nat)) (hI : I = iL L) (hRe : R = rU M) (pc' : Nat) (hp : pc + 3 = pc') (hd : decode cc pc = .ok (.invokespecial idx, 3)) (hlk : Cond.methodLink own idx y ∈ gt ∨ ∃ host, Cond.methodLinkNest own idx y host ∈ pNw) (hV : Cond.instanceMethod y ∈ gt ∧ Cond.initialized C ∈ gt ∧ Cond.code y bytes maxL none ∈ gt) (hC : NC d' y bytes maxL asl ci n T (iL Lc) (z2 0) (rU Mc) mc ms) (hy : y.cls = C ∧ y.cls ≠ "java/lang/invoke/MethodHandle" ∧ y.cls ≠ "java/lang/invoke/VarHandle" ∧ (parseMethodDescriptor y.desc).map (fun d => d.parameters.length) = some asl.length) (hyi : y.name = "<init>") (hdd : d' + 1 ≤ d) (hm : maxL ≤ 21) (hsm : (rest.map fun v => v.category).sum ≤ 8) (hroom : cs + mc ≤ cM ∧ sl + ms ≤ sM) (hci : ci < 100) (hasl : asl = (List.range hs.length).map (fun i => .ref (1000 + i))) (hst : st = (hs.map (fun h => Value.ref h)).reverse ++ .ref o :: rest) (hS : S.length = o + 1) (hSo : S[o]? = some (ci, n)) (hbig : o + 1 + T.length < 1000)
    (hhs : hs.all (fun h => decide (h < o) || decide (1000 ≤ h)) = true) (hL : L.all (fun e => decide (e.1 < o)) = true) (hM : M.all (fun e => decide (e.1 < o) && (decide (e.2.2 < o + 1) || decide (1000 ≤ e.2.2))) = true) (hMc : Mc.all (fun e => decide (e.2.2 < T.length + 1) || (decide (1000 ≤ e.2.2) && decide (e.2.2 < 1000 + hs.length))) = true) (hlo : hrL (o + 1) (o + 1 + T.length) locs = true) (hsr : rest.all (hrV (o + 1) (o + 1 + T.length)) = true) (hn0 : n0 ≤ o + 1)
    (kk : AW n0 own cc nL d cM sM ini pc' locs rest (S ++ T) (iL (shI o Lc ++ L)) (z2 0) (rU (shR o hs Mc ++ M)) (cs + mc) (sl + ms) X) : AW n0 own cc nL d cM sM ini pc locs st S I (z2 0) R cs sl X := by
  subst hI
  subst hRe
  have hM1 : M.all (fun e => decide (e.1 < o)) = true := List.all_eq_true.mpr (fun e he => by have := List.all_eq_true.mp hM e he; rw [Bool.and_eq_true] at this; exact this.1)
  have hM2 : M.all (fun e => decide (e.2.2 < o + 1) || decide (1000 ≤ e.2.2)) = true := List.all_eq_true.mpr (fun e he => by have := List.all_eq_true.mp hM e he; rw [Bool.and_eq_true] at this; exact this.2)
  refine aw_ctor (rest := rest) (asl := asl) (hs := hs) ?_ pc' hp hC hci hasl hst hS hSo hbig ⟨iL_zero (List.all_eq_true.mpr (fun e he => by have := List.all_eq_true.mp hL e he; rw [decide_eq_true_eq] at this; rw [bne_iff_ne]; omega)), rfl, rU_zero (List.all_eq_true.mpr (fun e he => by have := List.all_eq_true.mp hM1 e he; rw [decide_eq_true_eq] at this; rw [bne_iff_ne]; omega))⟩ (fun h hh => by have := List.all_eq_true.mp hhs h hh; rw [Bool.or_eq_true, decide_eq_true_eq, decide_eq_true_eq] at this; exact this) (rU_lt hM2) (rU_in hMc) hlo hsr (fun k _ => ⟨iL_in hL k, rfl, rU_app_in hM1 k⟩) (fun k hk => ⟨iL_out k hk, rfl, rU_out k hk⟩) kk hn0
  intro l D ad p e Rm s m args below meth c A H lcs ls Pc Qc free b As hc hMt hpre hAs hls
  have hrr := hc.2.2.2.1
  rcases hlk with hlk | ⟨host, hlk⟩
  · exact va_runI (index := idx) (n := asl.length) (bytes := bytes) (maxL := maxL) hc.1 hMt ⟨callB_of asl.length hc.1.2.2.2.2 (gt_in hV.2.2) rfl rfl rfl (by rw [hy.1]; exact hc.1.2.2.2.2 _ hV.2.1) (hc.1.2.2.2.2 _ hlk) hy.2 ⟨by show d' + 1 ≤ _; omega, by show 8 + (maxL + 11) + 40 * d' ≤ _; omega⟩, hyi, hc.1.2.2.2.2 _ hV.1⟩ hpre rfl hAs hls rfl (lv_room (tv_sum hsm)) hd ⟨by omega, by omega⟩
  · exact va_runIN (host := host) (index := idx) (n := asl.length) (bytes := bytes) (maxL := maxL) hc.1 hMt ⟨va_cnB asl.length hc.1.2.2.2.2 (gt_in hV.2.2) rfl rfl rfl (hc.2.2.2.2.1.1 _ hlk) (by rw [hy.1]; exact hc.1.2.2.2.2 _ hV.2.1) hy.2 ⟨by show d' + 1 ≤ _; omega, by show 8 + (maxL + 11) + 40 * d' ≤ _; omega⟩, hyi, hc.1.2.2.2.2 _ hV.1⟩ hpre rfl hAs hls rfl (lv_room (tv_sum hsm)) hd ⟨by omega, by omega⟩
end ACTOR
