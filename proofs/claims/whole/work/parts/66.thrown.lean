/-! methods that throw -/
def xXC (D : va_G) (S : pS) (ad : Nat → Nat) (ac : Nat → ClassId) (I : pI) (J : pJ) (R : pR) (sz : Nat) : String → State → State → Prop := fun E st t => E = nsE ∧ va_P D vwCl (pW S I J R ad ac) t.heap ∧ va_F (pA S ad sz) st t
def XTh (S : pS) (d : Nat) (y : MethodName) (cc : ByteArray) (nL : Nat) (ret : Option FieldType) (as : List Value) (I : pI) (J : pJ) (R : pR) : Prop :=
  ∀ (l : Launch) (D : va_G) (ad : Nat → Nat) (ac : Nat → ClassId) (sz : Nat), l.stackTraces = false → vx_Met l y (Cond.code y cc nL ret :: gt) (nRm d 1 6) (va_Pc (as.map (tv ad)) (fun U => pB D S ad ac I J R sz U ∧ exE (pA S ad sz) U)) (fun _ _ _ _ => False) (xXC D S ad ac I J R sz) 1 6 (pA S ad sz)
theorem xB_blind {D : va_G} {S : pS} {ad : Nat → Nat} {ac : Nat → ClassId} {I : pI} {J : pJ} {R : pR} {sz : Nat} {A : Nat → Prop} {as : List Value} : FrameBlind (va_Pc as (fun U => pB D S ad ac I J R sz U ∧ exE A U)) := by
  intro a U g mk q
  obtain ⟨q0, q1, q2⟩ := q
  have h := pB_blind (D := D) (S := S) (ad := ad) (ac := ac) (I := I) (J := J) (R := R) (sz := sz) (as := as) a U g mk ⟨q0, q1⟩
  exact ⟨q0, h.2, exE.calling q2⟩
/-- where a method throws -/
def tX (cc : ByteArray) (I : pI) (J : pJ) (R : pR) : pXt := fun pc _ st I' J' R' => st = [] ∧ I' = I ∧ J' = J ∧ R' = R ∧ decode cc pc = .ok (.new 145, 3) ∧ decode cc (pc + 3) = .ok (.dup, 1) ∧
  ((∃ is text, decode cc (pc + 4) = .ok (.ldc is, 2) ∧ decode cc (pc + 6) = .ok (.invokespecial 149, 3) ∧ decode cc (pc + 9) = .ok (.athrow, 1) ∧ ∀ A s, exE A s → ∃ a, vk_R RX11 is text a s) ∨
   (∃ is text, decode cc (pc + 4) = .ok (.ldc_w is, 3) ∧ decode cc (pc + 7) = .ok (.invokespecial 149, 3) ∧ decode cc (pc + 10) = .ok (.athrow, 1) ∧ ∀ A s, exE A s → ∃ a, vk_R RX11 is text a s))
theorem ns_link : Cond.classLink RX11 145 nsE ∈ gt := gt_at 1260 (by decide +kernel) (by decide +kernel)
theorem ns_init : Cond.initialized nsE ∈ gt := gt_at 105 (by decide +kernel) (by decide +kernel)
theorem ns_at {args : Array Value} {s : State} {A : Nat → Prop} (hts : ∀ w ∈ gt, w.before args s = true) (hex : exE A s) : ∀ w ∈ vy_at RX11 149 nsE 13 prog_23_method_4_code nsN, w.before args s = true := by
  intro w hw
  by_cases g : goodWord w = true
  · have h1 := List.all_eq_true.mp ns_in w (List.mem_filter.mpr ⟨hw, g⟩)
    rw [decide_eq_true_eq] at h1
    exact hts w (gt_of h1 g)
  · have h1 := List.all_eq_true.mp ns_rest w (List.mem_filter.mpr ⟨hw, by cases e : goodWord w with
      | true => exact absurd e g
      | false => rfl⟩)
    rw [decide_eq_true_eq] at h1
    exact va_Nw.use (nsX_on w h1) (hex.1 w h1)
theorem XTh.of {S : pS} {d : Nat} {y : MethodName} {cc : ByteArray} {nL : Nat} {ret : Option FieldType} {as : List Value} {I : pI} {J : pJ} {R : pR} (hcls : y.cls = RX11) (locs0 : pLc) (hl0 : pEn as ++ List.replicate (nL - (lg_sl as).length) none = locs0) (hn : (lg_sl as).length ≤ nL) (hdd : 6 ≤ d) (h : PW S y.cls cc nL d 0 locs0 [] I J R (tX cc I J R)) : XTh S d y cc nL ret as I J R := by
  intro l D ad ac sz hfl
  subst hl0
  refine vx_ofW (cc := cc) (maxL := nL) (ret := ret) (by rw [hcls]; rfl) rfl ?_
  intro p e s m args below meth c s₁ B hml hnt hv
  obtain ⟨rfl, ⟨hsz, hP, hK, hinj, hpx⟩, hex⟩ := hv
  subst hsz
  have hx := B.exec
  have hb := B.bytes
  have hts := atoms_spec (ws := Cond.code y cc nL ret :: gt) B.pre
  have hts' : ∀ w ∈ gt, w.before _ s = true := fun w hw => hts w (List.mem_cons_of_mem _ hw)
  have hown : s.vm.findClass y.cls = some m.cls := findClass_of_methodNamed B.named
  have hown2 : s.vm.findClass RX11 = some m.cls := by rw [← hcls]; exact hown
  have hlocks := B.notSynchronized
  have hlen : (lg_sl (as.map (tv ad))).length ≤ nL := by
    have e : ∀ vs : List Value, (lg_sl (vs.map (tv ad))).length = (lg_sl vs).length := by
      intro vs
      induction vs with
      | nil => rfl
      | cons v vs ih => cases v <;> simp_all [lg_sl, tv, Value.category]
    rw [e]; exact hn
  have hl := lv_entry (as.map (tv ad)) (n := nL) hlen
  rw [lg_entry_eq]
  generalize (lg_sl (as.map (tv ad)) ++ List.replicate (nL - (lg_sl (as.map (tv ad))).length) Slot.unset).toArray = ls at hl ⊢
  refine h l D ad ac p e _ s m _ below meth c (pA S ad s.heap.size) 0 0 ⟨⟨hx, hb, hml, hown, hts'⟩, fun q hq => Or.inr hq, hK, ⟨Nat.le_refl _, Nat.le_refl _, Nat.zero_le _, Nat.zero_le _⟩, hpx, hinj, fun i hi => Or.inl ⟨i, hi, rfl⟩⟩ _ ?_ s.heap [] ls ⟨hP, va_S.rf⟩ ⟨hl.1, hl.2.1, fun i v hi => hl.2.2 (i, tv ad v) (by
    have hi2 : (pEn as)[i]? = some (some v) := by
      by_cases hlt : i < (pEn as).length
      · rwa [List.getElem?_append_left hlt] at hi
      · rw [List.getElem?_append_right (by omega)] at hi
        have := List.eq_of_mem_replicate (List.mem_of_getElem? hi)
        cases this
    have := pEn_get ad as 0 i v hi2; rwa [Nat.zero_add] at this)⟩
  intro pc' locs' st' I' J' R' H' lcs' ls' hX hr' hl'
  obtain ⟨rfl, rfl, rfl, rfl, d0, d3, hX⟩ := hX
  have hgood : ∀ w ∈ Cond.classLink RX11 145 nsE :: Cond.initialized nsE :: vy_at RX11 149 nsE 13 prog_23_method_4_code nsN, vx_ot w = true := List.all_eq_true.mp ns_ot
  have hxc : ∀ t : State, s.vm.Alike t.vm → H'.size ≤ t.heap.size → (∀ q : Nat, q < H'.size → t.heap[q]? = H'[q]?) → xXC D S ad ac I' J' R' s.heap.size nsE s t := fun t _ h1 h2 =>
    ⟨rfl, hr'.1.kept (fun i q hq => h2 _ (hr'.1 i q hq).lt), Nat.le_trans hr'.2.1 h1, fun q q1 q2 => (h2 q (Nat.lt_of_lt_of_le q1 hr'.2.1)).trans (hr'.2.2.1 q q1 q2)⟩
  have hfit : Bundle.fit nsE = true := by decide +kernel
  have hfits : ∀ n ∈ nsN, Bundle.fit n = true := List.all_eq_true.mp (show nsN.all Bundle.fit = true by decide +kernel)
  rcases hX with ⟨is, text, d4, d6, d9, hst⟩ | ⟨is, text, d4, d7, d10, hst⟩
  · obtain ⟨sa, hsa⟩ := hst _ _ hex
    exact vy_throwS (cls := nsE) (names := nsN) (ix := 13) (rx := prog_23_method_4_code) hx hb hfl (by decide +kernel) (by decide +kernel) (by decide +kernel) (by decide +kernel) hown2 hfit hfits (hts' _ ns_link) (hts' _ ns_init) hsa (ns_at hts' hex) hgood hex.2.1 hex.2.2.1 hr'.2 (by rw [hl'.1]; exact hml.symm) d0 d3 d4 d6 d9 (fun x hx => (hnt x hx).elim) (by show 2 + 3 < d; omega) (by show 0 + (13 * (2 + 1) + 43) ≤ 40 * d; omega) (by show 0 + 1 ≤ 1; omega) (by show 0 + 6 ≤ 6; omega) hlocks hxc hr'.2.2.2 (by omega) (by omega)
  · obtain ⟨sa, hsa⟩ := hst _ _ hex
    exact vy_throwSW (cls := nsE) (names := nsN) (ix := 13) (rx := prog_23_method_4_code) hx hb hfl (by decide +kernel) (by decide +kernel) (by decide +kernel) (by decide +kernel) hown2 hfit hfits (hts' _ ns_link) (hts' _ ns_init) hsa (ns_at hts' hex) hgood hex.2.1 hex.2.2.1 hr'.2 (by rw [hl'.1]; exact hml.symm) d0 d3 d4 d7 d10 (fun x hx => (hnt x hx).elim) (by show 2 + 3 < d; omega) (by show 0 + (13 * (2 + 1) + 43) ≤ 40 * d; omega) (by show 0 + 1 ≤ 1; omega) (by show 0 + 6 ≤ 6; omega) hlocks hxc hr'.2.2.2 (by omega) (by omega)
theorem exE.narrow {A B : Nat → Prop} {s : State} (h : exE A s) (hB : ∀ q, B q → A q) : exE B s := ⟨h.1, h.2.1.narrow hB, h.2.2.1.narrow hB, h.2.2.2⟩
theorem XTh.lift {S S' : pS} {o : Nat} (hS : ∀ k, k < S.length → S'[o + k]? = S[k]?) (hl : o + S.length ≤ S'.length) {d : Nat} {y : MethodName} {cc : ByteArray} {nL : Nat} {ret : Option FieldType} {as : List Value} {I1 I : pI} {J1 J : pJ} {R1 R : pR} (h : XTh S d y cc nL ret as I1 J1 R1) (ha : agr o S I1 J1 R1 I J R) : XTh S' d y cc nL ret (as.map (shV o)) I J R := by
  intro l D ad ac sz hfl p e hA hc hk s m args below hf happ hpre htr
  obtain ⟨hargs, ⟨hsz, hP, hK, hinj, hpx⟩, hex⟩ := hpre
  have hpa : ∀ q, pA S (fun k => ad (o + k)) sz q → pA S' ad sz q := by
    rintro q (⟨k, k1, rfl⟩ | z)
    · exact Or.inl ⟨o + k, by omega, rfl⟩
    · exact Or.inr z
  have cellP : va_P D vwCl (pW S I1 J1 R1 (fun k => ad (o + k)) (fun k => ac (o + k))) s.heap := by
    intro k q hq
    obtain ⟨hk1, -⟩ := pW_at hq
    obtain ⟨sh, hsh⟩ : ∃ sh, S[k]? = some sh := ⟨_, List.getElem?_eq_getElem hk1⟩
    rw [pW_get hsh] at hq
    cases hq
    obtain ⟨a1, a2, a3⟩ := ha k hk1
    have h2 := hP (o + k) _ (pW_get (S := S') (h := o + k) (by rw [hS k hk1]; exact hsh))
    rw [a1, a2, a3, pE_sh] at h2
    exact h2
  obtain ⟨k, oo, h1, h2, h3, hpost⟩ := h l D (fun k => ad (o + k)) (fun k => ac (o + k)) sz hfl p e hA hc hk s m args below hf happ ⟨by rw [hargs, List.map_map]; congr 1; exact List.map_congr_left (fun v _ => tv_shV ad o v), ⟨hsz, cellP, ⟨hK.1, fun a k n ty q1 q2 => hK.2 (o + a) k n ty (by rw [hS a (List.getElem?_eq_some_iff.mp q1).1]; exact q1) q2⟩, fun i j q1 q2 q3 => by have := hinj (o + i) (o + j) (by omega) (by omega) q3; omega, hpx.narrow hpa⟩, hex.narrow hpa⟩ htr
  refine ⟨k, oo, h1, h2, h3, ?_⟩
  rcases hpost with ⟨hff, -⟩ | ⟨q, e1, E, ce, L, ⟨x1, x2, x3⟩, y1, y2, y3, y4, y5, y6⟩
  · exact hff.elim
  · refine Or.inr ⟨q, e1, E, ce, L, ⟨x1, ?_, x3.1, fun q q1 q2 => x3.2 q q1 (fun z => q2 (hpa q z))⟩, y1, y2, y3, y4, y5, fun z hz => hpa _ (y6 z hz)⟩
    intro a q hq
    obtain ⟨ha1, -⟩ := pW_at hq
    obtain ⟨sh, hsh⟩ : ∃ sh, S'[a]? = some sh := ⟨_, List.getElem?_eq_getElem ha1⟩
    rw [pW_get hsh] at hq
    cases hq
    by_cases c : o ≤ a ∧ a < o + S.length
    · obtain ⟨b, rfl⟩ : ∃ b, a = o + b := ⟨a - o, by omega⟩
      have hb : b < S.length := by omega
      obtain ⟨a1, a2, a3⟩ := ha b hb
      rw [a1, a2, a3, pE_sh]
      exact x2 b _ (pW_get (by rw [← hS b hb]; exact hsh))
    · have h0 := hP a _ (pW_get hsh)
      refine va_at_kept h0 (x3.2 _ (va_at_ltQ h0) ?_)
      rintro (⟨b, b1, b2⟩ | z)
      · have := hinj (o + b) a (by omega) ha1 b2
        omega
      · have := va_at_ltQ h0
        rw [hsz] at this
        exact absurd z (Nat.not_le.mpr this)
theorem xt_climber {d : Nat} {w v : Int32} {s : aSt} {I : pI} {J : pJ} (hA : XA I J s) (hno : clAt w v s = none) : XTh SX (d + 8) yX11_climber cX11_climber 3 (some .int) [.ref 0, .int w, .int v] I J RX := by
  obtain ⟨n, pc, b, us, kp, rw, tx, rt, hd, sw⟩ := s
  obtain ⟨a1, a2, a3, a4, a5, a6, a7, a8⟩ := id hA
  obtain ⟨hn7, i7, -, -, -, -, hA7⟩ := id a1
  refine XTh.of rfl [some (.ref 0), some (.int w), some (.int v)] rfl (Nat.le_of_ble_eq_true rfl) (by omega) ?_
  rcases qOf_cases hn7 w with ⟨q, hq, rfl, hq1, hq2⟩ | ⟨hq1, hq2⟩
  · rcases inOf_cases (lo := 0) (hi := 5) (by decide) v (by decide) with ⟨k, k1, k2, rfl, hk⟩ | ⟨hk, hk2⟩
    · exfalso
      have : clAt (nI q) (nI k) (n, pc, b, us, kp, rw, tx, rt, hd, sw) = some (clO q k (n, pc, b, us, kp, rw, tx, rt, hd, sw)) := by
        unfold clAt
        rw [hq1, hk]
      rw [this] at hno
      cases hno
    · refine pw_aload_n 1 rfl dX11_climber_0 rfl ?_
      refine pw_getR 4 rfl dX11_climber_1 fX11_10 (by first | rfl | assumption | exact rowS hh | exact mtS hm | exact ruS hr | exact mtA1 hm | exact mtA2 hm | exact mtA3 hm | exact mtA4 hm | exact mtA5 hm | exact mtA6 hm | exact mtA7 hm | exact ruA1 hr | exact ruA2 hr | exact ruA3 hr) rfl (by first | rfl | assumption | exact mtR0 hm | exact mtR1 hm | exact mtR2 hm | exact mtR3 hm | exact mtR4 hm | exact mtR5 hm | exact mtR6 hm | exact ruR0 hr | exact ruR1 hr | exact ruR3 hr) ?_
      refine pw_iload_n 5 rfl dX11_climber_4 rfl ?_
      refine pw_callVP (as := [_]) 8 rfl dX11_climber_5 mX11_142 vX1_has (x_has (d := d + 7) (Or.inl rfl) i7 hn7 _) (by first | rfl | assumption | exact rowS hh | exact mtS hm | exact ruS hr | exact mtA1 hm | exact mtA2 hm | exact mtA3 hm | exact mtA4 hm | exact mtA5 hm | exact mtA6 hm | exact mtA7 hm | exact ruA1 hr | exact ruA2 hr | exact ruA3 hr) rfl (by decide) ⟨rfl, by decide, by decide, show (parseMethodDescriptor yX1_has.desc).map (fun d => d.parameters.length) = some 1 by decide +kernel⟩ (by omega) (by decide) (Nat.le_of_ble_eq_true rfl) rfl ?_
      refine pw_if_ne (tgt := 21) 11 rfl dX11_climber_8 rfl (fun h8 => ?_) (fun h8 => absurd h8 (by rw [hq2]; decide))
      refine pw_iload_n 22 rfl dX11_climber_21 rfl ?_
      refine pw_tableOut (tgt := 123) dX11_climber_22 (by rcases hk2 with z | z; exact Or.inl (by rw [Int32.lt_iff_toInt_lt] at z; exact z); exact Or.inr (by rw [Int32.lt_iff_toInt_lt] at z; exact z)) rfl ?_
      rotate_left
      exact pw_done ⟨rfl, rfl, rfl, rfl, dX11_climber_123, dX11_climber_126, Or.inl ⟨_, _, dX11_climber_127, dX11_climber_129, dX11_climber_132, fun A s h => h.2.2.2.2.1⟩⟩
  · refine pw_aload_n 1 rfl dX11_climber_0 rfl ?_
    refine pw_getR 4 rfl dX11_climber_1 fX11_10 (by first | rfl | assumption | exact rowS hh | exact mtS hm | exact ruS hr | exact mtA1 hm | exact mtA2 hm | exact mtA3 hm | exact mtA4 hm | exact mtA5 hm | exact mtA6 hm | exact mtA7 hm | exact ruA1 hr | exact ruA2 hr | exact ruA3 hr) rfl (by first | rfl | assumption | exact mtR0 hm | exact mtR1 hm | exact mtR2 hm | exact mtR3 hm | exact mtR4 hm | exact mtR5 hm | exact mtR6 hm | exact ruR0 hr | exact ruR1 hr | exact ruR3 hr) ?_
    refine pw_iload_n 5 rfl dX11_climber_4 rfl ?_
    refine pw_callVP (as := [_]) 8 rfl dX11_climber_5 mX11_142 vX1_has (x_has (d := d + 7) (Or.inl rfl) i7 hn7 _) (by first | rfl | assumption | exact rowS hh | exact mtS hm | exact ruS hr | exact mtA1 hm | exact mtA2 hm | exact mtA3 hm | exact mtA4 hm | exact mtA5 hm | exact mtA6 hm | exact mtA7 hm | exact ruA1 hr | exact ruA2 hr | exact ruA3 hr) rfl (by decide) ⟨rfl, by decide, by decide, show (parseMethodDescriptor yX1_has.desc).map (fun d => d.parameters.length) = some 1 by decide +kernel⟩ (by omega) (by decide) (Nat.le_of_ble_eq_true rfl) rfl ?_
    refine pw_if_ne (tgt := 21) 11 rfl dX11_climber_8 rfl (fun h8 => absurd (by rw [hq2]; decide) h8) (fun h8 => ?_)
    rotate_left
    exact pw_done ⟨rfl, rfl, rfl, rfl, dX11_climber_11, dX11_climber_14, Or.inl ⟨_, _, dX11_climber_15, dX11_climber_17, dX11_climber_20, fun A s h => h.2.2.2.1⟩⟩
theorem rwAt_no {rw : List Int64} {v : Int32} (h12 : rw.length ≤ 12) (h : rwAt rw v = none) : v < 0 ∨ (¬ v < 0 ∧ ¬ v < nI rw.length) := by
  by_cases h0 : v < 0
  · exact Or.inl h0
  · refine Or.inr ⟨h0, fun hl => ?_⟩
    have h1 : 0 ≤ v := by rw [Int32.lt_iff_toInt_lt] at h0; rw [Int32.le_iff_toInt_le]; omega
    unfold rwAt at h
    rw [if_pos ⟨h1, hl⟩, List.getElem?_eq_none_iff] at h
    rw [Int32.lt_iff_toInt_lt, nI_toInt (by omega)] at hl
    rw [Int32.le_iff_toInt_le, show (0 : Int32).toInt = 0 from by decide] at h1
    have : v.toNatClampNeg = v.toInt.toNat := rfl
    omega
theorem xt_row {d : Nat} {v : Int32} {s : aSt} {I : pI} {J : pJ} (hA : XA I J s) (hno : rwAt s.2.2.2.2.2.1 v = none) : XTh SX (d + 8) yX11_row cX11_row 2 (some .long) [.ref 0, .int v] I J RX := by
  obtain ⟨n, pc, b, us, kp, rw, tx, rt, hd, sw⟩ := s
  obtain ⟨a1, a2, a3, a4, a5, a6, a7, a8⟩ := id hA
  obtain ⟨n1, n2, n3⟩ := id a3
  have hN : PC SX (d + 7) yX2_has cX2_has 2 (some .boolean) [.ref 19, .int v] I J RX (pPu (.int (nI 0)) I J RX) := by
    refine PC.of [some (.ref 19), some (.int v)] rfl rfl (Nat.le_of_ble_eq_true rfl) ?_
    rcases rwAt_no n2 hno with h | ⟨z1, z2⟩
    · refine pw_iload_n 1 rfl dX2_has_0 rfl ?_
      refine pw_if_lt (tgt := 22) 4 rfl dX2_has_1 rfl (fun h1 => ?_) (fun h1 => absurd h h1)
      refine pw_iconst (v := nI 0) 23 rfl dX2_has_22 rfl ?_
      refine pw_iret dX2_has_23 rfl ?_
      rotate_left
      exact ⟨rfl, rfl, rfl, rfl⟩
    · refine pw_iload_n 1 rfl dX2_has_0 rfl ?_
      refine pw_if_lt (tgt := 22) 4 rfl dX2_has_1 rfl (fun h1 => absurd h1 z1) (fun h1 => ?_)
      refine pw_iload_n 5 rfl dX2_has_4 rfl ?_
      refine pw_aload_n 6 rfl dX2_has_5 rfl ?_
      refine pw_getI 9 rfl dX2_has_6 fX2_13 (by first | rfl | assumption | exact rowS hh | exact mtS hm | exact ruS hr | exact mtA1 hm | exact mtA2 hm | exact mtA3 hm | exact mtA4 hm | exact mtA5 hm | exact mtA6 hm | exact mtA7 hm | exact ruA1 hr | exact ruA2 hr | exact ruA3 hr) rfl ?_
      refine pw_icmp_ge (tgt := 22) 12 rfl dX2_has_9 rfl (fun h9 => ?_) (fun h9 => absurd (by rw [n1]; rw [Int32.lt_iff_toInt_lt] at z2; rw [Int32.le_iff_toInt_le]; omega) h9)
      refine pw_iconst (v := nI 0) 23 rfl dX2_has_22 rfl ?_
      refine pw_iret dX2_has_23 rfl ?_
      rotate_left
      exact ⟨rfl, rfl, rfl, rfl⟩
  refine XTh.of rfl [some (.ref 0), some (.int v)] rfl (Nat.le_of_ble_eq_true rfl) (by omega) ?_
  refine pw_aload_n 1 rfl dX11_row_0 rfl ?_
  refine pw_getR 4 rfl dX11_row_1 fX11_36 (by first | rfl | assumption | exact rowS hh | exact mtS hm | exact ruS hr | exact mtA1 hm | exact mtA2 hm | exact mtA3 hm | exact mtA4 hm | exact mtA5 hm | exact mtA6 hm | exact mtA7 hm | exact ruA1 hr | exact ruA2 hr | exact ruA3 hr) rfl (by first | rfl | assumption | exact mtR0 hm | exact mtR1 hm | exact mtR2 hm | exact mtR3 hm | exact mtR4 hm | exact mtR5 hm | exact mtR6 hm | exact ruR0 hr | exact ruR1 hr | exact ruR3 hr) ?_
  refine pw_iload_n 5 rfl dX11_row_4 rfl ?_
  refine pw_callVP (as := [_]) 8 rfl dX11_row_5 mX11_361 vX2_has hN (by first | rfl | assumption | exact rowS hh | exact mtS hm | exact ruS hr | exact mtA1 hm | exact mtA2 hm | exact mtA3 hm | exact mtA4 hm | exact mtA5 hm | exact mtA6 hm | exact mtA7 hm | exact ruA1 hr | exact ruA2 hr | exact ruA3 hr) rfl (by decide) ⟨rfl, by decide, by decide, show (parseMethodDescriptor yX2_has.desc).map (fun d => d.parameters.length) = some 1 by decide +kernel⟩ (by omega) (by decide) (Nat.le_of_ble_eq_true rfl) rfl ?_
  refine pw_if_ne (tgt := 22) 11 rfl dX11_row_8 rfl (fun h8 => absurd (by decide) h8) (fun h8 => ?_)
  rotate_left
  exact pw_done ⟨rfl, rfl, rfl, rfl, dX11_row_11, dX11_row_14, Or.inr ⟨_, _, dX11_row_15, dX11_row_18, dX11_row_21, fun A s h => h.2.2.2.2.2⟩⟩
