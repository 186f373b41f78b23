/-! THE CLAIM OUT OF ONE WALK OF THE LAW'S BODY. Your part is whole_start (and what it stands on); all else here is the same for every law, but numbers. -/
def R_law : String := "LastDownOwnsLaw"
def lw_P (b : Addr) (xs : List Int32) (args : Array Value) (s : State) : Prop := args = #[.ref b] ∧ s.IntsAt b xs ∧ xs.length ≤ 2560 ∧ (Jvm.Cond.and given_1 narrow_1).before args s = true
def lw_Q (_ : Array Value) (s : State) (o : Outcome) (t : State) : Prop := o = .returned (some (.int 1)) ∧ Framed s o t [] 601024 7293034
def lw_Z (below : List Frame) (a : Array Value) (s : State) : State → Prop := fun t => ∃ o, t.status = .running ∧ Ended t below o ∧ lw_Q a s o t
/-- the law's own end, with 1 on the stack, nothing written that was there before, its room as the claim has it -/
theorem lw_ret {p : Program} {l : Launch} {e : Env} {s : State} {m : MethodId} {below : List Frame} {meth : Method} {c : Code} {b : Nat} (hx : p.tables.exec = Jvm.exec) (hb : c.code = code) (hr : meth.sig.returnType = ret) (hlocks : meth.locks = false) {pc : Nat} {H : Heap} {ls : Array Slot} (hdg : decode code pc = .ok (.ireturn, 1)) : W p l e room_1 s m #[Value.ref b] below meth c H [] 601024 7293034 (lw_Z below #[Value.ref b] s) (F0 m pc ls [.int 1]) := by
  intro T hT X
  obtain ⟨fs, hret, hrun, hended, hW, hframe⟩ := X.leave (v := some (.int 1)) (hlocks := hlocks) (fun h => by rw [hr] at h; cases h)
  have hmeth' : T.vm.method? m = some meth := X.method'
  refine ⟨T.setFrames fs, ?_, .returned (some (.int 1)), hrun, hended, rfl, ⟨_, rfl⟩, hW, hframe⟩
  jvm_step X.here [X.here.top, hx, hb, hdg, hmeth', hr, ret, narrow_b1]
  (try refine ⟨rfl, ?_⟩); (try refine ⟨rfl, ?_⟩)
  first | (intro acts; rw [hret _ acts rfl rfl rfl]) | rw [hret _ _ rfl rfl rfl]
  exact Steps.refl _
/-- what holds at the law's entry: the machine, the code, the tables' words (any of lw_tbl by 'hts w (by decide +kernel)'), the script of L ints xs at the cell b, what the Statement gives of the start (any of its parts by flat_of_before) -/
def lw_At (p : Program) (s : State) (m : MethodId) (meth : Method) (c : Code) (b L : Nat) (xs : Nat → Int32) : Prop :=
  p.tables.exec = Jvm.exec ∧ c.code = code ∧ meth.sig.returnType = ret ∧ c.maxLocals = 8 ∧ s.vm.findClass R_law = some m.cls ∧ (∀ w ∈ lw_tbl, w.before #[Value.ref b] s = true) ∧ va_X b L xs s s.heap ∧ b < s.heap.size ∧ meth.locks = false ∧ (Jvm.Cond.and given_1 narrow_1).before #[Value.ref b] s = true
theorem pInst : ∀ (c : Nat) (q : vw_C), vwCl[c]? = some q → Cond.instantiable q.1 q.2.2 ∈ gt
  | 0, q, h => by cases h; exact qX11_88.2.1
  | 1, q, h => by cases h; exact qX11_7.2.1
  | 2, q, h => by cases h; exact qX11_33.2.1
  | 3, q, h => by cases h; exact qX11_47.2.1
  | 4, q, h => by cases h; exact qX11_40.2.1
  | 5, q, h => by cases h; exact qX11_56.2.1
  | 6, q, h => by cases h; exact qX11_16.2.1
  | 7, q, h => by cases h; exact qX11_72.2.1
  | 8, q, h => by cases h; exact qX11_79.2.1
  | 9, q, h => by cases h; exact qX11_63.2.1
  | 10, q, h => by cases h; exact qX11_26.2.1
  | 11, q, h => by cases h; exact qL_8.2.1
  | 12, q, h => by cases h; exact qL_20.2.1
  | c + 13, q, h => by exfalso; have h1 := (List.getElem?_eq_some_iff.mp h).1; exact absurd h1 (by show ¬ c + 13 < 13; omega)
theorem pNw_in : pNw.all (fun w => decide (w ∈ lw_tbl)) = true := by decide +kernel
theorem nsX_in : nsX.all (fun w => decide (w ∈ lw_tbl)) = true := by decide +kernel
theorem st_off {l : Launch} (h : l.flags = flags0) : l.stackTraces = false := by
  unfold Launch.stackTraces
  rw [h]
  decide
theorem st_str {s : State} {args : Array Value} {k : Nat} {tx : String} (h1 : (Cond.stringRef RX11 k tx).before args s = true) (h2 : (Cond.exactly (.string RX11 k) "java/lang/String").before args s = true) : ∃ a, vk_R RX11 k tx a s := by
  obtain ⟨a, h3⟩ : ∃ a, (Term.string RX11 k).eval args s none [] s = some (.ref a) := by
    obtain ⟨a, c, cell, k9, h3, -⟩ := Cond.exactly_spec h2
    exact ⟨a, h3⟩
  exact ⟨a, vk_R.of h1 h3⟩
theorem st_K {s : State} {args : Array Value} (hgt : ∀ w ∈ gt, w.before args s = true) : ∃ D : va_G, va_K D vwCl [] s := by
  have hkn : ∀ c : Nat, ∃ (cC : ClassId) (iS : Nat → Nat), ∀ q : vw_C, vwCl[c]? = some q → u_Kn s q.1 q.2.1 q.2.2 cC iS := by
    intro c
    cases h : vwCl[c]? with
    | none => exact ⟨0, fun _ => 0, fun q hq => by cases hq⟩
    | some q =>
      obtain ⟨cC, iS, hk⟩ := u_known hgt (pIn c q h) (hgt _ (pInst c q h))
      exact ⟨cC, iS, fun q' hq => by cases hq; exact hk⟩
  exact ⟨(fun c => Classical.choose (hkn c), fun c => Classical.choose (Classical.choose_spec (hkn c))), fun c q hq => Classical.choose_spec (Classical.choose_spec (hkn c)) q hq, fun k q h => by simp at h⟩
theorem st_mo {s : State} {args : Array Value} {A : Nat → Prop} (hts : ∀ w ∈ lw_tbl, w.before args s = true) (hs : ∀ w ∈ flatC (Jvm.Cond.and given_1 narrow_1), w.before args s = true) (hA : ∀ a : Nat, a < s.heap.size → ¬ A a) : pX A s := by
  refine ⟨fun w hw => ?_, ?_⟩
  · have h1 := List.all_eq_true.mp pNw_in w hw
    rw [decide_eq_true_eq] at h1
    obtain ⟨a, i, x, b, rfl⟩ := pNw_form w hw
    exact va_Nw.of rfl (hts _ h1)
  · obtain ⟨t, ht, hT⟩ := va_Tof (args := args) (tm := .static RX7 "MOST_OF" "[I") (ty := .int) (N := 5) (f := fun j => .int (pMo j)) (A := A) (by decide) (hs (.arrayOf (.static RX7 "MOST_OF" "[I") .int) (by decide +kernel)) (va_eqt (hs (.eq (.length (.static RX7 "MOST_OF" "[I")) (.int (Int32.ofNat 5))) (by decide +kernel))) (fun j hj => by
      rcases j with _ | _ | _ | _ | _ | j
      · exact va_eqt (hs (.eq (.elem (.static RX7 "MOST_OF" "[I") (.int (Int32.ofNat 0))) (.int 9)) (by decide +kernel))
      · exact va_eqt (hs (.eq (.elem (.static RX7 "MOST_OF" "[I") (.int (Int32.ofNat 1))) (.int 99)) (by decide +kernel))
      · exact va_eqt (hs (.eq (.elem (.static RX7 "MOST_OF" "[I") (.int (Int32.ofNat 2))) (.int 2)) (by decide +kernel))
      · exact va_eqt (hs (.eq (.elem (.static RX7 "MOST_OF" "[I") (.int (Int32.ofNat 3))) (.int 9)) (by decide +kernel))
      · exact va_eqt (hs (.eq (.elem (.static RX7 "MOST_OF" "[I") (.int (Int32.ofNat 4))) (.int 1)) (by decide +kernel))
      · omega) hA
    exact ⟨t, va_Zof (args := args) (hts _ (List.mem_of_getElem? (i := 1046) (by decide +kernel))) (hts (.initialized RX7) (by decide +kernel)) ht hA, hT⟩
theorem st_ex {s : State} {args : Array Value} {A : Nat → Prop} (hts : ∀ w ∈ lw_tbl, w.before args s = true) (hs : ∀ w ∈ flatC (Jvm.Cond.and given_1 narrow_1), w.before args s = true) (hA : ∀ a : Nat, a < s.heap.size → ¬ A a) : exE A s := by
  refine ⟨fun w hw => ?_, vx_Zqof (args := args) (hts _ (List.mem_of_getElem? (i := 1287) (by decide +kernel))) (hts (.initialized Bundle.tN) (by decide +kernel)) (hs _ (by decide +kernel)) hA, vx_Zqof (args := args) (hts _ (List.mem_of_getElem? (i := 1289) (by decide +kernel))) (hts (.initialized Bundle.tN) (by decide +kernel)) (hs _ (by decide +kernel)) hA, st_str (hts _ (List.mem_of_getElem? (i := 1299) (by decide +kernel))) (hs _ (by decide +kernel)), st_str (hts _ (List.mem_of_getElem? (i := 1327) (by decide +kernel))) (hs _ (by decide +kernel)), st_str (hts _ (List.mem_of_getElem? (i := 1339) (by decide +kernel))) (hs _ (by decide +kernel))⟩
  have h1 := List.all_eq_true.mp nsX_in w hw
  rw [decide_eq_true_eq] at h1
  exact va_Nw.of (nsX_on w hw) (hts _ h1)
/-- from the entry, for every script of at most 2560 ints, the law comes to its end with true -/
theorem whole_start {p : Program} {e : Env} {s : State} {m : MethodId} {below : List Frame} {meth : Method} {c : Code} (l : Launch) (hflags : l.flags = flags0) {b L : Nat} {xs : Nat → Int32} (hL : L ≤ 2560) (C0 : lw_At p s m meth c b L xs) : W p l e room_1 s m #[Value.ref b] below meth c s.heap [] 0 0 (lw_Z below #[Value.ref b] s) (entryFrame m ([Value.ref b] : List Value).toArray 8) := by
  obtain ⟨hx, hb, hr, hml, hown, hts, hX, hbl, hlocks, hgv⟩ := C0
  have hs := flat_of_before _ hgv
  have hgt : ∀ w ∈ gt, w.before #[Value.ref b] s = true := fun w hw => hts w (List.mem_filter.mp hw).1
  have hA : ∀ a : Nat, a < s.heap.size → ¬ (fun q => s.heap.size ≤ q) a := fun a h z => absurd h (Nat.not_lt.mpr z)
  obtain ⟨D, hK⟩ := st_K hgt
  have hpx := st_mo hts hs hA
  have hex := st_ex hts hs hA
  have hao : va_AOA .int s := hts (.arrayOver (.array .int)) (List.mem_of_getElem? (i := 286) (by decide +kernel))
  have hl := lv_entry ([Value.ref b]) (n := 8) (show 1 ≤ 8 by decide)
  rw [lg_entry_eq]
  generalize (lg_sl [Value.ref b] ++ List.replicate (8 - (lg_sl [Value.ref b]).length) Slot.unset).toArray = ls at hl ⊢
  have hfix : CallFix p m c cL_law 8 s #[Value.ref b] gt RL := ⟨hx, hb, hml, hown, hgt⟩
  refine law_begin l D (fun _ => b) p e room_1 s m #[Value.ref b] below meth c (fun q => s.heap.size ≤ q) ⟨hfix, fun q h => h, hK, ⟨by decide, by decide, by decide, by decide⟩, hpx, (fun h => by cases h), hao⟩ _ ?_ (fun _ => b) (fun _ => 0) s.heap [] ls ⟨fun k q h => by simp [pW] at h, va_S.rf, ⟨hK, fun h k n ty h1 _ => by simp at h1⟩, ⟨fun i j h1 => (by simp at h1), fun i h1 => (by simp at h1)⟩, fun _ _ => rfl, Nat.le_refl _⟩ ⟨hl.1, hl.2.1, fun i v hi => ?_⟩
  · intro pc' locs' st' S' I' J' R' cs' sl' ad' ac' H' lcs' ls' hX' hr' hl'
    obtain ⟨rfl, rfl, rfl, rfl, rfl, rfl, rfl, rfl, rfl⟩ := hX'
    obtain ⟨r1, r2, r3, r4, r5, r7⟩ := hr'
    have hb2 : ad' 1000 = b := r5 1000 (Or.inr (Nat.le_refl _))
    have hin : ∀ k, k < 97 → (if k = 200 then ad' 1000 else ad' (pi k)) = ad' (pi k) := fun k hk => if_neg (by omega)
    have hP2 : va_P D vwCl (pW SL I0 (z2 0) R0 (fun h => if h = 200 then ad' 1000 else ad' (pi h)) (fun h => ac' (pi h))) H' := pW_view pi (fun k hk => by
      have hk' : k < 97 := hk
      refine ⟨(pi_s k hk').symm, rfl, rfl, hin k hk', rfl, fun j => ?_⟩
      by_cases hj : j < 50
      · rw [pi_r k hk' j hj]
        have hlt := r0_lt k hk' j hj
        cases e : R0 k j with
        | none => rfl
        | some x =>
          rw [e] at hlt
          have hx9 : x < 97 := of_decide_eq_true hlt
          show some (if x = 200 then ad' 1000 else ad' (pi x)) = some (ad' (pi x))
          rw [hin x hx9]
      · rw [r0_far (by omega), rU_far (by omega) (by decide +kernel)]
        rfl) r1
    refine lw_loop (xs := xs) hL 513 s0 0 0 I0 (z2 0) R0 none none none li0 wa0 (by omega) (by omega) (by omega) l D (fun h => if h = 200 then ad' 1000 else ad' (pi h)) (fun h => ac' (pi h)) p e room_1 s m #[Value.ref b] below meth c (fun q => s.heap.size ≤ q) _ _ ⟨hfix, fun q h => h, ⟨hK, fun h k n ty h1 h2 => ?_⟩, ⟨by decide, by decide, by decide, by decide⟩, hpx, ⟨fun i j h1 h2 h3 => ?_, fun i h1 => ?_⟩⟩ ⟨by decide, by decide⟩ ⟨by show va_X (ad' 1000) L xs s s.heap; rw [hb2]; exact hX, by show ad' 1000 < s.heap.size; rw [hb2]; exact hbl, by show ¬ s.heap.size ≤ ad' 1000; rw [hb2]; exact hA b hbl, hex, st_off hflags⟩ _ ?_ H' lcs' ls' ⟨hP2, r2⟩ ⟨hl'.1, hl'.2.1, fun i v hi => ?_⟩
    · have hh : h < 97 := (List.getElem?_eq_some_iff.mp h1).1
      exact r3.2 (pi h) k n ty (by rw [pi_s h hh]; exact h1) h2
    · have h1' : i < 97 := h1
      have h2' : j < 97 := h2
      have h4 : ad' (pi i) = ad' (pi j) := (hin i h1').symm.trans (h3.trans (hin j h2'))
      exact pi_inj i h1' j h2' (r4.1 (pi i) (pi j) (by rw [sb_len]; exact pi_lt i h1') (by rw [sb_len]; exact pi_lt j h2') h4)
    · have h1' : i < 97 := h1
      show s.heap.size ≤ (if i = 200 then ad' 1000 else ad' (pi i))
      rw [hin i h1']
      exact r4.2 (pi i) (by rw [sb_len]; exact pi_lt i h1')
    · intro pc2 locs2 st2 I2 J2 R2 H2 lcs2 ls2 cs2 sl2 hroom hX2 hr2 hl2
      obtain ⟨rfl, rfl⟩ := hX2
      exact va_forget (fun q hq => hr2.2.2.2 q hq) (W.widen hroom.1 hroom.2 (lw_ret hx hb hr hlocks dL_law_1628))
    · rcases i with _ | _ | _ | _ | _ | _ | _ | _ | i
      · cases hi; exact hl'.2.2 0 (.ref 1000) rfl
      · cases hi; exact hl'.2.2 1 (.ref 0) rfl
      · cases hi; exact hl'.2.2 2 (.ref 70) rfl
      · cases hi; exact hl'.2.2 3 (.ref 96) rfl
      · cases hi; exact hl'.2.2 4 (.int (nI 0)) rfl
      · cases hi
      · cases hi
      · cases hi
      · cases hi
  · rcases i with _ | _ | _ | _ | _ | _ | _ | _ | i
    · cases hi
      exact hl.2.2 (0, .ref b) (by show _ ∈ [_]; simp)
    · cases hi
    · cases hi
    · cases hi
    · cases hi
    · cases hi
    · cases hi
    · cases hi
    · cases hi
set_option maxHeartbeats 4000000 in
theorem lw_walk (l : Launch) (hflags : l.flags = flags0) (b : Addr) (xs : List Int32) : MetFree l x (headSpec (Jvm.Cond.code x code maxLocals ret :: tables_1) room_1) (lw_P b xs) (fun _ _ _ _ _ => True) lw_Q := by
  refine MetFree.of_bodyS (code := code) (maxLocals := maxLocals) (ret := ret) (by decide) ?_ ?_
  · intro args s m h hn
    obtain ⟨meth, c, h1, h2, h3, h4, h5, h6, -, -⟩ := Cond.code_spec hn (atoms_spec (ws := Jvm.Cond.code x code maxLocals ret :: tables_1) h _ List.mem_cons_self)
    exact ⟨meth, c, h1, h2, h3, h4, h5, h6⟩
  · intro p e s m args below meth c s₁ B hml0 hP _
    obtain ⟨rfl, hx, hbd, hgv⟩ := hP
    obtain ⟨scr, harrAt, hlist, hof, hsmall⟩ := hx
    obtain ⟨hcb, hkn, -, -⟩ := State.arrayAt?_spec harrAt
    have hown : s.vm.findClass R_law = some m.cls := findClass_of_methodNamed B.named
    have hts0 : ∀ c ∈ (Jvm.Cond.code x code maxLocals ret :: tables_1), c.before #[Value.ref b] s = true := atoms_spec (ws := Jvm.Cond.code x code maxLocals ret :: tables_1) B.pre
    have hts : ∀ w ∈ lw_tbl, w.before #[Value.ref b] s = true := k2_hts_sels lw_privs (fun w hw => hts0 w (List.mem_cons_of_mem _ hw)) lw_privs_ok
    have hml : c.maxLocals = 8 := B.maxLocals_eq (hts0 _ List.mem_cons_self)
    have X₀ : Stand p l e room_1 s m #[Value.ref b] below meth c s₁ [] 0 0 := Stand.of_body B
    have hh0 : s₁.heap = s.heap := by rw [B.state]; rfl
    have hsz : scr.slots.size = xs.length := by rw [← Array.length_toList, hlist, List.length_map]
    have hval : ∀ j : Nat, j < xs.length → scr.slots[j]? = some (.int (xs.getD j 0)) := fun j hj => by
      rw [← Array.getElem?_toList, hlist]
      simp [hj]
    have hbl : b < s.heap.size := (Array.getElem?_eq_some_iff.mp hcb).1
    have hX : va_X b xs.length (fun j => xs.getD j 0) s s.heap := ⟨scr, hcb, hof, hkn, hsz, hval⟩
    have K : W p l e room_1 s m #[Value.ref b] below meth c s₁.heap [] 0 0 (lw_Z below #[Value.ref b] s) (entryFrame m ([Value.ref b] : List Value).toArray 8) := by
      rw [hh0]
      exact whole_start l hflags hbd ⟨B.exec, B.bytes, B.returns, hml, hown, hts, hX, hbl, B.notSynchronized, hgv⟩
    obtain ⟨t, a1, o, b1, b2, b3⟩ := K s₁ rfl X₀
    exact ⟨t, o, a1, b1, b2, b3⟩
theorem lw_pre_spec {args : Array Value} {s : State} (h : (Jvm.Cond.and given_1 narrow_1).before args s = true) (hr : rest_1_c.before args s = true) : ∃ (b : Addr) (xs : List Int32), lw_P b xs args s := by
  have hs := flat_of_before _ h
  have hq := flat_of_before _ hr
  have hc : (Cond.count 1).before args s = true := hs _ (by decide +kernel)
  have harr : (Cond.arrayOf (.arg 0) .int).before args s = true := hs _ (by decide +kernel)
  have hle : (Cond.le (.length (.arg 0)) (.int 2560)).before args s = true := hs _ (by decide +kernel)
  have hlen : (Cond.isInt (.length (.arg 0))).before args s = true := hq _ (by decide +kernel)
  have hall : (Cond.all (.arg 0) (.isInt (.elem (.arg 0) (.index 0)))).before args s = true := hq _ (by decide +kernel)
  obtain ⟨b, xs, hb, hx⟩ := State.ints_of_pre rfl harr hlen hall
  have hsm : xs.length < 2 ^ 31 := hx.choose_spec.2.2.2
  have hev : (Term.length (.arg 0)).eval args s none [] s = some (.int xs.length.toInt32) := hx.length_eval hb
  have hv := Cond.le_ints hev (show (Term.int 2560).eval args s none [] s = some (.int 2560) from rfl)
  have hd : xs.length.toInt32 ≤ 2560 := by
    simpa [Cond.before, Cond.holds, hv] using hle
  have hN : xs.length ≤ 2560 := (Int32.ofNat_le_ofNat hsm (by decide)).mp (show Int32.ofNat xs.length ≤ Int32.ofNat 2560 from hd)
  exact ⟨b, xs, Cond.one_arg hc (show args[0]? = some (.ref b) from hb), hx, hN, h⟩
theorem lw_comes (l : Launch) (hflags : l.flags = flags0) : Comes l x (Jvm.Cond.code x code maxLocals ret :: tables_1) room_1 (fun tb e args s => Calls_1 tb e args s ∧ rest_1 tb e args s ∧ Pre_1 tb e args s)
    (fun _ _ args s o t => lw_Q args s o t) := by
  intro p e ha hc hk s m args below hf hfit hheap happ hpre
  obtain ⟨b, xs, hP⟩ := lw_pre_spec hpre.2.2 hpre.2.1
  obtain ⟨k, o, h1, h2, h3, hQ⟩ := lw_walk l hflags b xs p e ha hc hk s m args below hf ((Spec.applies_iff_loose hf).mp happ).1 hP trivial
  exact ⟨k, o, h1, h2, h3, hQ⟩
theorem lw_frame {s t : State} {o : Outcome} {args : Array Value} (h : Framed s o t [] 601024 7293034) :
    Framed s o t (fieldLocs frame_1_writes args s ++ arrayLocs frame_1_arrays args s ++ staticLocs frame_1_statics s) 601024 7293034 := h
theorem lw_limb (L : Cond) (hL : ∀ (args : Array Value) (s t : State), L.after args s (.returned (some (.int 1))) t = true) :
    ArmFor flags0 classFile x code maxLocals ret World_1 tables_1 room_1 Calls_1 rest_1 Pre_1
      (fun tb e a s o t => postC L tb e a s o t ∧ Framed s o t (fieldLocs frame_1_writes a s ++ arrayLocs frame_1_arrays a s ++ staticLocs frame_1_statics s) 601024 7293034) := by
  intro l hflags _ _ p e ha hc hk s m args below hf hfit hheap happ hpre
  obtain ⟨k, o, h1, h2, h3, rfl, hF⟩ := lw_comes l hflags p e ha hc hk s m args below hf hfit hheap happ hpre
  exact ⟨k, _, h1, h2, h3, hL args s _, lw_frame hF⟩
theorem i_vc : Claimed_1_1 ∧ Claimed_1_2 := ⟨lw_limb limb_1_1 (fun args s t => by simp [limb_1_1, Cond.after, Cond.holds, Cond.value]), lw_limb limb_1_2 (fun args s t => Cond.after_iff.mpr (by
  first | (rw [show limb_1_2 = Cond.eq .result (.int 1) from rfl, Cond.eq_ints (x := 1) (y := 1) rfl rfl]; simp; done) | (simp [limb_1_2, Cond.value, Term.eval]; done)))⟩
