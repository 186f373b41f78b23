/-! the reference's parser: thing -/
theorem letN_lt (c : Nat) : letN c < 7 := by unfold letN; (repeat' split) <;> omega
set_option maxRecDepth 100000 in
set_option maxHeartbeats 2000000 in
theorem m_letterOf {d c : Nat} {I : pI} {J : pJ} {R : pR} (hl : isLet c) : PC SM (d) yX12_letterOf cX12_letterOf 1 (some .int) [.int (nI c)] (I) (J) (R) (pPu (.int (nI (letN c))) I J R) := by
  refine PC.of [some (.int (nI c))] rfl rfl (Nat.le_of_ble_eq_true rfl) ?_
  rcases hl with rfl | rfl | rfl | rfl | rfl | rfl | rfl
  · refine pw_iload_n 1 rfl dX12_letterOf_0 rfl ?_
    refine pw_bipush (v := nI 112) 3 rfl dX12_letterOf_1 rfl ?_
    refine pw_icmp_ne (tgt := 10) 6 rfl dX12_letterOf_3 rfl (fun h3 => absurd rfl h3) (fun h3 => ?_)
    refine pw_iconst (v := nI 0) 7 rfl dX12_letterOf_6 rfl ?_
    refine pw_goto (tgt := 72) dX12_letterOf_7 rfl ?_
    refine pw_iret dX12_letterOf_72 rfl ?_
    rotate_left
    exact ⟨rfl, rfl, rfl, rfl⟩
  · refine pw_iload_n 1 rfl dX12_letterOf_0 rfl ?_
    refine pw_bipush (v := nI 112) 3 rfl dX12_letterOf_1 rfl ?_
    refine pw_icmp_ne (tgt := 10) 6 rfl dX12_letterOf_3 rfl (fun h3 => ?_) (fun h3 => absurd h3 (by decide))
    refine pw_iload_n 11 rfl dX12_letterOf_10 rfl ?_
    refine pw_bipush (v := nI 104) 13 rfl dX12_letterOf_11 rfl ?_
    refine pw_icmp_ne (tgt := 20) 16 rfl dX12_letterOf_13 rfl (fun h13 => absurd rfl h13) (fun h13 => ?_)
    refine pw_iconst (v := nI 1) 17 rfl dX12_letterOf_16 rfl ?_
    refine pw_goto (tgt := 72) dX12_letterOf_17 rfl ?_
    refine pw_iret dX12_letterOf_72 rfl ?_
    rotate_left
    exact ⟨rfl, rfl, rfl, rfl⟩
  · refine pw_iload_n 1 rfl dX12_letterOf_0 rfl ?_
    refine pw_bipush (v := nI 112) 3 rfl dX12_letterOf_1 rfl ?_
    refine pw_icmp_ne (tgt := 10) 6 rfl dX12_letterOf_3 rfl (fun h3 => ?_) (fun h3 => absurd h3 (by decide))
    refine pw_iload_n 11 rfl dX12_letterOf_10 rfl ?_
    refine pw_bipush (v := nI 104) 13 rfl dX12_letterOf_11 rfl ?_
    refine pw_icmp_ne (tgt := 20) 16 rfl dX12_letterOf_13 rfl (fun h13 => ?_) (fun h13 => absurd h13 (by decide))
    refine pw_iload_n 21 rfl dX12_letterOf_20 rfl ?_
    refine pw_bipush (v := nI 117) 23 rfl dX12_letterOf_21 rfl ?_
    refine pw_icmp_ne (tgt := 30) 26 rfl dX12_letterOf_23 rfl (fun h23 => absurd rfl h23) (fun h23 => ?_)
    refine pw_iconst (v := nI 2) 27 rfl dX12_letterOf_26 rfl ?_
    refine pw_goto (tgt := 72) dX12_letterOf_27 rfl ?_
    refine pw_iret dX12_letterOf_72 rfl ?_
    rotate_left
    exact ⟨rfl, rfl, rfl, rfl⟩
  · refine pw_iload_n 1 rfl dX12_letterOf_0 rfl ?_
    refine pw_bipush (v := nI 112) 3 rfl dX12_letterOf_1 rfl ?_
    refine pw_icmp_ne (tgt := 10) 6 rfl dX12_letterOf_3 rfl (fun h3 => ?_) (fun h3 => absurd h3 (by decide))
    refine pw_iload_n 11 rfl dX12_letterOf_10 rfl ?_
    refine pw_bipush (v := nI 104) 13 rfl dX12_letterOf_11 rfl ?_
    refine pw_icmp_ne (tgt := 20) 16 rfl dX12_letterOf_13 rfl (fun h13 => ?_) (fun h13 => absurd h13 (by decide))
    refine pw_iload_n 21 rfl dX12_letterOf_20 rfl ?_
    refine pw_bipush (v := nI 117) 23 rfl dX12_letterOf_21 rfl ?_
    refine pw_icmp_ne (tgt := 30) 26 rfl dX12_letterOf_23 rfl (fun h23 => ?_) (fun h23 => absurd h23 (by decide))
    refine pw_iload_n 31 rfl dX12_letterOf_30 rfl ?_
    refine pw_bipush (v := nI 111) 33 rfl dX12_letterOf_31 rfl ?_
    refine pw_icmp_ne (tgt := 40) 36 rfl dX12_letterOf_33 rfl (fun h33 => absurd rfl h33) (fun h33 => ?_)
    refine pw_iconst (v := nI 3) 37 rfl dX12_letterOf_36 rfl ?_
    refine pw_goto (tgt := 72) dX12_letterOf_37 rfl ?_
    refine pw_iret dX12_letterOf_72 rfl ?_
    rotate_left
    exact ⟨rfl, rfl, rfl, rfl⟩
  · refine pw_iload_n 1 rfl dX12_letterOf_0 rfl ?_
    refine pw_bipush (v := nI 112) 3 rfl dX12_letterOf_1 rfl ?_
    refine pw_icmp_ne (tgt := 10) 6 rfl dX12_letterOf_3 rfl (fun h3 => ?_) (fun h3 => absurd h3 (by decide))
    refine pw_iload_n 11 rfl dX12_letterOf_10 rfl ?_
    refine pw_bipush (v := nI 104) 13 rfl dX12_letterOf_11 rfl ?_
    refine pw_icmp_ne (tgt := 20) 16 rfl dX12_letterOf_13 rfl (fun h13 => ?_) (fun h13 => absurd h13 (by decide))
    refine pw_iload_n 21 rfl dX12_letterOf_20 rfl ?_
    refine pw_bipush (v := nI 117) 23 rfl dX12_letterOf_21 rfl ?_
    refine pw_icmp_ne (tgt := 30) 26 rfl dX12_letterOf_23 rfl (fun h23 => ?_) (fun h23 => absurd h23 (by decide))
    refine pw_iload_n 31 rfl dX12_letterOf_30 rfl ?_
    refine pw_bipush (v := nI 111) 33 rfl dX12_letterOf_31 rfl ?_
    refine pw_icmp_ne (tgt := 40) 36 rfl dX12_letterOf_33 rfl (fun h33 => ?_) (fun h33 => absurd h33 (by decide))
    refine pw_iload_n 41 rfl dX12_letterOf_40 rfl ?_
    refine pw_bipush (v := nI 107) 43 rfl dX12_letterOf_41 rfl ?_
    refine pw_icmp_ne (tgt := 50) 46 rfl dX12_letterOf_43 rfl (fun h43 => absurd rfl h43) (fun h43 => ?_)
    refine pw_iconst (v := nI 4) 47 rfl dX12_letterOf_46 rfl ?_
    refine pw_goto (tgt := 72) dX12_letterOf_47 rfl ?_
    refine pw_iret dX12_letterOf_72 rfl ?_
    rotate_left
    exact ⟨rfl, rfl, rfl, rfl⟩
  · refine pw_iload_n 1 rfl dX12_letterOf_0 rfl ?_
    refine pw_bipush (v := nI 112) 3 rfl dX12_letterOf_1 rfl ?_
    refine pw_icmp_ne (tgt := 10) 6 rfl dX12_letterOf_3 rfl (fun h3 => ?_) (fun h3 => absurd h3 (by decide))
    refine pw_iload_n 11 rfl dX12_letterOf_10 rfl ?_
    refine pw_bipush (v := nI 104) 13 rfl dX12_letterOf_11 rfl ?_
    refine pw_icmp_ne (tgt := 20) 16 rfl dX12_letterOf_13 rfl (fun h13 => ?_) (fun h13 => absurd h13 (by decide))
    refine pw_iload_n 21 rfl dX12_letterOf_20 rfl ?_
    refine pw_bipush (v := nI 117) 23 rfl dX12_letterOf_21 rfl ?_
    refine pw_icmp_ne (tgt := 30) 26 rfl dX12_letterOf_23 rfl (fun h23 => ?_) (fun h23 => absurd h23 (by decide))
    refine pw_iload_n 31 rfl dX12_letterOf_30 rfl ?_
    refine pw_bipush (v := nI 111) 33 rfl dX12_letterOf_31 rfl ?_
    refine pw_icmp_ne (tgt := 40) 36 rfl dX12_letterOf_33 rfl (fun h33 => ?_) (fun h33 => absurd h33 (by decide))
    refine pw_iload_n 41 rfl dX12_letterOf_40 rfl ?_
    refine pw_bipush (v := nI 107) 43 rfl dX12_letterOf_41 rfl ?_
    refine pw_icmp_ne (tgt := 50) 46 rfl dX12_letterOf_43 rfl (fun h43 => ?_) (fun h43 => absurd h43 (by decide))
    refine pw_iload_n 51 rfl dX12_letterOf_50 rfl ?_
    refine pw_bipush (v := nI 98) 53 rfl dX12_letterOf_51 rfl ?_
    refine pw_icmp_ne (tgt := 60) 56 rfl dX12_letterOf_53 rfl (fun h53 => absurd rfl h53) (fun h53 => ?_)
    refine pw_iconst (v := nI 5) 57 rfl dX12_letterOf_56 rfl ?_
    refine pw_goto (tgt := 72) dX12_letterOf_57 rfl ?_
    refine pw_iret dX12_letterOf_72 rfl ?_
    rotate_left
    exact ⟨rfl, rfl, rfl, rfl⟩
  · refine pw_iload_n 1 rfl dX12_letterOf_0 rfl ?_
    refine pw_bipush (v := nI 112) 3 rfl dX12_letterOf_1 rfl ?_
    refine pw_icmp_ne (tgt := 10) 6 rfl dX12_letterOf_3 rfl (fun h3 => ?_) (fun h3 => absurd h3 (by decide))
    refine pw_iload_n 11 rfl dX12_letterOf_10 rfl ?_
    refine pw_bipush (v := nI 104) 13 rfl dX12_letterOf_11 rfl ?_
    refine pw_icmp_ne (tgt := 20) 16 rfl dX12_letterOf_13 rfl (fun h13 => ?_) (fun h13 => absurd h13 (by decide))
    refine pw_iload_n 21 rfl dX12_letterOf_20 rfl ?_
    refine pw_bipush (v := nI 117) 23 rfl dX12_letterOf_21 rfl ?_
    refine pw_icmp_ne (tgt := 30) 26 rfl dX12_letterOf_23 rfl (fun h23 => ?_) (fun h23 => absurd h23 (by decide))
    refine pw_iload_n 31 rfl dX12_letterOf_30 rfl ?_
    refine pw_bipush (v := nI 111) 33 rfl dX12_letterOf_31 rfl ?_
    refine pw_icmp_ne (tgt := 40) 36 rfl dX12_letterOf_33 rfl (fun h33 => ?_) (fun h33 => absurd h33 (by decide))
    refine pw_iload_n 41 rfl dX12_letterOf_40 rfl ?_
    refine pw_bipush (v := nI 107) 43 rfl dX12_letterOf_41 rfl ?_
    refine pw_icmp_ne (tgt := 50) 46 rfl dX12_letterOf_43 rfl (fun h43 => ?_) (fun h43 => absurd h43 (by decide))
    refine pw_iload_n 51 rfl dX12_letterOf_50 rfl ?_
    refine pw_bipush (v := nI 98) 53 rfl dX12_letterOf_51 rfl ?_
    refine pw_icmp_ne (tgt := 60) 56 rfl dX12_letterOf_53 rfl (fun h53 => ?_) (fun h53 => absurd h53 (by decide))
    refine pw_iload_n 61 rfl dX12_letterOf_60 rfl ?_
    refine pw_bipush (v := nI 110) 63 rfl dX12_letterOf_61 rfl ?_
    refine pw_icmp_ne (tgt := 71) 66 rfl dX12_letterOf_63 rfl (fun h63 => absurd rfl h63) (fun h63 => ?_)
    refine pw_bipush (v := nI 6) 68 rfl dX12_letterOf_66 rfl ?_
    refine pw_goto (tgt := 72) dX12_letterOf_68 rfl ?_
    refine pw_iret dX12_letterOf_72 rfl ?_
    rotate_left
    exact ⟨rfl, rfl, rfl, rfl⟩
set_option maxRecDepth 100000 in
set_option maxHeartbeats 2000000 in
theorem m_letterNo {d : Nat} {v : Int32} {I : pI} {J : pJ} {R : pR} (g1 : v ≠ nI 112) (g2 : v ≠ nI 104) (g3 : v ≠ nI 117) (g4 : v ≠ nI 111) (g5 : v ≠ nI 107) (g6 : v ≠ nI 98) (g7 : v ≠ nI 110) : PC SM (d) yX12_letterOf cX12_letterOf 1 (some .int) [.int v] (I) (J) (R) (pPu (.int (-1)) I J R) := by
  refine PC.of [some (.int v)] rfl rfl (Nat.le_of_ble_eq_true rfl) ?_
  refine pw_iload_n 1 rfl dX12_letterOf_0 rfl ?_
  refine pw_bipush (v := nI 112) 3 rfl dX12_letterOf_1 rfl ?_
  refine pw_icmp_ne (tgt := 10) 6 rfl dX12_letterOf_3 rfl (fun h3 => ?_) (fun h3 => absurd h3 g1)
  refine pw_iload_n 11 rfl dX12_letterOf_10 rfl ?_
  refine pw_bipush (v := nI 104) 13 rfl dX12_letterOf_11 rfl ?_
  refine pw_icmp_ne (tgt := 20) 16 rfl dX12_letterOf_13 rfl (fun h13 => ?_) (fun h13 => absurd h13 g2)
  refine pw_iload_n 21 rfl dX12_letterOf_20 rfl ?_
  refine pw_bipush (v := nI 117) 23 rfl dX12_letterOf_21 rfl ?_
  refine pw_icmp_ne (tgt := 30) 26 rfl dX12_letterOf_23 rfl (fun h23 => ?_) (fun h23 => absurd h23 g3)
  refine pw_iload_n 31 rfl dX12_letterOf_30 rfl ?_
  refine pw_bipush (v := nI 111) 33 rfl dX12_letterOf_31 rfl ?_
  refine pw_icmp_ne (tgt := 40) 36 rfl dX12_letterOf_33 rfl (fun h33 => ?_) (fun h33 => absurd h33 g4)
  refine pw_iload_n 41 rfl dX12_letterOf_40 rfl ?_
  refine pw_bipush (v := nI 107) 43 rfl dX12_letterOf_41 rfl ?_
  refine pw_icmp_ne (tgt := 50) 46 rfl dX12_letterOf_43 rfl (fun h43 => ?_) (fun h43 => absurd h43 g5)
  refine pw_iload_n 51 rfl dX12_letterOf_50 rfl ?_
  refine pw_bipush (v := nI 98) 53 rfl dX12_letterOf_51 rfl ?_
  refine pw_icmp_ne (tgt := 60) 56 rfl dX12_letterOf_53 rfl (fun h53 => ?_) (fun h53 => absurd h53 g6)
  refine pw_iload_n 61 rfl dX12_letterOf_60 rfl ?_
  refine pw_bipush (v := nI 110) 63 rfl dX12_letterOf_61 rfl ?_
  refine pw_icmp_ne (tgt := 71) 66 rfl dX12_letterOf_63 rfl (fun h63 => ?_) (fun h63 => absurd h63 g7)
  refine pw_iconst (v := -1) 72 rfl dX12_letterOf_71 rfl ?_
  refine pw_iret dX12_letterOf_72 rfl ?_
  rotate_left
  exact ⟨rfl, rfl, rfl, rfl⟩
theorem hd_no {I : pI} {hr nn L T c : Nat} {cs r : List Nat} (hP : MP I hr nn L T cs r) (hc : c < 256) (hn : r.head? ≠ some c) : ¬ hdV r = nI c := by
  rcases r with _ | ⟨x, r⟩
  · exact fun z => nI_pos (show c < 2 ^ 31 by omega) (by rw [← z]; show (-1 : Int32) < 0; decide)
  · intro z
    have hx := MP_lt hP
    have z' : nI x = nI c := z
    rw [nI_eq (by omega) (by omega)] at z'
    exact hn (by rw [z']; rfl)
/-- a place where nothing fits -/
theorem hd_let {I : pI} {hr nn L T : Nat} {cs r : List Nat} (hP : MP I hr nn L T cs r) (hn : ∀ c, r.head? = some c → letB c = false) : hdV r ≠ nI 112 ∧ hdV r ≠ nI 104 ∧ hdV r ≠ nI 117 ∧ hdV r ≠ nI 111 ∧ hdV r ≠ nI 107 ∧ hdV r ≠ nI 98 ∧ hdV r ≠ nI 110 := by
  refine ⟨?_, ?_, ?_, ?_, ?_, ?_, ?_⟩ <;> refine hd_no hP (by decide) (fun q => ?_) <;> exact absurd (hn _ q) (by decide)
set_option maxRecDepth 100000 in
set_option maxHeartbeats 2000000 in
theorem m_thing0 {D deep : Nat} {X : List Nat → Except (List Nat) (((Nat → Int32) → Int32) × List Nat)} {may : Bool} (hm : may = true ↔ deep < 4) (hd4 : deep ≤ 4) (hX : may = true → mCt yX12_held cX12_held 3 D (deep + 1) X) {d hr nn L T : Nat} {rl : Option Nat} {cs : List Nat} {lt : Nat → Int32} {J : pJ} (r : List Nat) (I : pI) (hP : MP I hr nn L T cs r) (hl : r.length ≤ 40) (hf : I 0 12 = -1) (hL : mLt I lt) : PC SM (d + D + 4 + r.length) yX12_thing cX12_thing 4 (some .int) [.ref 0, .int (nI deep)] (I) (J) (RM (some hr) rl) (mRes I J (RM (some hr) rl) cs lt (pThing X may r)) := by
  have bad : ∀ (r : List Nat) (I1 : pI) (dd : Nat), MP I1 hr nn L T cs r → I1 0 12 = -1 → (∀ a j, ¬ (a = 0 ∧ (j = 11 ∨ j = 12)) → I1 a j = I a j) → (∀ c, r.head? = some c → c ≠ 45 ∧ (c = 40 → ¬ deep < 4) ∧ isDg c = false ∧ letB c = false) → PC SM (dd + 4) yX12_thing cX12_thing 4 (some .int) [.ref 0, .int (nI deep)] I1 J (RM (some hr) rl) (mRes I1 J (RM (some hr) rl) cs lt (.error r)) := by
    intro r I1 dd hP1 hf1 hfr hno
    have h11 : I1 0 11 = nI (cs.length - r.length) := hP1.2.2.2.2.2.2.2.1
    obtain ⟨l1, l2, l3, l4, l5, l6, l7⟩ := hd_let hP1 (fun c hc => (hno c hc).2.2.2)
    have hin : inV (hdV r) (nI 48) (nI 57) = nI 0 := by
      rw [hd_dg hP1]
      rcases r with _ | ⟨x, r⟩
      · rfl
      · show nI (if isDg x = true then 1 else 0) = nI 0
        rw [(hno x rfl).2.2.1]; rfl
    have fin : PW SM yX12_thing.cls cX12_thing 4 (dd + 4) 67 [some (.ref 0), some (.int (nI deep)), some (.int (hdV r)), none] [] I1 J (RM (some hr) rl) (rX cX12_thing (some .int) (mRes I1 J (RM (some hr) rl) cs lt (.error r))) := by
      refine pw_iload_n 68 rfl dX12_thing_67 rfl ?_
      refine pw_bipush (v := nI 48) 70 rfl dX12_thing_68 rfl ?_
      refine pw_bipush (v := nI 57) 72 rfl dX12_thing_70 rfl ?_
      refine pw_callSP (as := [_, _, _]) 75 rfl dX12_thing_72 mX12_98 sX12_in (m_in (d := dd + 3) _ _ _) ⟨rfl, by decide, by decide, show (parseMethodDescriptor yX12_in.desc).map (fun d => d.parameters.length) = some 3 by decide +kernel⟩ (by omega) (by decide) (Nat.le_of_ble_eq_true rfl) rfl ?_
      refine pw_if_eq (tgt := 84) 78 rfl dX12_thing_75 rfl (fun h75 => ?_) (fun h75 => absurd (by rw [hin]; rfl) h75)
      refine pw_iload_n 85 rfl dX12_thing_84 rfl ?_
      refine pw_callSP (as := [_]) 88 rfl dX12_thing_85 mX12_176 sX12_letterOf (m_letterNo (d := dd + 3) l1 l2 l3 l4 l5 l6 l7) ⟨rfl, by decide, by decide, show (parseMethodDescriptor yX12_letterOf.desc).map (fun d => d.parameters.length) = some 1 by decide +kernel⟩ (by omega) (by decide) (Nat.le_of_ble_eq_true rfl) rfl ?_
      refine pw_iconst (v := -1) 89 rfl dX12_thing_88 rfl ?_
      refine pw_icmp_ne (tgt := 102) 92 rfl dX12_thing_89 rfl (fun h89 => absurd rfl h89) (fun h89 => ?_)
      refine pw_aload_n 93 rfl dX12_thing_92 rfl ?_
      refine pw_aload_n 94 rfl dX12_thing_93 rfl ?_
      refine pw_getI 97 rfl dX12_thing_94 fX12_114 (by first | rfl | assumption | exact rowS hh | exact mtS hm | exact ruS hr | exact mtA1 hm | exact mtA2 hm | exact mtA3 hm | exact mtA4 hm | exact mtA5 hm | exact mtA6 hm | exact mtA7 hm | exact ruA1 hr | exact ruA2 hr | exact ruA3 hr) rfl ?_
      rotate_left
      rw [h11]
      refine pw_callV (as := [_]) 100 rfl dX12_thing_97 mX12_136 vX12_fault (m_fault (d := dd + 2) hf1) (by first | rfl | assumption | exact rowS hh | exact mtS hm | exact ruS hr | exact mtA1 hm | exact mtA2 hm | exact mtA3 hm | exact mtA4 hm | exact mtA5 hm | exact mtA6 hm | exact mtA7 hm | exact ruA1 hr | exact ruA2 hr | exact ruA3 hr) rfl (by decide) ⟨rfl, by decide, by decide, show (parseMethodDescriptor yX12_fault.desc).map (fun d => d.parameters.length) = some 1 by decide +kernel⟩ (by omega) (by decide) (Nat.le_of_ble_eq_true rfl) rfl (fun r97 I97 J97 R97 c97 => ?_)
      obtain ⟨rfl, rfl, rfl, rfl⟩ := c97
      refine pw_iconst (v := nI 0) 101 rfl dX12_thing_100 rfl ?_
      refine pw_iret dX12_thing_101 rfl ?_
      rotate_left
      exact ⟨⟨⟨_, rfl⟩, by rw [uI_ne (by omega)]; exact h11, uI_eq _ _ _ _, hP1.2.2.2.2.2.2.2.2.1⟩, fun a j h => uI_ne (by omega), rfl, rfl⟩
    refine PC.of [some (.ref 0), some (.int (nI deep)), none, none] rfl rfl (Nat.le_of_ble_eq_true rfl) ?_
    refine pw_aload_n 1 rfl dX12_thing_0 rfl ?_
    refine pw_bipush (v := nI 45) 3 rfl dX12_thing_1 rfl ?_
    refine pw_callVP (as := [_]) 6 rfl dX12_thing_3 mX12_132 vX12_passes (m_passesNo (d := dd + 2) (c := 45) hP1 (fun q => (hno _ q).1 rfl) (by decide)) (by first | rfl | assumption | exact rowS hh | exact mtS hm | exact ruS hr | exact mtA1 hm | exact mtA2 hm | exact mtA3 hm | exact mtA4 hm | exact mtA5 hm | exact mtA6 hm | exact mtA7 hm | exact ruA1 hr | exact ruA2 hr | exact ruA3 hr) rfl (by decide) ⟨rfl, by decide, by decide, show (parseMethodDescriptor yX12_passes.desc).map (fun d => d.parameters.length) = some 1 by decide +kernel⟩ (by omega) (by decide) (Nat.le_of_ble_eq_true rfl) rfl ?_
    refine pw_if_eq (tgt := 16) 9 rfl dX12_thing_6 rfl (fun h6 => ?_) (fun h6 => absurd rfl h6)
    refine pw_aload_n 17 rfl dX12_thing_16 rfl ?_
    refine pw_callVP (as := []) 20 rfl dX12_thing_17 mX12_124 vX12_fine (m_fine (d := dd + 3) hf1) (by first | rfl | assumption | exact rowS hh | exact mtS hm | exact ruS hr | exact mtA1 hm | exact mtA2 hm | exact mtA3 hm | exact mtA4 hm | exact mtA5 hm | exact mtA6 hm | exact mtA7 hm | exact ruA1 hr | exact ruA2 hr | exact ruA3 hr) rfl (by decide) ⟨rfl, by decide, by decide, show (parseMethodDescriptor yX12_fine.desc).map (fun d => d.parameters.length) = some 0 by decide +kernel⟩ (by omega) (by decide) (Nat.le_of_ble_eq_true rfl) rfl ?_
    refine pw_if_ne (tgt := 25) 23 rfl dX12_thing_20 rfl (fun h20 => ?_) (fun h20 => absurd h20 (by rw [if_pos rfl]; decide))
    refine pw_aload_n 26 rfl dX12_thing_25 rfl ?_
    refine pw_callVP (as := []) 29 rfl dX12_thing_26 mX12_128 vX12_here (m_here (d := dd + 3) hP1) (by first | rfl | assumption | exact rowS hh | exact mtS hm | exact ruS hr | exact mtA1 hm | exact mtA2 hm | exact mtA3 hm | exact mtA4 hm | exact mtA5 hm | exact mtA6 hm | exact mtA7 hm | exact ruA1 hr | exact ruA2 hr | exact ruA3 hr) rfl (by decide) ⟨rfl, by decide, by decide, show (parseMethodDescriptor yX12_here.desc).map (fun d => d.parameters.length) = some 0 by decide +kernel⟩ (by omega) (by decide) (Nat.le_of_ble_eq_true rfl) rfl ?_
    refine pw_istore_n 30 rfl dX12_thing_29 (by decide) ?_
    rotate_left
    by_cases h40 : r.head? = some 40
    · have h4 := (hno _ h40).2.1 rfl
      rcases r with _ | ⟨x, r⟩
      · cases h40
      · cases h40
        refine pw_iload_n 31 rfl dX12_thing_30 rfl ?_
        refine pw_bipush (v := nI 40) 33 rfl dX12_thing_31 rfl ?_
        refine pw_icmp_ne (tgt := 67) 36 rfl dX12_thing_33 rfl (fun h33 => absurd rfl h33) (fun h33 => ?_)
        refine pw_iload_n 37 rfl dX12_thing_36 rfl ?_
        refine pw_iconst (v := nI 4) 38 rfl dX12_thing_37 rfl ?_
        refine pw_icmp_ge (tgt := 67) 41 rfl dX12_thing_38 rfl (fun h38 => ?_) (fun h38 => absurd (by (simp (disch := omega) only [nI_leI, nI_ltI, nI_eq, show (0 : Int32) = nI 0 from rfl, not_true_eq_false, not_false_eq_true] <;> omega)) h38)
        rotate_left
        exact fin
    · refine pw_iload_n 31 rfl dX12_thing_30 rfl ?_
      refine pw_bipush (v := nI 40) 33 rfl dX12_thing_31 rfl ?_
      refine pw_icmp_ne (tgt := 67) 36 rfl dX12_thing_33 rfl (fun h33 => ?_) (fun h33 => absurd h33 (hd_no hP1 (by decide) h40))
      rotate_left
      exact fin
  induction r generalizing I with
  | nil =>
    rw [pThing]
    refine PC.mono ?_ (fun r' I' J' R' h => h)
    exact bad [] I (d + D) hP hf (fun _ _ _ => rfl) (fun c hc => by cases hc)
  | cons c r ih =>
    have hs := hP.2.2.2.2.2.2.2.2.1
    have hx := MP_lt hP
    have hl' : r.length ≤ 39 := by rw [List.length_cons] at hl; omega
    have hP1 := mAt_MP hP (sfx_tl hs)
    have h11 : I 0 11 = nI (cs.length - (c :: r).length) := hP.2.2.2.2.2.2.2.1
    have hle := sfx_le hs
    have e1 : cs.length - (c :: r).length + 1 = cs.length - r.length := by rw [List.length_cons] at hle ⊢; omega
    rw [pThing]
    by_cases e45 : c = 45
    · subst e45
      rw [if_pos rfl]
      have ih1 := ih (mAt I (cs.length - r.length)) hP1 (by omega) (by rw [mAt_12]; exact hf) (hL.fr mAt_fr) (fun r2 I1 dd q1 q2 q3 q4 => bad r2 I1 dd q1 q2 (fun a j h => by rw [q3 a j h, mAt_fr a j h]) q4)
      refine PC.of [some (.ref 0), some (.int (nI deep)), none, none] rfl rfl (Nat.le_of_ble_eq_true rfl) ?_
      refine pw_aload_n 1 rfl dX12_thing_0 rfl ?_
      refine pw_bipush (v := nI 45) 3 rfl dX12_thing_1 rfl ?_
      refine pw_callV (as := [_]) 6 rfl dX12_thing_3 mX12_132 vX12_passes (m_passes (d := d + D + 3 + r.length) hP hf) (by first | rfl | assumption | exact rowS hh | exact mtS hm | exact ruS hr | exact mtA1 hm | exact mtA2 hm | exact mtA3 hm | exact mtA4 hm | exact mtA5 hm | exact mtA6 hm | exact mtA7 hm | exact ruA1 hr | exact ruA2 hr | exact ruA3 hr) rfl (by decide) ⟨rfl, by decide, by decide, show (parseMethodDescriptor yX12_passes.desc).map (fun d => d.parameters.length) = some 1 by decide +kernel⟩ (by omega) (by decide) (Nat.le_of_ble_eq_true rfl) rfl (fun r3 I3 J3 R3 c3 => ?_)
      obtain ⟨rfl, rfl, rfl, rfl⟩ := c3
      refine pw_if_eq (tgt := 16) 9 rfl dX12_thing_6 rfl (fun h6 => absurd h6 (by decide)) (fun h6 => ?_)
      refine pw_aload_n 10 rfl dX12_thing_9 rfl ?_
      refine pw_iload_n 11 rfl dX12_thing_10 rfl ?_
      rotate_left
      refine pw_callV (as := [_]) 14 rfl dX12_thing_11 mX12_163 vX12_thing ih1 (by first | rfl | assumption | exact rowS hh | exact mtS hm | exact ruS hr | exact mtA1 hm | exact mtA2 hm | exact mtA3 hm | exact mtA4 hm | exact mtA5 hm | exact mtA6 hm | exact mtA7 hm | exact ruA1 hr | exact ruA2 hr | exact ruA3 hr) rfl (by decide) ⟨rfl, by decide, by decide, show (parseMethodDescriptor yX12_thing.desc).map (fun d => d.parameters.length) = some 1 by decide +kernel⟩ (by omega) (by decide) (Nat.le_of_ble_eq_true rfl) rfl (fun r11 I11 J11 R11 c11 => ?_)
      rotate_left
      revert c11
      rcases pThing X may r with e | ⟨f, r2⟩
      · rintro ⟨⟨⟨v, rfl⟩, q1, q2, q3⟩, q4, rfl, rfl⟩
        refine pw_ineg 15 rfl dX12_thing_14 ?_
        refine pw_iret dX12_thing_15 rfl ?_
        rotate_left
        exact ⟨⟨⟨_, rfl⟩, q1, q2, q3⟩, fun a j h => by rw [q4 a j h, mAt_fr a j h], rfl, rfl⟩
      · rintro ⟨⟨rfl, q1, q2, q3⟩, q4, rfl, rfl⟩
        refine pw_ineg 15 rfl dX12_thing_14 ?_
        refine pw_iret dX12_thing_15 rfl ?_
        rotate_left
        exact ⟨⟨rfl, q1, q2, q3⟩, fun a j h => by rw [q4 a j h, mAt_fr a j h], rfl, rfl⟩
    · rw [if_neg e45]
      by_cases e40 : c = 40 ∧ may = true
      · rw [if_pos e40]
        obtain ⟨rfl, hy⟩ := e40
        have hd := hm.mp hy
        refine PC.of [some (.ref 0), some (.int (nI deep)), none, none] rfl rfl (Nat.le_of_ble_eq_true rfl) ?_
        refine pw_aload_n 1 rfl dX12_thing_0 rfl ?_
        refine pw_bipush (v := nI 45) 3 rfl dX12_thing_1 rfl ?_
        refine pw_callVP (as := [_]) 6 rfl dX12_thing_3 mX12_132 vX12_passes (m_passesNo (d := d + D + 3 + r.length) (c := 45) hP (by simp) (by decide)) (by first | rfl | assumption | exact rowS hh | exact mtS hm | exact ruS hr | exact mtA1 hm | exact mtA2 hm | exact mtA3 hm | exact mtA4 hm | exact mtA5 hm | exact mtA6 hm | exact mtA7 hm | exact ruA1 hr | exact ruA2 hr | exact ruA3 hr) rfl (by decide) ⟨rfl, by decide, by decide, show (parseMethodDescriptor yX12_passes.desc).map (fun d => d.parameters.length) = some 1 by decide +kernel⟩ (by omega) (by decide) (Nat.le_of_ble_eq_true rfl) rfl ?_
        refine pw_if_eq (tgt := 16) 9 rfl dX12_thing_6 rfl (fun h6 => ?_) (fun h6 => absurd rfl h6)
        refine pw_aload_n 17 rfl dX12_thing_16 rfl ?_
        refine pw_callVP (as := []) 20 rfl dX12_thing_17 mX12_124 vX12_fine (m_fine (d := d + D + 4 + r.length) hf) (by first | rfl | assumption | exact rowS hh | exact mtS hm | exact ruS hr | exact mtA1 hm | exact mtA2 hm | exact mtA3 hm | exact mtA4 hm | exact mtA5 hm | exact mtA6 hm | exact mtA7 hm | exact ruA1 hr | exact ruA2 hr | exact ruA3 hr) rfl (by decide) ⟨rfl, by decide, by decide, show (parseMethodDescriptor yX12_fine.desc).map (fun d => d.parameters.length) = some 0 by decide +kernel⟩ (by omega) (by decide) (Nat.le_of_ble_eq_true rfl) rfl ?_
        refine pw_if_ne (tgt := 25) 23 rfl dX12_thing_20 rfl (fun h20 => ?_) (fun h20 => absurd h20 (by rw [if_pos rfl]; decide))
        refine pw_aload_n 26 rfl dX12_thing_25 rfl ?_
        refine pw_callVP (as := []) 29 rfl dX12_thing_26 mX12_128 vX12_here (m_here (d := d + D + 4 + r.length) hP) (by first | rfl | assumption | exact rowS hh | exact mtS hm | exact ruS hr | exact mtA1 hm | exact mtA2 hm | exact mtA3 hm | exact mtA4 hm | exact mtA5 hm | exact mtA6 hm | exact mtA7 hm | exact ruA1 hr | exact ruA2 hr | exact ruA3 hr) rfl (by decide) ⟨rfl, by decide, by decide, show (parseMethodDescriptor yX12_here.desc).map (fun d => d.parameters.length) = some 0 by decide +kernel⟩ (by omega) (by decide) (Nat.le_of_ble_eq_true rfl) rfl ?_
        refine pw_istore_n 30 rfl dX12_thing_29 (by decide) ?_
        refine pw_iload_n 31 rfl dX12_thing_30 rfl ?_
        refine pw_bipush (v := nI 40) 33 rfl dX12_thing_31 rfl ?_
        refine pw_icmp_ne (tgt := 67) 36 rfl dX12_thing_33 rfl (fun h33 => absurd rfl h33) (fun h33 => ?_)
        refine pw_iload_n 37 rfl dX12_thing_36 rfl ?_
        refine pw_iconst (v := nI 4) 38 rfl dX12_thing_37 rfl ?_
        refine pw_icmp_ge (tgt := 67) 41 rfl dX12_thing_38 rfl (fun h38 => absurd h38 (by (simp (disch := omega) only [nI_leI, nI_ltI, nI_eq, show (0 : Int32) = nI 0 from rfl, not_true_eq_false, not_false_eq_true] <;> omega))) (fun h38 => ?_)
        refine pw_aload_n 42 rfl dX12_thing_41 rfl ?_
        refine pw_dup 43 rfl dX12_thing_42 rfl ?_
        refine pw_getI 46 rfl dX12_thing_43 fX12_114 (by first | rfl | assumption | exact rowS hh | exact mtS hm | exact ruS hr | exact mtA1 hm | exact mtA2 hm | exact mtA3 hm | exact mtA4 hm | exact mtA5 hm | exact mtA6 hm | exact mtA7 hm | exact ruA1 hr | exact ruA2 hr | exact ruA3 hr) rfl ?_
        rotate_left
        rw [h11]
        refine pw_iconst (v := nI 1) 47 rfl dX12_thing_46 rfl ?_
        first | refine pw_iaddN 48 rfl dX12_thing_47 ?_ | refine pw_iadd 48 rfl dX12_thing_47 ?_
        refine pw_putI 51 rfl dX12_thing_48 fX12_114 w12_11 (by first | rfl | assumption | exact rowS hh | exact mtS hm | exact ruS hr | exact mtA1 hm | exact mtA2 hm | exact mtA3 hm | exact mtA4 hm | exact mtA5 hm | exact mtA6 hm | exact mtA7 hm | exact ruA1 hr | exact ruA2 hr | exact ruA3 hr) rfl rfl rfl ?_
        rotate_left
        rw [e1]
        refine pw_aload_n 52 rfl dX12_thing_51 rfl ?_
        refine pw_iload_n 53 rfl dX12_thing_52 rfl ?_
        refine pw_iconst (v := nI 1) 54 rfl dX12_thing_53 rfl ?_
        first | refine pw_iaddN 55 rfl dX12_thing_54 ?_ | refine pw_iadd 55 rfl dX12_thing_54 ?_
        rotate_left
        have cx := hX hy (d + 4 + r.length) hr nn L T rl cs r lt (mAt I (cs.length - r.length)) J hP1 (by omega) (by rw [mAt_12]; exact hf) (hL.fr mAt_fr)
        rw [show d + 4 + r.length + D = d + D + 4 + r.length by omega] at cx
        refine pw_callV (as := [_]) 58 rfl dX12_thing_55 mX12_166 vX12_held cx (by first | rfl | assumption | exact rowS hh | exact mtS hm | exact ruS hr | exact mtA1 hm | exact mtA2 hm | exact mtA3 hm | exact mtA4 hm | exact mtA5 hm | exact mtA6 hm | exact mtA7 hm | exact ruA1 hr | exact ruA2 hr | exact ruA3 hr) rfl (by decide) ⟨rfl, by decide, by decide, show (parseMethodDescriptor yX12_held.desc).map (fun d => d.parameters.length) = some 1 by decide +kernel⟩ (by omega) (by decide) (Nat.le_of_ble_eq_true rfl) rfl (fun r55 I55 J55 R55 c55 => ?_)
        rotate_left
        revert c55
        rcases X r with e | ⟨f, r2⟩
        · rintro ⟨⟨⟨v, rfl⟩, q1, q2, q3⟩, q4, rfl, rfl⟩
          have hne : nI (cs.length - e.length) ≠ -1 := by
            have h1 := hP.2.2.2.2.1
            have h2 : min L T ≤ T := Nat.min_le_right _ _
            have h3 := hP.2.2.2.1
            exact fun z => nI_pos (show cs.length - e.length < 2 ^ 31 by omega) (by rw [z]; decide)
          have hPe : MP I55 hr nn L T cs e := hP1.fr q4 q1 q3
          refine pw_istore_n 59 rfl dX12_thing_58 (by decide) ?_
          refine pw_aload_n 60 rfl dX12_thing_59 rfl ?_
          refine pw_bipush (v := nI 41) 62 rfl dX12_thing_60 rfl ?_
          rotate_left
          have cn : PC SM (d + D + 4 + r.length) yX12_need cX12_need 2 none [.ref 0, .int (nI 41)] I55 J (RM (some hr) rl) (fun r' I' J' R' => r' = none ∧ I' = I55 ∧ J = J' ∧ R' = RM (some hr) rl) := by
            refine PC.of [some (.ref 0), some (.int (nI 41))] rfl rfl (Nat.le_of_ble_eq_true rfl) ?_
            refine pw_aload_n 1 rfl dX12_need_0 rfl ?_
            refine pw_iload_n 2 rfl dX12_need_1 rfl ?_
            refine pw_callVP (as := [_]) 5 rfl dX12_need_2 mX12_132 vX12_passes (m_passesBad (d := d + D + 2 + r.length) q2 hne) (by first | rfl | assumption | exact rowS hh | exact mtS hm | exact ruS hr | exact mtA1 hm | exact mtA2 hm | exact mtA3 hm | exact mtA4 hm | exact mtA5 hm | exact mtA6 hm | exact mtA7 hm | exact ruA1 hr | exact ruA2 hr | exact ruA3 hr) rfl (by decide) ⟨rfl, by decide, by decide, show (parseMethodDescriptor yX12_passes.desc).map (fun d => d.parameters.length) = some 1 by decide +kernel⟩ (by omega) (by decide) (Nat.le_of_ble_eq_true rfl) rfl ?_
            refine pw_if_ne (tgt := 16) 8 rfl dX12_need_5 rfl (fun h5 => absurd rfl h5) (fun h5 => ?_)
            refine pw_aload_n 9 rfl dX12_need_8 rfl ?_
            refine pw_aload_n 10 rfl dX12_need_9 rfl ?_
            refine pw_getI 13 rfl dX12_need_10 fX12_114 (by first | rfl | assumption | exact rowS hh | exact mtS hm | exact ruS hr | exact mtA1 hm | exact mtA2 hm | exact mtA3 hm | exact mtA4 hm | exact mtA5 hm | exact mtA6 hm | exact mtA7 hm | exact ruA1 hr | exact ruA2 hr | exact ruA3 hr) rfl ?_
            refine pw_callV (as := [_]) 16 rfl dX12_need_13 mX12_136 vX12_fault (m_faultNo (d := d + D + 2 + r.length) q2 hne) (by first | rfl | assumption | exact rowS hh | exact mtS hm | exact ruS hr | exact mtA1 hm | exact mtA2 hm | exact mtA3 hm | exact mtA4 hm | exact mtA5 hm | exact mtA6 hm | exact mtA7 hm | exact ruA1 hr | exact ruA2 hr | exact ruA3 hr) rfl (by decide) ⟨rfl, by decide, by decide, show (parseMethodDescriptor yX12_fault.desc).map (fun d => d.parameters.length) = some 1 by decide +kernel⟩ (by omega) (by decide) (Nat.le_of_ble_eq_true rfl) rfl (fun r13 I13 J13 R13 c13 => ?_)
            obtain ⟨rfl, rfl, rfl, rfl⟩ := c13
            refine pw_vret dX12_need_16 ?_
            rotate_left
            exact ⟨rfl, rfl, rfl, rfl⟩
          refine pw_callV (as := [_]) 65 rfl dX12_thing_62 mX12_169 vX12_need cn (by first | rfl | assumption | exact rowS hh | exact mtS hm | exact ruS hr | exact mtA1 hm | exact mtA2 hm | exact mtA3 hm | exact mtA4 hm | exact mtA5 hm | exact mtA6 hm | exact mtA7 hm | exact ruA1 hr | exact ruA2 hr | exact ruA3 hr) rfl (by decide) ⟨rfl, by decide, by decide, show (parseMethodDescriptor yX12_need.desc).map (fun d => d.parameters.length) = some 1 by decide +kernel⟩ (by omega) (by decide) (Nat.le_of_ble_eq_true rfl) rfl (fun r62 I62 J62 R62 c62 => ?_)
          obtain ⟨rfl, rfl, rfl, rfl⟩ := c62
          refine pw_iload_n 66 rfl dX12_thing_65 rfl ?_
          refine pw_iret dX12_thing_66 rfl ?_
          rotate_left
          exact ⟨⟨⟨_, rfl⟩, q1, q2, q3⟩, fun a j h => by rw [q4 a j h, mAt_fr a j h], rfl, rfl⟩
        · rintro ⟨⟨rfl, q1, q2, q3⟩, q4, rfl, rfl⟩
          have hPe : MP I55 hr nn L T cs r2 := hP1.fr q4 q1 q3
          refine pw_istore_n 59 rfl dX12_thing_58 (by decide) ?_
          refine pw_aload_n 60 rfl dX12_thing_59 rfl ?_
          refine pw_bipush (v := nI 41) 62 rfl dX12_thing_60 rfl ?_
          refine pw_callV (as := [_]) 65 rfl dX12_thing_62 mX12_169 vX12_need (m_need (d := d + D + 2 + r.length) (c := 41) hPe q2 (by decide)) (by first | rfl | assumption | exact rowS hh | exact mtS hm | exact ruS hr | exact mtA1 hm | exact mtA2 hm | exact mtA3 hm | exact mtA4 hm | exact mtA5 hm | exact mtA6 hm | exact mtA7 hm | exact ruA1 hr | exact ruA2 hr | exact ruA3 hr) rfl (by decide) ⟨rfl, by decide, by decide, show (parseMethodDescriptor yX12_need.desc).map (fun d => d.parameters.length) = some 1 by decide +kernel⟩ (by omega) (by decide) (Nat.le_of_ble_eq_true rfl) rfl (fun r62 I62 J62 R62 c62 => ?_)
          obtain ⟨rfl, rfl, rfl, rfl⟩ := c62
          refine pw_iload_n 66 rfl dX12_thing_65 rfl ?_
          refine pw_iret dX12_thing_66 rfl ?_
          rotate_left
          show mRes I J (RM (some hr) rl) cs lt (if r2.head? = some 41 then .ok (f, r2.tail) else .error r2) _ (if r2.head? = some 41 then _ else _) _ _
          by_cases h41 : r2.head? = some 41
          · rw [if_pos h41, if_pos h41]
            refine ⟨⟨rfl, uI_eq _ _ _ _, by rw [mAt_12]; exact q2, ?_⟩, fun a j h => by rw [mAt_fr a j h, q4 a j h, mAt_fr a j h], rfl, rfl⟩
            rcases r2 with _ | ⟨y, r2⟩
            · cases h41
            · exact sfx_tl q3
          · rw [if_neg h41, if_neg h41]
            exact ⟨⟨⟨_, rfl⟩, by rw [uI_ne (by omega)]; exact q1, uI_eq _ _ _ _, q3⟩, fun a j h => by rw [uI_ne (by omega), q4 a j h, mAt_fr a j h], rfl, rfl⟩
      · rw [if_neg e40]
        by_cases hdg : isDg c = true
        · rw [if_pos hdg]
          have hb := isDg_b hdg
          refine PC.of [some (.ref 0), some (.int (nI deep)), none, none] rfl rfl (Nat.le_of_ble_eq_true rfl) ?_
          have c40 : ¬ hdV (c :: r) = nI 40 := hd_no hP (by decide) (by intro q; cases q; omega)
          refine pw_aload_n 1 rfl dX12_thing_0 rfl ?_
          refine pw_bipush (v := nI 45) 3 rfl dX12_thing_1 rfl ?_
          refine pw_callVP (as := [_]) 6 rfl dX12_thing_3 mX12_132 vX12_passes (m_passesNo (d := d + D + 3 + r.length) (c := 45) hP (by intro q; cases q; omega) (by decide)) (by first | rfl | assumption | exact rowS hh | exact mtS hm | exact ruS hr | exact mtA1 hm | exact mtA2 hm | exact mtA3 hm | exact mtA4 hm | exact mtA5 hm | exact mtA6 hm | exact mtA7 hm | exact ruA1 hr | exact ruA2 hr | exact ruA3 hr) rfl (by decide) ⟨rfl, by decide, by decide, show (parseMethodDescriptor yX12_passes.desc).map (fun d => d.parameters.length) = some 1 by decide +kernel⟩ (by omega) (by decide) (Nat.le_of_ble_eq_true rfl) rfl ?_
          refine pw_if_eq (tgt := 16) 9 rfl dX12_thing_6 rfl (fun h6 => ?_) (fun h6 => absurd rfl h6)
          refine pw_aload_n 17 rfl dX12_thing_16 rfl ?_
          refine pw_callVP (as := []) 20 rfl dX12_thing_17 mX12_124 vX12_fine (m_fine (d := d + D + 4 + r.length) hf) (by first | rfl | assumption | exact rowS hh | exact mtS hm | exact ruS hr | exact mtA1 hm | exact mtA2 hm | exact mtA3 hm | exact mtA4 hm | exact mtA5 hm | exact mtA6 hm | exact mtA7 hm | exact ruA1 hr | exact ruA2 hr | exact ruA3 hr) rfl (by decide) ⟨rfl, by decide, by decide, show (parseMethodDescriptor yX12_fine.desc).map (fun d => d.parameters.length) = some 0 by decide +kernel⟩ (by omega) (by decide) (Nat.le_of_ble_eq_true rfl) rfl ?_
          refine pw_if_ne (tgt := 25) 23 rfl dX12_thing_20 rfl (fun h20 => ?_) (fun h20 => absurd h20 (by rw [if_pos rfl]; decide))
          refine pw_aload_n 26 rfl dX12_thing_25 rfl ?_
          refine pw_callVP (as := []) 29 rfl dX12_thing_26 mX12_128 vX12_here (m_here (d := d + D + 4 + r.length) hP) (by first | rfl | assumption | exact rowS hh | exact mtS hm | exact ruS hr | exact mtA1 hm | exact mtA2 hm | exact mtA3 hm | exact mtA4 hm | exact mtA5 hm | exact mtA6 hm | exact mtA7 hm | exact ruA1 hr | exact ruA2 hr | exact ruA3 hr) rfl (by decide) ⟨rfl, by decide, by decide, show (parseMethodDescriptor yX12_here.desc).map (fun d => d.parameters.length) = some 0 by decide +kernel⟩ (by omega) (by decide) (Nat.le_of_ble_eq_true rfl) rfl ?_
          refine pw_istore_n 30 rfl dX12_thing_29 (by decide) ?_
          refine pw_iload_n 31 rfl dX12_thing_30 rfl ?_
          refine pw_bipush (v := nI 40) 33 rfl dX12_thing_31 rfl ?_
          refine pw_icmp_ne (tgt := 67) 36 rfl dX12_thing_33 rfl (fun h33 => ?_) (fun h33 => absurd h33 c40)
          rotate_left
          refine pw_iload_n 68 rfl dX12_thing_67 rfl ?_
          refine pw_bipush (v := nI 48) 70 rfl dX12_thing_68 rfl ?_
          refine pw_bipush (v := nI 57) 72 rfl dX12_thing_70 rfl ?_
          refine pw_callSP (as := [_, _, _]) 75 rfl dX12_thing_72 mX12_98 sX12_in (m_in (d := d) _ _ _) ⟨rfl, by decide, by decide, show (parseMethodDescriptor yX12_in.desc).map (fun d => d.parameters.length) = some 3 by decide +kernel⟩ (by omega) (by decide) (Nat.le_of_ble_eq_true rfl) rfl ?_
          refine pw_if_eq (tgt := 84) 78 rfl dX12_thing_75 rfl (fun h75 => absurd h75 (by show ¬ inV (nI c) (nI 48) (nI 57) = 0; rw [in_dg (by omega), if_pos hdg]; decide)) (fun h75 => ?_)
          refine pw_aload_n 79 rfl dX12_thing_78 rfl ?_
          refine pw_iconst (v := nI 3) 80 rfl dX12_thing_79 rfl ?_
          refine pw_callV (as := [_]) 83 rfl dX12_thing_80 mX12_173 vX12_number (m_number (d := d + D + 2 + r.length) hP hf hdg) (by first | rfl | assumption | exact rowS hh | exact mtS hm | exact ruS hr | exact mtA1 hm | exact mtA2 hm | exact mtA3 hm | exact mtA4 hm | exact mtA5 hm | exact mtA6 hm | exact mtA7 hm | exact ruA1 hr | exact ruA2 hr | exact ruA3 hr) rfl (by decide) ⟨rfl, by decide, by decide, show (parseMethodDescriptor yX12_number.desc).map (fun d => d.parameters.length) = some 1 by decide +kernel⟩ (by omega) (by decide) (Nat.le_of_ble_eq_true rfl) rfl (fun r80 I80 J80 R80 c80 => ?_)
          obtain ⟨rfl, q1, q2, q3, q4, rfl, rfl⟩ := c80
          rotate_left
          refine pw_iret dX12_thing_83 rfl ?_
          rotate_left
          exact ⟨⟨rfl, q1, q2, q3⟩, q4, rfl, rfl⟩
        · rw [if_neg hdg]
          by_cases hlt : letB c = true
          · rw [if_pos hlt]
            have hlet := letB_iff.mp hlt
            have hll := letN_lt c
            have c40 : ¬ hdV (c :: r) = nI 40 := hd_no hP (by decide) (by intro q; cases q; exact absurd hlt (by decide))
            refine PC.of [some (.ref 0), some (.int (nI deep)), none, none] rfl rfl (Nat.le_of_ble_eq_true rfl) ?_
            refine pw_aload_n 1 rfl dX12_thing_0 rfl ?_
            refine pw_bipush (v := nI 45) 3 rfl dX12_thing_1 rfl ?_
            refine pw_callVP (as := [_]) 6 rfl dX12_thing_3 mX12_132 vX12_passes (m_passesNo (d := d + D + 3 + r.length) (c := 45) hP (by intro q; cases q; exact absurd rfl e45) (by decide)) (by first | rfl | assumption | exact rowS hh | exact mtS hm | exact ruS hr | exact mtA1 hm | exact mtA2 hm | exact mtA3 hm | exact mtA4 hm | exact mtA5 hm | exact mtA6 hm | exact mtA7 hm | exact ruA1 hr | exact ruA2 hr | exact ruA3 hr) rfl (by decide) ⟨rfl, by decide, by decide, show (parseMethodDescriptor yX12_passes.desc).map (fun d => d.parameters.length) = some 1 by decide +kernel⟩ (by omega) (by decide) (Nat.le_of_ble_eq_true rfl) rfl ?_
            refine pw_if_eq (tgt := 16) 9 rfl dX12_thing_6 rfl (fun h6 => ?_) (fun h6 => absurd rfl h6)
            refine pw_aload_n 17 rfl dX12_thing_16 rfl ?_
            refine pw_callVP (as := []) 20 rfl dX12_thing_17 mX12_124 vX12_fine (m_fine (d := d + D + 4 + r.length) hf) (by first | rfl | assumption | exact rowS hh | exact mtS hm | exact ruS hr | exact mtA1 hm | exact mtA2 hm | exact mtA3 hm | exact mtA4 hm | exact mtA5 hm | exact mtA6 hm | exact mtA7 hm | exact ruA1 hr | exact ruA2 hr | exact ruA3 hr) rfl (by decide) ⟨rfl, by decide, by decide, show (parseMethodDescriptor yX12_fine.desc).map (fun d => d.parameters.length) = some 0 by decide +kernel⟩ (by omega) (by decide) (Nat.le_of_ble_eq_true rfl) rfl ?_
            refine pw_if_ne (tgt := 25) 23 rfl dX12_thing_20 rfl (fun h20 => ?_) (fun h20 => absurd h20 (by rw [if_pos rfl]; decide))
            refine pw_aload_n 26 rfl dX12_thing_25 rfl ?_
            refine pw_callVP (as := []) 29 rfl dX12_thing_26 mX12_128 vX12_here (m_here (d := d + D + 4 + r.length) hP) (by first | rfl | assumption | exact rowS hh | exact mtS hm | exact ruS hr | exact mtA1 hm | exact mtA2 hm | exact mtA3 hm | exact mtA4 hm | exact mtA5 hm | exact mtA6 hm | exact mtA7 hm | exact ruA1 hr | exact ruA2 hr | exact ruA3 hr) rfl (by decide) ⟨rfl, by decide, by decide, show (parseMethodDescriptor yX12_here.desc).map (fun d => d.parameters.length) = some 0 by decide +kernel⟩ (by omega) (by decide) (Nat.le_of_ble_eq_true rfl) rfl ?_
            refine pw_istore_n 30 rfl dX12_thing_29 (by decide) ?_
            refine pw_iload_n 31 rfl dX12_thing_30 rfl ?_
            refine pw_bipush (v := nI 40) 33 rfl dX12_thing_31 rfl ?_
            refine pw_icmp_ne (tgt := 67) 36 rfl dX12_thing_33 rfl (fun h33 => ?_) (fun h33 => absurd h33 c40)
            rotate_left
            have hne : ¬ nI (letN c) = -1 := fun z => nI_pos (show letN c < 2 ^ 31 by omega) (by rw [z]; decide)
            refine pw_iload_n 68 rfl dX12_thing_67 rfl ?_
            refine pw_bipush (v := nI 48) 70 rfl dX12_thing_68 rfl ?_
            refine pw_bipush (v := nI 57) 72 rfl dX12_thing_70 rfl ?_
            refine pw_callSP (as := [_, _, _]) 75 rfl dX12_thing_72 mX12_98 sX12_in (m_in (d := d) _ _ _) ⟨rfl, by decide, by decide, show (parseMethodDescriptor yX12_in.desc).map (fun d => d.parameters.length) = some 3 by decide +kernel⟩ (by omega) (by decide) (Nat.le_of_ble_eq_true rfl) rfl ?_
            refine pw_if_eq (tgt := 84) 78 rfl dX12_thing_75 rfl (fun h75 => ?_) (fun h75 => absurd (by show inV (nI c) (nI 48) (nI 57) = 0; rw [in_dg (by omega), if_neg hdg]; rfl) h75)
            refine pw_iload_n 85 rfl dX12_thing_84 rfl ?_
            refine pw_callSP (as := [_]) 88 rfl dX12_thing_85 mX12_176 sX12_letterOf (m_letterOf (d := d + D + 4 + r.length) hlet) ⟨rfl, by decide, by decide, show (parseMethodDescriptor yX12_letterOf.desc).map (fun d => d.parameters.length) = some 1 by decide +kernel⟩ (by omega) (by decide) (Nat.le_of_ble_eq_true rfl) rfl ?_
            refine pw_iconst (v := -1) 89 rfl dX12_thing_88 rfl ?_
            refine pw_icmp_ne (tgt := 102) 92 rfl dX12_thing_89 rfl (fun h89 => ?_) (fun h89 => absurd h89 hne)
            refine pw_aload_n 103 rfl dX12_thing_102 rfl ?_
            refine pw_dup 104 rfl dX12_thing_103 rfl ?_
            refine pw_getI 107 rfl dX12_thing_104 fX12_114 (by first | rfl | assumption | exact rowS hh | exact mtS hm | exact ruS hr | exact mtA1 hm | exact mtA2 hm | exact mtA3 hm | exact mtA4 hm | exact mtA5 hm | exact mtA6 hm | exact mtA7 hm | exact ruA1 hr | exact ruA2 hr | exact ruA3 hr) rfl ?_
            rotate_left
            rw [h11]
            refine pw_iconst (v := nI 1) 108 rfl dX12_thing_107 rfl ?_
            first | refine pw_iaddN 109 rfl dX12_thing_108 ?_ | refine pw_iadd 109 rfl dX12_thing_108 ?_
            refine pw_putI 112 rfl dX12_thing_109 fX12_114 w12_11 (by first | rfl | assumption | exact rowS hh | exact mtS hm | exact ruS hr | exact mtA1 hm | exact mtA2 hm | exact mtA3 hm | exact mtA4 hm | exact mtA5 hm | exact mtA6 hm | exact mtA7 hm | exact ruA1 hr | exact ruA2 hr | exact ruA3 hr) rfl rfl rfl ?_
            rotate_left
            rw [e1]
            rcases hL with ⟨g1, g2⟩ | ⟨g1, g2⟩
            · refine pw_aload_n 113 rfl dX12_thing_112 rfl ?_
              refine pw_getI 116 rfl dX12_thing_113 fX12_179 (by first | rfl | assumption | exact rowS hh | exact mtS hm | exact ruS hr | exact mtA1 hm | exact mtA2 hm | exact mtA3 hm | exact mtA4 hm | exact mtA5 hm | exact mtA6 hm | exact mtA7 hm | exact ruA1 hr | exact ruA2 hr | exact ruA3 hr) rfl ?_
              refine pw_if_eq (tgt := 131) 119 rfl dX12_thing_116 rfl (fun h116 => absurd h116 (by rw [uI_ne (by omega), g1]; decide)) (fun h116 => ?_)
              refine pw_aload_n 120 rfl dX12_thing_119 rfl ?_
              refine pw_getR 123 rfl dX12_thing_120 fX12_33 (by first | rfl | assumption | exact rowS hh | exact mtS hm | exact ruS hr | exact mtA1 hm | exact mtA2 hm | exact mtA3 hm | exact mtA4 hm | exact mtA5 hm | exact mtA6 hm | exact mtA7 hm | exact ruA1 hr | exact ruA2 hr | exact ruA3 hr) rfl (by first | rfl | assumption | exact mtR0 hm | exact mtR1 hm | exact mtR2 hm | exact mtR3 hm | exact mtR4 hm | exact mtR5 hm | exact mtR6 hm | exact ruR0 hr | exact ruR1 hr | exact ruR3 hr) ?_
              refine pw_iload_n 124 rfl dX12_thing_123 rfl ?_
              refine pw_callSP (as := [_]) 127 rfl dX12_thing_124 mX12_176 sX12_letterOf (m_letterOf (d := d + D + 4 + r.length) hlet) ⟨rfl, by decide, by decide, show (parseMethodDescriptor yX12_letterOf.desc).map (fun d => d.parameters.length) = some 1 by decide +kernel⟩ (by omega) (by decide) (Nat.le_of_ble_eq_true rfl) rfl ?_
              refine pw_ialdN 128 rfl dX12_thing_127 (by first | rfl | assumption | exact rowS hh | exact mtS hm | exact ruS hr | exact mtA1 hm | exact mtA2 hm | exact mtA3 hm | exact mtA4 hm | exact mtA5 hm | exact mtA6 hm | exact mtA7 hm | exact ruA1 hr | exact ruA2 hr | exact ruA3 hr) (by omega) (by first | decide | omega) ?_
              rotate_left
              rw [uI_ne (by omega), g2 c hlt]
              refine pw_goto (tgt := 132) dX12_thing_128 rfl ?_
              refine pw_iret dX12_thing_132 rfl ?_
              rotate_left
              exact ⟨⟨rfl, uI_eq _ _ _ _, by rw [uI_ne (by omega)]; exact hf, sfx_tl hs⟩, fun a j h => uI_ne (by omega), rfl, rfl⟩
            · refine pw_aload_n 113 rfl dX12_thing_112 rfl ?_
              refine pw_getI 116 rfl dX12_thing_113 fX12_179 (by first | rfl | assumption | exact rowS hh | exact mtS hm | exact ruS hr | exact mtA1 hm | exact mtA2 hm | exact mtA3 hm | exact mtA4 hm | exact mtA5 hm | exact mtA6 hm | exact mtA7 hm | exact ruA1 hr | exact ruA2 hr | exact ruA3 hr) rfl ?_
              refine pw_if_eq (tgt := 131) 119 rfl dX12_thing_116 rfl (fun h116 => ?_) (fun h116 => absurd (by rw [uI_ne (by omega), g1]; rfl) h116)
              refine pw_iconst (v := nI 0) 132 rfl dX12_thing_131 rfl ?_
              refine pw_iret dX12_thing_132 rfl ?_
              rotate_left
              refine ⟨⟨?_, uI_eq _ _ _ _, by rw [uI_ne (by omega)]; exact hf, sfx_tl hs⟩, fun a j h => uI_ne (by omega), rfl, rfl⟩
              show _ = some (Value.int (lt c))
              rw [g2 c hlt]
          · rw [if_neg hlt]
            have hb := bad (c :: r) I (d + D + (c :: r).length) hP hf (fun _ _ _ => rfl) (fun x hx => by
              cases hx
              exact ⟨e45, fun q1 q2 => e40 ⟨q1, hm.mpr q2⟩, by cases q : isDg c; rfl; exact absurd q hdg, by cases q : letB c; rfl; exact absurd q hlt⟩)
            rw [show d + D + (c :: r).length + 4 = d + D + 4 + (c :: r).length by omega] at hb
            exact hb
