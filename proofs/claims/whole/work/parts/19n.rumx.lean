section PMO
variable {S : pS} {own : String} {cc : ByteArray} {nL d pc : Nat} {locs : pLc} {st : List Value} {I : pI} {J : pJ} {R : pR} {X : pXt}
theorem pw_mlen (pc' : Nat) (hp : pc + 4 = pc') (hown : own = RX7) (hd1 : decode cc pc = .ok (.getstatic 60, 3)) (hd2 : decode cc (pc + 3) = .ok (.arraylength, 1)) (k : PW S own cc nL d pc' locs (.int (nI 5) :: st) I J R X) : PW S own cc nL d pc locs st I J R X := by
  subst hp
  subst hown
  intro l D ad ac p e Rm s m args below meth c A cs sl hc Qs hX H lcs ls hr hl
  obtain ⟨t, hZ, hT⟩ := hc.2.2.2.2.1.2
  exact va_gets hc.1.1 hc.1.2.1 hZ hr.2 hc.1.2.2.2.1 (hc.1.2.2.2.2 _ stX7_60) (fun _ h => h) hd1 (va_tlen hc.1.1 hc.1.2.1 hT hr.2 rfl hd2 (k l D ad ac p e Rm s m args below meth c A cs sl hc Qs hX H lcs ls hr hl))
theorem pw_mld {j : Nat} (pc' : Nat) (hp : pc + 5 = pc') (hown : own = RX7) (hd1 : decode cc pc = .ok (.getstatic 60, 3)) (hd2 : decode cc (pc + 3) = .ok (.iload_n 0, 1)) (hd3 : decode cc (pc + 4) = .ok (.iaload, 1)) (h0 : locs[0]? = some (some (.int (nI j)))) (hj : j < 5) (k : PW S own cc nL d pc' locs (.int (pMo j) :: st) I J R X) : PW S own cc nL d pc locs st I J R X := by
  subst hp
  subst hown
  intro l D ad ac p e Rm s m args below meth c A cs sl hc Qs hX H lcs ls hr hl
  obtain ⟨t, hZ, hT⟩ := hc.2.2.2.2.1.2
  exact va_gets hc.1.1 hc.1.2.1 hZ hr.2 hc.1.2.2.2.1 (hc.1.2.2.2.2 _ stX7_60) (fun _ h => h) hd1 (lv_iload_n hc.1.1 hc.1.2.1 hd2 rfl (hl.2.2 _ _ h0) (va_ti hc.1.1 hc.1.2.1 hT hr.2 (vp_in_nI hj (by decide)) (by show Value.int (pMo (nI j).toNatClampNeg) = Value.int (pMo j); rw [nI_clamp (by omega)]) hd3 (k l D ad ac p e Rm s m args below meth c A cs sl hc Qs hX H lcs ls hr hl)))
end PMO
def moN (k : Nat) : Nat := match k with
  | 0 => 9
  | 1 => 99
  | 2 => 2
  | 3 => 9
  | _ => 1
theorem pMo_nI : ∀ k, k < 5 → pMo k = nI (moN k) := by decide +kernel
theorem moN_le (k : Nat) : moN k ≤ 99 := by unfold moN; split <;> decide
set_option maxRecDepth 100000 in
set_option maxHeartbeats 2000000 in
theorem x_mostOf {d k : Nat} {I : pI} {J : pJ} (hk : k < 5) : PC SX (d) yX7_mostOf cX7_mostOf 1 (some .int) [.int (nI k)] (I) (J) (RX) (pPu (.int (nI (moN k))) I J RX) := by
  refine PC.of [some (.int (nI k))] rfl rfl (Nat.le_of_ble_eq_true rfl) ?_
  refine pw_iload_n 1 rfl dX7_mostOf_0 rfl ?_
  refine pw_if_lt (tgt := 20) 4 rfl dX7_mostOf_1 rfl (fun h1 => absurd h1 (nI_pos (by omega))) (fun h1 => ?_)
  refine pw_iload_n 5 rfl dX7_mostOf_4 rfl ?_
  rotate_left
  refine pw_mlen 9 rfl rfl dX7_mostOf_5 dX7_mostOf_8 ?_
  refine pw_icmp_ge (tgt := 20) 12 rfl dX7_mostOf_9 rfl (fun h9 => absurd h9 (by (simp (disch := omega) only [nI_leI, nI_ltI, nI_eq, show (0 : Int32) = nI 0 from rfl, not_true_eq_false, not_false_eq_true] <;> omega))) (fun h9 => ?_)
  rotate_left
  refine pw_mld 17 rfl rfl dX7_mostOf_12 dX7_mostOf_15 dX7_mostOf_16 rfl hk ?_
  rw [pMo_nI k hk]
  refine pw_goto (tgt := 21) dX7_mostOf_17 rfl ?_
  refine pw_iret dX7_mostOf_21 rfl ?_
  rotate_left
  exact ⟨rfl, rfl, rfl, rfl⟩
/-- is it so of i: PACE, BUILT, HEIGHT at least V; WAY V; waits or not -/
def soN (n : Nat) (pc b : Nat → Nat) (i w V : Nat) : Bool := decide (i < n) && (match w with
  | 0 => decide (V ≤ pc i)
  | 1 => decide (V ≤ b (21 + i))
  | 2 => decide (b (7 + i) = V)
  | 3 => decide (V ≤ b i)
  | _ => decide (b (14 + i) ≠ 0 ↔ V = 1))
set_option maxRecDepth 100000 in
set_option maxHeartbeats 2000000 in
theorem x_isSo {d n i w V : Nat} {pc b : Nat → Nat} {I : pI} {J : pJ} (hM : XM I 1 n pc b) (hW : WF n pc b) (hi : i < 7) (hw : w < 5) (hV : V ≤ 99) : PC SX (d + 1) yX7_isSo cX7_isSo 4 (some .boolean) [.ref 62, .int (nI i), .int (nI w), .int (nI V)] (I) (J) (RX) (pPu (.int (nI (if soN n pc b i w V then 1 else 0))) I J RX) := by
  refine PC.of [some (.ref 62), some (.int (nI i)), some (.int (nI w)), some (.int (nI V))] rfl rfl (Nat.le_of_ble_eq_true rfl) ?_
  have h7 := hW.1
  have hb := hW.2.2.2.2 i hi
  have ht := hW.2.1
  obtain ⟨v1, v2, v3, v4, v5⟩ := hM.2.2.2.2.2.2 i hi
  by_cases hin : i < n
  · have eso : ∀ (c : Bool), (decide (i < n) && c) = c := fun c => by rw [decide_eq_true hin, Bool.true_and]
    rcases (show w = 0 ∨ w = 1 ∨ w = 2 ∨ w = 3 ∨ w = 4 by omega) with rfl | rfl | rfl | rfl | rfl
    · rw [show soN n pc b i 0 V = decide (V ≤ pc i) from eso _]
      by_cases hp : V ≤ pc i
      · rw [if_pos (decide_eq_true hp)]
        refine pw_aload_n 1 rfl dX7_isSo_0 rfl ?_
        refine pw_getR 4 rfl dX7_isSo_1 fX7_19 (by first | rfl | assumption | exact rowS hh | exact mtS hm | exact ruS hr | exact mtA1 hm | exact mtA2 hm | exact mtA3 hm | exact mtA4 hm | exact mtA5 hm | exact mtA6 hm | exact mtA7 hm | exact ruA1 hr | exact ruA2 hr | exact ruA3 hr) rfl (by first | rfl | assumption | exact mtR0 hm | exact mtR1 hm | exact mtR2 hm | exact mtR3 hm | exact mtR4 hm | exact mtR5 hm | exact mtR6 hm | exact ruR0 hr | exact ruR1 hr | exact ruR3 hr) ?_
        refine pw_iload_n 5 rfl dX7_isSo_4 rfl ?_
        refine pw_callVP (as := [_]) 8 rfl dX7_isSo_5 mX7_71 vX1_has (x_has (d := d) (Or.inl rfl) hM.2.1 h7 _) (by first | rfl | assumption | exact rowS hh | exact mtS hm | exact ruS hr | exact mtA1 hm | exact mtA2 hm | exact mtA3 hm | exact mtA4 hm | exact mtA5 hm | exact mtA6 hm | exact mtA7 hm | exact ruA1 hr | exact ruA2 hr | exact ruA3 hr) rfl (by decide) ⟨rfl, by decide, by decide, show (parseMethodDescriptor yX1_has.desc).map (fun d => d.parameters.length) = some 1 by decide +kernel⟩ (by omega) (by decide) (Nat.le_of_ble_eq_true rfl) rfl ?_
        refine pw_if_ne (tgt := 13) 11 rfl dX7_isSo_8 rfl (fun h8 => ?_) (fun h8 => absurd h8 (by rw [hasV_y hin h7]; decide))
        refine pw_iload_n 14 rfl dX7_isSo_13 rfl ?_
        refine pw_tableIn (tgt := 48) (off := 34) dX7_isSo_14 (by decide) (by decide) (by decide) rfl ?_
        refine pw_aload_n 49 rfl dX7_isSo_48 rfl ?_
        refine pw_getR 52 rfl dX7_isSo_49 fX7_19 (by first | rfl | assumption | exact rowS hh | exact mtS hm | exact ruS hr | exact mtA1 hm | exact mtA2 hm | exact mtA3 hm | exact mtA4 hm | exact mtA5 hm | exact mtA6 hm | exact mtA7 hm | exact ruA1 hr | exact ruA2 hr | exact ruA3 hr) rfl (by first | rfl | assumption | exact mtR0 hm | exact mtR1 hm | exact mtR2 hm | exact mtR3 hm | exact mtR4 hm | exact mtR5 hm | exact mtR6 hm | exact ruR0 hr | exact ruR1 hr | exact ruR3 hr) ?_
        refine pw_getR 55 rfl dX7_isSo_52 fX7_75 (by first | rfl | assumption | exact rowS hh | exact mtS hm | exact ruS hr | exact mtA1 hm | exact mtA2 hm | exact mtA3 hm | exact mtA4 hm | exact mtA5 hm | exact mtA6 hm | exact mtA7 hm | exact ruA1 hr | exact ruA2 hr | exact ruA3 hr) rfl (by first | rfl | assumption | exact mtR0 hm | exact mtR1 hm | exact mtR2 hm | exact mtR3 hm | exact mtR4 hm | exact mtR5 hm | exact mtR6 hm | exact ruR0 hr | exact ruR1 hr | exact ruR3 hr) ?_
        refine pw_iload_n 56 rfl dX7_isSo_55 rfl ?_
        refine pw_ialdN 57 rfl dX7_isSo_56 (by first | rfl | assumption | exact rowS hh | exact mtS hm | exact ruS hr | exact mtA1 hm | exact mtA2 hm | exact mtA3 hm | exact mtA4 hm | exact mtA5 hm | exact mtA6 hm | exact mtA7 hm | exact ruA1 hr | exact ruA2 hr | exact ruA3 hr) (by omega) (by first | decide | omega) ?_
        refine pw_iload_n 58 rfl dX7_isSo_57 rfl ?_
        refine pw_icmp_lt (tgt := 65) 61 rfl dX7_isSo_58 rfl (fun h58 => absurd h58 (by rw [v1]; (simp (disch := omega) only [nI_leI, nI_ltI, nI_eq, show (0 : Int32) = nI 0 from rfl, not_true_eq_false, not_false_eq_true] <;> omega))) (fun h58 => ?_)
        refine pw_iconst (v := nI 1) 62 rfl dX7_isSo_61 rfl ?_
        refine pw_goto (tgt := 66) dX7_isSo_62 rfl ?_
        refine pw_iret dX7_isSo_66 rfl ?_
        rotate_left
        exact ⟨rfl, rfl, rfl, rfl⟩
      · rw [if_neg (fun z => hp (of_decide_eq_true z))]
        refine pw_aload_n 1 rfl dX7_isSo_0 rfl ?_
        refine pw_getR 4 rfl dX7_isSo_1 fX7_19 (by first | rfl | assumption | exact rowS hh | exact mtS hm | exact ruS hr | exact mtA1 hm | exact mtA2 hm | exact mtA3 hm | exact mtA4 hm | exact mtA5 hm | exact mtA6 hm | exact mtA7 hm | exact ruA1 hr | exact ruA2 hr | exact ruA3 hr) rfl (by first | rfl | assumption | exact mtR0 hm | exact mtR1 hm | exact mtR2 hm | exact mtR3 hm | exact mtR4 hm | exact mtR5 hm | exact mtR6 hm | exact ruR0 hr | exact ruR1 hr | exact ruR3 hr) ?_
        refine pw_iload_n 5 rfl dX7_isSo_4 rfl ?_
        refine pw_callVP (as := [_]) 8 rfl dX7_isSo_5 mX7_71 vX1_has (x_has (d := d) (Or.inl rfl) hM.2.1 h7 _) (by first | rfl | assumption | exact rowS hh | exact mtS hm | exact ruS hr | exact mtA1 hm | exact mtA2 hm | exact mtA3 hm | exact mtA4 hm | exact mtA5 hm | exact mtA6 hm | exact mtA7 hm | exact ruA1 hr | exact ruA2 hr | exact ruA3 hr) rfl (by decide) ⟨rfl, by decide, by decide, show (parseMethodDescriptor yX1_has.desc).map (fun d => d.parameters.length) = some 1 by decide +kernel⟩ (by omega) (by decide) (Nat.le_of_ble_eq_true rfl) rfl ?_
        refine pw_if_ne (tgt := 13) 11 rfl dX7_isSo_8 rfl (fun h8 => ?_) (fun h8 => absurd h8 (by rw [hasV_y hin h7]; decide))
        refine pw_iload_n 14 rfl dX7_isSo_13 rfl ?_
        refine pw_tableIn (tgt := 48) (off := 34) dX7_isSo_14 (by decide) (by decide) (by decide) rfl ?_
        refine pw_aload_n 49 rfl dX7_isSo_48 rfl ?_
        refine pw_getR 52 rfl dX7_isSo_49 fX7_19 (by first | rfl | assumption | exact rowS hh | exact mtS hm | exact ruS hr | exact mtA1 hm | exact mtA2 hm | exact mtA3 hm | exact mtA4 hm | exact mtA5 hm | exact mtA6 hm | exact mtA7 hm | exact ruA1 hr | exact ruA2 hr | exact ruA3 hr) rfl (by first | rfl | assumption | exact mtR0 hm | exact mtR1 hm | exact mtR2 hm | exact mtR3 hm | exact mtR4 hm | exact mtR5 hm | exact mtR6 hm | exact ruR0 hr | exact ruR1 hr | exact ruR3 hr) ?_
        refine pw_getR 55 rfl dX7_isSo_52 fX7_75 (by first | rfl | assumption | exact rowS hh | exact mtS hm | exact ruS hr | exact mtA1 hm | exact mtA2 hm | exact mtA3 hm | exact mtA4 hm | exact mtA5 hm | exact mtA6 hm | exact mtA7 hm | exact ruA1 hr | exact ruA2 hr | exact ruA3 hr) rfl (by first | rfl | assumption | exact mtR0 hm | exact mtR1 hm | exact mtR2 hm | exact mtR3 hm | exact mtR4 hm | exact mtR5 hm | exact mtR6 hm | exact ruR0 hr | exact ruR1 hr | exact ruR3 hr) ?_
        refine pw_iload_n 56 rfl dX7_isSo_55 rfl ?_
        refine pw_ialdN 57 rfl dX7_isSo_56 (by first | rfl | assumption | exact rowS hh | exact mtS hm | exact ruS hr | exact mtA1 hm | exact mtA2 hm | exact mtA3 hm | exact mtA4 hm | exact mtA5 hm | exact mtA6 hm | exact mtA7 hm | exact ruA1 hr | exact ruA2 hr | exact ruA3 hr) (by omega) (by first | decide | omega) ?_
        refine pw_iload_n 58 rfl dX7_isSo_57 rfl ?_
        refine pw_icmp_lt (tgt := 65) 61 rfl dX7_isSo_58 rfl (fun h58 => ?_) (fun h58 => absurd (by rw [v1]; (simp (disch := omega) only [nI_leI, nI_ltI, nI_eq, show (0 : Int32) = nI 0 from rfl, not_true_eq_false, not_false_eq_true] <;> omega)) h58)
        refine pw_iconst (v := nI 0) 66 rfl dX7_isSo_65 rfl ?_
        refine pw_iret dX7_isSo_66 rfl ?_
        rotate_left
        exact ⟨rfl, rfl, rfl, rfl⟩
    · rw [show soN n pc b i 1 V = decide (V ≤ b (21 + i)) from eso _]
      by_cases hp : V ≤ b (21 + i)
      · rw [if_pos (decide_eq_true hp)]
        refine pw_aload_n 1 rfl dX7_isSo_0 rfl ?_
        refine pw_getR 4 rfl dX7_isSo_1 fX7_19 (by first | rfl | assumption | exact rowS hh | exact mtS hm | exact ruS hr | exact mtA1 hm | exact mtA2 hm | exact mtA3 hm | exact mtA4 hm | exact mtA5 hm | exact mtA6 hm | exact mtA7 hm | exact ruA1 hr | exact ruA2 hr | exact ruA3 hr) rfl (by first | rfl | assumption | exact mtR0 hm | exact mtR1 hm | exact mtR2 hm | exact mtR3 hm | exact mtR4 hm | exact mtR5 hm | exact mtR6 hm | exact ruR0 hr | exact ruR1 hr | exact ruR3 hr) ?_
        refine pw_iload_n 5 rfl dX7_isSo_4 rfl ?_
        refine pw_callVP (as := [_]) 8 rfl dX7_isSo_5 mX7_71 vX1_has (x_has (d := d) (Or.inl rfl) hM.2.1 h7 _) (by first | rfl | assumption | exact rowS hh | exact mtS hm | exact ruS hr | exact mtA1 hm | exact mtA2 hm | exact mtA3 hm | exact mtA4 hm | exact mtA5 hm | exact mtA6 hm | exact mtA7 hm | exact ruA1 hr | exact ruA2 hr | exact ruA3 hr) rfl (by decide) ⟨rfl, by decide, by decide, show (parseMethodDescriptor yX1_has.desc).map (fun d => d.parameters.length) = some 1 by decide +kernel⟩ (by omega) (by decide) (Nat.le_of_ble_eq_true rfl) rfl ?_
        refine pw_if_ne (tgt := 13) 11 rfl dX7_isSo_8 rfl (fun h8 => ?_) (fun h8 => absurd h8 (by rw [hasV_y hin h7]; decide))
        refine pw_iload_n 14 rfl dX7_isSo_13 rfl ?_
        refine pw_tableIn (tgt := 67) (off := 53) dX7_isSo_14 (by decide) (by decide) (by decide) rfl ?_
        refine pw_aload_n 68 rfl dX7_isSo_67 rfl ?_
        refine pw_getR 71 rfl dX7_isSo_68 fX7_19 (by first | rfl | assumption | exact rowS hh | exact mtS hm | exact ruS hr | exact mtA1 hm | exact mtA2 hm | exact mtA3 hm | exact mtA4 hm | exact mtA5 hm | exact mtA6 hm | exact mtA7 hm | exact ruA1 hr | exact ruA2 hr | exact ruA3 hr) rfl (by first | rfl | assumption | exact mtR0 hm | exact mtR1 hm | exact mtR2 hm | exact mtR3 hm | exact mtR4 hm | exact mtR5 hm | exact mtR6 hm | exact ruR0 hr | exact ruR1 hr | exact ruR3 hr) ?_
        refine pw_getR 74 rfl dX7_isSo_71 fX7_78 (by first | rfl | assumption | exact rowS hh | exact mtS hm | exact ruS hr | exact mtA1 hm | exact mtA2 hm | exact mtA3 hm | exact mtA4 hm | exact mtA5 hm | exact mtA6 hm | exact mtA7 hm | exact ruA1 hr | exact ruA2 hr | exact ruA3 hr) rfl (by first | rfl | assumption | exact mtR0 hm | exact mtR1 hm | exact mtR2 hm | exact mtR3 hm | exact mtR4 hm | exact mtR5 hm | exact mtR6 hm | exact ruR0 hr | exact ruR1 hr | exact ruR3 hr) ?_
        refine pw_iload_n 75 rfl dX7_isSo_74 rfl ?_
        refine pw_ialdN 76 rfl dX7_isSo_75 (by first | rfl | assumption | exact rowS hh | exact mtS hm | exact ruS hr | exact mtA1 hm | exact mtA2 hm | exact mtA3 hm | exact mtA4 hm | exact mtA5 hm | exact mtA6 hm | exact mtA7 hm | exact ruA1 hr | exact ruA2 hr | exact ruA3 hr) (by omega) (by first | decide | omega) ?_
        refine pw_iload_n 77 rfl dX7_isSo_76 rfl ?_
        refine pw_icmp_lt (tgt := 84) 80 rfl dX7_isSo_77 rfl (fun h77 => absurd h77 (by rw [v5]; (simp (disch := omega) only [nI_leI, nI_ltI, nI_eq, show (0 : Int32) = nI 0 from rfl, not_true_eq_false, not_false_eq_true] <;> omega))) (fun h77 => ?_)
        refine pw_iconst (v := nI 1) 81 rfl dX7_isSo_80 rfl ?_
        refine pw_goto (tgt := 85) dX7_isSo_81 rfl ?_
        refine pw_iret dX7_isSo_85 rfl ?_
        rotate_left
        exact ⟨rfl, rfl, rfl, rfl⟩
      · rw [if_neg (fun z => hp (of_decide_eq_true z))]
        refine pw_aload_n 1 rfl dX7_isSo_0 rfl ?_
        refine pw_getR 4 rfl dX7_isSo_1 fX7_19 (by first | rfl | assumption | exact rowS hh | exact mtS hm | exact ruS hr | exact mtA1 hm | exact mtA2 hm | exact mtA3 hm | exact mtA4 hm | exact mtA5 hm | exact mtA6 hm | exact mtA7 hm | exact ruA1 hr | exact ruA2 hr | exact ruA3 hr) rfl (by first | rfl | assumption | exact mtR0 hm | exact mtR1 hm | exact mtR2 hm | exact mtR3 hm | exact mtR4 hm | exact mtR5 hm | exact mtR6 hm | exact ruR0 hr | exact ruR1 hr | exact ruR3 hr) ?_
        refine pw_iload_n 5 rfl dX7_isSo_4 rfl ?_
        refine pw_callVP (as := [_]) 8 rfl dX7_isSo_5 mX7_71 vX1_has (x_has (d := d) (Or.inl rfl) hM.2.1 h7 _) (by first | rfl | assumption | exact rowS hh | exact mtS hm | exact ruS hr | exact mtA1 hm | exact mtA2 hm | exact mtA3 hm | exact mtA4 hm | exact mtA5 hm | exact mtA6 hm | exact mtA7 hm | exact ruA1 hr | exact ruA2 hr | exact ruA3 hr) rfl (by decide) ⟨rfl, by decide, by decide, show (parseMethodDescriptor yX1_has.desc).map (fun d => d.parameters.length) = some 1 by decide +kernel⟩ (by omega) (by decide) (Nat.le_of_ble_eq_true rfl) rfl ?_
        refine pw_if_ne (tgt := 13) 11 rfl dX7_isSo_8 rfl (fun h8 => ?_) (fun h8 => absurd h8 (by rw [hasV_y hin h7]; decide))
        refine pw_iload_n 14 rfl dX7_isSo_13 rfl ?_
        refine pw_tableIn (tgt := 67) (off := 53) dX7_isSo_14 (by decide) (by decide) (by decide) rfl ?_
        refine pw_aload_n 68 rfl dX7_isSo_67 rfl ?_
        refine pw_getR 71 rfl dX7_isSo_68 fX7_19 (by first | rfl | assumption | exact rowS hh | exact mtS hm | exact ruS hr | exact mtA1 hm | exact mtA2 hm | exact mtA3 hm | exact mtA4 hm | exact mtA5 hm | exact mtA6 hm | exact mtA7 hm | exact ruA1 hr | exact ruA2 hr | exact ruA3 hr) rfl (by first | rfl | assumption | exact mtR0 hm | exact mtR1 hm | exact mtR2 hm | exact mtR3 hm | exact mtR4 hm | exact mtR5 hm | exact mtR6 hm | exact ruR0 hr | exact ruR1 hr | exact ruR3 hr) ?_
        refine pw_getR 74 rfl dX7_isSo_71 fX7_78 (by first | rfl | assumption | exact rowS hh | exact mtS hm | exact ruS hr | exact mtA1 hm | exact mtA2 hm | exact mtA3 hm | exact mtA4 hm | exact mtA5 hm | exact mtA6 hm | exact mtA7 hm | exact ruA1 hr | exact ruA2 hr | exact ruA3 hr) rfl (by first | rfl | assumption | exact mtR0 hm | exact mtR1 hm | exact mtR2 hm | exact mtR3 hm | exact mtR4 hm | exact mtR5 hm | exact mtR6 hm | exact ruR0 hr | exact ruR1 hr | exact ruR3 hr) ?_
        refine pw_iload_n 75 rfl dX7_isSo_74 rfl ?_
        refine pw_ialdN 76 rfl dX7_isSo_75 (by first | rfl | assumption | exact rowS hh | exact mtS hm | exact ruS hr | exact mtA1 hm | exact mtA2 hm | exact mtA3 hm | exact mtA4 hm | exact mtA5 hm | exact mtA6 hm | exact mtA7 hm | exact ruA1 hr | exact ruA2 hr | exact ruA3 hr) (by omega) (by first | decide | omega) ?_
        refine pw_iload_n 77 rfl dX7_isSo_76 rfl ?_
        refine pw_icmp_lt (tgt := 84) 80 rfl dX7_isSo_77 rfl (fun h77 => ?_) (fun h77 => absurd (by rw [v5]; (simp (disch := omega) only [nI_leI, nI_ltI, nI_eq, show (0 : Int32) = nI 0 from rfl, not_true_eq_false, not_false_eq_true] <;> omega)) h77)
        refine pw_iconst (v := nI 0) 85 rfl dX7_isSo_84 rfl ?_
        refine pw_iret dX7_isSo_85 rfl ?_
        rotate_left
        exact ⟨rfl, rfl, rfl, rfl⟩
    · rw [show soN n pc b i 2 V = decide (b (7 + i) = V) from eso _]
      by_cases hp : b (7 + i) = V
      · rw [if_pos (decide_eq_true hp)]
        refine pw_aload_n 1 rfl dX7_isSo_0 rfl ?_
        refine pw_getR 4 rfl dX7_isSo_1 fX7_19 (by first | rfl | assumption | exact rowS hh | exact mtS hm | exact ruS hr | exact mtA1 hm | exact mtA2 hm | exact mtA3 hm | exact mtA4 hm | exact mtA5 hm | exact mtA6 hm | exact mtA7 hm | exact ruA1 hr | exact ruA2 hr | exact ruA3 hr) rfl (by first | rfl | assumption | exact mtR0 hm | exact mtR1 hm | exact mtR2 hm | exact mtR3 hm | exact mtR4 hm | exact mtR5 hm | exact mtR6 hm | exact ruR0 hr | exact ruR1 hr | exact ruR3 hr) ?_
        refine pw_iload_n 5 rfl dX7_isSo_4 rfl ?_
        refine pw_callVP (as := [_]) 8 rfl dX7_isSo_5 mX7_71 vX1_has (x_has (d := d) (Or.inl rfl) hM.2.1 h7 _) (by first | rfl | assumption | exact rowS hh | exact mtS hm | exact ruS hr | exact mtA1 hm | exact mtA2 hm | exact mtA3 hm | exact mtA4 hm | exact mtA5 hm | exact mtA6 hm | exact mtA7 hm | exact ruA1 hr | exact ruA2 hr | exact ruA3 hr) rfl (by decide) ⟨rfl, by decide, by decide, show (parseMethodDescriptor yX1_has.desc).map (fun d => d.parameters.length) = some 1 by decide +kernel⟩ (by omega) (by decide) (Nat.le_of_ble_eq_true rfl) rfl ?_
        refine pw_if_ne (tgt := 13) 11 rfl dX7_isSo_8 rfl (fun h8 => ?_) (fun h8 => absurd h8 (by rw [hasV_y hin h7]; decide))
        refine pw_iload_n 14 rfl dX7_isSo_13 rfl ?_
        refine pw_tableIn (tgt := 86) (off := 72) dX7_isSo_14 (by decide) (by decide) (by decide) rfl ?_
        refine pw_aload_n 87 rfl dX7_isSo_86 rfl ?_
        refine pw_getR 90 rfl dX7_isSo_87 fX7_19 (by first | rfl | assumption | exact rowS hh | exact mtS hm | exact ruS hr | exact mtA1 hm | exact mtA2 hm | exact mtA3 hm | exact mtA4 hm | exact mtA5 hm | exact mtA6 hm | exact mtA7 hm | exact ruA1 hr | exact ruA2 hr | exact ruA3 hr) rfl (by first | rfl | assumption | exact mtR0 hm | exact mtR1 hm | exact mtR2 hm | exact mtR3 hm | exact mtR4 hm | exact mtR5 hm | exact mtR6 hm | exact ruR0 hr | exact ruR1 hr | exact ruR3 hr) ?_
        refine pw_getR 93 rfl dX7_isSo_90 fX7_81 (by first | rfl | assumption | exact rowS hh | exact mtS hm | exact ruS hr | exact mtA1 hm | exact mtA2 hm | exact mtA3 hm | exact mtA4 hm | exact mtA5 hm | exact mtA6 hm | exact mtA7 hm | exact ruA1 hr | exact ruA2 hr | exact ruA3 hr) rfl (by first | rfl | assumption | exact mtR0 hm | exact mtR1 hm | exact mtR2 hm | exact mtR3 hm | exact mtR4 hm | exact mtR5 hm | exact mtR6 hm | exact ruR0 hr | exact ruR1 hr | exact ruR3 hr) ?_
        refine pw_iload_n 94 rfl dX7_isSo_93 rfl ?_
        refine pw_ialdN 95 rfl dX7_isSo_94 (by first | rfl | assumption | exact rowS hh | exact mtS hm | exact ruS hr | exact mtA1 hm | exact mtA2 hm | exact mtA3 hm | exact mtA4 hm | exact mtA5 hm | exact mtA6 hm | exact mtA7 hm | exact ruA1 hr | exact ruA2 hr | exact ruA3 hr) (by omega) (by first | decide | omega) ?_
        refine pw_iload_n 96 rfl dX7_isSo_95 rfl ?_
        refine pw_icmp_ne (tgt := 103) 99 rfl dX7_isSo_96 rfl (fun h96 => absurd (by rw [v3, hp]) h96) (fun h96 => ?_)
        refine pw_iconst (v := nI 1) 100 rfl dX7_isSo_99 rfl ?_
        refine pw_goto (tgt := 104) dX7_isSo_100 rfl ?_
        refine pw_iret dX7_isSo_104 rfl ?_
        rotate_left
        exact ⟨rfl, rfl, rfl, rfl⟩
      · rw [if_neg (fun z => hp (of_decide_eq_true z))]
        refine pw_aload_n 1 rfl dX7_isSo_0 rfl ?_
        refine pw_getR 4 rfl dX7_isSo_1 fX7_19 (by first | rfl | assumption | exact rowS hh | exact mtS hm | exact ruS hr | exact mtA1 hm | exact mtA2 hm | exact mtA3 hm | exact mtA4 hm | exact mtA5 hm | exact mtA6 hm | exact mtA7 hm | exact ruA1 hr | exact ruA2 hr | exact ruA3 hr) rfl (by first | rfl | assumption | exact mtR0 hm | exact mtR1 hm | exact mtR2 hm | exact mtR3 hm | exact mtR4 hm | exact mtR5 hm | exact mtR6 hm | exact ruR0 hr | exact ruR1 hr | exact ruR3 hr) ?_
        refine pw_iload_n 5 rfl dX7_isSo_4 rfl ?_
        refine pw_callVP (as := [_]) 8 rfl dX7_isSo_5 mX7_71 vX1_has (x_has (d := d) (Or.inl rfl) hM.2.1 h7 _) (by first | rfl | assumption | exact rowS hh | exact mtS hm | exact ruS hr | exact mtA1 hm | exact mtA2 hm | exact mtA3 hm | exact mtA4 hm | exact mtA5 hm | exact mtA6 hm | exact mtA7 hm | exact ruA1 hr | exact ruA2 hr | exact ruA3 hr) rfl (by decide) ⟨rfl, by decide, by decide, show (parseMethodDescriptor yX1_has.desc).map (fun d => d.parameters.length) = some 1 by decide +kernel⟩ (by omega) (by decide) (Nat.le_of_ble_eq_true rfl) rfl ?_
        refine pw_if_ne (tgt := 13) 11 rfl dX7_isSo_8 rfl (fun h8 => ?_) (fun h8 => absurd h8 (by rw [hasV_y hin h7]; decide))
        refine pw_iload_n 14 rfl dX7_isSo_13 rfl ?_
        refine pw_tableIn (tgt := 86) (off := 72) dX7_isSo_14 (by decide) (by decide) (by decide) rfl ?_
        refine pw_aload_n 87 rfl dX7_isSo_86 rfl ?_
        refine pw_getR 90 rfl dX7_isSo_87 fX7_19 (by first | rfl | assumption | exact rowS hh | exact mtS hm | exact ruS hr | exact mtA1 hm | exact mtA2 hm | exact mtA3 hm | exact mtA4 hm | exact mtA5 hm | exact mtA6 hm | exact mtA7 hm | exact ruA1 hr | exact ruA2 hr | exact ruA3 hr) rfl (by first | rfl | assumption | exact mtR0 hm | exact mtR1 hm | exact mtR2 hm | exact mtR3 hm | exact mtR4 hm | exact mtR5 hm | exact mtR6 hm | exact ruR0 hr | exact ruR1 hr | exact ruR3 hr) ?_
        refine pw_getR 93 rfl dX7_isSo_90 fX7_81 (by first | rfl | assumption | exact rowS hh | exact mtS hm | exact ruS hr | exact mtA1 hm | exact mtA2 hm | exact mtA3 hm | exact mtA4 hm | exact mtA5 hm | exact mtA6 hm | exact mtA7 hm | exact ruA1 hr | exact ruA2 hr | exact ruA3 hr) rfl (by first | rfl | assumption | exact mtR0 hm | exact mtR1 hm | exact mtR2 hm | exact mtR3 hm | exact mtR4 hm | exact mtR5 hm | exact mtR6 hm | exact ruR0 hr | exact ruR1 hr | exact ruR3 hr) ?_
        refine pw_iload_n 94 rfl dX7_isSo_93 rfl ?_
        refine pw_ialdN 95 rfl dX7_isSo_94 (by first | rfl | assumption | exact rowS hh | exact mtS hm | exact ruS hr | exact mtA1 hm | exact mtA2 hm | exact mtA3 hm | exact mtA4 hm | exact mtA5 hm | exact mtA6 hm | exact mtA7 hm | exact ruA1 hr | exact ruA2 hr | exact ruA3 hr) (by omega) (by first | decide | omega) ?_
        refine pw_iload_n 96 rfl dX7_isSo_95 rfl ?_
        refine pw_icmp_ne (tgt := 103) 99 rfl dX7_isSo_96 rfl (fun h96 => ?_) (fun h96 => absurd h96 (by rw [v3, nI_eq (by omega) (by omega)]; exact hp))
        refine pw_iconst (v := nI 0) 104 rfl dX7_isSo_103 rfl ?_
        refine pw_iret dX7_isSo_104 rfl ?_
        rotate_left
        exact ⟨rfl, rfl, rfl, rfl⟩
    · rw [show soN n pc b i 3 V = decide (V ≤ b i) from eso _]
      by_cases hp : V ≤ b i
      · rw [if_pos (decide_eq_true hp)]
        refine pw_aload_n 1 rfl dX7_isSo_0 rfl ?_
        refine pw_getR 4 rfl dX7_isSo_1 fX7_19 (by first | rfl | assumption | exact rowS hh | exact mtS hm | exact ruS hr | exact mtA1 hm | exact mtA2 hm | exact mtA3 hm | exact mtA4 hm | exact mtA5 hm | exact mtA6 hm | exact mtA7 hm | exact ruA1 hr | exact ruA2 hr | exact ruA3 hr) rfl (by first | rfl | assumption | exact mtR0 hm | exact mtR1 hm | exact mtR2 hm | exact mtR3 hm | exact mtR4 hm | exact mtR5 hm | exact mtR6 hm | exact ruR0 hr | exact ruR1 hr | exact ruR3 hr) ?_
        refine pw_iload_n 5 rfl dX7_isSo_4 rfl ?_
        refine pw_callVP (as := [_]) 8 rfl dX7_isSo_5 mX7_71 vX1_has (x_has (d := d) (Or.inl rfl) hM.2.1 h7 _) (by first | rfl | assumption | exact rowS hh | exact mtS hm | exact ruS hr | exact mtA1 hm | exact mtA2 hm | exact mtA3 hm | exact mtA4 hm | exact mtA5 hm | exact mtA6 hm | exact mtA7 hm | exact ruA1 hr | exact ruA2 hr | exact ruA3 hr) rfl (by decide) ⟨rfl, by decide, by decide, show (parseMethodDescriptor yX1_has.desc).map (fun d => d.parameters.length) = some 1 by decide +kernel⟩ (by omega) (by decide) (Nat.le_of_ble_eq_true rfl) rfl ?_
        refine pw_if_ne (tgt := 13) 11 rfl dX7_isSo_8 rfl (fun h8 => ?_) (fun h8 => absurd h8 (by rw [hasV_y hin h7]; decide))
        refine pw_iload_n 14 rfl dX7_isSo_13 rfl ?_
        refine pw_tableIn (tgt := 105) (off := 91) dX7_isSo_14 (by decide) (by decide) (by decide) rfl ?_
        refine pw_aload_n 106 rfl dX7_isSo_105 rfl ?_
        refine pw_getR 109 rfl dX7_isSo_106 fX7_19 (by first | rfl | assumption | exact rowS hh | exact mtS hm | exact ruS hr | exact mtA1 hm | exact mtA2 hm | exact mtA3 hm | exact mtA4 hm | exact mtA5 hm | exact mtA6 hm | exact mtA7 hm | exact ruA1 hr | exact ruA2 hr | exact ruA3 hr) rfl (by first | rfl | assumption | exact mtR0 hm | exact mtR1 hm | exact mtR2 hm | exact mtR3 hm | exact mtR4 hm | exact mtR5 hm | exact mtR6 hm | exact ruR0 hr | exact ruR1 hr | exact ruR3 hr) ?_
        refine pw_getR 112 rfl dX7_isSo_109 fX7_84 (by first | rfl | assumption | exact rowS hh | exact mtS hm | exact ruS hr | exact mtA1 hm | exact mtA2 hm | exact mtA3 hm | exact mtA4 hm | exact mtA5 hm | exact mtA6 hm | exact mtA7 hm | exact ruA1 hr | exact ruA2 hr | exact ruA3 hr) rfl (by first | rfl | assumption | exact mtR0 hm | exact mtR1 hm | exact mtR2 hm | exact mtR3 hm | exact mtR4 hm | exact mtR5 hm | exact mtR6 hm | exact ruR0 hr | exact ruR1 hr | exact ruR3 hr) ?_
        refine pw_iload_n 113 rfl dX7_isSo_112 rfl ?_
        refine pw_ialdN 114 rfl dX7_isSo_113 (by first | rfl | assumption | exact rowS hh | exact mtS hm | exact ruS hr | exact mtA1 hm | exact mtA2 hm | exact mtA3 hm | exact mtA4 hm | exact mtA5 hm | exact mtA6 hm | exact mtA7 hm | exact ruA1 hr | exact ruA2 hr | exact ruA3 hr) (by omega) (by first | decide | omega) ?_
        refine pw_iload_n 115 rfl dX7_isSo_114 rfl ?_
        refine pw_icmp_lt (tgt := 122) 118 rfl dX7_isSo_115 rfl (fun h115 => absurd h115 (by rw [v2]; (simp (disch := omega) only [nI_leI, nI_ltI, nI_eq, show (0 : Int32) = nI 0 from rfl, not_true_eq_false, not_false_eq_true] <;> omega))) (fun h115 => ?_)
        refine pw_iconst (v := nI 1) 119 rfl dX7_isSo_118 rfl ?_
        refine pw_goto (tgt := 123) dX7_isSo_119 rfl ?_
        refine pw_iret dX7_isSo_123 rfl ?_
        rotate_left
        exact ⟨rfl, rfl, rfl, rfl⟩
      · rw [if_neg (fun z => hp (of_decide_eq_true z))]
        refine pw_aload_n 1 rfl dX7_isSo_0 rfl ?_
        refine pw_getR 4 rfl dX7_isSo_1 fX7_19 (by first | rfl | assumption | exact rowS hh | exact mtS hm | exact ruS hr | exact mtA1 hm | exact mtA2 hm | exact mtA3 hm | exact mtA4 hm | exact mtA5 hm | exact mtA6 hm | exact mtA7 hm | exact ruA1 hr | exact ruA2 hr | exact ruA3 hr) rfl (by first | rfl | assumption | exact mtR0 hm | exact mtR1 hm | exact mtR2 hm | exact mtR3 hm | exact mtR4 hm | exact mtR5 hm | exact mtR6 hm | exact ruR0 hr | exact ruR1 hr | exact ruR3 hr) ?_
        refine pw_iload_n 5 rfl dX7_isSo_4 rfl ?_
        refine pw_callVP (as := [_]) 8 rfl dX7_isSo_5 mX7_71 vX1_has (x_has (d := d) (Or.inl rfl) hM.2.1 h7 _) (by first | rfl | assumption | exact rowS hh | exact mtS hm | exact ruS hr | exact mtA1 hm | exact mtA2 hm | exact mtA3 hm | exact mtA4 hm | exact mtA5 hm | exact mtA6 hm | exact mtA7 hm | exact ruA1 hr | exact ruA2 hr | exact ruA3 hr) rfl (by decide) ⟨rfl, by decide, by decide, show (parseMethodDescriptor yX1_has.desc).map (fun d => d.parameters.length) = some 1 by decide +kernel⟩ (by omega) (by decide) (Nat.le_of_ble_eq_true rfl) rfl ?_
        refine pw_if_ne (tgt := 13) 11 rfl dX7_isSo_8 rfl (fun h8 => ?_) (fun h8 => absurd h8 (by rw [hasV_y hin h7]; decide))
        refine pw_iload_n 14 rfl dX7_isSo_13 rfl ?_
        refine pw_tableIn (tgt := 105) (off := 91) dX7_isSo_14 (by decide) (by decide) (by decide) rfl ?_
        refine pw_aload_n 106 rfl dX7_isSo_105 rfl ?_
        refine pw_getR 109 rfl dX7_isSo_106 fX7_19 (by first | rfl | assumption | exact rowS hh | exact mtS hm | exact ruS hr | exact mtA1 hm | exact mtA2 hm | exact mtA3 hm | exact mtA4 hm | exact mtA5 hm | exact mtA6 hm | exact mtA7 hm | exact ruA1 hr | exact ruA2 hr | exact ruA3 hr) rfl (by first | rfl | assumption | exact mtR0 hm | exact mtR1 hm | exact mtR2 hm | exact mtR3 hm | exact mtR4 hm | exact mtR5 hm | exact mtR6 hm | exact ruR0 hr | exact ruR1 hr | exact ruR3 hr) ?_
        refine pw_getR 112 rfl dX7_isSo_109 fX7_84 (by first | rfl | assumption | exact rowS hh | exact mtS hm | exact ruS hr | exact mtA1 hm | exact mtA2 hm | exact mtA3 hm | exact mtA4 hm | exact mtA5 hm | exact mtA6 hm | exact mtA7 hm | exact ruA1 hr | exact ruA2 hr | exact ruA3 hr) rfl (by first | rfl | assumption | exact mtR0 hm | exact mtR1 hm | exact mtR2 hm | exact mtR3 hm | exact mtR4 hm | exact mtR5 hm | exact mtR6 hm | exact ruR0 hr | exact ruR1 hr | exact ruR3 hr) ?_
        refine pw_iload_n 113 rfl dX7_isSo_112 rfl ?_
        refine pw_ialdN 114 rfl dX7_isSo_113 (by first | rfl | assumption | exact rowS hh | exact mtS hm | exact ruS hr | exact mtA1 hm | exact mtA2 hm | exact mtA3 hm | exact mtA4 hm | exact mtA5 hm | exact mtA6 hm | exact mtA7 hm | exact ruA1 hr | exact ruA2 hr | exact ruA3 hr) (by omega) (by first | decide | omega) ?_
        refine pw_iload_n 115 rfl dX7_isSo_114 rfl ?_
        refine pw_icmp_lt (tgt := 122) 118 rfl dX7_isSo_115 rfl (fun h115 => ?_) (fun h115 => absurd (by rw [v2]; (simp (disch := omega) only [nI_leI, nI_ltI, nI_eq, show (0 : Int32) = nI 0 from rfl, not_true_eq_false, not_false_eq_true] <;> omega)) h115)
        refine pw_iconst (v := nI 0) 123 rfl dX7_isSo_122 rfl ?_
        refine pw_iret dX7_isSo_123 rfl ?_
        rotate_left
        exact ⟨rfl, rfl, rfl, rfl⟩
    · rw [show soN n pc b i 4 V = decide (b (14 + i) ≠ 0 ↔ V = 1) from eso _]
      by_cases h0 : b (14 + i) = 0
      · by_cases h1 : V = 1
        · rw [if_neg (fun z => (of_decide_eq_true z).mpr h1 h0)]
          refine pw_aload_n 1 rfl dX7_isSo_0 rfl ?_
          refine pw_getR 4 rfl dX7_isSo_1 fX7_19 (by first | rfl | assumption | exact rowS hh | exact mtS hm | exact ruS hr | exact mtA1 hm | exact mtA2 hm | exact mtA3 hm | exact mtA4 hm | exact mtA5 hm | exact mtA6 hm | exact mtA7 hm | exact ruA1 hr | exact ruA2 hr | exact ruA3 hr) rfl (by first | rfl | assumption | exact mtR0 hm | exact mtR1 hm | exact mtR2 hm | exact mtR3 hm | exact mtR4 hm | exact mtR5 hm | exact mtR6 hm | exact ruR0 hr | exact ruR1 hr | exact ruR3 hr) ?_
          refine pw_iload_n 5 rfl dX7_isSo_4 rfl ?_
          refine pw_callVP (as := [_]) 8 rfl dX7_isSo_5 mX7_71 vX1_has (x_has (d := d) (Or.inl rfl) hM.2.1 h7 _) (by first | rfl | assumption | exact rowS hh | exact mtS hm | exact ruS hr | exact mtA1 hm | exact mtA2 hm | exact mtA3 hm | exact mtA4 hm | exact mtA5 hm | exact mtA6 hm | exact mtA7 hm | exact ruA1 hr | exact ruA2 hr | exact ruA3 hr) rfl (by decide) ⟨rfl, by decide, by decide, show (parseMethodDescriptor yX1_has.desc).map (fun d => d.parameters.length) = some 1 by decide +kernel⟩ (by omega) (by decide) (Nat.le_of_ble_eq_true rfl) rfl ?_
          refine pw_if_ne (tgt := 13) 11 rfl dX7_isSo_8 rfl (fun h8 => ?_) (fun h8 => absurd h8 (by rw [hasV_y hin h7]; decide))
          refine pw_iload_n 14 rfl dX7_isSo_13 rfl ?_
          refine pw_tableIn (tgt := 124) (off := 110) dX7_isSo_14 (by decide) (by decide) (by decide) rfl ?_
          refine pw_aload_n 125 rfl dX7_isSo_124 rfl ?_
          refine pw_getR 128 rfl dX7_isSo_125 fX7_19 (by first | rfl | assumption | exact rowS hh | exact mtS hm | exact ruS hr | exact mtA1 hm | exact mtA2 hm | exact mtA3 hm | exact mtA4 hm | exact mtA5 hm | exact mtA6 hm | exact mtA7 hm | exact ruA1 hr | exact ruA2 hr | exact ruA3 hr) rfl (by first | rfl | assumption | exact mtR0 hm | exact mtR1 hm | exact mtR2 hm | exact mtR3 hm | exact mtR4 hm | exact mtR5 hm | exact mtR6 hm | exact ruR0 hr | exact ruR1 hr | exact ruR3 hr) ?_
          refine pw_getR 131 rfl dX7_isSo_128 fX7_87 (by first | rfl | assumption | exact rowS hh | exact mtS hm | exact ruS hr | exact mtA1 hm | exact mtA2 hm | exact mtA3 hm | exact mtA4 hm | exact mtA5 hm | exact mtA6 hm | exact mtA7 hm | exact ruA1 hr | exact ruA2 hr | exact ruA3 hr) rfl (by first | rfl | assumption | exact mtR0 hm | exact mtR1 hm | exact mtR2 hm | exact mtR3 hm | exact mtR4 hm | exact mtR5 hm | exact mtR6 hm | exact ruR0 hr | exact ruR1 hr | exact ruR3 hr) ?_
          refine pw_iload_n 132 rfl dX7_isSo_131 rfl ?_
          refine pw_ialdN 133 rfl dX7_isSo_132 (by first | rfl | assumption | exact rowS hh | exact mtS hm | exact ruS hr | exact mtA1 hm | exact mtA2 hm | exact mtA3 hm | exact mtA4 hm | exact mtA5 hm | exact mtA6 hm | exact mtA7 hm | exact ruA1 hr | exact ruA2 hr | exact ruA3 hr) (by omega) (by first | decide | omega) ?_
          refine pw_if_le (tgt := 140) 136 rfl dX7_isSo_133 rfl (fun h133 => ?_) (fun h133 => absurd (by rw [v4, h0]; decide) h133)
          refine pw_iconst (v := nI 0) 141 rfl dX7_isSo_140 rfl ?_
          refine pw_iload_n 142 rfl dX7_isSo_141 rfl ?_
          refine pw_iconst (v := nI 1) 143 rfl dX7_isSo_142 rfl ?_
          refine pw_icmp_ne (tgt := 150) 146 rfl dX7_isSo_143 rfl (fun h143 => absurd (by rw [h1]) h143) (fun h143 => ?_)
          refine pw_iconst (v := nI 1) 147 rfl dX7_isSo_146 rfl ?_
          refine pw_goto (tgt := 151) dX7_isSo_147 rfl ?_
          refine pw_icmp_ne (tgt := 158) 154 rfl dX7_isSo_151 rfl (fun h151 => ?_) (fun h151 => absurd h151 (by decide))
          refine pw_iconst (v := nI 0) 159 rfl dX7_isSo_158 rfl ?_
          refine pw_iret dX7_isSo_159 rfl ?_
          rotate_left
          exact ⟨rfl, rfl, rfl, rfl⟩
        · rw [if_pos (decide_eq_true ⟨fun z => absurd h0 z, fun z => absurd z h1⟩)]
          refine pw_aload_n 1 rfl dX7_isSo_0 rfl ?_
          refine pw_getR 4 rfl dX7_isSo_1 fX7_19 (by first | rfl | assumption | exact rowS hh | exact mtS hm | exact ruS hr | exact mtA1 hm | exact mtA2 hm | exact mtA3 hm | exact mtA4 hm | exact mtA5 hm | exact mtA6 hm | exact mtA7 hm | exact ruA1 hr | exact ruA2 hr | exact ruA3 hr) rfl (by first | rfl | assumption | exact mtR0 hm | exact mtR1 hm | exact mtR2 hm | exact mtR3 hm | exact mtR4 hm | exact mtR5 hm | exact mtR6 hm | exact ruR0 hr | exact ruR1 hr | exact ruR3 hr) ?_
          refine pw_iload_n 5 rfl dX7_isSo_4 rfl ?_
          refine pw_callVP (as := [_]) 8 rfl dX7_isSo_5 mX7_71 vX1_has (x_has (d := d) (Or.inl rfl) hM.2.1 h7 _) (by first | rfl | assumption | exact rowS hh | exact mtS hm | exact ruS hr | exact mtA1 hm | exact mtA2 hm | exact mtA3 hm | exact mtA4 hm | exact mtA5 hm | exact mtA6 hm | exact mtA7 hm | exact ruA1 hr | exact ruA2 hr | exact ruA3 hr) rfl (by decide) ⟨rfl, by decide, by decide, show (parseMethodDescriptor yX1_has.desc).map (fun d => d.parameters.length) = some 1 by decide +kernel⟩ (by omega) (by decide) (Nat.le_of_ble_eq_true rfl) rfl ?_
          refine pw_if_ne (tgt := 13) 11 rfl dX7_isSo_8 rfl (fun h8 => ?_) (fun h8 => absurd h8 (by rw [hasV_y hin h7]; decide))
          refine pw_iload_n 14 rfl dX7_isSo_13 rfl ?_
          refine pw_tableIn (tgt := 124) (off := 110) dX7_isSo_14 (by decide) (by decide) (by decide) rfl ?_
          refine pw_aload_n 125 rfl dX7_isSo_124 rfl ?_
          refine pw_getR 128 rfl dX7_isSo_125 fX7_19 (by first | rfl | assumption | exact rowS hh | exact mtS hm | exact ruS hr | exact mtA1 hm | exact mtA2 hm | exact mtA3 hm | exact mtA4 hm | exact mtA5 hm | exact mtA6 hm | exact mtA7 hm | exact ruA1 hr | exact ruA2 hr | exact ruA3 hr) rfl (by first | rfl | assumption | exact mtR0 hm | exact mtR1 hm | exact mtR2 hm | exact mtR3 hm | exact mtR4 hm | exact mtR5 hm | exact mtR6 hm | exact ruR0 hr | exact ruR1 hr | exact ruR3 hr) ?_
          refine pw_getR 131 rfl dX7_isSo_128 fX7_87 (by first | rfl | assumption | exact rowS hh | exact mtS hm | exact ruS hr | exact mtA1 hm | exact mtA2 hm | exact mtA3 hm | exact mtA4 hm | exact mtA5 hm | exact mtA6 hm | exact mtA7 hm | exact ruA1 hr | exact ruA2 hr | exact ruA3 hr) rfl (by first | rfl | assumption | exact mtR0 hm | exact mtR1 hm | exact mtR2 hm | exact mtR3 hm | exact mtR4 hm | exact mtR5 hm | exact mtR6 hm | exact ruR0 hr | exact ruR1 hr | exact ruR3 hr) ?_
          refine pw_iload_n 132 rfl dX7_isSo_131 rfl ?_
          refine pw_ialdN 133 rfl dX7_isSo_132 (by first | rfl | assumption | exact rowS hh | exact mtS hm | exact ruS hr | exact mtA1 hm | exact mtA2 hm | exact mtA3 hm | exact mtA4 hm | exact mtA5 hm | exact mtA6 hm | exact mtA7 hm | exact ruA1 hr | exact ruA2 hr | exact ruA3 hr) (by omega) (by first | decide | omega) ?_
          refine pw_if_le (tgt := 140) 136 rfl dX7_isSo_133 rfl (fun h133 => ?_) (fun h133 => absurd (by rw [v4, h0]; decide) h133)
          refine pw_iconst (v := nI 0) 141 rfl dX7_isSo_140 rfl ?_
          refine pw_iload_n 142 rfl dX7_isSo_141 rfl ?_
          refine pw_iconst (v := nI 1) 143 rfl dX7_isSo_142 rfl ?_
          refine pw_icmp_ne (tgt := 150) 146 rfl dX7_isSo_143 rfl (fun h143 => ?_) (fun h143 => absurd h143 (by rw [nI_eq (by omega) (by decide)]; exact h1))
          refine pw_iconst (v := nI 0) 151 rfl dX7_isSo_150 rfl ?_
          refine pw_icmp_ne (tgt := 158) 154 rfl dX7_isSo_151 rfl (fun h151 => absurd rfl h151) (fun h151 => ?_)
          refine pw_iconst (v := nI 1) 155 rfl dX7_isSo_154 rfl ?_
          refine pw_goto (tgt := 159) dX7_isSo_155 rfl ?_
          refine pw_iret dX7_isSo_159 rfl ?_
          rotate_left
          exact ⟨rfl, rfl, rfl, rfl⟩
      · by_cases h1 : V = 1
        · rw [if_pos (decide_eq_true ⟨fun _ => h1, fun _ => h0⟩)]
          refine pw_aload_n 1 rfl dX7_isSo_0 rfl ?_
          refine pw_getR 4 rfl dX7_isSo_1 fX7_19 (by first | rfl | assumption | exact rowS hh | exact mtS hm | exact ruS hr | exact mtA1 hm | exact mtA2 hm | exact mtA3 hm | exact mtA4 hm | exact mtA5 hm | exact mtA6 hm | exact mtA7 hm | exact ruA1 hr | exact ruA2 hr | exact ruA3 hr) rfl (by first | rfl | assumption | exact mtR0 hm | exact mtR1 hm | exact mtR2 hm | exact mtR3 hm | exact mtR4 hm | exact mtR5 hm | exact mtR6 hm | exact ruR0 hr | exact ruR1 hr | exact ruR3 hr) ?_
          refine pw_iload_n 5 rfl dX7_isSo_4 rfl ?_
          refine pw_callVP (as := [_]) 8 rfl dX7_isSo_5 mX7_71 vX1_has (x_has (d := d) (Or.inl rfl) hM.2.1 h7 _) (by first | rfl | assumption | exact rowS hh | exact mtS hm | exact ruS hr | exact mtA1 hm | exact mtA2 hm | exact mtA3 hm | exact mtA4 hm | exact mtA5 hm | exact mtA6 hm | exact mtA7 hm | exact ruA1 hr | exact ruA2 hr | exact ruA3 hr) rfl (by decide) ⟨rfl, by decide, by decide, show (parseMethodDescriptor yX1_has.desc).map (fun d => d.parameters.length) = some 1 by decide +kernel⟩ (by omega) (by decide) (Nat.le_of_ble_eq_true rfl) rfl ?_
          refine pw_if_ne (tgt := 13) 11 rfl dX7_isSo_8 rfl (fun h8 => ?_) (fun h8 => absurd h8 (by rw [hasV_y hin h7]; decide))
          refine pw_iload_n 14 rfl dX7_isSo_13 rfl ?_
          refine pw_tableIn (tgt := 124) (off := 110) dX7_isSo_14 (by decide) (by decide) (by decide) rfl ?_
          refine pw_aload_n 125 rfl dX7_isSo_124 rfl ?_
          refine pw_getR 128 rfl dX7_isSo_125 fX7_19 (by first | rfl | assumption | exact rowS hh | exact mtS hm | exact ruS hr | exact mtA1 hm | exact mtA2 hm | exact mtA3 hm | exact mtA4 hm | exact mtA5 hm | exact mtA6 hm | exact mtA7 hm | exact ruA1 hr | exact ruA2 hr | exact ruA3 hr) rfl (by first | rfl | assumption | exact mtR0 hm | exact mtR1 hm | exact mtR2 hm | exact mtR3 hm | exact mtR4 hm | exact mtR5 hm | exact mtR6 hm | exact ruR0 hr | exact ruR1 hr | exact ruR3 hr) ?_
          refine pw_getR 131 rfl dX7_isSo_128 fX7_87 (by first | rfl | assumption | exact rowS hh | exact mtS hm | exact ruS hr | exact mtA1 hm | exact mtA2 hm | exact mtA3 hm | exact mtA4 hm | exact mtA5 hm | exact mtA6 hm | exact mtA7 hm | exact ruA1 hr | exact ruA2 hr | exact ruA3 hr) rfl (by first | rfl | assumption | exact mtR0 hm | exact mtR1 hm | exact mtR2 hm | exact mtR3 hm | exact mtR4 hm | exact mtR5 hm | exact mtR6 hm | exact ruR0 hr | exact ruR1 hr | exact ruR3 hr) ?_
          refine pw_iload_n 132 rfl dX7_isSo_131 rfl ?_
          refine pw_ialdN 133 rfl dX7_isSo_132 (by first | rfl | assumption | exact rowS hh | exact mtS hm | exact ruS hr | exact mtA1 hm | exact mtA2 hm | exact mtA3 hm | exact mtA4 hm | exact mtA5 hm | exact mtA6 hm | exact mtA7 hm | exact ruA1 hr | exact ruA2 hr | exact ruA3 hr) (by omega) (by first | decide | omega) ?_
          refine pw_if_le (tgt := 140) 136 rfl dX7_isSo_133 rfl (fun h133 => absurd h133 (by rw [v4]; exact nI_nle (by omega) (by omega))) (fun h133 => ?_)
          refine pw_iconst (v := nI 1) 137 rfl dX7_isSo_136 rfl ?_
          refine pw_goto (tgt := 141) dX7_isSo_137 rfl ?_
          refine pw_iload_n 142 rfl dX7_isSo_141 rfl ?_
          refine pw_iconst (v := nI 1) 143 rfl dX7_isSo_142 rfl ?_
          refine pw_icmp_ne (tgt := 150) 146 rfl dX7_isSo_143 rfl (fun h143 => absurd (by rw [h1]) h143) (fun h143 => ?_)
          refine pw_iconst (v := nI 1) 147 rfl dX7_isSo_146 rfl ?_
          refine pw_goto (tgt := 151) dX7_isSo_147 rfl ?_
          refine pw_icmp_ne (tgt := 158) 154 rfl dX7_isSo_151 rfl (fun h151 => absurd rfl h151) (fun h151 => ?_)
          refine pw_iconst (v := nI 1) 155 rfl dX7_isSo_154 rfl ?_
          refine pw_goto (tgt := 159) dX7_isSo_155 rfl ?_
          refine pw_iret dX7_isSo_159 rfl ?_
          rotate_left
          exact ⟨rfl, rfl, rfl, rfl⟩
        · rw [if_neg (fun z => h1 ((of_decide_eq_true z).mp h0))]
          refine pw_aload_n 1 rfl dX7_isSo_0 rfl ?_
          refine pw_getR 4 rfl dX7_isSo_1 fX7_19 (by first | rfl | assumption | exact rowS hh | exact mtS hm | exact ruS hr | exact mtA1 hm | exact mtA2 hm | exact mtA3 hm | exact mtA4 hm | exact mtA5 hm | exact mtA6 hm | exact mtA7 hm | exact ruA1 hr | exact ruA2 hr | exact ruA3 hr) rfl (by first | rfl | assumption | exact mtR0 hm | exact mtR1 hm | exact mtR2 hm | exact mtR3 hm | exact mtR4 hm | exact mtR5 hm | exact mtR6 hm | exact ruR0 hr | exact ruR1 hr | exact ruR3 hr) ?_
          refine pw_iload_n 5 rfl dX7_isSo_4 rfl ?_
          refine pw_callVP (as := [_]) 8 rfl dX7_isSo_5 mX7_71 vX1_has (x_has (d := d) (Or.inl rfl) hM.2.1 h7 _) (by first | rfl | assumption | exact rowS hh | exact mtS hm | exact ruS hr | exact mtA1 hm | exact mtA2 hm | exact mtA3 hm | exact mtA4 hm | exact mtA5 hm | exact mtA6 hm | exact mtA7 hm | exact ruA1 hr | exact ruA2 hr | exact ruA3 hr) rfl (by decide) ⟨rfl, by decide, by decide, show (parseMethodDescriptor yX1_has.desc).map (fun d => d.parameters.length) = some 1 by decide +kernel⟩ (by omega) (by decide) (Nat.le_of_ble_eq_true rfl) rfl ?_
          refine pw_if_ne (tgt := 13) 11 rfl dX7_isSo_8 rfl (fun h8 => ?_) (fun h8 => absurd h8 (by rw [hasV_y hin h7]; decide))
          refine pw_iload_n 14 rfl dX7_isSo_13 rfl ?_
          refine pw_tableIn (tgt := 124) (off := 110) dX7_isSo_14 (by decide) (by decide) (by decide) rfl ?_
          refine pw_aload_n 125 rfl dX7_isSo_124 rfl ?_
          refine pw_getR 128 rfl dX7_isSo_125 fX7_19 (by first | rfl | assumption | exact rowS hh | exact mtS hm | exact ruS hr | exact mtA1 hm | exact mtA2 hm | exact mtA3 hm | exact mtA4 hm | exact mtA5 hm | exact mtA6 hm | exact mtA7 hm | exact ruA1 hr | exact ruA2 hr | exact ruA3 hr) rfl (by first | rfl | assumption | exact mtR0 hm | exact mtR1 hm | exact mtR2 hm | exact mtR3 hm | exact mtR4 hm | exact mtR5 hm | exact mtR6 hm | exact ruR0 hr | exact ruR1 hr | exact ruR3 hr) ?_
          refine pw_getR 131 rfl dX7_isSo_128 fX7_87 (by first | rfl | assumption | exact rowS hh | exact mtS hm | exact ruS hr | exact mtA1 hm | exact mtA2 hm | exact mtA3 hm | exact mtA4 hm | exact mtA5 hm | exact mtA6 hm | exact mtA7 hm | exact ruA1 hr | exact ruA2 hr | exact ruA3 hr) rfl (by first | rfl | assumption | exact mtR0 hm | exact mtR1 hm | exact mtR2 hm | exact mtR3 hm | exact mtR4 hm | exact mtR5 hm | exact mtR6 hm | exact ruR0 hr | exact ruR1 hr | exact ruR3 hr) ?_
          refine pw_iload_n 132 rfl dX7_isSo_131 rfl ?_
          refine pw_ialdN 133 rfl dX7_isSo_132 (by first | rfl | assumption | exact rowS hh | exact mtS hm | exact ruS hr | exact mtA1 hm | exact mtA2 hm | exact mtA3 hm | exact mtA4 hm | exact mtA5 hm | exact mtA6 hm | exact mtA7 hm | exact ruA1 hr | exact ruA2 hr | exact ruA3 hr) (by omega) (by first | decide | omega) ?_
          refine pw_if_le (tgt := 140) 136 rfl dX7_isSo_133 rfl (fun h133 => absurd h133 (by rw [v4]; exact nI_nle (by omega) (by omega))) (fun h133 => ?_)
          refine pw_iconst (v := nI 1) 137 rfl dX7_isSo_136 rfl ?_
          refine pw_goto (tgt := 141) dX7_isSo_137 rfl ?_
          refine pw_iload_n 142 rfl dX7_isSo_141 rfl ?_
          refine pw_iconst (v := nI 1) 143 rfl dX7_isSo_142 rfl ?_
          refine pw_icmp_ne (tgt := 150) 146 rfl dX7_isSo_143 rfl (fun h143 => ?_) (fun h143 => absurd h143 (by rw [nI_eq (by omega) (by decide)]; exact h1))
          refine pw_iconst (v := nI 0) 151 rfl dX7_isSo_150 rfl ?_
          refine pw_icmp_ne (tgt := 158) 154 rfl dX7_isSo_151 rfl (fun h151 => ?_) (fun h151 => absurd h151 (by decide))
          refine pw_iconst (v := nI 0) 159 rfl dX7_isSo_158 rfl ?_
          refine pw_iret dX7_isSo_159 rfl ?_
          rotate_left
          exact ⟨rfl, rfl, rfl, rfl⟩
  · have hso : soN n pc b i w V = false := by unfold soN; rw [decide_eq_false hin, Bool.false_and]
    rw [hso, if_neg (by decide)]
    refine pw_aload_n 1 rfl dX7_isSo_0 rfl ?_
    refine pw_getR 4 rfl dX7_isSo_1 fX7_19 (by first | rfl | assumption | exact rowS hh | exact mtS hm | exact ruS hr | exact mtA1 hm | exact mtA2 hm | exact mtA3 hm | exact mtA4 hm | exact mtA5 hm | exact mtA6 hm | exact mtA7 hm | exact ruA1 hr | exact ruA2 hr | exact ruA3 hr) rfl (by first | rfl | assumption | exact mtR0 hm | exact mtR1 hm | exact mtR2 hm | exact mtR3 hm | exact mtR4 hm | exact mtR5 hm | exact mtR6 hm | exact ruR0 hr | exact ruR1 hr | exact ruR3 hr) ?_
    refine pw_iload_n 5 rfl dX7_isSo_4 rfl ?_
    refine pw_callVP (as := [_]) 8 rfl dX7_isSo_5 mX7_71 vX1_has (x_has (d := d) (Or.inl rfl) hM.2.1 h7 _) (by first | rfl | assumption | exact rowS hh | exact mtS hm | exact ruS hr | exact mtA1 hm | exact mtA2 hm | exact mtA3 hm | exact mtA4 hm | exact mtA5 hm | exact mtA6 hm | exact mtA7 hm | exact ruA1 hr | exact ruA2 hr | exact ruA3 hr) rfl (by decide) ⟨rfl, by decide, by decide, show (parseMethodDescriptor yX1_has.desc).map (fun d => d.parameters.length) = some 1 by decide +kernel⟩ (by omega) (by decide) (Nat.le_of_ble_eq_true rfl) rfl ?_
    refine pw_if_ne (tgt := 13) 11 rfl dX7_isSo_8 rfl (fun h8 => absurd (by rw [hasV_n (by omega) (by omega)]; rfl) h8) (fun h8 => ?_)
    refine pw_iconst (v := nI 0) 12 rfl dX7_isSo_11 rfl ?_
    refine pw_iret dX7_isSo_12 rfl ?_
    rotate_left
    exact ⟨rfl, rfl, rfl, rfl⟩
/-- what was heard -/
def XH (I : pI) (hd : List (Nat × Nat)) : Prop := I 62 3 = nI hd.length ∧ hd.length ≤ 12 ∧ ∀ j p, hd[j]? = some p → I 63 j = nI (100 * p.1 + p.2) ∧ p.1 < 5 ∧ p.2 ≤ moN p.1
theorem XH_fr {I I' : pI} {hd : List (Nat × Nat)} (h : XH I hd) (h1 : I' 62 = I 62) (h2 : I' 63 = I 63) : XH I' hd := by
  unfold XH at *
  rw [h1, h2]
  exact h
/-- a number from lo to hi -/
def inOf (lo hi : Nat) (v : Int32) : Option Nat := if nI lo ≤ v ∧ v ≤ nI hi then some v.toNatClampNeg else none
theorem inOf_cases {lo hi : Nat} (hl : hi < 1073741824) (v : Int32) (hle : lo ≤ hi) : (∃ k, lo ≤ k ∧ k ≤ hi ∧ v = nI k ∧ inOf lo hi v = some k) ∨ (inOf lo hi v = none ∧ (v < nI lo ∨ nI hi < v)) := by
  by_cases h : nI lo ≤ v ∧ v ≤ nI hi
  · left
    have hp : ¬ v < 0 := by
      intro z
      rw [Int32.lt_iff_toInt_lt] at z
      have := h.1
      rw [Int32.le_iff_toInt_le, nI_toInt (by omega)] at this
      rw [show (0 : Int32).toInt = 0 from by decide] at z
      omega
    obtain ⟨j, hj, rfl⟩ := nI_of hp
    exact ⟨j, (nI_leI (by omega) hj).mp h.1, (nI_leI hj (by omega)).mp h.2, rfl, by rw [inOf, if_pos h, nI_clamp hj]⟩
  · right
    refine ⟨if_neg h, ?_⟩
    rw [Int32.le_iff_toInt_le, Int32.le_iff_toInt_le] at h
    rw [Int32.lt_iff_toInt_lt, Int32.lt_iff_toInt_lt]
    omega
def aHear (hd : List (Nat × Nat)) (w v : Int32) : Int32 × List (Nat × Nat) := match inOf 0 4 w with
  | none => (-1, hd)
  | some k => match inOf 0 (moN k) v with
    | none => (-1, hd)
    | some x => if hd.length < 12 then (nI (hd.length + 1), hd ++ [(k, x)]) else (-1, hd)
theorem aHear_0 {hd : List (Nat × Nat)} {w v : Int32} (h : inOf 0 4 w = none) : aHear hd w v = (-1, hd) := by unfold aHear; rw [h]
theorem aHear_1 {hd : List (Nat × Nat)} {w v : Int32} {k : Nat} (h : inOf 0 4 w = some k) (h2 : inOf 0 (moN k) v = none) : aHear hd w v = (-1, hd) := by unfold aHear; rw [h]; show (match inOf 0 (moN k) v with | none => _ | some x => _) = _; rw [h2]
theorem aHear_2 {hd : List (Nat × Nat)} {w v : Int32} {k x : Nat} (h : inOf 0 4 w = some k) (h2 : inOf 0 (moN k) v = some x) : aHear hd w v = if hd.length < 12 then (nI (hd.length + 1), hd ++ [(k, x)]) else (-1, hd) := by unfold aHear; rw [h]; show (match inOf 0 (moN k) v with | none => _ | some x => _) = _; rw [h2]
set_option maxRecDepth 100000 in
set_option maxHeartbeats 2000000 in
theorem x_hear {d : Nat} {I : pI} {J : pJ} {hd : List (Nat × Nat)} (hH : XH I hd) (w v : Int32) : PC SX (d + 1) yX7_hear cX7_hear 3 (some .int) [.ref 62, .int w, .int v] (I) (J) (RX) (fun r' I' J' R' => r' = some (.int (aHear hd w v).1) ∧ XH I' (aHear hd w v).2 ∧ (∀ a, a ≠ 62 → a ≠ 63 → I' a = I a) ∧ J = J' ∧ R' = RX) := by
  refine PC.of [some (.ref 62), some (.int w), some (.int v)] rfl rfl (Nat.le_of_ble_eq_true rfl) ?_
  obtain ⟨n1, n2, n3⟩ := id hH
  rcases inOf_cases (lo := 0) (hi := 4) (by decide) w (by decide) with ⟨k, k0, k4, rfl, hk⟩ | ⟨hk, ho⟩
  · have hmo := moN_le k
    rcases inOf_cases (lo := 0) (hi := moN k) (by omega) v (Nat.zero_le _) with ⟨x, x0, x4, rfl, hx⟩ | ⟨hx, ho⟩
    · rw [aHear_2 hk hx]
      by_cases h12 : hd.length < 12
      · rw [if_pos h12]
        refine pw_iload_n 1 rfl dX7_hear_0 rfl ?_
        refine pw_iconst (v := nI 0) 2 rfl dX7_hear_1 rfl ?_
        refine pw_iconst (v := nI 4) 3 rfl dX7_hear_2 rfl ?_
        refine pw_callNP (as := [_, _, _]) 6 rfl dX7_hear_3 nX7_27 sX11_outside (x_outside (d := d) _ _ _) ⟨rfl, by decide, by decide, show (parseMethodDescriptor yX11_outside.desc).map (fun d => d.parameters.length) = some 3 by decide +kernel⟩ (by omega) (by decide) (Nat.le_of_ble_eq_true rfl) rfl ?_
        refine pw_if_ne (tgt := 34) 9 rfl dX7_hear_6 rfl (fun h6 => absurd (by rw [outV_nI k0 k4 (by decide)]; rfl) h6) (fun h6 => ?_)
        refine pw_iload_n 10 rfl dX7_hear_9 rfl ?_
        refine pw_iconst (v := nI 0) 11 rfl dX7_hear_10 rfl ?_
        refine pw_iload_n 12 rfl dX7_hear_11 rfl ?_
        refine pw_callSP (as := [_]) 15 rfl dX7_hear_12 mX7_31 sX7_mostOf (x_mostOf (d := d) (show k < 5 by omega)) ⟨rfl, by decide, by decide, show (parseMethodDescriptor yX7_mostOf.desc).map (fun d => d.parameters.length) = some 1 by decide +kernel⟩ (by omega) (by decide) (Nat.le_of_ble_eq_true rfl) rfl ?_
        refine pw_callNP (as := [_, _, _]) 18 rfl dX7_hear_15 nX7_27 sX11_outside (x_outside (d := d) _ _ _) ⟨rfl, by decide, by decide, show (parseMethodDescriptor yX11_outside.desc).map (fun d => d.parameters.length) = some 3 by decide +kernel⟩ (by omega) (by decide) (Nat.le_of_ble_eq_true rfl) rfl ?_
        refine pw_if_ne (tgt := 34) 21 rfl dX7_hear_18 rfl (fun h18 => absurd (by rw [outV_nI x0 x4 (by omega)]; rfl) h18) (fun h18 => ?_)
        refine pw_aload_n 22 rfl dX7_hear_21 rfl ?_
        refine pw_getI 25 rfl dX7_hear_22 fX7_15 (by first | rfl | assumption | exact rowS hh | exact mtS hm | exact ruS hr | exact mtA1 hm | exact mtA2 hm | exact mtA3 hm | exact mtA4 hm | exact mtA5 hm | exact mtA6 hm | exact mtA7 hm | exact ruA1 hr | exact ruA2 hr | exact ruA3 hr) rfl ?_
        refine pw_iconst (v := nI 0) 26 rfl dX7_hear_25 rfl ?_
        refine pw_bipush (v := nI 11) 28 rfl dX7_hear_26 rfl ?_
        rotate_left
        rw [n1]
        refine pw_callNP (as := [_, _, _]) 31 rfl dX7_hear_28 nX7_27 sX11_outside (x_outside (d := d) _ _ _) ⟨rfl, by decide, by decide, show (parseMethodDescriptor yX11_outside.desc).map (fun d => d.parameters.length) = some 3 by decide +kernel⟩ (by omega) (by decide) (Nat.le_of_ble_eq_true rfl) rfl ?_
        refine pw_if_eq (tgt := 36) 34 rfl dX7_hear_31 rfl (fun h31 => ?_) (fun h31 => absurd (by rw [outV_nI (Nat.zero_le _) (by omega) (by decide)]; rfl) h31)
        refine pw_aload_n 37 rfl dX7_hear_36 rfl ?_
        refine pw_getR 40 rfl dX7_hear_37 fX7_11 (by first | rfl | assumption | exact rowS hh | exact mtS hm | exact ruS hr | exact mtA1 hm | exact mtA2 hm | exact mtA3 hm | exact mtA4 hm | exact mtA5 hm | exact mtA6 hm | exact mtA7 hm | exact ruA1 hr | exact ruA2 hr | exact ruA3 hr) rfl (by first | rfl | assumption | exact mtR0 hm | exact mtR1 hm | exact mtR2 hm | exact mtR3 hm | exact mtR4 hm | exact mtR5 hm | exact mtR6 hm | exact ruR0 hr | exact ruR1 hr | exact ruR3 hr) ?_
        refine pw_aload_n 41 rfl dX7_hear_40 rfl ?_
        refine pw_getI 44 rfl dX7_hear_41 fX7_15 (by first | rfl | assumption | exact rowS hh | exact mtS hm | exact ruS hr | exact mtA1 hm | exact mtA2 hm | exact mtA3 hm | exact mtA4 hm | exact mtA5 hm | exact mtA6 hm | exact mtA7 hm | exact ruA1 hr | exact ruA2 hr | exact ruA3 hr) rfl ?_
        rotate_left
        rw [n1]
        refine pw_bipush (v := nI 100) 46 rfl dX7_hear_44 rfl ?_
        refine pw_iload_n 47 rfl dX7_hear_46 rfl ?_
        first | refine pw_imulN 48 rfl dX7_hear_47 ?_ | refine pw_imul 48 rfl dX7_hear_47 ?_
        refine pw_iload_n 49 rfl dX7_hear_48 rfl ?_
        first | refine pw_iaddN 50 rfl dX7_hear_49 ?_ | refine pw_iadd 50 rfl dX7_hear_49 ?_
        refine pw_iastN 51 rfl dX7_hear_50 (by first | rfl | assumption | exact rowS hh | exact mtS hm | exact ruS hr | exact mtA1 hm | exact mtA2 hm | exact mtA3 hm | exact mtA4 hm | exact mtA5 hm | exact mtA6 hm | exact mtA7 hm | exact ruA1 hr | exact ruA2 hr | exact ruA3 hr) (by omega) (by first | decide | omega) ?_
        refine pw_aload_n 52 rfl dX7_hear_51 rfl ?_
        refine pw_dup 53 rfl dX7_hear_52 rfl ?_
        refine pw_getI 56 rfl dX7_hear_53 fX7_15 (by first | rfl | assumption | exact rowS hh | exact mtS hm | exact ruS hr | exact mtA1 hm | exact mtA2 hm | exact mtA3 hm | exact mtA4 hm | exact mtA5 hm | exact mtA6 hm | exact mtA7 hm | exact ruA1 hr | exact ruA2 hr | exact ruA3 hr) rfl ?_
        refine pw_iconst (v := nI 1) 57 rfl dX7_hear_56 rfl ?_
        rotate_left
        rw [uI_ne (by omega), n1]
        first | refine pw_iaddN 58 rfl dX7_hear_57 ?_ | refine pw_iadd 58 rfl dX7_hear_57 ?_
        refine pw_putI 61 rfl dX7_hear_58 fX7_15 w7_3 (by first | rfl | assumption | exact rowS hh | exact mtS hm | exact ruS hr | exact mtA1 hm | exact mtA2 hm | exact mtA3 hm | exact mtA4 hm | exact mtA5 hm | exact mtA6 hm | exact mtA7 hm | exact ruA1 hr | exact ruA2 hr | exact ruA3 hr) rfl rfl rfl ?_
        refine pw_aload_n 62 rfl dX7_hear_61 rfl ?_
        refine pw_getI 65 rfl dX7_hear_62 fX7_15 (by first | rfl | assumption | exact rowS hh | exact mtS hm | exact ruS hr | exact mtA1 hm | exact mtA2 hm | exact mtA3 hm | exact mtA4 hm | exact mtA5 hm | exact mtA6 hm | exact mtA7 hm | exact ruA1 hr | exact ruA2 hr | exact ruA3 hr) rfl ?_
        rotate_left
        rw [uI_eq]
        refine pw_iret dX7_hear_65 rfl ?_
        rotate_left
        refine ⟨rfl, ⟨?_, ?_, fun j p hj => ?_⟩, fun a h1 h2 => ?_, rfl, rfl⟩
        · rw [uI_eq, List.length_append]; rfl
        · rw [List.length_append]; show _ + 1 ≤ _; omega
        · by_cases e : j = hd.length
          · subst e
            rw [uI_ne (by omega), uI_eq]
            simp at hj
            subst hj
            exact ⟨rfl, by show k < 5; omega, x4⟩
          · have hlt : j < hd.length := by
              have h1 := (List.getElem?_eq_some_iff.mp hj).1
              rw [List.length_append] at h1
              have : j < hd.length + 1 := h1
              omega
            rw [List.getElem?_append_left hlt] at hj
            rw [uI_ne (by omega), uI_ne (by omega)]
            exact n3 j p hj
        · rw [uI, if_neg h1, uI, if_neg h2]
      · rw [if_neg h12]
        refine pw_iload_n 1 rfl dX7_hear_0 rfl ?_
        refine pw_iconst (v := nI 0) 2 rfl dX7_hear_1 rfl ?_
        refine pw_iconst (v := nI 4) 3 rfl dX7_hear_2 rfl ?_
        refine pw_callNP (as := [_, _, _]) 6 rfl dX7_hear_3 nX7_27 sX11_outside (x_outside (d := d) _ _ _) ⟨rfl, by decide, by decide, show (parseMethodDescriptor yX11_outside.desc).map (fun d => d.parameters.length) = some 3 by decide +kernel⟩ (by omega) (by decide) (Nat.le_of_ble_eq_true rfl) rfl ?_
        refine pw_if_ne (tgt := 34) 9 rfl dX7_hear_6 rfl (fun h6 => absurd (by rw [outV_nI k0 k4 (by decide)]; rfl) h6) (fun h6 => ?_)
        refine pw_iload_n 10 rfl dX7_hear_9 rfl ?_
        refine pw_iconst (v := nI 0) 11 rfl dX7_hear_10 rfl ?_
        refine pw_iload_n 12 rfl dX7_hear_11 rfl ?_
        refine pw_callSP (as := [_]) 15 rfl dX7_hear_12 mX7_31 sX7_mostOf (x_mostOf (d := d) (show k < 5 by omega)) ⟨rfl, by decide, by decide, show (parseMethodDescriptor yX7_mostOf.desc).map (fun d => d.parameters.length) = some 1 by decide +kernel⟩ (by omega) (by decide) (Nat.le_of_ble_eq_true rfl) rfl ?_
        refine pw_callNP (as := [_, _, _]) 18 rfl dX7_hear_15 nX7_27 sX11_outside (x_outside (d := d) _ _ _) ⟨rfl, by decide, by decide, show (parseMethodDescriptor yX11_outside.desc).map (fun d => d.parameters.length) = some 3 by decide +kernel⟩ (by omega) (by decide) (Nat.le_of_ble_eq_true rfl) rfl ?_
        refine pw_if_ne (tgt := 34) 21 rfl dX7_hear_18 rfl (fun h18 => absurd (by rw [outV_nI x0 x4 (by omega)]; rfl) h18) (fun h18 => ?_)
        refine pw_aload_n 22 rfl dX7_hear_21 rfl ?_
        refine pw_getI 25 rfl dX7_hear_22 fX7_15 (by first | rfl | assumption | exact rowS hh | exact mtS hm | exact ruS hr | exact mtA1 hm | exact mtA2 hm | exact mtA3 hm | exact mtA4 hm | exact mtA5 hm | exact mtA6 hm | exact mtA7 hm | exact ruA1 hr | exact ruA2 hr | exact ruA3 hr) rfl ?_
        refine pw_iconst (v := nI 0) 26 rfl dX7_hear_25 rfl ?_
        refine pw_bipush (v := nI 11) 28 rfl dX7_hear_26 rfl ?_
        rotate_left
        rw [n1]
        refine pw_callNP (as := [_, _, _]) 31 rfl dX7_hear_28 nX7_27 sX11_outside (x_outside (d := d) _ _ _) ⟨rfl, by decide, by decide, show (parseMethodDescriptor yX11_outside.desc).map (fun d => d.parameters.length) = some 3 by decide +kernel⟩ (by omega) (by decide) (Nat.le_of_ble_eq_true rfl) rfl ?_
        refine pw_if_eq (tgt := 36) 34 rfl dX7_hear_31 rfl (fun h31 => absurd h31 (by rw [outV_y (Or.inr (nI_lt (by omega) (by omega)))]; decide)) (fun h31 => ?_)
        refine pw_iconst (v := -1) 35 rfl dX7_hear_34 rfl ?_
        refine pw_iret dX7_hear_35 rfl ?_
        rotate_left
        exact ⟨rfl, hH, fun _ _ _ => rfl, rfl, rfl⟩
    · rw [aHear_1 hk hx]
      refine pw_iload_n 1 rfl dX7_hear_0 rfl ?_
      refine pw_iconst (v := nI 0) 2 rfl dX7_hear_1 rfl ?_
      refine pw_iconst (v := nI 4) 3 rfl dX7_hear_2 rfl ?_
      refine pw_callNP (as := [_, _, _]) 6 rfl dX7_hear_3 nX7_27 sX11_outside (x_outside (d := d) _ _ _) ⟨rfl, by decide, by decide, show (parseMethodDescriptor yX11_outside.desc).map (fun d => d.parameters.length) = some 3 by decide +kernel⟩ (by omega) (by decide) (Nat.le_of_ble_eq_true rfl) rfl ?_
      refine pw_if_ne (tgt := 34) 9 rfl dX7_hear_6 rfl (fun h6 => absurd (by rw [outV_nI k0 k4 (by decide)]; rfl) h6) (fun h6 => ?_)
      refine pw_iload_n 10 rfl dX7_hear_9 rfl ?_
      refine pw_iconst (v := nI 0) 11 rfl dX7_hear_10 rfl ?_
      refine pw_iload_n 12 rfl dX7_hear_11 rfl ?_
      refine pw_callSP (as := [_]) 15 rfl dX7_hear_12 mX7_31 sX7_mostOf (x_mostOf (d := d) (show k < 5 by omega)) ⟨rfl, by decide, by decide, show (parseMethodDescriptor yX7_mostOf.desc).map (fun d => d.parameters.length) = some 1 by decide +kernel⟩ (by omega) (by decide) (Nat.le_of_ble_eq_true rfl) rfl ?_
      refine pw_callNP (as := [_, _, _]) 18 rfl dX7_hear_15 nX7_27 sX11_outside (x_outside (d := d) _ _ _) ⟨rfl, by decide, by decide, show (parseMethodDescriptor yX11_outside.desc).map (fun d => d.parameters.length) = some 3 by decide +kernel⟩ (by omega) (by decide) (Nat.le_of_ble_eq_true rfl) rfl ?_
      refine pw_if_ne (tgt := 34) 21 rfl dX7_hear_18 rfl (fun h18 => ?_) (fun h18 => absurd h18 (by rw [outV_y ho]; decide))
      refine pw_iconst (v := -1) 35 rfl dX7_hear_34 rfl ?_
      refine pw_iret dX7_hear_35 rfl ?_
      rotate_left
      exact ⟨rfl, hH, fun _ _ _ => rfl, rfl, rfl⟩
  · rw [aHear_0 hk]
    refine pw_iload_n 1 rfl dX7_hear_0 rfl ?_
    refine pw_iconst (v := nI 0) 2 rfl dX7_hear_1 rfl ?_
    refine pw_iconst (v := nI 4) 3 rfl dX7_hear_2 rfl ?_
    refine pw_callNP (as := [_, _, _]) 6 rfl dX7_hear_3 nX7_27 sX11_outside (x_outside (d := d) _ _ _) ⟨rfl, by decide, by decide, show (parseMethodDescriptor yX11_outside.desc).map (fun d => d.parameters.length) = some 3 by decide +kernel⟩ (by omega) (by decide) (Nat.le_of_ble_eq_true rfl) rfl ?_
    refine pw_if_ne (tgt := 34) 9 rfl dX7_hear_6 rfl (fun h6 => ?_) (fun h6 => absurd h6 (by rw [outV_y ho]; decide))
    refine pw_iconst (v := -1) 35 rfl dX7_hear_34 rfl ?_
    refine pw_iret dX7_hear_35 rfl ?_
    rotate_left
    exact ⟨rfl, hH, fun _ _ _ => rfl, rfl, rfl⟩
set_option maxRecDepth 100000 in
set_option maxHeartbeats 2000000 in
theorem x_dropR {d : Nat} {I : pI} {J : pJ} {hd : List (Nat × Nat)} (hH : XH I hd) : PC SX (d) yX7_drop cX7_drop 2 (some .int) [.ref 62] (I) (J) (RX) (fun r' I' J' R' => r' = some (.int (nI hd.length)) ∧ XH I' [] ∧ (∀ a, a ≠ 62 → I' a = I a) ∧ J = J' ∧ R' = RX) := by
  refine PC.of [some (.ref 62), none] rfl rfl (Nat.le_of_ble_eq_true rfl) ?_
  refine pw_aload_n 1 rfl dX7_drop_0 rfl ?_
  refine pw_getI 4 rfl dX7_drop_1 fX7_15 (by first | rfl | assumption | exact rowS hh | exact mtS hm | exact ruS hr | exact mtA1 hm | exact mtA2 hm | exact mtA3 hm | exact mtA4 hm | exact mtA5 hm | exact mtA6 hm | exact mtA7 hm | exact ruA1 hr | exact ruA2 hr | exact ruA3 hr) rfl ?_
  rotate_left
  rw [hH.1]
  refine pw_istore_n 5 rfl dX7_drop_4 (by decide) ?_
  refine pw_aload_n 6 rfl dX7_drop_5 rfl ?_
  refine pw_iconst (v := nI 0) 7 rfl dX7_drop_6 rfl ?_
  refine pw_putI 10 rfl dX7_drop_7 fX7_15 w7_3 (by first | rfl | assumption | exact rowS hh | exact mtS hm | exact ruS hr | exact mtA1 hm | exact mtA2 hm | exact mtA3 hm | exact mtA4 hm | exact mtA5 hm | exact mtA6 hm | exact mtA7 hm | exact ruA1 hr | exact ruA2 hr | exact ruA3 hr) rfl rfl rfl ?_
  refine pw_iload_n 11 rfl dX7_drop_10 rfl ?_
  refine pw_iret dX7_drop_11 rfl ?_
  rotate_left
  exact ⟨rfl, ⟨uI_eq _ _ _ _, Nat.zero_le _, fun j p h => by cases h⟩, fun a ha => by rw [uI, if_neg ha], rfl, rfl⟩
