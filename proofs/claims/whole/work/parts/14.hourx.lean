/-! an HOUR over a row b: s the STEPS of each -/
def hH (s b : Nat → Nat) (q : Nat) : Nat := if b (7 + q) = 1 then min (b 28) (b q + s q) else if b (7 + q) = 2 then b q - s q else b q
def hV (s b : Nat → Nat) (q : Nat) : Nat := if b (7 + q) = 1 ∧ hH s b q = b 28 then 2 else b (7 + q)
def hC (s b : Nat → Nat) (q : Nat) : Bool := decide (hV s b q = 2 ∧ hH s b q = 0)
def hY (s b : Nat → Nat) (q : Nat) : Nat := if hC s b q then 0 else hV s b q
def hO (s b : Nat → Nat) : Nat → Nat
  | 0 => b 29
  | k + 1 => if hC s b k then k else hO s b k
def hD (s b : Nat → Nat) : Nat → Nat
  | 0 => b 31
  | k + 1 => if hC s b k then min 9999 (hD s b k + 1) else hD s b k
def dist (x y : Nat) : Nat := if y ≤ x then x - y else y - x
/-- the row behind the hour -/
def hrow (n : Nat) (s b : Nat → Nat) : Nat → Nat := fun k =>
  if k < 7 then (if k < n then hH s b k else b k)
  else if k < 14 then (if k - 7 < n then hY s b (k - 7) else b k)
  else if k < 21 then (if k - 14 < n then b k - 1 else b k)
  else if k < 28 then (if hO s b n = k - 21 then min 999 (b k + 1) else b k)
  else if k = 28 then b 28 else if k = 29 then hO s b n else if k = 30 then b 30 + 1 else hD s b n
theorem nI_dist {a b : Nat} (ha : a < 1073741824) (hb : b < 1073741824) : (if 0 ≤ nI a - nI b then nI a - nI b else 0 - (nI a - nI b)) = nI (dist a b) := by
  by_cases h : b ≤ a
  · rw [pk_sub h, if_pos (nI_pos' (by omega)), dist, if_pos h]
  · have h1 : nI a - nI b < 0 := pk_sneg hb (by omega)
    rw [if_neg (by rw [Int32.lt_iff_toInt_lt] at h1; rw [Int32.le_iff_toInt_le]; omega), dist, if_neg h, ← pk_sub (by omega : a ≤ b)]
    apply Int32.toBitVec_inj.mp
    simp only [Int32.toBitVec_sub]
    exact (by intro x y; rw [BitVec.zero_sub, BitVec.neg_sub, BitVec.add_comm, ← BitVec.sub_eq_add_neg] : ∀ x y : BitVec 32, 0#32 - (x - y) = y - x) _ _
theorem nI_subm {a s : Nat} (ha : a < 1073741824) (hs : s < 1073741824) : (if nI 0 < nI a - nI s then nI a - nI s else nI 0) = nI (a - s) := by
  by_cases h : s ≤ a
  · rw [pk_sub h]
    by_cases h0 : 0 < a - s
    · rw [if_pos (nI_lt h0 (by omega))]
    · rw [if_neg (nI_nlt (by omega) (by omega)), show a - s = 0 by omega]
  · have h1 : nI a - nI s < 0 := pk_sneg hs (by omega)
    rw [if_neg (by rw [Int32.lt_iff_toInt_lt] at h1 ⊢; rw [nI_0]; omega), show a - s = 0 by omega]
theorem uI_ne {I : pI} {h k : Nat} {v : Int32} {a j : Nat} (hn : ¬ (a = h ∧ j = k)) : uI I h k v a j = I a j := by
  rw [uI_at]
  by_cases h1 : a = h
  · rw [if_pos h1, if_neg (fun h2 => hn ⟨h1, h2⟩)]
  · rw [if_neg h1]
theorem uI_eq (I : pI) (h k : Nat) (v : Int32) : uI I h k v h k = v := by rw [uI_at, if_pos rfl, if_pos rfl]
set_option maxRecDepth 100000 in
set_option maxHeartbeats 2000000 in
theorem x_move {m d n q h w t u g : Nat} (hm : isMt m) {I : pI} {J : pJ} (hn : I m 7 = nI n) (h7 : n ≤ 7) (hq : q < n) (i2 : I (m + 2) q = nI h) (i3 : I (m + 3) q = nI w) (i4 : I (m + 4) q = nI u) (i6 : I (m + 6) q = nI g) (i8 : I m 8 = nI t) (ht : t ≤ 9) (hh : h ≤ t) (hw : w ≤ 2) (hu : u ≤ 500) (hg : g ≤ 3) (hug : u ≠ 0 → g = 0) : PC SX (d + 1) yX1_move cX1_move 3 none [.ref m, .int (nI q)] (I) (J) (RX) (fun r' I' J' R' => r' = none ∧ (∀ a j, ¬ (j = q ∧ (a = m + 2 ∨ a = m + 4 ∨ a = m + 7)) → I' a j = I a j) ∧ I' (m + 2) q = nI (if w = 1 then min t (h + g) else if w = 2 then h - g else h) ∧ I' (m + 4) q = nI (u - 1) ∧ I' (m + 7) q = nI (dist (if w = 1 then min t (h + g) else if w = 2 then h - g else h) h) ∧ J = J' ∧ R' = RX) := by
  refine PC.of [some (.ref m), some (.int (nI q)), none] rfl rfl (Nat.le_of_ble_eq_true rfl) ?_
  refine pw_aload_n 1 rfl dX1_move_0 rfl ?_
  refine pw_iload_n 2 rfl dX1_move_1 rfl ?_
  refine pw_callVP (as := [_]) 5 rfl dX1_move_2 mX1_68 vX1_has (x_has (d := d) hm hn h7 _) (by first | rfl | assumption | exact rowS hh | exact mtS hm | exact ruS hr | exact mtA1 hm | exact mtA2 hm | exact mtA3 hm | exact mtA4 hm | exact mtA5 hm | exact mtA6 hm | exact mtA7 hm | exact ruA1 hr | exact ruA2 hr | exact ruA3 hr) rfl (by decide) ⟨rfl, by decide, by decide, show (parseMethodDescriptor yX1_has.desc).map (fun d => d.parameters.length) = some 1 by decide +kernel⟩ (by omega) (by decide) (Nat.le_of_ble_eq_true rfl) rfl ?_
  refine pw_if_ne (tgt := 9) 8 rfl dX1_move_5 rfl (fun h5 => ?_) (fun h5 => absurd h5 (by rw [hasV_y hq h7]; decide))
  refine pw_aload_n 10 rfl dX1_move_9 rfl ?_
  refine pw_getR 13 rfl dX1_move_10 fX1_15 (by first | rfl | assumption | exact rowS hh | exact mtS hm | exact ruS hr | exact mtA1 hm | exact mtA2 hm | exact mtA3 hm | exact mtA4 hm | exact mtA5 hm | exact mtA6 hm | exact mtA7 hm | exact ruA1 hr | exact ruA2 hr | exact ruA3 hr) rfl (by first | rfl | assumption | exact mtR0 hm | exact mtR1 hm | exact mtR2 hm | exact mtR3 hm | exact mtR4 hm | exact mtR5 hm | exact mtR6 hm | exact ruR0 hr | exact ruR1 hr | exact ruR3 hr) ?_
  refine pw_iload_n 14 rfl dX1_move_13 rfl ?_
  refine pw_ialdN 15 rfl dX1_move_14 (by first | rfl | assumption | exact rowS hh | exact mtS hm | exact ruS hr | exact mtA1 hm | exact mtA2 hm | exact mtA3 hm | exact mtA4 hm | exact mtA5 hm | exact mtA6 hm | exact mtA7 hm | exact ruA1 hr | exact ruA2 hr | exact ruA3 hr) (by omega) (by decide) ?_
  refine pw_istore_n 16 rfl dX1_move_15 (by decide) ?_
  rotate_left
  by_cases hu0 : u = 0
  · subst hu0
    by_cases h1 : w = 1
    · subst h1
      refine pw_aload_n 17 rfl dX1_move_16 rfl ?_
      refine pw_getR 20 rfl dX1_move_17 fX1_21 (by first | rfl | assumption | exact rowS hh | exact mtS hm | exact ruS hr | exact mtA1 hm | exact mtA2 hm | exact mtA3 hm | exact mtA4 hm | exact mtA5 hm | exact mtA6 hm | exact mtA7 hm | exact ruA1 hr | exact ruA2 hr | exact ruA3 hr) rfl (by first | rfl | assumption | exact mtR0 hm | exact mtR1 hm | exact mtR2 hm | exact mtR3 hm | exact mtR4 hm | exact mtR5 hm | exact mtR6 hm | exact ruR0 hr | exact ruR1 hr | exact ruR3 hr) ?_
      refine pw_iload_n 21 rfl dX1_move_20 rfl ?_
      refine pw_ialdN 22 rfl dX1_move_21 (by first | rfl | assumption | exact rowS hh | exact mtS hm | exact ruS hr | exact mtA1 hm | exact mtA2 hm | exact mtA3 hm | exact mtA4 hm | exact mtA5 hm | exact mtA6 hm | exact mtA7 hm | exact ruA1 hr | exact ruA2 hr | exact ruA3 hr) (by omega) (by decide) ?_
      refine pw_if_le (tgt := 38) 25 rfl dX1_move_22 rfl (fun h22 => ?_) (fun h22 => absurd (by rw [i4]; decide) h22)
      refine pw_aload_n 39 rfl dX1_move_38 rfl ?_
      refine pw_getR 42 rfl dX1_move_39 fX1_18 (by first | rfl | assumption | exact rowS hh | exact mtS hm | exact ruS hr | exact mtA1 hm | exact mtA2 hm | exact mtA3 hm | exact mtA4 hm | exact mtA5 hm | exact mtA6 hm | exact mtA7 hm | exact ruA1 hr | exact ruA2 hr | exact ruA3 hr) rfl (by first | rfl | assumption | exact mtR0 hm | exact mtR1 hm | exact mtR2 hm | exact mtR3 hm | exact mtR4 hm | exact mtR5 hm | exact mtR6 hm | exact ruR0 hr | exact ruR1 hr | exact ruR3 hr) ?_
      refine pw_iload_n 43 rfl dX1_move_42 rfl ?_
      refine pw_ialdN 44 rfl dX1_move_43 (by first | rfl | assumption | exact rowS hh | exact mtS hm | exact ruS hr | exact mtA1 hm | exact mtA2 hm | exact mtA3 hm | exact mtA4 hm | exact mtA5 hm | exact mtA6 hm | exact mtA7 hm | exact ruA1 hr | exact ruA2 hr | exact ruA3 hr) (by omega) (by decide) ?_
      refine pw_iconst (v := nI 1) 45 rfl dX1_move_44 rfl ?_
      refine pw_icmp_ne (tgt := 72) 48 rfl dX1_move_45 rfl (fun h45 => absurd i3 h45) (fun h45 => ?_)
      refine pw_aload_n 49 rfl dX1_move_48 rfl ?_
      refine pw_getR 52 rfl dX1_move_49 fX1_15 (by first | rfl | assumption | exact rowS hh | exact mtS hm | exact ruS hr | exact mtA1 hm | exact mtA2 hm | exact mtA3 hm | exact mtA4 hm | exact mtA5 hm | exact mtA6 hm | exact mtA7 hm | exact ruA1 hr | exact ruA2 hr | exact ruA3 hr) rfl (by first | rfl | assumption | exact mtR0 hm | exact mtR1 hm | exact mtR2 hm | exact mtR3 hm | exact mtR4 hm | exact mtR5 hm | exact mtR6 hm | exact ruR0 hr | exact ruR1 hr | exact ruR3 hr) ?_
      refine pw_iload_n 53 rfl dX1_move_52 rfl ?_
      refine pw_aload_n 54 rfl dX1_move_53 rfl ?_
      refine pw_getI 57 rfl dX1_move_54 fX1_37 (by first | rfl | assumption | exact rowS hh | exact mtS hm | exact ruS hr | exact mtA1 hm | exact mtA2 hm | exact mtA3 hm | exact mtA4 hm | exact mtA5 hm | exact mtA6 hm | exact mtA7 hm | exact ruA1 hr | exact ruA2 hr | exact ruA3 hr) rfl ?_
      refine pw_iload_n 58 rfl dX1_move_57 rfl ?_
      refine pw_aload_n 59 rfl dX1_move_58 rfl ?_
      refine pw_getR 62 rfl dX1_move_59 fX1_27 (by first | rfl | assumption | exact rowS hh | exact mtS hm | exact ruS hr | exact mtA1 hm | exact mtA2 hm | exact mtA3 hm | exact mtA4 hm | exact mtA5 hm | exact mtA6 hm | exact mtA7 hm | exact ruA1 hr | exact ruA2 hr | exact ruA3 hr) rfl (by first | rfl | assumption | exact mtR0 hm | exact mtR1 hm | exact mtR2 hm | exact mtR3 hm | exact mtR4 hm | exact mtR5 hm | exact mtR6 hm | exact ruR0 hr | exact ruR1 hr | exact ruR3 hr) ?_
      refine pw_iload_n 63 rfl dX1_move_62 rfl ?_
      refine pw_ialdN 64 rfl dX1_move_63 (by first | rfl | assumption | exact rowS hh | exact mtS hm | exact ruS hr | exact mtA1 hm | exact mtA2 hm | exact mtA3 hm | exact mtA4 hm | exact mtA5 hm | exact mtA6 hm | exact mtA7 hm | exact ruA1 hr | exact ruA2 hr | exact ruA3 hr) (by omega) (by decide) ?_
      first | refine pw_iaddN 65 rfl dX1_move_64 ?_ | refine pw_iadd 65 rfl dX1_move_64 ?_
      refine pw_mmin 68 rfl dX1_move_65 mX1_75 (Nat.le_of_ble_eq_true rfl) ?_
      rotate_left
      rw [i8, i2, i6, nI_add, nI_min (by omega) (by omega)]
      refine pw_iastN 69 rfl dX1_move_68 (by first | rfl | assumption | exact rowS hh | exact mtS hm | exact ruS hr | exact mtA1 hm | exact mtA2 hm | exact mtA3 hm | exact mtA4 hm | exact mtA5 hm | exact mtA6 hm | exact mtA7 hm | exact ruA1 hr | exact ruA2 hr | exact ruA3 hr) (by omega) (by decide) ?_
      refine pw_goto (tgt := 100) dX1_move_69 rfl ?_
      refine pw_aload_n 101 rfl dX1_move_100 rfl ?_
      refine pw_getR 104 rfl dX1_move_101 fX1_30 (by first | rfl | assumption | exact rowS hh | exact mtS hm | exact ruS hr | exact mtA1 hm | exact mtA2 hm | exact mtA3 hm | exact mtA4 hm | exact mtA5 hm | exact mtA6 hm | exact mtA7 hm | exact ruA1 hr | exact ruA2 hr | exact ruA3 hr) rfl (by first | rfl | assumption | exact mtR0 hm | exact mtR1 hm | exact mtR2 hm | exact mtR3 hm | exact mtR4 hm | exact mtR5 hm | exact mtR6 hm | exact ruR0 hr | exact ruR1 hr | exact ruR3 hr) ?_
      refine pw_iload_n 105 rfl dX1_move_104 rfl ?_
      refine pw_aload_n 106 rfl dX1_move_105 rfl ?_
      refine pw_getR 109 rfl dX1_move_106 fX1_15 (by first | rfl | assumption | exact rowS hh | exact mtS hm | exact ruS hr | exact mtA1 hm | exact mtA2 hm | exact mtA3 hm | exact mtA4 hm | exact mtA5 hm | exact mtA6 hm | exact mtA7 hm | exact ruA1 hr | exact ruA2 hr | exact ruA3 hr) rfl (by first | rfl | assumption | exact mtR0 hm | exact mtR1 hm | exact mtR2 hm | exact mtR3 hm | exact mtR4 hm | exact mtR5 hm | exact mtR6 hm | exact ruR0 hr | exact ruR1 hr | exact ruR3 hr) ?_
      refine pw_iload_n 110 rfl dX1_move_109 rfl ?_
      refine pw_ialdN 111 rfl dX1_move_110 (by first | rfl | assumption | exact rowS hh | exact mtS hm | exact ruS hr | exact mtA1 hm | exact mtA2 hm | exact mtA3 hm | exact mtA4 hm | exact mtA5 hm | exact mtA6 hm | exact mtA7 hm | exact ruA1 hr | exact ruA2 hr | exact ruA3 hr) (by omega) (by decide) ?_
      refine pw_iload_n 112 rfl dX1_move_111 rfl ?_
      refine pw_isub 113 rfl dX1_move_112 ?_
      refine pw_mabs 116 rfl dX1_move_113 mX1_106 (Nat.le_of_ble_eq_true rfl) ?_
      rotate_left
      rw [uI_eq, nI_dist (by omega) (by omega)]
      refine pw_iastN 117 rfl dX1_move_116 (by first | rfl | assumption | exact rowS hh | exact mtS hm | exact ruS hr | exact mtA1 hm | exact mtA2 hm | exact mtA3 hm | exact mtA4 hm | exact mtA5 hm | exact mtA6 hm | exact mtA7 hm | exact ruA1 hr | exact ruA2 hr | exact ruA3 hr) (by omega) (by decide) ?_
      refine pw_vret dX1_move_117 ?_
      rotate_left
      refine ⟨rfl, fun a j hj => ?_, ?_, ?_, ?_, rfl, rfl⟩
      · rw [uI_ne (by omega), uI_ne (by omega)]
      · rw [uI_ne (by omega), uI_eq]; rfl
      · rw [uI_ne (by omega), uI_ne (by omega), i4]
      · rw [uI_eq]; rfl
    · by_cases h2 : w = 2
      · subst h2
        refine pw_aload_n 17 rfl dX1_move_16 rfl ?_
        refine pw_getR 20 rfl dX1_move_17 fX1_21 (by first | rfl | assumption | exact rowS hh | exact mtS hm | exact ruS hr | exact mtA1 hm | exact mtA2 hm | exact mtA3 hm | exact mtA4 hm | exact mtA5 hm | exact mtA6 hm | exact mtA7 hm | exact ruA1 hr | exact ruA2 hr | exact ruA3 hr) rfl (by first | rfl | assumption | exact mtR0 hm | exact mtR1 hm | exact mtR2 hm | exact mtR3 hm | exact mtR4 hm | exact mtR5 hm | exact mtR6 hm | exact ruR0 hr | exact ruR1 hr | exact ruR3 hr) ?_
        refine pw_iload_n 21 rfl dX1_move_20 rfl ?_
        refine pw_ialdN 22 rfl dX1_move_21 (by first | rfl | assumption | exact rowS hh | exact mtS hm | exact ruS hr | exact mtA1 hm | exact mtA2 hm | exact mtA3 hm | exact mtA4 hm | exact mtA5 hm | exact mtA6 hm | exact mtA7 hm | exact ruA1 hr | exact ruA2 hr | exact ruA3 hr) (by omega) (by decide) ?_
        refine pw_if_le (tgt := 38) 25 rfl dX1_move_22 rfl (fun h22 => ?_) (fun h22 => absurd (by rw [i4]; decide) h22)
        refine pw_aload_n 39 rfl dX1_move_38 rfl ?_
        refine pw_getR 42 rfl dX1_move_39 fX1_18 (by first | rfl | assumption | exact rowS hh | exact mtS hm | exact ruS hr | exact mtA1 hm | exact mtA2 hm | exact mtA3 hm | exact mtA4 hm | exact mtA5 hm | exact mtA6 hm | exact mtA7 hm | exact ruA1 hr | exact ruA2 hr | exact ruA3 hr) rfl (by first | rfl | assumption | exact mtR0 hm | exact mtR1 hm | exact mtR2 hm | exact mtR3 hm | exact mtR4 hm | exact mtR5 hm | exact mtR6 hm | exact ruR0 hr | exact ruR1 hr | exact ruR3 hr) ?_
        refine pw_iload_n 43 rfl dX1_move_42 rfl ?_
        refine pw_ialdN 44 rfl dX1_move_43 (by first | rfl | assumption | exact rowS hh | exact mtS hm | exact ruS hr | exact mtA1 hm | exact mtA2 hm | exact mtA3 hm | exact mtA4 hm | exact mtA5 hm | exact mtA6 hm | exact mtA7 hm | exact ruA1 hr | exact ruA2 hr | exact ruA3 hr) (by omega) (by decide) ?_
        refine pw_iconst (v := nI 1) 45 rfl dX1_move_44 rfl ?_
        refine pw_icmp_ne (tgt := 72) 48 rfl dX1_move_45 rfl (fun h45 => ?_) (fun h45 => absurd h45 (by rw [i3]; decide))
        refine pw_aload_n 73 rfl dX1_move_72 rfl ?_
        refine pw_getR 76 rfl dX1_move_73 fX1_18 (by first | rfl | assumption | exact rowS hh | exact mtS hm | exact ruS hr | exact mtA1 hm | exact mtA2 hm | exact mtA3 hm | exact mtA4 hm | exact mtA5 hm | exact mtA6 hm | exact mtA7 hm | exact ruA1 hr | exact ruA2 hr | exact ruA3 hr) rfl (by first | rfl | assumption | exact mtR0 hm | exact mtR1 hm | exact mtR2 hm | exact mtR3 hm | exact mtR4 hm | exact mtR5 hm | exact mtR6 hm | exact ruR0 hr | exact ruR1 hr | exact ruR3 hr) ?_
        refine pw_iload_n 77 rfl dX1_move_76 rfl ?_
        refine pw_ialdN 78 rfl dX1_move_77 (by first | rfl | assumption | exact rowS hh | exact mtS hm | exact ruS hr | exact mtA1 hm | exact mtA2 hm | exact mtA3 hm | exact mtA4 hm | exact mtA5 hm | exact mtA6 hm | exact mtA7 hm | exact ruA1 hr | exact ruA2 hr | exact ruA3 hr) (by omega) (by decide) ?_
        refine pw_iconst (v := nI 2) 79 rfl dX1_move_78 rfl ?_
        refine pw_icmp_ne (tgt := 100) 82 rfl dX1_move_79 rfl (fun h79 => absurd i3 h79) (fun h79 => ?_)
        refine pw_aload_n 83 rfl dX1_move_82 rfl ?_
        refine pw_getR 86 rfl dX1_move_83 fX1_15 (by first | rfl | assumption | exact rowS hh | exact mtS hm | exact ruS hr | exact mtA1 hm | exact mtA2 hm | exact mtA3 hm | exact mtA4 hm | exact mtA5 hm | exact mtA6 hm | exact mtA7 hm | exact ruA1 hr | exact ruA2 hr | exact ruA3 hr) rfl (by first | rfl | assumption | exact mtR0 hm | exact mtR1 hm | exact mtR2 hm | exact mtR3 hm | exact mtR4 hm | exact mtR5 hm | exact mtR6 hm | exact ruR0 hr | exact ruR1 hr | exact ruR3 hr) ?_
        refine pw_iload_n 87 rfl dX1_move_86 rfl ?_
        refine pw_iconst (v := nI 0) 88 rfl dX1_move_87 rfl ?_
        refine pw_iload_n 89 rfl dX1_move_88 rfl ?_
        refine pw_aload_n 90 rfl dX1_move_89 rfl ?_
        refine pw_getR 93 rfl dX1_move_90 fX1_27 (by first | rfl | assumption | exact rowS hh | exact mtS hm | exact ruS hr | exact mtA1 hm | exact mtA2 hm | exact mtA3 hm | exact mtA4 hm | exact mtA5 hm | exact mtA6 hm | exact mtA7 hm | exact ruA1 hr | exact ruA2 hr | exact ruA3 hr) rfl (by first | rfl | assumption | exact mtR0 hm | exact mtR1 hm | exact mtR2 hm | exact mtR3 hm | exact mtR4 hm | exact mtR5 hm | exact mtR6 hm | exact ruR0 hr | exact ruR1 hr | exact ruR3 hr) ?_
        refine pw_iload_n 94 rfl dX1_move_93 rfl ?_
        refine pw_ialdN 95 rfl dX1_move_94 (by first | rfl | assumption | exact rowS hh | exact mtS hm | exact ruS hr | exact mtA1 hm | exact mtA2 hm | exact mtA3 hm | exact mtA4 hm | exact mtA5 hm | exact mtA6 hm | exact mtA7 hm | exact ruA1 hr | exact ruA2 hr | exact ruA3 hr) (by omega) (by decide) ?_
        refine pw_isub 96 rfl dX1_move_95 ?_
        refine pw_mmax 99 rfl dX1_move_96 mX1_80 (Nat.le_of_ble_eq_true rfl) ?_
        rotate_left
        rw [i2, i6, nI_subm (by omega) (by omega)]
        refine pw_iastN 100 rfl dX1_move_99 (by first | rfl | assumption | exact rowS hh | exact mtS hm | exact ruS hr | exact mtA1 hm | exact mtA2 hm | exact mtA3 hm | exact mtA4 hm | exact mtA5 hm | exact mtA6 hm | exact mtA7 hm | exact ruA1 hr | exact ruA2 hr | exact ruA3 hr) (by omega) (by decide) ?_
        refine pw_aload_n 101 rfl dX1_move_100 rfl ?_
        refine pw_getR 104 rfl dX1_move_101 fX1_30 (by first | rfl | assumption | exact rowS hh | exact mtS hm | exact ruS hr | exact mtA1 hm | exact mtA2 hm | exact mtA3 hm | exact mtA4 hm | exact mtA5 hm | exact mtA6 hm | exact mtA7 hm | exact ruA1 hr | exact ruA2 hr | exact ruA3 hr) rfl (by first | rfl | assumption | exact mtR0 hm | exact mtR1 hm | exact mtR2 hm | exact mtR3 hm | exact mtR4 hm | exact mtR5 hm | exact mtR6 hm | exact ruR0 hr | exact ruR1 hr | exact ruR3 hr) ?_
        refine pw_iload_n 105 rfl dX1_move_104 rfl ?_
        refine pw_aload_n 106 rfl dX1_move_105 rfl ?_
        refine pw_getR 109 rfl dX1_move_106 fX1_15 (by first | rfl | assumption | exact rowS hh | exact mtS hm | exact ruS hr | exact mtA1 hm | exact mtA2 hm | exact mtA3 hm | exact mtA4 hm | exact mtA5 hm | exact mtA6 hm | exact mtA7 hm | exact ruA1 hr | exact ruA2 hr | exact ruA3 hr) rfl (by first | rfl | assumption | exact mtR0 hm | exact mtR1 hm | exact mtR2 hm | exact mtR3 hm | exact mtR4 hm | exact mtR5 hm | exact mtR6 hm | exact ruR0 hr | exact ruR1 hr | exact ruR3 hr) ?_
        refine pw_iload_n 110 rfl dX1_move_109 rfl ?_
        refine pw_ialdN 111 rfl dX1_move_110 (by first | rfl | assumption | exact rowS hh | exact mtS hm | exact ruS hr | exact mtA1 hm | exact mtA2 hm | exact mtA3 hm | exact mtA4 hm | exact mtA5 hm | exact mtA6 hm | exact mtA7 hm | exact ruA1 hr | exact ruA2 hr | exact ruA3 hr) (by omega) (by decide) ?_
        refine pw_iload_n 112 rfl dX1_move_111 rfl ?_
        refine pw_isub 113 rfl dX1_move_112 ?_
        refine pw_mabs 116 rfl dX1_move_113 mX1_106 (Nat.le_of_ble_eq_true rfl) ?_
        rotate_left
        rw [uI_eq, nI_dist (by omega) (by omega)]
        refine pw_iastN 117 rfl dX1_move_116 (by first | rfl | assumption | exact rowS hh | exact mtS hm | exact ruS hr | exact mtA1 hm | exact mtA2 hm | exact mtA3 hm | exact mtA4 hm | exact mtA5 hm | exact mtA6 hm | exact mtA7 hm | exact ruA1 hr | exact ruA2 hr | exact ruA3 hr) (by omega) (by decide) ?_
        refine pw_vret dX1_move_117 ?_
        rotate_left
        refine ⟨rfl, fun a j hj => ?_, ?_, ?_, ?_, rfl, rfl⟩
        · rw [uI_ne (by omega), uI_ne (by omega)]
        · rw [uI_ne (by omega), uI_eq]; rfl
        · rw [uI_ne (by omega), uI_ne (by omega), i4]
        · rw [uI_eq]; rfl
      · have h0 : w = 0 := by omega
        subst h0
        refine pw_aload_n 17 rfl dX1_move_16 rfl ?_
        refine pw_getR 20 rfl dX1_move_17 fX1_21 (by first | rfl | assumption | exact rowS hh | exact mtS hm | exact ruS hr | exact mtA1 hm | exact mtA2 hm | exact mtA3 hm | exact mtA4 hm | exact mtA5 hm | exact mtA6 hm | exact mtA7 hm | exact ruA1 hr | exact ruA2 hr | exact ruA3 hr) rfl (by first | rfl | assumption | exact mtR0 hm | exact mtR1 hm | exact mtR2 hm | exact mtR3 hm | exact mtR4 hm | exact mtR5 hm | exact mtR6 hm | exact ruR0 hr | exact ruR1 hr | exact ruR3 hr) ?_
        refine pw_iload_n 21 rfl dX1_move_20 rfl ?_
        refine pw_ialdN 22 rfl dX1_move_21 (by first | rfl | assumption | exact rowS hh | exact mtS hm | exact ruS hr | exact mtA1 hm | exact mtA2 hm | exact mtA3 hm | exact mtA4 hm | exact mtA5 hm | exact mtA6 hm | exact mtA7 hm | exact ruA1 hr | exact ruA2 hr | exact ruA3 hr) (by omega) (by decide) ?_
        refine pw_if_le (tgt := 38) 25 rfl dX1_move_22 rfl (fun h22 => ?_) (fun h22 => absurd (by rw [i4]; decide) h22)
        refine pw_aload_n 39 rfl dX1_move_38 rfl ?_
        refine pw_getR 42 rfl dX1_move_39 fX1_18 (by first | rfl | assumption | exact rowS hh | exact mtS hm | exact ruS hr | exact mtA1 hm | exact mtA2 hm | exact mtA3 hm | exact mtA4 hm | exact mtA5 hm | exact mtA6 hm | exact mtA7 hm | exact ruA1 hr | exact ruA2 hr | exact ruA3 hr) rfl (by first | rfl | assumption | exact mtR0 hm | exact mtR1 hm | exact mtR2 hm | exact mtR3 hm | exact mtR4 hm | exact mtR5 hm | exact mtR6 hm | exact ruR0 hr | exact ruR1 hr | exact ruR3 hr) ?_
        refine pw_iload_n 43 rfl dX1_move_42 rfl ?_
        refine pw_ialdN 44 rfl dX1_move_43 (by first | rfl | assumption | exact rowS hh | exact mtS hm | exact ruS hr | exact mtA1 hm | exact mtA2 hm | exact mtA3 hm | exact mtA4 hm | exact mtA5 hm | exact mtA6 hm | exact mtA7 hm | exact ruA1 hr | exact ruA2 hr | exact ruA3 hr) (by omega) (by decide) ?_
        refine pw_iconst (v := nI 1) 45 rfl dX1_move_44 rfl ?_
        refine pw_icmp_ne (tgt := 72) 48 rfl dX1_move_45 rfl (fun h45 => ?_) (fun h45 => absurd h45 (by rw [i3]; decide))
        refine pw_aload_n 73 rfl dX1_move_72 rfl ?_
        refine pw_getR 76 rfl dX1_move_73 fX1_18 (by first | rfl | assumption | exact rowS hh | exact mtS hm | exact ruS hr | exact mtA1 hm | exact mtA2 hm | exact mtA3 hm | exact mtA4 hm | exact mtA5 hm | exact mtA6 hm | exact mtA7 hm | exact ruA1 hr | exact ruA2 hr | exact ruA3 hr) rfl (by first | rfl | assumption | exact mtR0 hm | exact mtR1 hm | exact mtR2 hm | exact mtR3 hm | exact mtR4 hm | exact mtR5 hm | exact mtR6 hm | exact ruR0 hr | exact ruR1 hr | exact ruR3 hr) ?_
        refine pw_iload_n 77 rfl dX1_move_76 rfl ?_
        refine pw_ialdN 78 rfl dX1_move_77 (by first | rfl | assumption | exact rowS hh | exact mtS hm | exact ruS hr | exact mtA1 hm | exact mtA2 hm | exact mtA3 hm | exact mtA4 hm | exact mtA5 hm | exact mtA6 hm | exact mtA7 hm | exact ruA1 hr | exact ruA2 hr | exact ruA3 hr) (by omega) (by decide) ?_
        refine pw_iconst (v := nI 2) 79 rfl dX1_move_78 rfl ?_
        refine pw_icmp_ne (tgt := 100) 82 rfl dX1_move_79 rfl (fun h79 => ?_) (fun h79 => absurd h79 (by rw [i3]; decide))
        refine pw_aload_n 101 rfl dX1_move_100 rfl ?_
        refine pw_getR 104 rfl dX1_move_101 fX1_30 (by first | rfl | assumption | exact rowS hh | exact mtS hm | exact ruS hr | exact mtA1 hm | exact mtA2 hm | exact mtA3 hm | exact mtA4 hm | exact mtA5 hm | exact mtA6 hm | exact mtA7 hm | exact ruA1 hr | exact ruA2 hr | exact ruA3 hr) rfl (by first | rfl | assumption | exact mtR0 hm | exact mtR1 hm | exact mtR2 hm | exact mtR3 hm | exact mtR4 hm | exact mtR5 hm | exact mtR6 hm | exact ruR0 hr | exact ruR1 hr | exact ruR3 hr) ?_
        refine pw_iload_n 105 rfl dX1_move_104 rfl ?_
        refine pw_aload_n 106 rfl dX1_move_105 rfl ?_
        refine pw_getR 109 rfl dX1_move_106 fX1_15 (by first | rfl | assumption | exact rowS hh | exact mtS hm | exact ruS hr | exact mtA1 hm | exact mtA2 hm | exact mtA3 hm | exact mtA4 hm | exact mtA5 hm | exact mtA6 hm | exact mtA7 hm | exact ruA1 hr | exact ruA2 hr | exact ruA3 hr) rfl (by first | rfl | assumption | exact mtR0 hm | exact mtR1 hm | exact mtR2 hm | exact mtR3 hm | exact mtR4 hm | exact mtR5 hm | exact mtR6 hm | exact ruR0 hr | exact ruR1 hr | exact ruR3 hr) ?_
        refine pw_iload_n 110 rfl dX1_move_109 rfl ?_
        refine pw_ialdN 111 rfl dX1_move_110 (by first | rfl | assumption | exact rowS hh | exact mtS hm | exact ruS hr | exact mtA1 hm | exact mtA2 hm | exact mtA3 hm | exact mtA4 hm | exact mtA5 hm | exact mtA6 hm | exact mtA7 hm | exact ruA1 hr | exact ruA2 hr | exact ruA3 hr) (by omega) (by decide) ?_
        refine pw_iload_n 112 rfl dX1_move_111 rfl ?_
        refine pw_isub 113 rfl dX1_move_112 ?_
        refine pw_mabs 116 rfl dX1_move_113 mX1_106 (Nat.le_of_ble_eq_true rfl) ?_
        rotate_left
        rw [i2, nI_dist (by omega) (by omega)]
        refine pw_iastN 117 rfl dX1_move_116 (by first | rfl | assumption | exact rowS hh | exact mtS hm | exact ruS hr | exact mtA1 hm | exact mtA2 hm | exact mtA3 hm | exact mtA4 hm | exact mtA5 hm | exact mtA6 hm | exact mtA7 hm | exact ruA1 hr | exact ruA2 hr | exact ruA3 hr) (by omega) (by decide) ?_
        refine pw_vret dX1_move_117 ?_
        rotate_left
        refine ⟨rfl, fun a j hj => ?_, ?_, ?_, ?_, rfl, rfl⟩
        · rw [uI_ne (by omega)]
        · rw [uI_ne (by omega), i2]; rfl
        · rw [uI_ne (by omega), i4]
        · rw [uI_eq]; rfl
  · have hg0 := hug hu0
    subst hg0
    have e : (if w = 1 then min t (h + 0) else if w = 2 then h - 0 else h) = h := by
      split
      · omega
      · split <;> omega
    refine pw_aload_n 17 rfl dX1_move_16 rfl ?_
    refine pw_getR 20 rfl dX1_move_17 fX1_21 (by first | rfl | assumption | exact rowS hh | exact mtS hm | exact ruS hr | exact mtA1 hm | exact mtA2 hm | exact mtA3 hm | exact mtA4 hm | exact mtA5 hm | exact mtA6 hm | exact mtA7 hm | exact ruA1 hr | exact ruA2 hr | exact ruA3 hr) rfl (by first | rfl | assumption | exact mtR0 hm | exact mtR1 hm | exact mtR2 hm | exact mtR3 hm | exact mtR4 hm | exact mtR5 hm | exact mtR6 hm | exact ruR0 hr | exact ruR1 hr | exact ruR3 hr) ?_
    refine pw_iload_n 21 rfl dX1_move_20 rfl ?_
    refine pw_ialdN 22 rfl dX1_move_21 (by first | rfl | assumption | exact rowS hh | exact mtS hm | exact ruS hr | exact mtA1 hm | exact mtA2 hm | exact mtA3 hm | exact mtA4 hm | exact mtA5 hm | exact mtA6 hm | exact mtA7 hm | exact ruA1 hr | exact ruA2 hr | exact ruA3 hr) (by omega) (by decide) ?_
    refine pw_if_le (tgt := 38) 25 rfl dX1_move_22 rfl (fun h22 => absurd h22 (by rw [i4]; exact nI_nle (by omega) (by omega))) (fun h22 => ?_)
    refine pw_aload_n 26 rfl dX1_move_25 rfl ?_
    refine pw_getR 29 rfl dX1_move_26 fX1_21 (by first | rfl | assumption | exact rowS hh | exact mtS hm | exact ruS hr | exact mtA1 hm | exact mtA2 hm | exact mtA3 hm | exact mtA4 hm | exact mtA5 hm | exact mtA6 hm | exact mtA7 hm | exact ruA1 hr | exact ruA2 hr | exact ruA3 hr) rfl (by first | rfl | assumption | exact mtR0 hm | exact mtR1 hm | exact mtR2 hm | exact mtR3 hm | exact mtR4 hm | exact mtR5 hm | exact mtR6 hm | exact ruR0 hr | exact ruR1 hr | exact ruR3 hr) ?_
    refine pw_iload_n 30 rfl dX1_move_29 rfl ?_
    refine pw_dup2 31 rfl dX1_move_30 rfl rfl ?_
    refine pw_ialdN 32 rfl dX1_move_31 (by first | rfl | assumption | exact rowS hh | exact mtS hm | exact ruS hr | exact mtA1 hm | exact mtA2 hm | exact mtA3 hm | exact mtA4 hm | exact mtA5 hm | exact mtA6 hm | exact mtA7 hm | exact ruA1 hr | exact ruA2 hr | exact ruA3 hr) (by omega) (by decide) ?_
    refine pw_iconst (v := nI 1) 33 rfl dX1_move_32 rfl ?_
    rotate_left
    rw [i4]
    refine pw_isubN 34 rfl dX1_move_33 (by omega) ?_
    refine pw_iastN 35 rfl dX1_move_34 (by first | rfl | assumption | exact rowS hh | exact mtS hm | exact ruS hr | exact mtA1 hm | exact mtA2 hm | exact mtA3 hm | exact mtA4 hm | exact mtA5 hm | exact mtA6 hm | exact mtA7 hm | exact ruA1 hr | exact ruA2 hr | exact ruA3 hr) (by omega) (by decide) ?_
    refine pw_goto (tgt := 100) dX1_move_35 rfl ?_
    refine pw_aload_n 101 rfl dX1_move_100 rfl ?_
    refine pw_getR 104 rfl dX1_move_101 fX1_30 (by first | rfl | assumption | exact rowS hh | exact mtS hm | exact ruS hr | exact mtA1 hm | exact mtA2 hm | exact mtA3 hm | exact mtA4 hm | exact mtA5 hm | exact mtA6 hm | exact mtA7 hm | exact ruA1 hr | exact ruA2 hr | exact ruA3 hr) rfl (by first | rfl | assumption | exact mtR0 hm | exact mtR1 hm | exact mtR2 hm | exact mtR3 hm | exact mtR4 hm | exact mtR5 hm | exact mtR6 hm | exact ruR0 hr | exact ruR1 hr | exact ruR3 hr) ?_
    refine pw_iload_n 105 rfl dX1_move_104 rfl ?_
    refine pw_aload_n 106 rfl dX1_move_105 rfl ?_
    refine pw_getR 109 rfl dX1_move_106 fX1_15 (by first | rfl | assumption | exact rowS hh | exact mtS hm | exact ruS hr | exact mtA1 hm | exact mtA2 hm | exact mtA3 hm | exact mtA4 hm | exact mtA5 hm | exact mtA6 hm | exact mtA7 hm | exact ruA1 hr | exact ruA2 hr | exact ruA3 hr) rfl (by first | rfl | assumption | exact mtR0 hm | exact mtR1 hm | exact mtR2 hm | exact mtR3 hm | exact mtR4 hm | exact mtR5 hm | exact mtR6 hm | exact ruR0 hr | exact ruR1 hr | exact ruR3 hr) ?_
    refine pw_iload_n 110 rfl dX1_move_109 rfl ?_
    refine pw_ialdN 111 rfl dX1_move_110 (by first | rfl | assumption | exact rowS hh | exact mtS hm | exact ruS hr | exact mtA1 hm | exact mtA2 hm | exact mtA3 hm | exact mtA4 hm | exact mtA5 hm | exact mtA6 hm | exact mtA7 hm | exact ruA1 hr | exact ruA2 hr | exact ruA3 hr) (by omega) (by decide) ?_
    refine pw_iload_n 112 rfl dX1_move_111 rfl ?_
    refine pw_isub 113 rfl dX1_move_112 ?_
    refine pw_mabs 116 rfl dX1_move_113 mX1_106 (Nat.le_of_ble_eq_true rfl) ?_
    rotate_left
    rw [uI_ne (by omega), i2, nI_dist (by omega) (by omega)]
    refine pw_iastN 117 rfl dX1_move_116 (by first | rfl | assumption | exact rowS hh | exact mtS hm | exact ruS hr | exact mtA1 hm | exact mtA2 hm | exact mtA3 hm | exact mtA4 hm | exact mtA5 hm | exact mtA6 hm | exact mtA7 hm | exact ruA1 hr | exact ruA2 hr | exact ruA3 hr) (by omega) (by decide) ?_
    refine pw_vret dX1_move_117 ?_
    rotate_left
    rw [e]
    refine ⟨rfl, fun a j hj => ?_, ?_, ?_, ?_, rfl, rfl⟩
    · rw [uI_ne (by omega), uI_ne (by omega)]
    · rw [uI_ne (by omega), uI_ne (by omega), i2]
    · rw [uI_ne (by omega), uI_eq]
    · rw [uI_eq]
set_option maxRecDepth 100000 in
set_option maxHeartbeats 2000000 in
theorem x_comeDown {m d n q e g : Nat} (hm : isMt m) {I : pI} {J : pJ} (hn : I m 7 = nI n) (h7 : n ≤ 7) (hq : q < n) (i11 : I m 11 = nI e) (he : e ≤ 9999) (i12 : I m 12 = nI g) (hg : g < 2 ^ q) : PC SX (d + 1) yX1_comeDown cX1_comeDown 2 none [.ref m, .int (nI q)] (I) (J) (RX) (fun r' I' J' R' => r' = none ∧ (∀ a j, ¬ (a = m + 3 ∧ j = q) → ¬ (a = m ∧ (j = 9 ∨ j = 11 ∨ j = 12)) → I' a j = I a j) ∧ I' (m + 3) q = nI 0 ∧ I' m 9 = nI q ∧ I' m 11 = nI (min 9999 (e + 1)) ∧ I' m 12 = nI (g + 2 ^ q) ∧ J = J' ∧ R' = RX) := by
  refine PC.of [some (.ref m), some (.int (nI q))] rfl rfl (Nat.le_of_ble_eq_true rfl) ?_
  refine pw_aload_n 1 rfl dX1_comeDown_0 rfl ?_
  refine pw_iload_n 2 rfl dX1_comeDown_1 rfl ?_
  refine pw_callVP (as := [_]) 5 rfl dX1_comeDown_2 mX1_68 vX1_has (x_has (d := d) hm hn h7 _) (by first | rfl | assumption | exact rowS hh | exact mtS hm | exact ruS hr | exact mtA1 hm | exact mtA2 hm | exact mtA3 hm | exact mtA4 hm | exact mtA5 hm | exact mtA6 hm | exact mtA7 hm | exact ruA1 hr | exact ruA2 hr | exact ruA3 hr) rfl (by decide) ⟨rfl, by decide, by decide, show (parseMethodDescriptor yX1_has.desc).map (fun d => d.parameters.length) = some 1 by decide +kernel⟩ (by omega) (by decide) (Nat.le_of_ble_eq_true rfl) rfl ?_
  refine pw_if_ne (tgt := 9) 8 rfl dX1_comeDown_5 rfl (fun h5 => ?_) (fun h5 => absurd h5 (by rw [hasV_y hq h7]; decide))
  refine pw_aload_n 10 rfl dX1_comeDown_9 rfl ?_
  refine pw_getR 13 rfl dX1_comeDown_10 fX1_18 (by first | rfl | assumption | exact rowS hh | exact mtS hm | exact ruS hr | exact mtA1 hm | exact mtA2 hm | exact mtA3 hm | exact mtA4 hm | exact mtA5 hm | exact mtA6 hm | exact mtA7 hm | exact ruA1 hr | exact ruA2 hr | exact ruA3 hr) rfl (by first | rfl | assumption | exact mtR0 hm | exact mtR1 hm | exact mtR2 hm | exact mtR3 hm | exact mtR4 hm | exact mtR5 hm | exact mtR6 hm | exact ruR0 hr | exact ruR1 hr | exact ruR3 hr) ?_
  refine pw_iload_n 14 rfl dX1_comeDown_13 rfl ?_
  refine pw_iconst (v := nI 0) 15 rfl dX1_comeDown_14 rfl ?_
  refine pw_iastN 16 rfl dX1_comeDown_15 (by first | rfl | assumption | exact rowS hh | exact mtS hm | exact ruS hr | exact mtA1 hm | exact mtA2 hm | exact mtA3 hm | exact mtA4 hm | exact mtA5 hm | exact mtA6 hm | exact mtA7 hm | exact ruA1 hr | exact ruA2 hr | exact ruA3 hr) (by omega) (by decide) ?_
  refine pw_aload_n 17 rfl dX1_comeDown_16 rfl ?_
  refine pw_iload_n 18 rfl dX1_comeDown_17 rfl ?_
  refine pw_putI 21 rfl dX1_comeDown_18 fX1_40 w1_9 (by first | rfl | assumption | exact rowS hh | exact mtS hm | exact ruS hr | exact mtA1 hm | exact mtA2 hm | exact mtA3 hm | exact mtA4 hm | exact mtA5 hm | exact mtA6 hm | exact mtA7 hm | exact ruA1 hr | exact ruA2 hr | exact ruA3 hr) rfl rfl rfl ?_
  refine pw_aload_n 22 rfl dX1_comeDown_21 rfl ?_
  refine pw_sipush (v := nI 9999) 25 rfl dX1_comeDown_22 rfl ?_
  refine pw_aload_n 26 rfl dX1_comeDown_25 rfl ?_
  refine pw_getI 29 rfl dX1_comeDown_26 fX1_46 (by first | rfl | assumption | exact rowS hh | exact mtS hm | exact ruS hr | exact mtA1 hm | exact mtA2 hm | exact mtA3 hm | exact mtA4 hm | exact mtA5 hm | exact mtA6 hm | exact mtA7 hm | exact ruA1 hr | exact ruA2 hr | exact ruA3 hr) rfl ?_
  refine pw_iconst (v := nI 1) 30 rfl dX1_comeDown_29 rfl ?_
  first | refine pw_iaddN 31 rfl dX1_comeDown_30 ?_ | refine pw_iadd 31 rfl dX1_comeDown_30 ?_
  rotate_left
  rw [uI_ne (by omega), uI_ne (by omega), i11, nI_add]
  refine pw_mmin 34 rfl dX1_comeDown_31 mX1_75 (Nat.le_of_ble_eq_true rfl) ?_
  rotate_left
  rw [nI_min (by omega) (by omega)]
  refine pw_putI 37 rfl dX1_comeDown_34 fX1_46 w1_11 (by first | rfl | assumption | exact rowS hh | exact mtS hm | exact ruS hr | exact mtA1 hm | exact mtA2 hm | exact mtA3 hm | exact mtA4 hm | exact mtA5 hm | exact mtA6 hm | exact mtA7 hm | exact ruA1 hr | exact ruA2 hr | exact ruA3 hr) rfl rfl rfl ?_
  refine pw_aload_n 38 rfl dX1_comeDown_37 rfl ?_
  refine pw_dup 39 rfl dX1_comeDown_38 rfl ?_
  refine pw_getI 42 rfl dX1_comeDown_39 fX1_49 (by first | rfl | assumption | exact rowS hh | exact mtS hm | exact ruS hr | exact mtA1 hm | exact mtA2 hm | exact mtA3 hm | exact mtA4 hm | exact mtA5 hm | exact mtA6 hm | exact mtA7 hm | exact ruA1 hr | exact ruA2 hr | exact ruA3 hr) rfl ?_
  refine pw_iconst (v := nI 1) 43 rfl dX1_comeDown_42 rfl ?_
  refine pw_iload_n 44 rfl dX1_comeDown_43 rfl ?_
  refine pw_ishl 45 rfl dX1_comeDown_44 ?_
  refine pw_ior 46 rfl dX1_comeDown_45 ?_
  rotate_left
  rw [uI_ne (by omega), uI_ne (by omega), uI_ne (by omega), i12, nI_shl (by omega), nI_or, or_bit hg]
  refine pw_putI 49 rfl dX1_comeDown_46 fX1_49 w1_12 (by first | rfl | assumption | exact rowS hh | exact mtS hm | exact ruS hr | exact mtA1 hm | exact mtA2 hm | exact mtA3 hm | exact mtA4 hm | exact mtA5 hm | exact mtA6 hm | exact mtA7 hm | exact ruA1 hr | exact ruA2 hr | exact ruA3 hr) rfl rfl rfl ?_
  refine pw_vret dX1_comeDown_49 ?_
  rotate_left
  refine ⟨rfl, fun a j h1 h2 => ?_, ?_, ?_, ?_, ?_, rfl, rfl⟩
  · rw [uI_ne (by omega), uI_ne (by omega), uI_ne (by omega), uI_ne (by omega)]
  · rw [uI_ne (by omega), uI_ne (by omega), uI_ne (by omega), uI_eq]
  · rw [uI_ne (by omega), uI_ne (by omega), uI_eq]
  · rw [uI_ne (by omega), uI_eq]
  · rw [uI_eq]
