/-! the reference's parser: product, sum, held -/
theorem m_thing {D deep : Nat} {X : List Nat → Except (List Nat) (((Nat → Int32) → Int32) × List Nat)} {may : Bool} (hm : may = true ↔ deep < 4) (hd4 : deep ≤ 4) (hX : may = true → mCt yX12_held cX12_held 3 D (deep + 1) X) : mCt yX12_thing cX12_thing 4 (D + 44) deep (pThing X may) := by
  intro d hr nn L T rl cs r lt I J hP hl hf hL
  have := m_thing0 hm hd4 hX (d := d + (40 - r.length)) (J := J) (rl := rl) r I hP hl hf hL
  rw [show d + (40 - r.length) + D + 4 + r.length = d + (D + 44) by omega] at this
  exact this
/-- what is left becomes no longer -/
def Sf (X : List Nat → Except (List Nat) (((Nat → Int32) → Int32) × List Nat)) : Prop := ∀ cs q, X cs = .ok q → q.2.length < cs.length
theorem Gd.sf {s dp : Nat} {X : List Nat → Except (List Nat) (((Nat → Int32) → Int32) × List Nat)} (h : Gd s X dp) : Sf X := by
  intro cs q hq
  have := h cs [] [] (fun _ => false) 0 (fun _ w hw => by cases hw) (fun _ => rfl)
  rw [hq] at this
  exact this.1
theorem mErr {I I' : pI} {J : pJ} {R : pR} {cs e : List Nat} {lt : Nat → Int32} {v : Int32} (q1 : I' 0 11 = nI (cs.length - e.length)) (q2 : I' 0 12 = nI (cs.length - e.length)) (q3 : e <:+ cs) (q4 : ∀ a j, ¬ (a = 0 ∧ (j = 11 ∨ j = 12)) → I' a j = I a j) : mRes I J R cs lt (.error e) (some (.int v)) I' J R := ⟨⟨⟨v, rfl⟩, q1, q2, q3⟩, q4, rfl, rfl⟩
theorem MP_ne {I : pI} {hr nn L T : Nat} {cs r : List Nat} (hP : MP I hr nn L T cs r) (k : Nat) : nI (cs.length - k) ≠ -1 := by
  have h1 := hP.2.2.2.2.1
  have h2 : min L T ≤ T := Nat.min_le_right _ _
  have h3 := hP.2.2.2.1
  exact fun z => nI_pos (show cs.length - k < 2 ^ 31 by omega) (by rw [z]; decide)
set_option maxRecDepth 100000 in
set_option maxHeartbeats 2000000 in
theorem m_product0 {D deep : Nat} {X : List Nat → Except (List Nat) (((Nat → Int32) → Int32) × List Nat)} (hX : mCt yX12_thing cX12_thing 4 (D + 1) deep X) (hS : Sf X) {d hr nn L T : Nat} {rl : Option Nat} {cs r : List Nat} {lt : Nat → Int32} {I : pI} {J : pJ} (hP : MP I hr nn L T cs r) (hl : r.length ≤ 40) (hf : I 0 12 = -1) (hL : mLt I lt) : PC SM (d + D + 2) yX12_product cX12_product 5 (some .int) [.ref 0, .int (nI deep)] (I) (J) (RM (some hr) rl) (mRes I J (RM (some hr) rl) cs lt (pLp X 42 47 r)) := by
  refine PC.of [some (.ref 0), some (.int (nI deep)), none, none, none] rfl rfl (Nat.le_of_ble_eq_true rfl) ?_
  have Lo : ∀ (k : Nat) (f : (Nat → Int32) → Int32) (r' : List Nat) (I' : pI) (x y : Option Value), r'.length ≤ k → r'.length ≤ 40 → MP I' hr nn L T cs r' → I' 0 12 = -1 → (∀ a j, ¬ (a = 0 ∧ (j = 11 ∨ j = 12)) → I' a j = I a j) → pLoop X 42 47 k f r' = pLp X 42 47 r → PW SM yX12_product.cls cX12_product 5 (d + D + 2) 6 [some (.ref 0), some (.int (nI deep)), some (.int (f lt)), x, y] [] (I') (J) (RM (some hr) rl) (rX cX12_product (some .int) (mRes I J (RM (some hr) rl) cs lt (pLp X 42 47 r))) := by
    intro k
    induction k with
    | zero =>
      intro f r' I' x y q1 q2 hP' hf' hfr hn
      have : r' = [] := List.length_eq_zero_iff.mp (by omega)
      subst this
      rw [← hn, pLoop]
      refine pw_aload_n 7 rfl dX12_product_6 rfl ?_
      refine pw_callVP (as := []) 10 rfl dX12_product_7 mX12_124 vX12_fine (m_fine (d := d + D + 1) hf') (by first | rfl | assumption | exact rowS hh | exact mtS hm | exact ruS hr | exact mtA1 hm | exact mtA2 hm | exact mtA3 hm | exact mtA4 hm | exact mtA5 hm | exact mtA6 hm | exact mtA7 hm | exact ruA1 hr | exact ruA2 hr | exact ruA3 hr) rfl (by decide) ⟨rfl, by decide, by decide, show (parseMethodDescriptor yX12_fine.desc).map (fun d => d.parameters.length) = some 0 by decide +kernel⟩ (by omega) (by decide) (Nat.le_of_ble_eq_true rfl) rfl ?_
      refine pw_if_eq (tgt := 91) 13 rfl dX12_product_10 rfl (fun h10 => absurd h10 (by rw [if_pos rfl]; decide)) (fun h10 => ?_)
      refine pw_aload_n 14 rfl dX12_product_13 rfl ?_
      refine pw_callVP (as := []) 17 rfl dX12_product_14 mX12_128 vX12_here (m_here (d := d + D + 1) hP') (by first | rfl | assumption | exact rowS hh | exact mtS hm | exact ruS hr | exact mtA1 hm | exact mtA2 hm | exact mtA3 hm | exact mtA4 hm | exact mtA5 hm | exact mtA6 hm | exact mtA7 hm | exact ruA1 hr | exact ruA2 hr | exact ruA3 hr) rfl (by decide) ⟨rfl, by decide, by decide, show (parseMethodDescriptor yX12_here.desc).map (fun d => d.parameters.length) = some 0 by decide +kernel⟩ (by omega) (by decide) (Nat.le_of_ble_eq_true rfl) rfl ?_
      refine pw_bipush (v := nI 42) 19 rfl dX12_product_17 rfl ?_
      refine pw_icmp_eq (tgt := 31) 22 rfl dX12_product_19 rfl (fun h19 => absurd h19 (by show ¬ (-1 : Int32) = nI 42; decide)) (fun h19 => ?_)
      refine pw_aload_n 23 rfl dX12_product_22 rfl ?_
      refine pw_callVP (as := []) 26 rfl dX12_product_23 mX12_128 vX12_here (m_here (d := d + D + 1) hP') (by first | rfl | assumption | exact rowS hh | exact mtS hm | exact ruS hr | exact mtA1 hm | exact mtA2 hm | exact mtA3 hm | exact mtA4 hm | exact mtA5 hm | exact mtA6 hm | exact mtA7 hm | exact ruA1 hr | exact ruA2 hr | exact ruA3 hr) rfl (by decide) ⟨rfl, by decide, by decide, show (parseMethodDescriptor yX12_here.desc).map (fun d => d.parameters.length) = some 0 by decide +kernel⟩ (by omega) (by decide) (Nat.le_of_ble_eq_true rfl) rfl ?_
      refine pw_bipush (v := nI 47) 28 rfl dX12_product_26 rfl ?_
      refine pw_icmp_ne (tgt := 91) 31 rfl dX12_product_28 rfl (fun h28 => ?_) (fun h28 => absurd h28 (by show ¬ (-1 : Int32) = nI 47; decide))
      refine pw_iload_n 92 rfl dX12_product_91 rfl ?_
      refine pw_iret dX12_product_92 rfl ?_
      rotate_left
      exact ⟨⟨rfl, hP'.2.2.2.2.2.2.2.1, hf', hP'.2.2.2.2.2.2.2.2.1⟩, hfr, rfl, rfl⟩
    | succ k ih =>
      intro f r' I' x y q1 q2 hP' hf' hfr hn
      rcases r' with _ | ⟨c, r'⟩
      · rw [← hn, pLoop]
        refine pw_aload_n 7 rfl dX12_product_6 rfl ?_
        refine pw_callVP (as := []) 10 rfl dX12_product_7 mX12_124 vX12_fine (m_fine (d := d + D + 1) hf') (by first | rfl | assumption | exact rowS hh | exact mtS hm | exact ruS hr | exact mtA1 hm | exact mtA2 hm | exact mtA3 hm | exact mtA4 hm | exact mtA5 hm | exact mtA6 hm | exact mtA7 hm | exact ruA1 hr | exact ruA2 hr | exact ruA3 hr) rfl (by decide) ⟨rfl, by decide, by decide, show (parseMethodDescriptor yX12_fine.desc).map (fun d => d.parameters.length) = some 0 by decide +kernel⟩ (by omega) (by decide) (Nat.le_of_ble_eq_true rfl) rfl ?_
        refine pw_if_eq (tgt := 91) 13 rfl dX12_product_10 rfl (fun h10 => absurd h10 (by rw [if_pos rfl]; decide)) (fun h10 => ?_)
        refine pw_aload_n 14 rfl dX12_product_13 rfl ?_
        refine pw_callVP (as := []) 17 rfl dX12_product_14 mX12_128 vX12_here (m_here (d := d + D + 1) hP') (by first | rfl | assumption | exact rowS hh | exact mtS hm | exact ruS hr | exact mtA1 hm | exact mtA2 hm | exact mtA3 hm | exact mtA4 hm | exact mtA5 hm | exact mtA6 hm | exact mtA7 hm | exact ruA1 hr | exact ruA2 hr | exact ruA3 hr) rfl (by decide) ⟨rfl, by decide, by decide, show (parseMethodDescriptor yX12_here.desc).map (fun d => d.parameters.length) = some 0 by decide +kernel⟩ (by omega) (by decide) (Nat.le_of_ble_eq_true rfl) rfl ?_
        refine pw_bipush (v := nI 42) 19 rfl dX12_product_17 rfl ?_
        refine pw_icmp_eq (tgt := 31) 22 rfl dX12_product_19 rfl (fun h19 => absurd h19 (by show ¬ (-1 : Int32) = nI 42; decide)) (fun h19 => ?_)
        refine pw_aload_n 23 rfl dX12_product_22 rfl ?_
        refine pw_callVP (as := []) 26 rfl dX12_product_23 mX12_128 vX12_here (m_here (d := d + D + 1) hP') (by first | rfl | assumption | exact rowS hh | exact mtS hm | exact ruS hr | exact mtA1 hm | exact mtA2 hm | exact mtA3 hm | exact mtA4 hm | exact mtA5 hm | exact mtA6 hm | exact mtA7 hm | exact ruA1 hr | exact ruA2 hr | exact ruA3 hr) rfl (by decide) ⟨rfl, by decide, by decide, show (parseMethodDescriptor yX12_here.desc).map (fun d => d.parameters.length) = some 0 by decide +kernel⟩ (by omega) (by decide) (Nat.le_of_ble_eq_true rfl) rfl ?_
        refine pw_bipush (v := nI 47) 28 rfl dX12_product_26 rfl ?_
        refine pw_icmp_ne (tgt := 91) 31 rfl dX12_product_28 rfl (fun h28 => ?_) (fun h28 => absurd h28 (by show ¬ (-1 : Int32) = nI 47; decide))
        refine pw_iload_n 92 rfl dX12_product_91 rfl ?_
        refine pw_iret dX12_product_92 rfl ?_
        rotate_left
        exact ⟨⟨rfl, hP'.2.2.2.2.2.2.2.1, hf', hP'.2.2.2.2.2.2.2.2.1⟩, hfr, rfl, rfl⟩
      · have hx := MP_lt hP'
        have hs := hP'.2.2.2.2.2.2.2.2.1
        have hle := sfx_le hs
        have h11 : I' 0 11 = nI (cs.length - (c :: r').length) := hP'.2.2.2.2.2.2.2.1
        have e1 : cs.length - (c :: r').length + 1 = cs.length - r'.length := by rw [List.length_cons] at hle ⊢; omega
        rw [List.length_cons] at q1 q2
        rw [pLoop] at hn
        have hP1 := mAt_MP hP' (sfx_tl hs)
        have go : ∀ (w : Int32) (op : Nat), (w = nI 1 ∧ op = 42 ∨ w = nI 0 ∧ op = 47) → c = op → PW SM yX12_product.cls cX12_product 5 (d + D + 2) 46 [some (.ref 0), some (.int (nI deep)), some (.int (f lt)), some (.int w), y] [] I' J (RM (some hr) rl) (rX cX12_product (some .int) (mRes I J (RM (some hr) rl) cs lt (pLp X 42 47 r))) := by
          intro w op hw hop
          subst hop
          rw [if_pos (by omega)] at hn
          have cx := hX d hr nn L T rl cs r' lt (mAt I' (cs.length - r'.length)) J hP1 (by omega) (by rw [mAt_12]; exact hf') (hL.fr (fun a j h => by rw [mAt_fr a j h]; exact hfr a j h))
          refine pw_aload_n 47 rfl dX12_product_46 rfl ?_
          refine pw_dup 48 rfl dX12_product_47 rfl ?_
          refine pw_getI 51 rfl dX12_product_48 fX12_114 (by first | rfl | assumption | exact rowS hh | exact mtS hm | exact ruS hr | exact mtA1 hm | exact mtA2 hm | exact mtA3 hm | exact mtA4 hm | exact mtA5 hm | exact mtA6 hm | exact mtA7 hm | exact ruA1 hr | exact ruA2 hr | exact ruA3 hr) rfl ?_
          rotate_left
          rw [h11]
          refine pw_iconst (v := nI 1) 52 rfl dX12_product_51 rfl ?_
          first | refine pw_iaddN 53 rfl dX12_product_52 ?_ | refine pw_iadd 53 rfl dX12_product_52 ?_
          refine pw_putI 56 rfl dX12_product_53 fX12_114 w12_11 (by first | rfl | assumption | exact rowS hh | exact mtS hm | exact ruS hr | exact mtA1 hm | exact mtA2 hm | exact mtA3 hm | exact mtA4 hm | exact mtA5 hm | exact mtA6 hm | exact mtA7 hm | exact ruA1 hr | exact ruA2 hr | exact ruA3 hr) rfl rfl rfl ?_
          rotate_left
          rw [e1]
          refine pw_aload_n 57 rfl dX12_product_56 rfl ?_
          refine pw_iload_n 58 rfl dX12_product_57 rfl ?_
          refine pw_callV (as := [_]) 61 rfl dX12_product_58 mX12_163 vX12_thing cx (by first | rfl | assumption | exact rowS hh | exact mtS hm | exact ruS hr | exact mtA1 hm | exact mtA2 hm | exact mtA3 hm | exact mtA4 hm | exact mtA5 hm | exact mtA6 hm | exact mtA7 hm | exact ruA1 hr | exact ruA2 hr | exact ruA3 hr) rfl (by decide) ⟨rfl, by decide, by decide, show (parseMethodDescriptor yX12_thing.desc).map (fun d => d.parameters.length) = some 1 by decide +kernel⟩ (by omega) (by decide) (Nat.le_of_ble_eq_true rfl) rfl (fun r58 I58 J58 R58 c58 => ?_)
          rotate_left
          have hsx := hS r'
          revert c58 hn hsx
          rcases X r' with e | ⟨g, r2⟩
          · rintro hn ⟨⟨⟨v, rfl⟩, p1, p2, p3⟩, p4, rfl, rfl⟩ -
            rw [← hn]
            have hne := MP_ne hP' e.length
            have fin : ∀ (u : Int32) (z : Option Value), PW SM yX12_product.cls cX12_product 5 (d + D + 2) 6 [some (.ref 0), some (.int (nI deep)), some (.int u), some (.int w), z] [] I58 J (RM (some hr) rl) (rX cX12_product (some .int) (mRes I J (RM (some hr) rl) cs lt (.error e))) := by
              intro u z
              refine pw_aload_n 7 rfl dX12_product_6 rfl ?_
              refine pw_callVP (as := []) 10 rfl dX12_product_7 mX12_124 vX12_fine (m_fine (d := d + D + 1) p2) (by first | rfl | assumption | exact rowS hh | exact mtS hm | exact ruS hr | exact mtA1 hm | exact mtA2 hm | exact mtA3 hm | exact mtA4 hm | exact mtA5 hm | exact mtA6 hm | exact mtA7 hm | exact ruA1 hr | exact ruA2 hr | exact ruA3 hr) rfl (by decide) ⟨rfl, by decide, by decide, show (parseMethodDescriptor yX12_fine.desc).map (fun d => d.parameters.length) = some 0 by decide +kernel⟩ (by omega) (by decide) (Nat.le_of_ble_eq_true rfl) rfl ?_
              refine pw_if_eq (tgt := 91) 13 rfl dX12_product_10 rfl (fun h10 => ?_) (fun h10 => absurd (by rw [if_neg hne]; rfl) h10)
              refine pw_iload_n 92 rfl dX12_product_91 rfl ?_
              refine pw_iret dX12_product_92 rfl ?_
              rotate_left
              exact mErr p1 p2 p3 (fun a j h => by rw [p4 a j h, mAt_fr a j h, hfr a j h])
            rcases hw with ⟨rfl, -⟩ | ⟨rfl, -⟩
            · refine pw_istore 63 rfl dX12_product_61 (by decide) ?_
              refine pw_iload_n 64 rfl dX12_product_63 rfl ?_
              refine pw_if_eq (tgt := 74) 67 rfl dX12_product_64 rfl (fun h64 => absurd h64 (by decide)) (fun h64 => ?_)
              refine pw_iload_n 68 rfl dX12_product_67 rfl ?_
              refine pw_iload 70 rfl dX12_product_68 rfl ?_
              refine pw_imul 71 rfl dX12_product_70 ?_
              refine pw_goto (tgt := 87) dX12_product_71 rfl ?_
              refine pw_istore_n 88 rfl dX12_product_87 (by decide) ?_
              refine pw_goto (tgt := 6) dX12_product_88 rfl ?_
              rotate_left
              exact fin _ _
            · by_cases hv : v = 0
              · refine pw_istore 63 rfl dX12_product_61 (by decide) ?_
                refine pw_iload_n 64 rfl dX12_product_63 rfl ?_
                refine pw_if_eq (tgt := 74) 67 rfl dX12_product_64 rfl (fun h64 => ?_) (fun h64 => absurd rfl h64)
                refine pw_iload 76 rfl dX12_product_74 rfl ?_
                refine pw_if_ne (tgt := 83) 79 rfl dX12_product_76 rfl (fun h76 => absurd hv h76) (fun h76 => ?_)
                refine pw_iconst (v := nI 0) 80 rfl dX12_product_79 rfl ?_
                refine pw_goto (tgt := 87) dX12_product_80 rfl ?_
                refine pw_istore_n 88 rfl dX12_product_87 (by decide) ?_
                refine pw_goto (tgt := 6) dX12_product_88 rfl ?_
                rotate_left
                exact fin _ _
              · refine pw_istore 63 rfl dX12_product_61 (by decide) ?_
                refine pw_iload_n 64 rfl dX12_product_63 rfl ?_
                refine pw_if_eq (tgt := 74) 67 rfl dX12_product_64 rfl (fun h64 => ?_) (fun h64 => absurd rfl h64)
                refine pw_iload 76 rfl dX12_product_74 rfl ?_
                refine pw_if_ne (tgt := 83) 79 rfl dX12_product_76 rfl (fun h76 => ?_) (fun h76 => absurd h76 hv)
                refine pw_iload_n 84 rfl dX12_product_83 rfl ?_
                refine pw_iload 86 rfl dX12_product_84 rfl ?_
                refine pw_idiv 87 rfl dX12_product_86 hv ?_
                refine pw_istore_n 88 rfl dX12_product_87 (by decide) ?_
                refine pw_goto (tgt := 6) dX12_product_88 rfl ?_
                rotate_left
                exact fin _ _
          · rintro hn ⟨⟨rfl, p1, p2, p3⟩, p4, rfl, rfl⟩ hsx
            have hlt : r2.length < r'.length := hsx (g, r2) rfl
            have hPn : MP I58 hr nn L T cs r2 := hP1.fr p4 p1 p3
            have nxt : ∀ (z : Option Value), PW SM yX12_product.cls cX12_product 5 (d + D + 2) 6 [some (.ref 0), some (.int (nI deep)), some (.int (jn c (f lt) (g lt))), some (.int w), z] [] I58 J (RM (some hr) rl) (rX cX12_product (some .int) (mRes I J (RM (some hr) rl) cs lt (pLp X 42 47 r))) := fun z => ih (fun lt => jn c (f lt) (g lt)) r2 I58 _ z (by omega) (by omega) hPn p2 (fun a j h => by rw [p4 a j h, mAt_fr a j h, hfr a j h]) hn
            rcases hw with ⟨rfl, rfl⟩ | ⟨rfl, rfl⟩
            · refine pw_istore 63 rfl dX12_product_61 (by decide) ?_
              refine pw_iload_n 64 rfl dX12_product_63 rfl ?_
              refine pw_if_eq (tgt := 74) 67 rfl dX12_product_64 rfl (fun h64 => absurd h64 (by decide)) (fun h64 => ?_)
              refine pw_iload_n 68 rfl dX12_product_67 rfl ?_
              refine pw_iload 70 rfl dX12_product_68 rfl ?_
              refine pw_imul 71 rfl dX12_product_70 ?_
              refine pw_goto (tgt := 87) dX12_product_71 rfl ?_
              refine pw_istore_n 88 rfl dX12_product_87 (by decide) ?_
              refine pw_goto (tgt := 6) dX12_product_88 rfl ?_
              rotate_left
              exact nxt _
            · have ej : jn 47 (f lt) (g lt) = if g lt = 0 then nI 0 else f lt / g lt := rfl
              by_cases hv : g lt = 0
              · rw [ej, if_pos hv] at nxt
                refine pw_istore 63 rfl dX12_product_61 (by decide) ?_
                refine pw_iload_n 64 rfl dX12_product_63 rfl ?_
                refine pw_if_eq (tgt := 74) 67 rfl dX12_product_64 rfl (fun h64 => ?_) (fun h64 => absurd rfl h64)
                refine pw_iload 76 rfl dX12_product_74 rfl ?_
                refine pw_if_ne (tgt := 83) 79 rfl dX12_product_76 rfl (fun h76 => absurd hv h76) (fun h76 => ?_)
                refine pw_iconst (v := nI 0) 80 rfl dX12_product_79 rfl ?_
                refine pw_goto (tgt := 87) dX12_product_80 rfl ?_
                refine pw_istore_n 88 rfl dX12_product_87 (by decide) ?_
                refine pw_goto (tgt := 6) dX12_product_88 rfl ?_
                rotate_left
                exact nxt _
              · rw [ej, if_neg hv] at nxt
                refine pw_istore 63 rfl dX12_product_61 (by decide) ?_
                refine pw_iload_n 64 rfl dX12_product_63 rfl ?_
                refine pw_if_eq (tgt := 74) 67 rfl dX12_product_64 rfl (fun h64 => ?_) (fun h64 => absurd rfl h64)
                refine pw_iload 76 rfl dX12_product_74 rfl ?_
                refine pw_if_ne (tgt := 83) 79 rfl dX12_product_76 rfl (fun h76 => ?_) (fun h76 => absurd h76 hv)
                refine pw_iload_n 84 rfl dX12_product_83 rfl ?_
                refine pw_iload 86 rfl dX12_product_84 rfl ?_
                refine pw_idiv 87 rfl dX12_product_86 hv ?_
                refine pw_istore_n 88 rfl dX12_product_87 (by decide) ?_
                refine pw_goto (tgt := 6) dX12_product_88 rfl ?_
                rotate_left
                exact nxt _
        by_cases hc1 : c = 42
        · refine pw_aload_n 7 rfl dX12_product_6 rfl ?_
          refine pw_callVP (as := []) 10 rfl dX12_product_7 mX12_124 vX12_fine (m_fine (d := d + D + 1) hf') (by first | rfl | assumption | exact rowS hh | exact mtS hm | exact ruS hr | exact mtA1 hm | exact mtA2 hm | exact mtA3 hm | exact mtA4 hm | exact mtA5 hm | exact mtA6 hm | exact mtA7 hm | exact ruA1 hr | exact ruA2 hr | exact ruA3 hr) rfl (by decide) ⟨rfl, by decide, by decide, show (parseMethodDescriptor yX12_fine.desc).map (fun d => d.parameters.length) = some 0 by decide +kernel⟩ (by omega) (by decide) (Nat.le_of_ble_eq_true rfl) rfl ?_
          refine pw_if_eq (tgt := 91) 13 rfl dX12_product_10 rfl (fun h10 => absurd h10 (by rw [if_pos rfl]; decide)) (fun h10 => ?_)
          refine pw_aload_n 14 rfl dX12_product_13 rfl ?_
          refine pw_callVP (as := []) 17 rfl dX12_product_14 mX12_128 vX12_here (m_here (d := d + D + 1) hP') (by first | rfl | assumption | exact rowS hh | exact mtS hm | exact ruS hr | exact mtA1 hm | exact mtA2 hm | exact mtA3 hm | exact mtA4 hm | exact mtA5 hm | exact mtA6 hm | exact mtA7 hm | exact ruA1 hr | exact ruA2 hr | exact ruA3 hr) rfl (by decide) ⟨rfl, by decide, by decide, show (parseMethodDescriptor yX12_here.desc).map (fun d => d.parameters.length) = some 0 by decide +kernel⟩ (by omega) (by decide) (Nat.le_of_ble_eq_true rfl) rfl ?_
          refine pw_bipush (v := nI 42) 19 rfl dX12_product_17 rfl ?_
          refine pw_icmp_eq (tgt := 31) 22 rfl dX12_product_19 rfl (fun h19 => ?_) (fun h19 => absurd (by show nI c = nI 42; rw [hc1]) h19)
          refine pw_aload_n 32 rfl dX12_product_31 rfl ?_
          refine pw_callVP (as := []) 35 rfl dX12_product_32 mX12_128 vX12_here (m_here (d := d + D + 1) hP') (by first | rfl | assumption | exact rowS hh | exact mtS hm | exact ruS hr | exact mtA1 hm | exact mtA2 hm | exact mtA3 hm | exact mtA4 hm | exact mtA5 hm | exact mtA6 hm | exact mtA7 hm | exact ruA1 hr | exact ruA2 hr | exact ruA3 hr) rfl (by decide) ⟨rfl, by decide, by decide, show (parseMethodDescriptor yX12_here.desc).map (fun d => d.parameters.length) = some 0 by decide +kernel⟩ (by omega) (by decide) (Nat.le_of_ble_eq_true rfl) rfl ?_
          refine pw_bipush (v := nI 42) 37 rfl dX12_product_35 rfl ?_
          refine pw_icmp_ne (tgt := 44) 40 rfl dX12_product_37 rfl (fun h37 => absurd (by show nI c = nI 42; rw [hc1]) h37) (fun h37 => ?_)
          refine pw_iconst (v := nI 1) 41 rfl dX12_product_40 rfl ?_
          refine pw_goto (tgt := 45) dX12_product_41 rfl ?_
          refine pw_istore_n 46 rfl dX12_product_45 (by decide) ?_
          rotate_left
          exact go _ 42 (Or.inl ⟨rfl, rfl⟩) hc1
        · have hn1 : ¬ nI c = nI 42 := by rw [nI_eq (by omega) (by decide)]; exact hc1
          by_cases hc2 : c = 47
          · refine pw_aload_n 7 rfl dX12_product_6 rfl ?_
            refine pw_callVP (as := []) 10 rfl dX12_product_7 mX12_124 vX12_fine (m_fine (d := d + D + 1) hf') (by first | rfl | assumption | exact rowS hh | exact mtS hm | exact ruS hr | exact mtA1 hm | exact mtA2 hm | exact mtA3 hm | exact mtA4 hm | exact mtA5 hm | exact mtA6 hm | exact mtA7 hm | exact ruA1 hr | exact ruA2 hr | exact ruA3 hr) rfl (by decide) ⟨rfl, by decide, by decide, show (parseMethodDescriptor yX12_fine.desc).map (fun d => d.parameters.length) = some 0 by decide +kernel⟩ (by omega) (by decide) (Nat.le_of_ble_eq_true rfl) rfl ?_
            refine pw_if_eq (tgt := 91) 13 rfl dX12_product_10 rfl (fun h10 => absurd h10 (by rw [if_pos rfl]; decide)) (fun h10 => ?_)
            refine pw_aload_n 14 rfl dX12_product_13 rfl ?_
            refine pw_callVP (as := []) 17 rfl dX12_product_14 mX12_128 vX12_here (m_here (d := d + D + 1) hP') (by first | rfl | assumption | exact rowS hh | exact mtS hm | exact ruS hr | exact mtA1 hm | exact mtA2 hm | exact mtA3 hm | exact mtA4 hm | exact mtA5 hm | exact mtA6 hm | exact mtA7 hm | exact ruA1 hr | exact ruA2 hr | exact ruA3 hr) rfl (by decide) ⟨rfl, by decide, by decide, show (parseMethodDescriptor yX12_here.desc).map (fun d => d.parameters.length) = some 0 by decide +kernel⟩ (by omega) (by decide) (Nat.le_of_ble_eq_true rfl) rfl ?_
            refine pw_bipush (v := nI 42) 19 rfl dX12_product_17 rfl ?_
            refine pw_icmp_eq (tgt := 31) 22 rfl dX12_product_19 rfl (fun h19 => absurd h19 hn1) (fun h19 => ?_)
            refine pw_aload_n 23 rfl dX12_product_22 rfl ?_
            refine pw_callVP (as := []) 26 rfl dX12_product_23 mX12_128 vX12_here (m_here (d := d + D + 1) hP') (by first | rfl | assumption | exact rowS hh | exact mtS hm | exact ruS hr | exact mtA1 hm | exact mtA2 hm | exact mtA3 hm | exact mtA4 hm | exact mtA5 hm | exact mtA6 hm | exact mtA7 hm | exact ruA1 hr | exact ruA2 hr | exact ruA3 hr) rfl (by decide) ⟨rfl, by decide, by decide, show (parseMethodDescriptor yX12_here.desc).map (fun d => d.parameters.length) = some 0 by decide +kernel⟩ (by omega) (by decide) (Nat.le_of_ble_eq_true rfl) rfl ?_
            refine pw_bipush (v := nI 47) 28 rfl dX12_product_26 rfl ?_
            refine pw_icmp_ne (tgt := 91) 31 rfl dX12_product_28 rfl (fun h28 => absurd (by show nI c = nI 47; rw [hc2]) h28) (fun h28 => ?_)
            refine pw_aload_n 32 rfl dX12_product_31 rfl ?_
            refine pw_callVP (as := []) 35 rfl dX12_product_32 mX12_128 vX12_here (m_here (d := d + D + 1) hP') (by first | rfl | assumption | exact rowS hh | exact mtS hm | exact ruS hr | exact mtA1 hm | exact mtA2 hm | exact mtA3 hm | exact mtA4 hm | exact mtA5 hm | exact mtA6 hm | exact mtA7 hm | exact ruA1 hr | exact ruA2 hr | exact ruA3 hr) rfl (by decide) ⟨rfl, by decide, by decide, show (parseMethodDescriptor yX12_here.desc).map (fun d => d.parameters.length) = some 0 by decide +kernel⟩ (by omega) (by decide) (Nat.le_of_ble_eq_true rfl) rfl ?_
            refine pw_bipush (v := nI 42) 37 rfl dX12_product_35 rfl ?_
            refine pw_icmp_ne (tgt := 44) 40 rfl dX12_product_37 rfl (fun h37 => ?_) (fun h37 => absurd h37 hn1)
            refine pw_iconst (v := nI 0) 45 rfl dX12_product_44 rfl ?_
            refine pw_istore_n 46 rfl dX12_product_45 (by decide) ?_
            rotate_left
            exact go _ 47 (Or.inr ⟨rfl, rfl⟩) hc2
          · have hn2 : ¬ nI c = nI 47 := by rw [nI_eq (by omega) (by decide)]; exact hc2
            rw [if_neg (by omega)] at hn
            rw [← hn]
            refine pw_aload_n 7 rfl dX12_product_6 rfl ?_
            refine pw_callVP (as := []) 10 rfl dX12_product_7 mX12_124 vX12_fine (m_fine (d := d + D + 1) hf') (by first | rfl | assumption | exact rowS hh | exact mtS hm | exact ruS hr | exact mtA1 hm | exact mtA2 hm | exact mtA3 hm | exact mtA4 hm | exact mtA5 hm | exact mtA6 hm | exact mtA7 hm | exact ruA1 hr | exact ruA2 hr | exact ruA3 hr) rfl (by decide) ⟨rfl, by decide, by decide, show (parseMethodDescriptor yX12_fine.desc).map (fun d => d.parameters.length) = some 0 by decide +kernel⟩ (by omega) (by decide) (Nat.le_of_ble_eq_true rfl) rfl ?_
            refine pw_if_eq (tgt := 91) 13 rfl dX12_product_10 rfl (fun h10 => absurd h10 (by rw [if_pos rfl]; decide)) (fun h10 => ?_)
            refine pw_aload_n 14 rfl dX12_product_13 rfl ?_
            refine pw_callVP (as := []) 17 rfl dX12_product_14 mX12_128 vX12_here (m_here (d := d + D + 1) hP') (by first | rfl | assumption | exact rowS hh | exact mtS hm | exact ruS hr | exact mtA1 hm | exact mtA2 hm | exact mtA3 hm | exact mtA4 hm | exact mtA5 hm | exact mtA6 hm | exact mtA7 hm | exact ruA1 hr | exact ruA2 hr | exact ruA3 hr) rfl (by decide) ⟨rfl, by decide, by decide, show (parseMethodDescriptor yX12_here.desc).map (fun d => d.parameters.length) = some 0 by decide +kernel⟩ (by omega) (by decide) (Nat.le_of_ble_eq_true rfl) rfl ?_
            refine pw_bipush (v := nI 42) 19 rfl dX12_product_17 rfl ?_
            refine pw_icmp_eq (tgt := 31) 22 rfl dX12_product_19 rfl (fun h19 => absurd h19 hn1) (fun h19 => ?_)
            refine pw_aload_n 23 rfl dX12_product_22 rfl ?_
            refine pw_callVP (as := []) 26 rfl dX12_product_23 mX12_128 vX12_here (m_here (d := d + D + 1) hP') (by first | rfl | assumption | exact rowS hh | exact mtS hm | exact ruS hr | exact mtA1 hm | exact mtA2 hm | exact mtA3 hm | exact mtA4 hm | exact mtA5 hm | exact mtA6 hm | exact mtA7 hm | exact ruA1 hr | exact ruA2 hr | exact ruA3 hr) rfl (by decide) ⟨rfl, by decide, by decide, show (parseMethodDescriptor yX12_here.desc).map (fun d => d.parameters.length) = some 0 by decide +kernel⟩ (by omega) (by decide) (Nat.le_of_ble_eq_true rfl) rfl ?_
            refine pw_bipush (v := nI 47) 28 rfl dX12_product_26 rfl ?_
            refine pw_icmp_ne (tgt := 91) 31 rfl dX12_product_28 rfl (fun h28 => ?_) (fun h28 => absurd h28 hn2)
            refine pw_iload_n 92 rfl dX12_product_91 rfl ?_
            refine pw_iret dX12_product_92 rfl ?_
            rotate_left
            exact ⟨⟨rfl, h11, hf', hs⟩, hfr, rfl, rfl⟩
  have cx := hX d hr nn L T rl cs r lt I J hP hl hf hL
  refine pw_aload_n 1 rfl dX12_product_0 rfl ?_
  refine pw_iload_n 2 rfl dX12_product_1 rfl ?_
  refine pw_callV (as := [_]) 5 rfl dX12_product_2 mX12_163 vX12_thing cx (by first | rfl | assumption | exact rowS hh | exact mtS hm | exact ruS hr | exact mtA1 hm | exact mtA2 hm | exact mtA3 hm | exact mtA4 hm | exact mtA5 hm | exact mtA6 hm | exact mtA7 hm | exact ruA1 hr | exact ruA2 hr | exact ruA3 hr) rfl (by decide) ⟨rfl, by decide, by decide, show (parseMethodDescriptor yX12_thing.desc).map (fun d => d.parameters.length) = some 1 by decide +kernel⟩ (by omega) (by decide) (Nat.le_of_ble_eq_true rfl) rfl (fun r2 I2 J2 R2 c2 => ?_)
  rotate_left
  have hsx := hS r
  have hq : pLp X 42 47 r = (match X r with
    | .error e => .error e
    | .ok q => pLoop X 42 47 q.2.length q.1 q.2) := rfl
  revert c2 hsx hq
  rcases X r with e | ⟨f, r'⟩
  · rintro ⟨⟨⟨v, rfl⟩, p1, p2, p3⟩, p4, rfl, rfl⟩ - hq
    have hne := MP_ne hP e.length
    rw [show pLp X 42 47 r = .error e from hq]
    refine pw_istore_n 6 rfl dX12_product_5 (by decide) ?_
    refine pw_aload_n 7 rfl dX12_product_6 rfl ?_
    refine pw_callVP (as := []) 10 rfl dX12_product_7 mX12_124 vX12_fine (m_fine (d := d + D + 1) p2) (by first | rfl | assumption | exact rowS hh | exact mtS hm | exact ruS hr | exact mtA1 hm | exact mtA2 hm | exact mtA3 hm | exact mtA4 hm | exact mtA5 hm | exact mtA6 hm | exact mtA7 hm | exact ruA1 hr | exact ruA2 hr | exact ruA3 hr) rfl (by decide) ⟨rfl, by decide, by decide, show (parseMethodDescriptor yX12_fine.desc).map (fun d => d.parameters.length) = some 0 by decide +kernel⟩ (by omega) (by decide) (Nat.le_of_ble_eq_true rfl) rfl ?_
    refine pw_if_eq (tgt := 91) 13 rfl dX12_product_10 rfl (fun h10 => ?_) (fun h10 => absurd (by rw [if_neg hne]; rfl) h10)
    refine pw_iload_n 92 rfl dX12_product_91 rfl ?_
    refine pw_iret dX12_product_92 rfl ?_
    rotate_left
    exact mErr p1 p2 p3 p4
  · rintro ⟨⟨rfl, p1, p2, p3⟩, p4, rfl, rfl⟩ hsx hq
    have hlt : r'.length < r.length := hsx (f, r') rfl
    refine pw_istore_n 6 rfl dX12_product_5 (by decide) ?_
    rotate_left
    exact Lo r'.length f r' I2 none none (Nat.le_refl _) (by omega) (hP.fr p4 p1 p3) p2 p4 hq.symm
theorem m_product {D deep : Nat} {X : List Nat → Except (List Nat) (((Nat → Int32) → Int32) × List Nat)} (hX : mCt yX12_thing cX12_thing 4 (D + 1) deep X) (hS : Sf X) : mCt yX12_product cX12_product 5 (D + 2) deep (pLp X 42 47) := fun d hr nn L T rl cs r lt I J hP hl hf hL => m_product0 hX hS hP hl hf hL
set_option maxRecDepth 100000 in
set_option maxHeartbeats 2000000 in
theorem m_sum0 {D deep : Nat} {X : List Nat → Except (List Nat) (((Nat → Int32) → Int32) × List Nat)} (hX : mCt yX12_product cX12_product 5 (D + 1) deep X) (hS : Sf X) {d hr nn L T : Nat} {rl : Option Nat} {cs r : List Nat} {lt : Nat → Int32} {I : pI} {J : pJ} (hP : MP I hr nn L T cs r) (hl : r.length ≤ 40) (hf : I 0 12 = -1) (hL : mLt I lt) : PC SM (d + D + 2) yX12_sum cX12_sum 5 (some .int) [.ref 0, .int (nI deep)] (I) (J) (RM (some hr) rl) (mRes I J (RM (some hr) rl) cs lt (pLp X 43 45 r)) := by
  refine PC.of [some (.ref 0), some (.int (nI deep)), none, none, none] rfl rfl (Nat.le_of_ble_eq_true rfl) ?_
  have Lo : ∀ (k : Nat) (f : (Nat → Int32) → Int32) (r' : List Nat) (I' : pI) (x y : Option Value), r'.length ≤ k → r'.length ≤ 40 → MP I' hr nn L T cs r' → I' 0 12 = -1 → (∀ a j, ¬ (a = 0 ∧ (j = 11 ∨ j = 12)) → I' a j = I a j) → pLoop X 43 45 k f r' = pLp X 43 45 r → PW SM yX12_sum.cls cX12_sum 5 (d + D + 2) 6 [some (.ref 0), some (.int (nI deep)), some (.int (f lt)), x, y] [] (I') (J) (RM (some hr) rl) (rX cX12_sum (some .int) (mRes I J (RM (some hr) rl) cs lt (pLp X 43 45 r))) := by
    intro k
    induction k with
    | zero =>
      intro f r' I' x y q1 q2 hP' hf' hfr hn
      have : r' = [] := List.length_eq_zero_iff.mp (by omega)
      subst this
      rw [← hn, pLoop]
      refine pw_aload_n 7 rfl dX12_sum_6 rfl ?_
      refine pw_callVP (as := []) 10 rfl dX12_sum_7 mX12_124 vX12_fine (m_fine (d := d + D + 1) hf') (by first | rfl | assumption | exact rowS hh | exact mtS hm | exact ruS hr | exact mtA1 hm | exact mtA2 hm | exact mtA3 hm | exact mtA4 hm | exact mtA5 hm | exact mtA6 hm | exact mtA7 hm | exact ruA1 hr | exact ruA2 hr | exact ruA3 hr) rfl (by decide) ⟨rfl, by decide, by decide, show (parseMethodDescriptor yX12_fine.desc).map (fun d => d.parameters.length) = some 0 by decide +kernel⟩ (by omega) (by decide) (Nat.le_of_ble_eq_true rfl) rfl ?_
      refine pw_if_eq (tgt := 82) 13 rfl dX12_sum_10 rfl (fun h10 => absurd h10 (by rw [if_pos rfl]; decide)) (fun h10 => ?_)
      refine pw_aload_n 14 rfl dX12_sum_13 rfl ?_
      refine pw_callVP (as := []) 17 rfl dX12_sum_14 mX12_128 vX12_here (m_here (d := d + D + 1) hP') (by first | rfl | assumption | exact rowS hh | exact mtS hm | exact ruS hr | exact mtA1 hm | exact mtA2 hm | exact mtA3 hm | exact mtA4 hm | exact mtA5 hm | exact mtA6 hm | exact mtA7 hm | exact ruA1 hr | exact ruA2 hr | exact ruA3 hr) rfl (by decide) ⟨rfl, by decide, by decide, show (parseMethodDescriptor yX12_here.desc).map (fun d => d.parameters.length) = some 0 by decide +kernel⟩ (by omega) (by decide) (Nat.le_of_ble_eq_true rfl) rfl ?_
      refine pw_bipush (v := nI 43) 19 rfl dX12_sum_17 rfl ?_
      refine pw_icmp_eq (tgt := 31) 22 rfl dX12_sum_19 rfl (fun h19 => absurd h19 (by show ¬ (-1 : Int32) = nI 43; decide)) (fun h19 => ?_)
      refine pw_aload_n 23 rfl dX12_sum_22 rfl ?_
      refine pw_callVP (as := []) 26 rfl dX12_sum_23 mX12_128 vX12_here (m_here (d := d + D + 1) hP') (by first | rfl | assumption | exact rowS hh | exact mtS hm | exact ruS hr | exact mtA1 hm | exact mtA2 hm | exact mtA3 hm | exact mtA4 hm | exact mtA5 hm | exact mtA6 hm | exact mtA7 hm | exact ruA1 hr | exact ruA2 hr | exact ruA3 hr) rfl (by decide) ⟨rfl, by decide, by decide, show (parseMethodDescriptor yX12_here.desc).map (fun d => d.parameters.length) = some 0 by decide +kernel⟩ (by omega) (by decide) (Nat.le_of_ble_eq_true rfl) rfl ?_
      refine pw_bipush (v := nI 45) 28 rfl dX12_sum_26 rfl ?_
      refine pw_icmp_ne (tgt := 82) 31 rfl dX12_sum_28 rfl (fun h28 => ?_) (fun h28 => absurd h28 (by show ¬ (-1 : Int32) = nI 45; decide))
      refine pw_iload_n 83 rfl dX12_sum_82 rfl ?_
      refine pw_iret dX12_sum_83 rfl ?_
      rotate_left
      exact ⟨⟨rfl, hP'.2.2.2.2.2.2.2.1, hf', hP'.2.2.2.2.2.2.2.2.1⟩, hfr, rfl, rfl⟩
    | succ k ih =>
      intro f r' I' x y q1 q2 hP' hf' hfr hn
      rcases r' with _ | ⟨c, r'⟩
      · rw [← hn, pLoop]
        refine pw_aload_n 7 rfl dX12_sum_6 rfl ?_
        refine pw_callVP (as := []) 10 rfl dX12_sum_7 mX12_124 vX12_fine (m_fine (d := d + D + 1) hf') (by first | rfl | assumption | exact rowS hh | exact mtS hm | exact ruS hr | exact mtA1 hm | exact mtA2 hm | exact mtA3 hm | exact mtA4 hm | exact mtA5 hm | exact mtA6 hm | exact mtA7 hm | exact ruA1 hr | exact ruA2 hr | exact ruA3 hr) rfl (by decide) ⟨rfl, by decide, by decide, show (parseMethodDescriptor yX12_fine.desc).map (fun d => d.parameters.length) = some 0 by decide +kernel⟩ (by omega) (by decide) (Nat.le_of_ble_eq_true rfl) rfl ?_
        refine pw_if_eq (tgt := 82) 13 rfl dX12_sum_10 rfl (fun h10 => absurd h10 (by rw [if_pos rfl]; decide)) (fun h10 => ?_)
        refine pw_aload_n 14 rfl dX12_sum_13 rfl ?_
        refine pw_callVP (as := []) 17 rfl dX12_sum_14 mX12_128 vX12_here (m_here (d := d + D + 1) hP') (by first | rfl | assumption | exact rowS hh | exact mtS hm | exact ruS hr | exact mtA1 hm | exact mtA2 hm | exact mtA3 hm | exact mtA4 hm | exact mtA5 hm | exact mtA6 hm | exact mtA7 hm | exact ruA1 hr | exact ruA2 hr | exact ruA3 hr) rfl (by decide) ⟨rfl, by decide, by decide, show (parseMethodDescriptor yX12_here.desc).map (fun d => d.parameters.length) = some 0 by decide +kernel⟩ (by omega) (by decide) (Nat.le_of_ble_eq_true rfl) rfl ?_
        refine pw_bipush (v := nI 43) 19 rfl dX12_sum_17 rfl ?_
        refine pw_icmp_eq (tgt := 31) 22 rfl dX12_sum_19 rfl (fun h19 => absurd h19 (by show ¬ (-1 : Int32) = nI 43; decide)) (fun h19 => ?_)
        refine pw_aload_n 23 rfl dX12_sum_22 rfl ?_
        refine pw_callVP (as := []) 26 rfl dX12_sum_23 mX12_128 vX12_here (m_here (d := d + D + 1) hP') (by first | rfl | assumption | exact rowS hh | exact mtS hm | exact ruS hr | exact mtA1 hm | exact mtA2 hm | exact mtA3 hm | exact mtA4 hm | exact mtA5 hm | exact mtA6 hm | exact mtA7 hm | exact ruA1 hr | exact ruA2 hr | exact ruA3 hr) rfl (by decide) ⟨rfl, by decide, by decide, show (parseMethodDescriptor yX12_here.desc).map (fun d => d.parameters.length) = some 0 by decide +kernel⟩ (by omega) (by decide) (Nat.le_of_ble_eq_true rfl) rfl ?_
        refine pw_bipush (v := nI 45) 28 rfl dX12_sum_26 rfl ?_
        refine pw_icmp_ne (tgt := 82) 31 rfl dX12_sum_28 rfl (fun h28 => ?_) (fun h28 => absurd h28 (by show ¬ (-1 : Int32) = nI 45; decide))
        refine pw_iload_n 83 rfl dX12_sum_82 rfl ?_
        refine pw_iret dX12_sum_83 rfl ?_
        rotate_left
        exact ⟨⟨rfl, hP'.2.2.2.2.2.2.2.1, hf', hP'.2.2.2.2.2.2.2.2.1⟩, hfr, rfl, rfl⟩
      · have hx := MP_lt hP'
        have hs := hP'.2.2.2.2.2.2.2.2.1
        have hle := sfx_le hs
        have h11 : I' 0 11 = nI (cs.length - (c :: r').length) := hP'.2.2.2.2.2.2.2.1
        have e1 : cs.length - (c :: r').length + 1 = cs.length - r'.length := by rw [List.length_cons] at hle ⊢; omega
        rw [List.length_cons] at q1 q2
        rw [pLoop] at hn
        have hP1 := mAt_MP hP' (sfx_tl hs)
        have go : ∀ (w : Int32) (op : Nat), (w = nI 1 ∧ op = 43 ∨ w = nI 0 ∧ op = 45) → c = op → PW SM yX12_sum.cls cX12_sum 5 (d + D + 2) 46 [some (.ref 0), some (.int (nI deep)), some (.int (f lt)), some (.int w), y] [] I' J (RM (some hr) rl) (rX cX12_sum (some .int) (mRes I J (RM (some hr) rl) cs lt (pLp X 43 45 r))) := by
          intro w op hw hop
          subst hop
          rw [if_pos (by omega)] at hn
          have cx := hX d hr nn L T rl cs r' lt (mAt I' (cs.length - r'.length)) J hP1 (by omega) (by rw [mAt_12]; exact hf') (hL.fr (fun a j h => by rw [mAt_fr a j h]; exact hfr a j h))
          refine pw_aload_n 47 rfl dX12_sum_46 rfl ?_
          refine pw_dup 48 rfl dX12_sum_47 rfl ?_
          refine pw_getI 51 rfl dX12_sum_48 fX12_114 (by first | rfl | assumption | exact rowS hh | exact mtS hm | exact ruS hr | exact mtA1 hm | exact mtA2 hm | exact mtA3 hm | exact mtA4 hm | exact mtA5 hm | exact mtA6 hm | exact mtA7 hm | exact ruA1 hr | exact ruA2 hr | exact ruA3 hr) rfl ?_
          rotate_left
          rw [h11]
          refine pw_iconst (v := nI 1) 52 rfl dX12_sum_51 rfl ?_
          first | refine pw_iaddN 53 rfl dX12_sum_52 ?_ | refine pw_iadd 53 rfl dX12_sum_52 ?_
          refine pw_putI 56 rfl dX12_sum_53 fX12_114 w12_11 (by first | rfl | assumption | exact rowS hh | exact mtS hm | exact ruS hr | exact mtA1 hm | exact mtA2 hm | exact mtA3 hm | exact mtA4 hm | exact mtA5 hm | exact mtA6 hm | exact mtA7 hm | exact ruA1 hr | exact ruA2 hr | exact ruA3 hr) rfl rfl rfl ?_
          rotate_left
          rw [e1]
          refine pw_aload_n 57 rfl dX12_sum_56 rfl ?_
          refine pw_iload_n 58 rfl dX12_sum_57 rfl ?_
          refine pw_callV (as := [_]) 61 rfl dX12_sum_58 mX12_160 vX12_product cx (by first | rfl | assumption | exact rowS hh | exact mtS hm | exact ruS hr | exact mtA1 hm | exact mtA2 hm | exact mtA3 hm | exact mtA4 hm | exact mtA5 hm | exact mtA6 hm | exact mtA7 hm | exact ruA1 hr | exact ruA2 hr | exact ruA3 hr) rfl (by decide) ⟨rfl, by decide, by decide, show (parseMethodDescriptor yX12_product.desc).map (fun d => d.parameters.length) = some 1 by decide +kernel⟩ (by omega) (by decide) (Nat.le_of_ble_eq_true rfl) rfl (fun r58 I58 J58 R58 c58 => ?_)
          rotate_left
          have hsx := hS r'
          revert c58 hn hsx
          rcases X r' with e | ⟨g, r2⟩
          · rintro hn ⟨⟨⟨v, rfl⟩, p1, p2, p3⟩, p4, rfl, rfl⟩ -
            rw [← hn]
            have hne := MP_ne hP' e.length
            have fin : ∀ (u : Int32) (z : Option Value), PW SM yX12_sum.cls cX12_sum 5 (d + D + 2) 6 [some (.ref 0), some (.int (nI deep)), some (.int u), some (.int w), z] [] I58 J (RM (some hr) rl) (rX cX12_sum (some .int) (mRes I J (RM (some hr) rl) cs lt (.error e))) := by
              intro u z
              refine pw_aload_n 7 rfl dX12_sum_6 rfl ?_
              refine pw_callVP (as := []) 10 rfl dX12_sum_7 mX12_124 vX12_fine (m_fine (d := d + D + 1) p2) (by first | rfl | assumption | exact rowS hh | exact mtS hm | exact ruS hr | exact mtA1 hm | exact mtA2 hm | exact mtA3 hm | exact mtA4 hm | exact mtA5 hm | exact mtA6 hm | exact mtA7 hm | exact ruA1 hr | exact ruA2 hr | exact ruA3 hr) rfl (by decide) ⟨rfl, by decide, by decide, show (parseMethodDescriptor yX12_fine.desc).map (fun d => d.parameters.length) = some 0 by decide +kernel⟩ (by omega) (by decide) (Nat.le_of_ble_eq_true rfl) rfl ?_
              refine pw_if_eq (tgt := 82) 13 rfl dX12_sum_10 rfl (fun h10 => ?_) (fun h10 => absurd (by rw [if_neg hne]; rfl) h10)
              refine pw_iload_n 83 rfl dX12_sum_82 rfl ?_
              refine pw_iret dX12_sum_83 rfl ?_
              rotate_left
              exact mErr p1 p2 p3 (fun a j h => by rw [p4 a j h, mAt_fr a j h, hfr a j h])
            rcases hw with ⟨rfl, -⟩ | ⟨rfl, -⟩
            · refine pw_istore 63 rfl dX12_sum_61 (by decide) ?_
              refine pw_iload_n 64 rfl dX12_sum_63 rfl ?_
              refine pw_if_eq (tgt := 74) 67 rfl dX12_sum_64 rfl (fun h64 => absurd h64 (by decide)) (fun h64 => ?_)
              refine pw_iload_n 68 rfl dX12_sum_67 rfl ?_
              refine pw_iload 70 rfl dX12_sum_68 rfl ?_
              refine pw_iadd 71 rfl dX12_sum_70 ?_
              refine pw_goto (tgt := 78) dX12_sum_71 rfl ?_
              refine pw_istore_n 79 rfl dX12_sum_78 (by decide) ?_
              refine pw_goto (tgt := 6) dX12_sum_79 rfl ?_
              rotate_left
              exact fin _ _
            · refine pw_istore 63 rfl dX12_sum_61 (by decide) ?_
              refine pw_iload_n 64 rfl dX12_sum_63 rfl ?_
              refine pw_if_eq (tgt := 74) 67 rfl dX12_sum_64 rfl (fun h64 => ?_) (fun h64 => absurd rfl h64)
              refine pw_iload_n 75 rfl dX12_sum_74 rfl ?_
              refine pw_iload 77 rfl dX12_sum_75 rfl ?_
              refine pw_isub 78 rfl dX12_sum_77 ?_
              refine pw_istore_n 79 rfl dX12_sum_78 (by decide) ?_
              refine pw_goto (tgt := 6) dX12_sum_79 rfl ?_
              rotate_left
              exact fin _ _
          · rintro hn ⟨⟨rfl, p1, p2, p3⟩, p4, rfl, rfl⟩ hsx
            have hlt : r2.length < r'.length := hsx (g, r2) rfl
            have hPn : MP I58 hr nn L T cs r2 := hP1.fr p4 p1 p3
            have nxt : ∀ (z : Option Value), PW SM yX12_sum.cls cX12_sum 5 (d + D + 2) 6 [some (.ref 0), some (.int (nI deep)), some (.int (jn c (f lt) (g lt))), some (.int w), z] [] I58 J (RM (some hr) rl) (rX cX12_sum (some .int) (mRes I J (RM (some hr) rl) cs lt (pLp X 43 45 r))) := fun z => ih (fun lt => jn c (f lt) (g lt)) r2 I58 _ z (by omega) (by omega) hPn p2 (fun a j h => by rw [p4 a j h, mAt_fr a j h, hfr a j h]) hn
            rcases hw with ⟨rfl, rfl⟩ | ⟨rfl, rfl⟩
            · refine pw_istore 63 rfl dX12_sum_61 (by decide) ?_
              refine pw_iload_n 64 rfl dX12_sum_63 rfl ?_
              refine pw_if_eq (tgt := 74) 67 rfl dX12_sum_64 rfl (fun h64 => absurd h64 (by decide)) (fun h64 => ?_)
              refine pw_iload_n 68 rfl dX12_sum_67 rfl ?_
              refine pw_iload 70 rfl dX12_sum_68 rfl ?_
              refine pw_iadd 71 rfl dX12_sum_70 ?_
              refine pw_goto (tgt := 78) dX12_sum_71 rfl ?_
              refine pw_istore_n 79 rfl dX12_sum_78 (by decide) ?_
              refine pw_goto (tgt := 6) dX12_sum_79 rfl ?_
              rotate_left
              exact nxt _
            · refine pw_istore 63 rfl dX12_sum_61 (by decide) ?_
              refine pw_iload_n 64 rfl dX12_sum_63 rfl ?_
              refine pw_if_eq (tgt := 74) 67 rfl dX12_sum_64 rfl (fun h64 => ?_) (fun h64 => absurd rfl h64)
              refine pw_iload_n 75 rfl dX12_sum_74 rfl ?_
              refine pw_iload 77 rfl dX12_sum_75 rfl ?_
              refine pw_isub 78 rfl dX12_sum_77 ?_
              refine pw_istore_n 79 rfl dX12_sum_78 (by decide) ?_
              refine pw_goto (tgt := 6) dX12_sum_79 rfl ?_
              rotate_left
              exact nxt _
        by_cases hc1 : c = 43
        · refine pw_aload_n 7 rfl dX12_sum_6 rfl ?_
          refine pw_callVP (as := []) 10 rfl dX12_sum_7 mX12_124 vX12_fine (m_fine (d := d + D + 1) hf') (by first | rfl | assumption | exact rowS hh | exact mtS hm | exact ruS hr | exact mtA1 hm | exact mtA2 hm | exact mtA3 hm | exact mtA4 hm | exact mtA5 hm | exact mtA6 hm | exact mtA7 hm | exact ruA1 hr | exact ruA2 hr | exact ruA3 hr) rfl (by decide) ⟨rfl, by decide, by decide, show (parseMethodDescriptor yX12_fine.desc).map (fun d => d.parameters.length) = some 0 by decide +kernel⟩ (by omega) (by decide) (Nat.le_of_ble_eq_true rfl) rfl ?_
          refine pw_if_eq (tgt := 82) 13 rfl dX12_sum_10 rfl (fun h10 => absurd h10 (by rw [if_pos rfl]; decide)) (fun h10 => ?_)
          refine pw_aload_n 14 rfl dX12_sum_13 rfl ?_
          refine pw_callVP (as := []) 17 rfl dX12_sum_14 mX12_128 vX12_here (m_here (d := d + D + 1) hP') (by first | rfl | assumption | exact rowS hh | exact mtS hm | exact ruS hr | exact mtA1 hm | exact mtA2 hm | exact mtA3 hm | exact mtA4 hm | exact mtA5 hm | exact mtA6 hm | exact mtA7 hm | exact ruA1 hr | exact ruA2 hr | exact ruA3 hr) rfl (by decide) ⟨rfl, by decide, by decide, show (parseMethodDescriptor yX12_here.desc).map (fun d => d.parameters.length) = some 0 by decide +kernel⟩ (by omega) (by decide) (Nat.le_of_ble_eq_true rfl) rfl ?_
          refine pw_bipush (v := nI 43) 19 rfl dX12_sum_17 rfl ?_
          refine pw_icmp_eq (tgt := 31) 22 rfl dX12_sum_19 rfl (fun h19 => ?_) (fun h19 => absurd (by show nI c = nI 43; rw [hc1]) h19)
          refine pw_aload_n 32 rfl dX12_sum_31 rfl ?_
          refine pw_callVP (as := []) 35 rfl dX12_sum_32 mX12_128 vX12_here (m_here (d := d + D + 1) hP') (by first | rfl | assumption | exact rowS hh | exact mtS hm | exact ruS hr | exact mtA1 hm | exact mtA2 hm | exact mtA3 hm | exact mtA4 hm | exact mtA5 hm | exact mtA6 hm | exact mtA7 hm | exact ruA1 hr | exact ruA2 hr | exact ruA3 hr) rfl (by decide) ⟨rfl, by decide, by decide, show (parseMethodDescriptor yX12_here.desc).map (fun d => d.parameters.length) = some 0 by decide +kernel⟩ (by omega) (by decide) (Nat.le_of_ble_eq_true rfl) rfl ?_
          refine pw_bipush (v := nI 43) 37 rfl dX12_sum_35 rfl ?_
          refine pw_icmp_ne (tgt := 44) 40 rfl dX12_sum_37 rfl (fun h37 => absurd (by show nI c = nI 43; rw [hc1]) h37) (fun h37 => ?_)
          refine pw_iconst (v := nI 1) 41 rfl dX12_sum_40 rfl ?_
          refine pw_goto (tgt := 45) dX12_sum_41 rfl ?_
          refine pw_istore_n 46 rfl dX12_sum_45 (by decide) ?_
          rotate_left
          exact go _ 43 (Or.inl ⟨rfl, rfl⟩) hc1
        · have hn1 : ¬ nI c = nI 43 := by rw [nI_eq (by omega) (by decide)]; exact hc1
          by_cases hc2 : c = 45
          · refine pw_aload_n 7 rfl dX12_sum_6 rfl ?_
            refine pw_callVP (as := []) 10 rfl dX12_sum_7 mX12_124 vX12_fine (m_fine (d := d + D + 1) hf') (by first | rfl | assumption | exact rowS hh | exact mtS hm | exact ruS hr | exact mtA1 hm | exact mtA2 hm | exact mtA3 hm | exact mtA4 hm | exact mtA5 hm | exact mtA6 hm | exact mtA7 hm | exact ruA1 hr | exact ruA2 hr | exact ruA3 hr) rfl (by decide) ⟨rfl, by decide, by decide, show (parseMethodDescriptor yX12_fine.desc).map (fun d => d.parameters.length) = some 0 by decide +kernel⟩ (by omega) (by decide) (Nat.le_of_ble_eq_true rfl) rfl ?_
            refine pw_if_eq (tgt := 82) 13 rfl dX12_sum_10 rfl (fun h10 => absurd h10 (by rw [if_pos rfl]; decide)) (fun h10 => ?_)
            refine pw_aload_n 14 rfl dX12_sum_13 rfl ?_
            refine pw_callVP (as := []) 17 rfl dX12_sum_14 mX12_128 vX12_here (m_here (d := d + D + 1) hP') (by first | rfl | assumption | exact rowS hh | exact mtS hm | exact ruS hr | exact mtA1 hm | exact mtA2 hm | exact mtA3 hm | exact mtA4 hm | exact mtA5 hm | exact mtA6 hm | exact mtA7 hm | exact ruA1 hr | exact ruA2 hr | exact ruA3 hr) rfl (by decide) ⟨rfl, by decide, by decide, show (parseMethodDescriptor yX12_here.desc).map (fun d => d.parameters.length) = some 0 by decide +kernel⟩ (by omega) (by decide) (Nat.le_of_ble_eq_true rfl) rfl ?_
            refine pw_bipush (v := nI 43) 19 rfl dX12_sum_17 rfl ?_
            refine pw_icmp_eq (tgt := 31) 22 rfl dX12_sum_19 rfl (fun h19 => absurd h19 hn1) (fun h19 => ?_)
            refine pw_aload_n 23 rfl dX12_sum_22 rfl ?_
            refine pw_callVP (as := []) 26 rfl dX12_sum_23 mX12_128 vX12_here (m_here (d := d + D + 1) hP') (by first | rfl | assumption | exact rowS hh | exact mtS hm | exact ruS hr | exact mtA1 hm | exact mtA2 hm | exact mtA3 hm | exact mtA4 hm | exact mtA5 hm | exact mtA6 hm | exact mtA7 hm | exact ruA1 hr | exact ruA2 hr | exact ruA3 hr) rfl (by decide) ⟨rfl, by decide, by decide, show (parseMethodDescriptor yX12_here.desc).map (fun d => d.parameters.length) = some 0 by decide +kernel⟩ (by omega) (by decide) (Nat.le_of_ble_eq_true rfl) rfl ?_
            refine pw_bipush (v := nI 45) 28 rfl dX12_sum_26 rfl ?_
            refine pw_icmp_ne (tgt := 82) 31 rfl dX12_sum_28 rfl (fun h28 => absurd (by show nI c = nI 45; rw [hc2]) h28) (fun h28 => ?_)
            refine pw_aload_n 32 rfl dX12_sum_31 rfl ?_
            refine pw_callVP (as := []) 35 rfl dX12_sum_32 mX12_128 vX12_here (m_here (d := d + D + 1) hP') (by first | rfl | assumption | exact rowS hh | exact mtS hm | exact ruS hr | exact mtA1 hm | exact mtA2 hm | exact mtA3 hm | exact mtA4 hm | exact mtA5 hm | exact mtA6 hm | exact mtA7 hm | exact ruA1 hr | exact ruA2 hr | exact ruA3 hr) rfl (by decide) ⟨rfl, by decide, by decide, show (parseMethodDescriptor yX12_here.desc).map (fun d => d.parameters.length) = some 0 by decide +kernel⟩ (by omega) (by decide) (Nat.le_of_ble_eq_true rfl) rfl ?_
            refine pw_bipush (v := nI 43) 37 rfl dX12_sum_35 rfl ?_
            refine pw_icmp_ne (tgt := 44) 40 rfl dX12_sum_37 rfl (fun h37 => ?_) (fun h37 => absurd h37 hn1)
            refine pw_iconst (v := nI 0) 45 rfl dX12_sum_44 rfl ?_
            refine pw_istore_n 46 rfl dX12_sum_45 (by decide) ?_
            rotate_left
            exact go _ 45 (Or.inr ⟨rfl, rfl⟩) hc2
          · have hn2 : ¬ nI c = nI 45 := by rw [nI_eq (by omega) (by decide)]; exact hc2
            rw [if_neg (by omega)] at hn
            rw [← hn]
            refine pw_aload_n 7 rfl dX12_sum_6 rfl ?_
            refine pw_callVP (as := []) 10 rfl dX12_sum_7 mX12_124 vX12_fine (m_fine (d := d + D + 1) hf') (by first | rfl | assumption | exact rowS hh | exact mtS hm | exact ruS hr | exact mtA1 hm | exact mtA2 hm | exact mtA3 hm | exact mtA4 hm | exact mtA5 hm | exact mtA6 hm | exact mtA7 hm | exact ruA1 hr | exact ruA2 hr | exact ruA3 hr) rfl (by decide) ⟨rfl, by decide, by decide, show (parseMethodDescriptor yX12_fine.desc).map (fun d => d.parameters.length) = some 0 by decide +kernel⟩ (by omega) (by decide) (Nat.le_of_ble_eq_true rfl) rfl ?_
            refine pw_if_eq (tgt := 82) 13 rfl dX12_sum_10 rfl (fun h10 => absurd h10 (by rw [if_pos rfl]; decide)) (fun h10 => ?_)
            refine pw_aload_n 14 rfl dX12_sum_13 rfl ?_
            refine pw_callVP (as := []) 17 rfl dX12_sum_14 mX12_128 vX12_here (m_here (d := d + D + 1) hP') (by first | rfl | assumption | exact rowS hh | exact mtS hm | exact ruS hr | exact mtA1 hm | exact mtA2 hm | exact mtA3 hm | exact mtA4 hm | exact mtA5 hm | exact mtA6 hm | exact mtA7 hm | exact ruA1 hr | exact ruA2 hr | exact ruA3 hr) rfl (by decide) ⟨rfl, by decide, by decide, show (parseMethodDescriptor yX12_here.desc).map (fun d => d.parameters.length) = some 0 by decide +kernel⟩ (by omega) (by decide) (Nat.le_of_ble_eq_true rfl) rfl ?_
            refine pw_bipush (v := nI 43) 19 rfl dX12_sum_17 rfl ?_
            refine pw_icmp_eq (tgt := 31) 22 rfl dX12_sum_19 rfl (fun h19 => absurd h19 hn1) (fun h19 => ?_)
            refine pw_aload_n 23 rfl dX12_sum_22 rfl ?_
            refine pw_callVP (as := []) 26 rfl dX12_sum_23 mX12_128 vX12_here (m_here (d := d + D + 1) hP') (by first | rfl | assumption | exact rowS hh | exact mtS hm | exact ruS hr | exact mtA1 hm | exact mtA2 hm | exact mtA3 hm | exact mtA4 hm | exact mtA5 hm | exact mtA6 hm | exact mtA7 hm | exact ruA1 hr | exact ruA2 hr | exact ruA3 hr) rfl (by decide) ⟨rfl, by decide, by decide, show (parseMethodDescriptor yX12_here.desc).map (fun d => d.parameters.length) = some 0 by decide +kernel⟩ (by omega) (by decide) (Nat.le_of_ble_eq_true rfl) rfl ?_
            refine pw_bipush (v := nI 45) 28 rfl dX12_sum_26 rfl ?_
            refine pw_icmp_ne (tgt := 82) 31 rfl dX12_sum_28 rfl (fun h28 => ?_) (fun h28 => absurd h28 hn2)
            refine pw_iload_n 83 rfl dX12_sum_82 rfl ?_
            refine pw_iret dX12_sum_83 rfl ?_
            rotate_left
            exact ⟨⟨rfl, h11, hf', hs⟩, hfr, rfl, rfl⟩
  have cx := hX d hr nn L T rl cs r lt I J hP hl hf hL
  refine pw_aload_n 1 rfl dX12_sum_0 rfl ?_
  refine pw_iload_n 2 rfl dX12_sum_1 rfl ?_
  refine pw_callV (as := [_]) 5 rfl dX12_sum_2 mX12_160 vX12_product cx (by first | rfl | assumption | exact rowS hh | exact mtS hm | exact ruS hr | exact mtA1 hm | exact mtA2 hm | exact mtA3 hm | exact mtA4 hm | exact mtA5 hm | exact mtA6 hm | exact mtA7 hm | exact ruA1 hr | exact ruA2 hr | exact ruA3 hr) rfl (by decide) ⟨rfl, by decide, by decide, show (parseMethodDescriptor yX12_product.desc).map (fun d => d.parameters.length) = some 1 by decide +kernel⟩ (by omega) (by decide) (Nat.le_of_ble_eq_true rfl) rfl (fun r2 I2 J2 R2 c2 => ?_)
  rotate_left
  have hsx := hS r
  have hq : pLp X 43 45 r = (match X r with
    | .error e => .error e
    | .ok q => pLoop X 43 45 q.2.length q.1 q.2) := rfl
  revert c2 hsx hq
  rcases X r with e | ⟨f, r'⟩
  · rintro ⟨⟨⟨v, rfl⟩, p1, p2, p3⟩, p4, rfl, rfl⟩ - hq
    have hne := MP_ne hP e.length
    rw [show pLp X 43 45 r = .error e from hq]
    refine pw_istore_n 6 rfl dX12_sum_5 (by decide) ?_
    refine pw_aload_n 7 rfl dX12_sum_6 rfl ?_
    refine pw_callVP (as := []) 10 rfl dX12_sum_7 mX12_124 vX12_fine (m_fine (d := d + D + 1) p2) (by first | rfl | assumption | exact rowS hh | exact mtS hm | exact ruS hr | exact mtA1 hm | exact mtA2 hm | exact mtA3 hm | exact mtA4 hm | exact mtA5 hm | exact mtA6 hm | exact mtA7 hm | exact ruA1 hr | exact ruA2 hr | exact ruA3 hr) rfl (by decide) ⟨rfl, by decide, by decide, show (parseMethodDescriptor yX12_fine.desc).map (fun d => d.parameters.length) = some 0 by decide +kernel⟩ (by omega) (by decide) (Nat.le_of_ble_eq_true rfl) rfl ?_
    refine pw_if_eq (tgt := 82) 13 rfl dX12_sum_10 rfl (fun h10 => ?_) (fun h10 => absurd (by rw [if_neg hne]; rfl) h10)
    refine pw_iload_n 83 rfl dX12_sum_82 rfl ?_
    refine pw_iret dX12_sum_83 rfl ?_
    rotate_left
    exact mErr p1 p2 p3 p4
  · rintro ⟨⟨rfl, p1, p2, p3⟩, p4, rfl, rfl⟩ hsx hq
    have hlt : r'.length < r.length := hsx (f, r') rfl
    refine pw_istore_n 6 rfl dX12_sum_5 (by decide) ?_
    rotate_left
    exact Lo r'.length f r' I2 none none (Nat.le_refl _) (by omega) (hP.fr p4 p1 p3) p2 p4 hq.symm
theorem m_sum {D deep : Nat} {X : List Nat → Except (List Nat) (((Nat → Int32) → Int32) × List Nat)} (hX : mCt yX12_product cX12_product 5 (D + 1) deep X) (hS : Sf X) : mCt yX12_sum cX12_sum 5 (D + 2) deep (pLp X 43 45) := fun d hr nn L T rl cs r lt I J hP hl hf hL => m_sum0 hX hS hP hl hf hL
