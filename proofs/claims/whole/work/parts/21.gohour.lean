def hL (s b : Nat → Nat) : Nat → List Nat
  | 0 => []
  | k + 1 => if hC s b k then hL s b k ++ [k] else hL s b k
theorem hL_len (s b : Nat → Nat) : ∀ k, (hL s b k).length ≤ k
  | 0 => Nat.le_refl _
  | k + 1 => by
    rw [hL]
    have := hL_len s b k
    split
    · rw [List.length_append]; show _ + 1 ≤ _; omega
    · omega
/-- the reference's STEPS: E by the letters, whatever the row -/
def MSt (dd : Nat) (rl : Option Nat) (I : pI) (E : (Nat → Int32) → Nat) : Prop :=
  (∀ lt, E lt ≤ 3) ∧ ∀ (n : Nat) (pc b : Nat → Nat) (h q : Nat) (I1 : pI) (J1 : pJ) (rd1 : Option Nat), WF n pc b → (h = 1 ∨ h = 11) → q < n → MC I1 n pc → MB I1 h b → I1 0 16 = I 0 16 → (∀ j, I1 6 j = I 6 j) → (∀ j, I1 7 j = I 7 j) →
    PC SM dd yX12_stepsOf cX12_stepsOf 7 (some .int) [.ref 0, .ref h, .int (nI q)] I1 J1 (RM rd1 rl) (fun r' I' J' R' => r' = some (.int (nI (E (lett n pc b q)))) ∧ (∀ a j, a ≠ 8 → ¬ (a = 0 ∧ (j = 9 ∨ j = 10 ∨ j = 11 ∨ j = 12 ∨ j = 17)) → I' a j = I1 a j) ∧ J1 = J' ∧ ∃ rd', R' = RM rd' rl)
/-- what an hour of the row at h leaves alone -/
def mFr (h : Nat) (I I' : pI) : Prop := ∀ a j, a ≠ h → a ≠ 8 → a ≠ 12 → a ≠ 13 → ¬ (a = 0 ∧ (j = 9 ∨ j = 10 ∨ j = 11 ∨ j = 12 ∨ j = 17 ∨ j = 24)) → I' a j = I a j
theorem mFr.trans {h : Nat} {I I' I2 : pI} (h1 : mFr h I I') (h2 : mFr h I' I2) : mFr h I I2 := fun a j q1 q2 q3 q4 q5 => by rw [h2 a j q1 q2 q3 q4 q5, h1 a j q1 q2 q3 q4 q5]
theorem MC.fr {h n : Nat} {pc : Nat → Nat} {I I' : pI} (h1 : MC I n pc) (hf : mFr h I I') (hh : h = 1 ∨ h = 11) : MC I' n pc := ⟨h1.1, by rw [hf 0 1 (by omega) (by omega) (by omega) (by omega) (by omega)]; exact h1.2.1, fun k hk => by rw [hf 2 k (by omega) (by omega) (by omega) (by omega) (by omega)]; exact h1.2.2 k hk⟩
theorem MSt.fr {dd : Nat} {rl : Option Nat} {I I' : pI} {E : (Nat → Int32) → Nat} (h : MSt dd rl I E) (h1 : I' 0 16 = I 0 16) (h2 : ∀ j, I' 6 j = I 6 j) (h3 : ∀ j, I' 7 j = I 7 j) : MSt dd rl I' E :=
  ⟨h.1, fun n pc b h' q I1 J1 rd1 a1 a2 a3 a4 a5 a6 a7 a8 => h.2 n pc b h' q I1 J1 rd1 a1 a2 a3 a4 a5 (a6.trans h1) (fun j => (a7 j).trans (h2 j)) (fun j => (a8 j).trans (h3 j))⟩
def gInv (I : pI) (h n : Nat) (s b : Nat → Nat) (k2 : Nat) (fw : Nat → Nat) (ow dw : Nat) (dl : List Nat) (I' : pI) : Prop :=
  mFr h I I' ∧ (∀ q, q < 7 → I' h q = nI (if q < k2 then hH s b q else b q) ∧ I' h (7 + q) = nI (fw q) ∧ I' h (14 + q) = nI (if q < k2 then b (14 + q) - 1 else b (14 + q)) ∧ I' h (21 + q) = nI (b (21 + q))) ∧
  I' h 28 = nI (b 28) ∧ I' h 29 = nI ow ∧ I' h 30 = nI (b 30) ∧ I' h 31 = nI dw ∧ (∀ q, q < n → I' 12 q = nI (s q)) ∧ MD I' dl
theorem MB_of {I : pI} {h : Nat} {b : Nat → Nat} (h1 : ∀ q, q < 7 → I h q = nI (b q) ∧ I h (7 + q) = nI (b (7 + q)) ∧ I h (14 + q) = nI (b (14 + q)) ∧ I h (21 + q) = nI (b (21 + q))) (h2 : I h 28 = nI (b 28)) (h3 : I h 29 = nI (b 29)) (h4 : I h 30 = nI (b 30)) (h5 : I h 31 = nI (b 31)) : MB I h b := fun k hk => by
  by_cases c1 : k < 7
  · exact (h1 k c1).1
  by_cases c2 : k < 14
  · have := (h1 (k - 7) (by omega)).2.1
    rwa [show 7 + (k - 7) = k by omega] at this
  by_cases c3 : k < 21
  · have := (h1 (k - 14) (by omega)).2.2.1
    rwa [show 14 + (k - 14) = k by omega] at this
  by_cases c4 : k < 28
  · have := (h1 (k - 21) (by omega)).2.2.2
    rwa [show 21 + (k - 21) = k by omega] at this
  rcases (show k = 28 ∨ k = 29 ∨ k = 30 ∨ k = 31 by omega) with rfl | rfl | rfl | rfl
  · exact h2
  · exact h3
  · exact h4
  · exact h5
set_option maxRecDepth 100000 in
set_option maxHeartbeats 2000000 in
theorem m_goHour {h dd d n : Nat} {pc b : Nat → Nat} {E : (Nat → Int32) → Nat} {s : Nat → Nat} {dl : List Nat} {rd rl : Option Nat} (hse : s = sts n pc b E) (hh : h = 1 ∨ h = 11) {I : pI} {J : pJ} (hMC : MC I n pc) (hM : MB I h b) (hW : WF n pc b) (hE : MSt dd rl I E) (hdd : dd + 1 ≤ d + 2) (hMD : MD I dl) (hl : dl.length ≤ 900000000) : PC SM (d + 2) yX12_goHour cX12_goHour 3 none [.ref 0, .ref h] (I) (J) (RM rd rl) (fun r' I' J' R' => r' = none ∧ MB I' h (hrow n s b) ∧ mFr h I I' ∧ MD I' (dl ++ hL s b n) ∧ J = J' ∧ ∃ rd', R' = RM rd' rl) := by
  refine PC.of [some (.ref 0), some (.ref h), none] rfl rfl (Nat.le_of_ble_eq_true rfl) ?_
  obtain ⟨h7, hn, hP⟩ := id hMC
  obtain ⟨-, ⟨t1, t2⟩, hOw, hDn, hB⟩ := id hW
  have hs3 : ∀ q, s q ≤ 3 := fun q => by rw [hse]; unfold sts; split; exact hE.1 _; omega
  have hlL : ∀ k, (hL s b k).length ≤ k := hL_len s b
  have fin : ∀ (I' : pI) (x2 : Option Value) (rd' : Option Nat), gInv I h n s b n (fun q => if q < n then hY s b q else b (7 + q)) (hO s b n) (hD s b n) (dl ++ hL s b n) I' → PW SM yX12_goHour.cls cX12_goHour 3 (d + 2) 207 [some (.ref 0), some (.ref h), x2] [] (I') (J) (RM rd' rl) (rX cX12_goHour none (fun r' I' J' R' => r' = none ∧ MB I' h (hrow n s b) ∧ mFr h I I' ∧ MD I' (dl ++ hL s b n) ∧ J = J' ∧ ∃ rd', R' = RM rd' rl)) := by
    intro I' x2 rd' ⟨f1, f2, f3, f4, f5, f6, f7, f8⟩
    have hOo := hO_or (s := s) hOw n (Nat.le_refl n)
    have goal : ∀ (I2 : pI), (∀ a j, ¬ (a = h ∧ (j = 30 ∨ (21 ≤ j ∧ j < 28))) → I2 a j = I' a j) → I2 h 30 = nI (b 30 + 1) → (∀ q, q < 7 → I2 h (21 + q) = nI (if hO s b n = q then min 999 (b (21 + q) + 1) else b (21 + q))) →
        MB I2 h (hrow n s b) ∧ mFr h I I2 ∧ MD I2 (dl ++ hL s b n) := by
      intro I2 g1 g2 g3
      refine ⟨MB_of (fun q hq => ⟨?_, ?_, ?_, ?_⟩) ?_ ?_ ?_ ?_, fun a j q1 q2 q3 q4 q5 => ?_, ?_, f8.2.1, fun j x hj hx => ?_⟩
      · rw [g1 _ _ (by omega), (f2 q hq).1, hrow_h hq]
      · rw [g1 _ _ (by omega), (f2 q hq).2.1, hrow_w hq]
      · rw [g1 _ _ (by omega), (f2 q hq).2.2.1, hrow_u hq]
      · rw [g3 q hq, hrow_b hq]
      · rw [g1 _ _ (by omega)]; exact f3
      · rw [g1 _ _ (by omega)]; exact f4
      · exact g2
      · rw [g1 _ _ (by omega)]; exact f6
      · rw [g1 _ _ (by omega)]; exact f1 a j q1 q2 q3 q4 q5
      · rw [g1 _ _ (by omega)]; exact f8.1
      · rw [g1 _ _ (by omega)]; exact f8.2.2 j x hj hx
    refine pw_aload_n 208 rfl dX12_goHour_207 rfl ?_
    refine pw_bipush (v := nI 29) 210 rfl dX12_goHour_208 rfl ?_
    refine pw_ialdN 211 rfl dX12_goHour_210 (by first | rfl | assumption | exact rowS hh | exact mtS hm | exact ruS hr | exact mtA1 hm | exact mtA2 hm | exact mtA3 hm | exact mtA4 hm | exact mtA5 hm | exact mtA6 hm | exact mtA7 hm | exact ruA1 hr | exact ruA2 hr | exact ruA3 hr) (by omega) (by first | decide | omega) ?_
    refine pw_istore_n 212 rfl dX12_goHour_211 (by decide) ?_
    rotate_left
    rw [f4]
    rcases hOo with ho | ho
    · have hb := hB _ (show hO s b n < 7 by omega)
      refine pw_iload_n 213 rfl dX12_goHour_212 rfl ?_
      refine pw_bipush (v := nI 7) 215 rfl dX12_goHour_213 rfl ?_
      refine pw_icmp_eq (tgt := 238) 218 rfl dX12_goHour_215 rfl (fun h215 => absurd h215 (by (simp (disch := omega) only [nI_leI, nI_ltI, nI_eq, show (0 : Int32) = nI 0 from rfl, not_true_eq_false, not_false_eq_true] <;> omega))) (fun h215 => ?_)
      refine pw_aload_n 219 rfl dX12_goHour_218 rfl ?_
      refine pw_bipush (v := nI 21) 221 rfl dX12_goHour_219 rfl ?_
      refine pw_iload_n 222 rfl dX12_goHour_221 rfl ?_
      first | refine pw_iaddN 223 rfl dX12_goHour_222 ?_ | refine pw_iadd 223 rfl dX12_goHour_222 ?_
      refine pw_sipush (v := nI 999) 226 rfl dX12_goHour_223 rfl ?_
      refine pw_aload_n 227 rfl dX12_goHour_226 rfl ?_
      refine pw_bipush (v := nI 21) 229 rfl dX12_goHour_227 rfl ?_
      refine pw_iload_n 230 rfl dX12_goHour_229 rfl ?_
      first | refine pw_iaddN 231 rfl dX12_goHour_230 ?_ | refine pw_iadd 231 rfl dX12_goHour_230 ?_
      refine pw_ialdN 232 rfl dX12_goHour_231 (by first | rfl | assumption | exact rowS hh | exact mtS hm | exact ruS hr | exact mtA1 hm | exact mtA2 hm | exact mtA3 hm | exact mtA4 hm | exact mtA5 hm | exact mtA6 hm | exact mtA7 hm | exact ruA1 hr | exact ruA2 hr | exact ruA3 hr) (by omega) (by first | decide | omega) ?_
      refine pw_iconst (v := nI 1) 233 rfl dX12_goHour_232 rfl ?_
      rotate_left
      rw [(f2 _ (show hO s b n < 7 by omega)).2.2.2]
      first | refine pw_iaddN 234 rfl dX12_goHour_233 ?_ | refine pw_iadd 234 rfl dX12_goHour_233 ?_
      refine pw_mmin 237 rfl dX12_goHour_234 mX12_189 (Nat.le_of_ble_eq_true rfl) ?_
      rotate_left
      rw [nI_min (by omega) (by omega)]
      refine pw_iastN 238 rfl dX12_goHour_237 (by first | rfl | assumption | exact rowS hh | exact mtS hm | exact ruS hr | exact mtA1 hm | exact mtA2 hm | exact mtA3 hm | exact mtA4 hm | exact mtA5 hm | exact mtA6 hm | exact mtA7 hm | exact ruA1 hr | exact ruA2 hr | exact ruA3 hr) (by omega) (by first | decide | omega) ?_
      refine pw_aload_n 239 rfl dX12_goHour_238 rfl ?_
      refine pw_bipush (v := nI 30) 241 rfl dX12_goHour_239 rfl ?_
      refine pw_dup2 242 rfl dX12_goHour_241 rfl rfl ?_
      refine pw_ialdN 243 rfl dX12_goHour_242 (by first | rfl | assumption | exact rowS hh | exact mtS hm | exact ruS hr | exact mtA1 hm | exact mtA2 hm | exact mtA3 hm | exact mtA4 hm | exact mtA5 hm | exact mtA6 hm | exact mtA7 hm | exact ruA1 hr | exact ruA2 hr | exact ruA3 hr) (by omega) (by first | decide | omega) ?_
      refine pw_iconst (v := nI 1) 244 rfl dX12_goHour_243 rfl ?_
      rotate_left
      rw [uI_ne (by omega), f5]
      first | refine pw_iaddN 245 rfl dX12_goHour_244 ?_ | refine pw_iadd 245 rfl dX12_goHour_244 ?_
      refine pw_iastN 246 rfl dX12_goHour_245 (by first | rfl | assumption | exact rowS hh | exact mtS hm | exact ruS hr | exact mtA1 hm | exact mtA2 hm | exact mtA3 hm | exact mtA4 hm | exact mtA5 hm | exact mtA6 hm | exact mtA7 hm | exact ruA1 hr | exact ruA2 hr | exact ruA3 hr) (by omega) (by first | decide | omega) ?_
      refine pw_vret dX12_goHour_246 ?_
      rotate_left
      obtain ⟨e1, e2, e3⟩ := goal (uI (uI I' h (21 + hO s b n) (nI (min 999 (b (21 + hO s b n) + 1)))) h 30 (nI (b 30 + 1))) (fun a j h1 => by rw [uI_ne (by omega), uI_ne (by omega)]) (uI_eq _ _ _ _) (fun q hq => by
        rw [uI_ne (by omega)]
        by_cases e : hO s b n = q
        · rw [if_pos e, ← e, uI_eq]
        · rw [uI_ne (by omega), if_neg e]; exact (f2 q hq).2.2.2)
      exact ⟨rfl, e1, e2, e3, rfl, rd', rfl⟩
    · rw [ho]
      refine pw_iload_n 213 rfl dX12_goHour_212 rfl ?_
      refine pw_bipush (v := nI 7) 215 rfl dX12_goHour_213 rfl ?_
      refine pw_icmp_eq (tgt := 238) 218 rfl dX12_goHour_215 rfl (fun h215 => ?_) (fun h215 => absurd rfl h215)
      refine pw_aload_n 239 rfl dX12_goHour_238 rfl ?_
      refine pw_bipush (v := nI 30) 241 rfl dX12_goHour_239 rfl ?_
      refine pw_dup2 242 rfl dX12_goHour_241 rfl rfl ?_
      refine pw_ialdN 243 rfl dX12_goHour_242 (by first | rfl | assumption | exact rowS hh | exact mtS hm | exact ruS hr | exact mtA1 hm | exact mtA2 hm | exact mtA3 hm | exact mtA4 hm | exact mtA5 hm | exact mtA6 hm | exact mtA7 hm | exact ruA1 hr | exact ruA2 hr | exact ruA3 hr) (by omega) (by first | decide | omega) ?_
      refine pw_iconst (v := nI 1) 244 rfl dX12_goHour_243 rfl ?_
      rotate_left
      rw [f5]
      first | refine pw_iaddN 245 rfl dX12_goHour_244 ?_ | refine pw_iadd 245 rfl dX12_goHour_244 ?_
      refine pw_iastN 246 rfl dX12_goHour_245 (by first | rfl | assumption | exact rowS hh | exact mtS hm | exact ruS hr | exact mtA1 hm | exact mtA2 hm | exact mtA3 hm | exact mtA4 hm | exact mtA5 hm | exact mtA6 hm | exact mtA7 hm | exact ruA1 hr | exact ruA2 hr | exact ruA3 hr) (by omega) (by first | decide | omega) ?_
      refine pw_vret dX12_goHour_246 ?_
      rotate_left
      obtain ⟨e1, e2, e3⟩ := goal (uI I' h 30 (nI (b 30 + 1))) (fun a j h1 => by rw [uI_ne (by omega)]) (uI_eq _ _ _ _) (fun q hq => by
        rw [uI_ne (by omega), if_neg (by omega)]; exact (f2 q hq).2.2.2)
      exact ⟨rfl, e1, e2, e3, rfl, rd', rfl⟩
  have loop3 : ∀ (I' : pI) (rd' : Option Nat), gInv I h n s b n (fun q => if q < n then hV s b q else b (7 + q)) (b 29) (b 31) dl I' → PW SM yX12_goHour.cls cX12_goHour 3 (d + 2) 171 [some (.ref 0), some (.ref h), some (.int (nI 0))] [] (I') (J) (RM rd' rl) (rX cX12_goHour none (fun r' I' J' R' => r' = none ∧ MB I' h (hrow n s b) ∧ mFr h I I' ∧ MD I' (dl ++ hL s b n) ∧ J = J' ∧ ∃ rd', R' = RM rd' rl)) := by
    have L := nat_loop n (fun k => ∀ (I' : pI) (rd' : Option Nat), gInv I h n s b n (fun q => if q < k then hY s b q else if q < n then hV s b q else b (7 + q)) (hO s b k) (hD s b k) (dl ++ hL s b k) I' → PW SM yX12_goHour.cls cX12_goHour 3 (d + 2) 171 [some (.ref 0), some (.ref h), some (.int (nI k))] [] (I') (J) (RM rd' rl) (rX cX12_goHour none (fun r' I' J' R' => r' = none ∧ MB I' h (hrow n s b) ∧ mFr h I I' ∧ MD I' (dl ++ hL s b n) ∧ J = J' ∧ ∃ rd', R' = RM rd' rl))) ?_ ?_
    · intro I' rd' g
      refine L I' rd' ?_
      rw [show dl ++ hL s b 0 = dl from List.append_nil _]
      exact g
    · intro I' rd' g
      have hn' : I' 0 1 = nI n := by rw [g.1 0 1 (by omega) (by omega) (by omega) (by omega) (by omega)]; exact hn
      refine pw_iload_n 172 rfl dX12_goHour_171 rfl ?_
      refine pw_aload_n 173 rfl dX12_goHour_172 rfl ?_
      refine pw_getI 176 rfl dX12_goHour_173 fX12_95 (by first | rfl | assumption | exact rowS hh | exact mtS hm | exact ruS hr | exact mtA1 hm | exact mtA2 hm | exact mtA3 hm | exact mtA4 hm | exact mtA5 hm | exact mtA6 hm | exact mtA7 hm | exact ruA1 hr | exact ruA2 hr | exact ruA3 hr) rfl ?_
      refine pw_icmp_ge (tgt := 207) 179 rfl dX12_goHour_176 rfl (fun h176 => ?_) (fun h176 => absurd (by rw [hn']; (simp (disch := omega) only [nI_leI, nI_ltI, nI_eq, show (0 : Int32) = nI 0 from rfl, not_true_eq_false, not_false_eq_true] <;> omega)) h176)
      rotate_left
      refine fin I' _ rd' ⟨g.1, fun q hq => ⟨(g.2.1 q hq).1, ?_, (g.2.1 q hq).2.2⟩, g.2.2⟩
      rw [(g.2.1 q hq).2.1]
      show nI (if q < n then hY s b q else if q < n then hV s b q else b (7 + q)) = nI (if q < n then hY s b q else b (7 + q))
      by_cases e : q < n
      · rw [if_pos e, if_pos e]
      · rw [if_neg e, if_neg e, if_neg e]
    · intro k hk ih I' rd' ⟨f1, f2, f3, f4, f5, f6, f7, f8⟩
      have hn' : I' 0 1 = nI n := by rw [f1 0 1 (by omega) (by omega) (by omega) (by omega) (by omega)]; exact hn
      have l1 := hH_le (s := s) hW (show k < 7 by omega)
      have l2 := hV_le (s := s) hW (show k < 7 by omega)
      have eH : I' h k = nI (hH s b k) := by rw [(f2 k (by omega)).1, if_pos hk]
      have eV : I' h (7 + k) = nI (hV s b k) := by
        rw [(f2 k (by omega)).2.1]
        show nI (if k < k then hY s b k else if k < n then hV s b k else b (7 + k)) = _
        rw [if_neg (by omega), if_pos hk]
      have no : hC s b k = false → gInv I h n s b n (fun q => if q < k + 1 then hY s b q else if q < n then hV s b q else b (7 + q)) (hO s b (k + 1)) (hD s b (k + 1)) (dl ++ hL s b (k + 1)) I' := by
        intro hc
        refine ⟨f1, fun q hq => ⟨(f2 q hq).1, ?_, (f2 q hq).2.2⟩, f3, ?_, f5, ?_, f7, ?_⟩
        · rw [(f2 q hq).2.1]
          show nI (if q < k then hY s b q else if q < n then hV s b q else b (7 + q)) = nI (if q < k + 1 then hY s b q else if q < n then hV s b q else b (7 + q))
          by_cases e1 : q < k
          · rw [if_pos e1, if_pos (by omega)]
          · by_cases e2 : q = k
            · subst e2
              rw [if_neg e1, if_pos hk, if_pos (by omega), hY, hc]; rfl
            · rw [if_neg e1, if_neg (show ¬ q < k + 1 by omega)]
        · rw [f4, hO, hc]; rfl
        · rw [f6, hD, hc]; rfl
        · rw [hL, hc]; exact f8
      by_cases h2 : hV s b k = 2
      · by_cases h0 : hH s b k = 0
        · have hc : hC s b k = true := by rw [hC, decide_eq_true_eq]; exact ⟨h2, h0⟩
          have hLk := hlL k
          refine pw_iload_n 172 rfl dX12_goHour_171 rfl ?_
          refine pw_aload_n 173 rfl dX12_goHour_172 rfl ?_
          refine pw_getI 176 rfl dX12_goHour_173 fX12_95 (by first | rfl | assumption | exact rowS hh | exact mtS hm | exact ruS hr | exact mtA1 hm | exact mtA2 hm | exact mtA3 hm | exact mtA4 hm | exact mtA5 hm | exact mtA6 hm | exact mtA7 hm | exact ruA1 hr | exact ruA2 hr | exact ruA3 hr) rfl ?_
          refine pw_icmp_ge (tgt := 207) 179 rfl dX12_goHour_176 rfl (fun h176 => absurd h176 (by rw [hn']; (simp (disch := omega) only [nI_leI, nI_ltI, nI_eq, show (0 : Int32) = nI 0 from rfl, not_true_eq_false, not_false_eq_true] <;> omega))) (fun h176 => ?_)
          refine pw_aload_n 180 rfl dX12_goHour_179 rfl ?_
          refine pw_bipush (v := nI 7) 182 rfl dX12_goHour_180 rfl ?_
          refine pw_iload_n 183 rfl dX12_goHour_182 rfl ?_
          first | refine pw_iaddN 184 rfl dX12_goHour_183 ?_ | refine pw_iadd 184 rfl dX12_goHour_183 ?_
          refine pw_ialdN 185 rfl dX12_goHour_184 (by first | rfl | assumption | exact rowS hh | exact mtS hm | exact ruS hr | exact mtA1 hm | exact mtA2 hm | exact mtA3 hm | exact mtA4 hm | exact mtA5 hm | exact mtA6 hm | exact mtA7 hm | exact ruA1 hr | exact ruA2 hr | exact ruA3 hr) (by omega) (by first | decide | omega) ?_
          refine pw_iconst (v := nI 2) 186 rfl dX12_goHour_185 rfl ?_
          refine pw_icmp_ne (tgt := 201) 189 rfl dX12_goHour_186 rfl (fun h186 => absurd (by rw [eV, h2]) h186) (fun h186 => ?_)
          refine pw_aload_n 190 rfl dX12_goHour_189 rfl ?_
          refine pw_iload_n 191 rfl dX12_goHour_190 rfl ?_
          refine pw_ialdN 192 rfl dX12_goHour_191 (by first | rfl | assumption | exact rowS hh | exact mtS hm | exact ruS hr | exact mtA1 hm | exact mtA2 hm | exact mtA3 hm | exact mtA4 hm | exact mtA5 hm | exact mtA6 hm | exact mtA7 hm | exact ruA1 hr | exact ruA2 hr | exact ruA3 hr) (by omega) (by first | decide | omega) ?_
          refine pw_if_ne (tgt := 201) 195 rfl dX12_goHour_192 rfl (fun h192 => absurd (by rw [eH, h0]; rfl) h192) (fun h192 => ?_)
          refine pw_aload_n 196 rfl dX12_goHour_195 rfl ?_
          refine pw_aload_n 197 rfl dX12_goHour_196 rfl ?_
          refine pw_iload_n 198 rfl dX12_goHour_197 rfl ?_
          refine pw_callV (as := [_, _]) 201 rfl dX12_goHour_198 mX12_226 vX12_comeDown (m_comeDown (d := d) hh (show k < 7 by omega) f6 (hD_le hDn k) f8 (by rw [List.length_append]; omega)) (by first | rfl | assumption | exact rowS hh | exact mtS hm | exact ruS hr | exact mtA1 hm | exact mtA2 hm | exact mtA3 hm | exact mtA4 hm | exact mtA5 hm | exact mtA6 hm | exact mtA7 hm | exact ruA1 hr | exact ruA2 hr | exact ruA3 hr) rfl (by decide) ⟨rfl, by decide, by decide, show (parseMethodDescriptor yX12_comeDown.desc).map (fun d => d.parameters.length) = some 2 by decide +kernel⟩ (by omega) (by decide) (Nat.le_of_ble_eq_true rfl) rfl (fun r198 I198 J198 R198 c198 => ?_)
          rotate_left
          obtain ⟨rfl, c1, c2, c3, c4, c5, rfl, rfl⟩ := c198
          refine pw_iincN 204 rfl dX12_goHour_201 (by decide) rfl ?_
          refine pw_goto (tgt := 171) dX12_goHour_204 rfl ?_
          rotate_left
          refine ih I198 rd' ⟨fun a j q1 q2 q3 q4 q5 => ?_, fun q hq => ⟨?_, ?_, ?_, ?_⟩, ?_, ?_, ?_, ?_, fun q hq => ?_, ?_⟩
          · rw [c1 _ _ (by omega) (by omega) (by omega)]; exact f1 a j q1 q2 q3 q4 q5
          · rw [c1 _ _ (by omega) (by omega) (by omega)]; exact (f2 q hq).1
          · show I198 h (7 + q) = nI (if q < k + 1 then hY s b q else if q < n then hV s b q else b (7 + q))
            by_cases e2 : q = k
            · subst e2
              rw [c2, if_pos (by omega), hY, hc]; rfl
            · rw [c1 _ _ (by omega) (by omega) (by omega), (f2 q hq).2.1]
              show nI (if q < k then hY s b q else if q < n then hV s b q else b (7 + q)) = _
              by_cases e1 : q < k
              · rw [if_pos e1, if_pos (by omega)]
              · rw [if_neg e1, if_neg (show ¬ q < k + 1 by omega)]
          · rw [c1 _ _ (by omega) (by omega) (by omega)]; exact (f2 q hq).2.2.1
          · rw [c1 _ _ (by omega) (by omega) (by omega)]; exact (f2 q hq).2.2.2
          · rw [c1 _ _ (by omega) (by omega) (by omega)]; exact f3
          · rw [c3, hO, hc]; rfl
          · rw [c1 _ _ (by omega) (by omega) (by omega)]; exact f5
          · rw [c4, hD, hc]; rfl
          · rw [c1 _ _ (by omega) (by omega) (by omega)]; exact f7 q hq
          · rw [hL, hc, if_pos rfl, ← List.append_assoc]; exact c5
        · have hc : hC s b k = false := by rw [hC, decide_eq_false_iff_not]; exact fun z => h0 z.2
          refine pw_iload_n 172 rfl dX12_goHour_171 rfl ?_
          refine pw_aload_n 173 rfl dX12_goHour_172 rfl ?_
          refine pw_getI 176 rfl dX12_goHour_173 fX12_95 (by first | rfl | assumption | exact rowS hh | exact mtS hm | exact ruS hr | exact mtA1 hm | exact mtA2 hm | exact mtA3 hm | exact mtA4 hm | exact mtA5 hm | exact mtA6 hm | exact mtA7 hm | exact ruA1 hr | exact ruA2 hr | exact ruA3 hr) rfl ?_
          refine pw_icmp_ge (tgt := 207) 179 rfl dX12_goHour_176 rfl (fun h176 => absurd h176 (by rw [hn']; (simp (disch := omega) only [nI_leI, nI_ltI, nI_eq, show (0 : Int32) = nI 0 from rfl, not_true_eq_false, not_false_eq_true] <;> omega))) (fun h176 => ?_)
          refine pw_aload_n 180 rfl dX12_goHour_179 rfl ?_
          refine pw_bipush (v := nI 7) 182 rfl dX12_goHour_180 rfl ?_
          refine pw_iload_n 183 rfl dX12_goHour_182 rfl ?_
          first | refine pw_iaddN 184 rfl dX12_goHour_183 ?_ | refine pw_iadd 184 rfl dX12_goHour_183 ?_
          refine pw_ialdN 185 rfl dX12_goHour_184 (by first | rfl | assumption | exact rowS hh | exact mtS hm | exact ruS hr | exact mtA1 hm | exact mtA2 hm | exact mtA3 hm | exact mtA4 hm | exact mtA5 hm | exact mtA6 hm | exact mtA7 hm | exact ruA1 hr | exact ruA2 hr | exact ruA3 hr) (by omega) (by first | decide | omega) ?_
          refine pw_iconst (v := nI 2) 186 rfl dX12_goHour_185 rfl ?_
          refine pw_icmp_ne (tgt := 201) 189 rfl dX12_goHour_186 rfl (fun h186 => absurd (by rw [eV, h2]) h186) (fun h186 => ?_)
          refine pw_aload_n 190 rfl dX12_goHour_189 rfl ?_
          refine pw_iload_n 191 rfl dX12_goHour_190 rfl ?_
          refine pw_ialdN 192 rfl dX12_goHour_191 (by first | rfl | assumption | exact rowS hh | exact mtS hm | exact ruS hr | exact mtA1 hm | exact mtA2 hm | exact mtA3 hm | exact mtA4 hm | exact mtA5 hm | exact mtA6 hm | exact mtA7 hm | exact ruA1 hr | exact ruA2 hr | exact ruA3 hr) (by omega) (by first | decide | omega) ?_
          refine pw_if_ne (tgt := 201) 195 rfl dX12_goHour_192 rfl (fun h192 => ?_) (fun h192 => absurd h192 (by rw [eH]; exact nI_ne0 (by omega) (by omega)))
          refine pw_iincN 204 rfl dX12_goHour_201 (by decide) rfl ?_
          refine pw_goto (tgt := 171) dX12_goHour_204 rfl ?_
          rotate_left
          exact ih I' rd' (no hc)
      · have hc : hC s b k = false := by rw [hC, decide_eq_false_iff_not]; exact fun z => h2 z.1
        refine pw_iload_n 172 rfl dX12_goHour_171 rfl ?_
        refine pw_aload_n 173 rfl dX12_goHour_172 rfl ?_
        refine pw_getI 176 rfl dX12_goHour_173 fX12_95 (by first | rfl | assumption | exact rowS hh | exact mtS hm | exact ruS hr | exact mtA1 hm | exact mtA2 hm | exact mtA3 hm | exact mtA4 hm | exact mtA5 hm | exact mtA6 hm | exact mtA7 hm | exact ruA1 hr | exact ruA2 hr | exact ruA3 hr) rfl ?_
        refine pw_icmp_ge (tgt := 207) 179 rfl dX12_goHour_176 rfl (fun h176 => absurd h176 (by rw [hn']; (simp (disch := omega) only [nI_leI, nI_ltI, nI_eq, show (0 : Int32) = nI 0 from rfl, not_true_eq_false, not_false_eq_true] <;> omega))) (fun h176 => ?_)
        refine pw_aload_n 180 rfl dX12_goHour_179 rfl ?_
        refine pw_bipush (v := nI 7) 182 rfl dX12_goHour_180 rfl ?_
        refine pw_iload_n 183 rfl dX12_goHour_182 rfl ?_
        first | refine pw_iaddN 184 rfl dX12_goHour_183 ?_ | refine pw_iadd 184 rfl dX12_goHour_183 ?_
        refine pw_ialdN 185 rfl dX12_goHour_184 (by first | rfl | assumption | exact rowS hh | exact mtS hm | exact ruS hr | exact mtA1 hm | exact mtA2 hm | exact mtA3 hm | exact mtA4 hm | exact mtA5 hm | exact mtA6 hm | exact mtA7 hm | exact ruA1 hr | exact ruA2 hr | exact ruA3 hr) (by omega) (by first | decide | omega) ?_
        refine pw_iconst (v := nI 2) 186 rfl dX12_goHour_185 rfl ?_
        refine pw_icmp_ne (tgt := 201) 189 rfl dX12_goHour_186 rfl (fun h186 => ?_) (fun h186 => absurd h186 (by rw [eV, nI_eq (by omega) (by decide)]; exact h2))
        refine pw_iincN 204 rfl dX12_goHour_201 (by decide) rfl ?_
        refine pw_goto (tgt := 171) dX12_goHour_204 rfl ?_
        rotate_left
        exact ih I' rd' (no hc)
  have loop2 : ∀ (I' : pI) (rd' : Option Nat), gInv I h n s b 0 (fun q => b (7 + q)) (b 29) (b 31) dl I' → PW SM yX12_goHour.cls cX12_goHour 3 (d + 2) 52 [some (.ref 0), some (.ref h), some (.int (nI 0))] [] (I') (J) (RM rd' rl) (rX cX12_goHour none (fun r' I' J' R' => r' = none ∧ MB I' h (hrow n s b) ∧ mFr h I I' ∧ MD I' (dl ++ hL s b n) ∧ J = J' ∧ ∃ rd', R' = RM rd' rl)) := by
    have L := nat_loop n (fun k => ∀ (I' : pI) (rd' : Option Nat), gInv I h n s b k (fun q => if q < k then hV s b q else b (7 + q)) (b 29) (b 31) dl I' → PW SM yX12_goHour.cls cX12_goHour 3 (d + 2) 52 [some (.ref 0), some (.ref h), some (.int (nI k))] [] (I') (J) (RM rd' rl) (rX cX12_goHour none (fun r' I' J' R' => r' = none ∧ MB I' h (hrow n s b) ∧ mFr h I I' ∧ MD I' (dl ++ hL s b n) ∧ J = J' ∧ ∃ rd', R' = RM rd' rl))) ?_ ?_
    · exact fun I' rd' g => L I' rd' g
    · intro I' rd' g
      have hn' : I' 0 1 = nI n := by rw [g.1 0 1 (by omega) (by omega) (by omega) (by omega) (by omega)]; exact hn
      refine pw_iload_n 53 rfl dX12_goHour_52 rfl ?_
      refine pw_aload_n 54 rfl dX12_goHour_53 rfl ?_
      refine pw_getI 57 rfl dX12_goHour_54 fX12_95 (by first | rfl | assumption | exact rowS hh | exact mtS hm | exact ruS hr | exact mtA1 hm | exact mtA2 hm | exact mtA3 hm | exact mtA4 hm | exact mtA5 hm | exact mtA6 hm | exact mtA7 hm | exact ruA1 hr | exact ruA2 hr | exact ruA3 hr) rfl ?_
      refine pw_icmp_ge (tgt := 169) 60 rfl dX12_goHour_57 rfl (fun h57 => ?_) (fun h57 => absurd (by rw [hn']; (simp (disch := omega) only [nI_leI, nI_ltI, nI_eq, show (0 : Int32) = nI 0 from rfl, not_true_eq_false, not_false_eq_true] <;> omega)) h57)
      refine pw_iconst (v := nI 0) 170 rfl dX12_goHour_169 rfl ?_
      refine pw_istore_n 171 rfl dX12_goHour_170 (by decide) ?_
      rotate_left
      exact loop3 I' rd' g
    · intro k hk ih I' rd' ⟨f1, f2, f3, f4, f5, f6, f7, f8⟩
      have hn' : I' 0 1 = nI n := by rw [f1 0 1 (by omega) (by omega) (by omega) (by omega) (by omega)]; exact hn
      have hb := hB k (by omega)
      have l1 := hH_le (s := s) hW (show k < 7 by omega)
      have l3 := hs3 k
      have eH : I' h k = nI (b k) := by rw [(f2 k (by omega)).1, if_neg (by omega)]
      have eW : I' h (7 + k) = nI (b (7 + k)) := by
        rw [(f2 k (by omega)).2.1]
        show nI (if k < k then hV s b k else b (7 + k)) = _
        rw [if_neg (by omega)]
      have eU : I' h (14 + k) = nI (b (14 + k)) := by rw [(f2 k (by omega)).2.2.1, if_neg (by omega)]
      have inv : ∀ (I2 : pI), (∀ a j, ¬ (a = h ∧ (j = k ∨ j = 7 + k ∨ j = 14 + k)) → I2 a j = I' a j) → I2 h k = nI (hH s b k) → I2 h (7 + k) = nI (hV s b k) → I2 h (14 + k) = nI (b (14 + k) - 1) → gInv I h n s b (k + 1) (fun q => if q < k + 1 then hV s b q else b (7 + q)) (b 29) (b 31) dl I2 := by
        intro I2 g1 g2 g3 g4
        refine ⟨fun a j q1 q2 q3 q4 q5 => ?_, fun q hq => ?_, ?_, ?_, ?_, ?_, fun q hq => ?_, ?_, f8.2.1, fun j x hj hx => ?_⟩
        · rw [g1 _ _ (by omega)]; exact f1 a j q1 q2 q3 q4 q5
        · show _ ∧ I2 h (7 + q) = nI (if q < k + 1 then hV s b q else b (7 + q)) ∧ _
          by_cases e : q = k
          · subst e
            rw [if_pos (by omega), if_pos (by omega), if_pos (by omega)]
            exact ⟨g2, g3, g4, by rw [g1 _ _ (by omega)]; exact (f2 q hq).2.2.2⟩
          · obtain ⟨v1, v2, v3, v4⟩ := f2 q hq
            have v2' : I' h (7 + q) = nI (if q < k then hV s b q else b (7 + q)) := v2
            rw [g1 _ _ (by omega), g1 _ _ (by omega), g1 _ _ (by omega), g1 _ _ (by omega), v1, v2', v3, v4]
            by_cases e1 : q < k
            · rw [if_pos e1, if_pos e1, if_pos e1, if_pos (by omega), if_pos (by omega), if_pos (by omega)]; exact ⟨rfl, rfl, rfl, rfl⟩
            · rw [if_neg e1, if_neg e1, if_neg e1, if_neg (by omega), if_neg (by omega), if_neg (by omega)]; exact ⟨rfl, rfl, rfl, rfl⟩
        · rw [g1 _ _ (by omega)]; exact f3
        · rw [g1 _ _ (by omega)]; exact f4
        · rw [g1 _ _ (by omega)]; exact f5
        · rw [g1 _ _ (by omega)]; exact f6
        · rw [g1 _ _ (by omega)]; exact f7 q hq
        · rw [g1 _ _ (by omega)]; exact f8.1
        · rw [g1 _ _ (by omega)]; exact f8.2.2 j x hj hx
      have tail : ∀ (I1 : pI), (∀ a j, ¬ (a = h ∧ j = 14 + k) → I1 a j = I' a j) → I1 h (14 + k) = nI (b (14 + k) - 1) → PW SM yX12_goHour.cls cX12_goHour 3 (d + 2) 79 [some (.ref 0), some (.ref h), some (.int (nI k))] [] (I1) (J) (RM rd' rl) (rX cX12_goHour none (fun r' I' J' R' => r' = none ∧ MB I' h (hrow n s b) ∧ mFr h I I' ∧ MD I' (dl ++ hL s b n) ∧ J = J' ∧ ∃ rd', R' = RM rd' rl)) := by
        intro I1 g1 g2
        have uH : I1 h k = nI (b k) := by rw [g1 _ _ (by omega)]; exact eH
        have uW : I1 h (7 + k) = nI (b (7 + k)) := by rw [g1 _ _ (by omega)]; exact eW
        have uS : I1 12 k = nI (s k) := by rw [g1 _ _ (by omega)]; exact f7 k hk
        have uT : I1 h 28 = nI (b 28) := by rw [g1 _ _ (by omega)]; exact f3
        by_cases c1 : b (7 + k) = 1
        · have eh : hH s b k = min (b 28) (b k + s k) := if_pos c1
          refine pw_aload_n 80 rfl dX12_goHour_79 rfl ?_
          refine pw_bipush (v := nI 7) 82 rfl dX12_goHour_80 rfl ?_
          refine pw_iload_n 83 rfl dX12_goHour_82 rfl ?_
          first | refine pw_iaddN 84 rfl dX12_goHour_83 ?_ | refine pw_iadd 84 rfl dX12_goHour_83 ?_
          refine pw_ialdN 85 rfl dX12_goHour_84 (by first | rfl | assumption | exact rowS hh | exact mtS hm | exact ruS hr | exact mtA1 hm | exact mtA2 hm | exact mtA3 hm | exact mtA4 hm | exact mtA5 hm | exact mtA6 hm | exact mtA7 hm | exact ruA1 hr | exact ruA2 hr | exact ruA3 hr) (by omega) (by first | decide | omega) ?_
          refine pw_iconst (v := nI 1) 86 rfl dX12_goHour_85 rfl ?_
          refine pw_icmp_ne (tgt := 109) 89 rfl dX12_goHour_86 rfl (fun h86 => absurd (by rw [uW, c1]) h86) (fun h86 => ?_)
          refine pw_aload_n 90 rfl dX12_goHour_89 rfl ?_
          refine pw_iload_n 91 rfl dX12_goHour_90 rfl ?_
          refine pw_aload_n 92 rfl dX12_goHour_91 rfl ?_
          refine pw_bipush (v := nI 28) 94 rfl dX12_goHour_92 rfl ?_
          refine pw_ialdN 95 rfl dX12_goHour_94 (by first | rfl | assumption | exact rowS hh | exact mtS hm | exact ruS hr | exact mtA1 hm | exact mtA2 hm | exact mtA3 hm | exact mtA4 hm | exact mtA5 hm | exact mtA6 hm | exact mtA7 hm | exact ruA1 hr | exact ruA2 hr | exact ruA3 hr) (by omega) (by first | decide | omega) ?_
          refine pw_aload_n 96 rfl dX12_goHour_95 rfl ?_
          refine pw_iload_n 97 rfl dX12_goHour_96 rfl ?_
          refine pw_ialdN 98 rfl dX12_goHour_97 (by first | rfl | assumption | exact rowS hh | exact mtS hm | exact ruS hr | exact mtA1 hm | exact mtA2 hm | exact mtA3 hm | exact mtA4 hm | exact mtA5 hm | exact mtA6 hm | exact mtA7 hm | exact ruA1 hr | exact ruA2 hr | exact ruA3 hr) (by omega) (by first | decide | omega) ?_
          refine pw_aload_n 99 rfl dX12_goHour_98 rfl ?_
          refine pw_getR 102 rfl dX12_goHour_99 fX12_45 (by first | rfl | assumption | exact rowS hh | exact mtS hm | exact ruS hr | exact mtA1 hm | exact mtA2 hm | exact mtA3 hm | exact mtA4 hm | exact mtA5 hm | exact mtA6 hm | exact mtA7 hm | exact ruA1 hr | exact ruA2 hr | exact ruA3 hr) rfl (by first | rfl | assumption | exact mtR0 hm | exact mtR1 hm | exact mtR2 hm | exact mtR3 hm | exact mtR4 hm | exact mtR5 hm | exact mtR6 hm | exact ruR0 hr | exact ruR1 hr | exact ruR3 hr) ?_
          refine pw_iload_n 103 rfl dX12_goHour_102 rfl ?_
          refine pw_ialdN 104 rfl dX12_goHour_103 (by first | rfl | assumption | exact rowS hh | exact mtS hm | exact ruS hr | exact mtA1 hm | exact mtA2 hm | exact mtA3 hm | exact mtA4 hm | exact mtA5 hm | exact mtA6 hm | exact mtA7 hm | exact ruA1 hr | exact ruA2 hr | exact ruA3 hr) (by omega) (by first | decide | omega) ?_
          rotate_left
          rw [uT, uH, uS]
          first | refine pw_iaddN 105 rfl dX12_goHour_104 ?_ | refine pw_iadd 105 rfl dX12_goHour_104 ?_
          refine pw_mmin 108 rfl dX12_goHour_105 mX12_189 (Nat.le_of_ble_eq_true rfl) ?_
          rotate_left
          rw [nI_min (by omega) (by omega)]
          by_cases ct : hH s b k = b 28
          · refine pw_iastN 109 rfl dX12_goHour_108 (by first | rfl | assumption | exact rowS hh | exact mtS hm | exact ruS hr | exact mtA1 hm | exact mtA2 hm | exact mtA3 hm | exact mtA4 hm | exact mtA5 hm | exact mtA6 hm | exact mtA7 hm | exact ruA1 hr | exact ruA2 hr | exact ruA3 hr) (by omega) (by first | decide | omega) ?_
            refine pw_aload_n 110 rfl dX12_goHour_109 rfl ?_
            refine pw_bipush (v := nI 7) 112 rfl dX12_goHour_110 rfl ?_
            refine pw_iload_n 113 rfl dX12_goHour_112 rfl ?_
            first | refine pw_iaddN 114 rfl dX12_goHour_113 ?_ | refine pw_iadd 114 rfl dX12_goHour_113 ?_
            refine pw_ialdN 115 rfl dX12_goHour_114 (by first | rfl | assumption | exact rowS hh | exact mtS hm | exact ruS hr | exact mtA1 hm | exact mtA2 hm | exact mtA3 hm | exact mtA4 hm | exact mtA5 hm | exact mtA6 hm | exact mtA7 hm | exact ruA1 hr | exact ruA2 hr | exact ruA3 hr) (by omega) (by first | decide | omega) ?_
            refine pw_iconst (v := nI 2) 116 rfl dX12_goHour_115 rfl ?_
            refine pw_icmp_ne (tgt := 136) 119 rfl dX12_goHour_116 rfl (fun h116 => ?_) (fun h116 => absurd h116 (by rw [uI_ne (by omega), uW, c1]; decide))
            refine pw_aload_n 137 rfl dX12_goHour_136 rfl ?_
            refine pw_bipush (v := nI 7) 139 rfl dX12_goHour_137 rfl ?_
            refine pw_iload_n 140 rfl dX12_goHour_139 rfl ?_
            first | refine pw_iaddN 141 rfl dX12_goHour_140 ?_ | refine pw_iadd 141 rfl dX12_goHour_140 ?_
            refine pw_ialdN 142 rfl dX12_goHour_141 (by first | rfl | assumption | exact rowS hh | exact mtS hm | exact ruS hr | exact mtA1 hm | exact mtA2 hm | exact mtA3 hm | exact mtA4 hm | exact mtA5 hm | exact mtA6 hm | exact mtA7 hm | exact ruA1 hr | exact ruA2 hr | exact ruA3 hr) (by omega) (by first | decide | omega) ?_
            refine pw_iconst (v := nI 1) 143 rfl dX12_goHour_142 rfl ?_
            refine pw_icmp_ne (tgt := 163) 146 rfl dX12_goHour_143 rfl (fun h143 => absurd (by rw [uI_ne (by omega), uW, c1]) h143) (fun h143 => ?_)
            refine pw_aload_n 147 rfl dX12_goHour_146 rfl ?_
            refine pw_iload_n 148 rfl dX12_goHour_147 rfl ?_
            refine pw_ialdN 149 rfl dX12_goHour_148 (by first | rfl | assumption | exact rowS hh | exact mtS hm | exact ruS hr | exact mtA1 hm | exact mtA2 hm | exact mtA3 hm | exact mtA4 hm | exact mtA5 hm | exact mtA6 hm | exact mtA7 hm | exact ruA1 hr | exact ruA2 hr | exact ruA3 hr) (by omega) (by first | decide | omega) ?_
            refine pw_aload_n 150 rfl dX12_goHour_149 rfl ?_
            refine pw_bipush (v := nI 28) 152 rfl dX12_goHour_150 rfl ?_
            refine pw_ialdN 153 rfl dX12_goHour_152 (by first | rfl | assumption | exact rowS hh | exact mtS hm | exact ruS hr | exact mtA1 hm | exact mtA2 hm | exact mtA3 hm | exact mtA4 hm | exact mtA5 hm | exact mtA6 hm | exact mtA7 hm | exact ruA1 hr | exact ruA2 hr | exact ruA3 hr) (by omega) (by first | decide | omega) ?_
            refine pw_icmp_ne (tgt := 163) 156 rfl dX12_goHour_153 rfl (fun h153 => absurd (by rw [uI_eq, uI_ne (by omega), uT, ← eh, ct]) h153) (fun h153 => ?_)
            refine pw_aload_n 157 rfl dX12_goHour_156 rfl ?_
            refine pw_bipush (v := nI 7) 159 rfl dX12_goHour_157 rfl ?_
            refine pw_iload_n 160 rfl dX12_goHour_159 rfl ?_
            first | refine pw_iaddN 161 rfl dX12_goHour_160 ?_ | refine pw_iadd 161 rfl dX12_goHour_160 ?_
            refine pw_iconst (v := nI 2) 162 rfl dX12_goHour_161 rfl ?_
            refine pw_iastN 163 rfl dX12_goHour_162 (by first | rfl | assumption | exact rowS hh | exact mtS hm | exact ruS hr | exact mtA1 hm | exact mtA2 hm | exact mtA3 hm | exact mtA4 hm | exact mtA5 hm | exact mtA6 hm | exact mtA7 hm | exact ruA1 hr | exact ruA2 hr | exact ruA3 hr) (by omega) (by first | decide | omega) ?_
            refine pw_iincN 166 rfl dX12_goHour_163 (by decide) rfl ?_
            refine pw_goto (tgt := 52) dX12_goHour_166 rfl ?_
            rotate_left
            refine ih _ rd' (inv _ (fun a j q => by rw [uI_ne (by omega), uI_ne (by omega), g1 _ _ (by omega)]) (by rw [uI_ne (by omega), uI_eq, eh]) (by rw [uI_eq, hV, if_pos ⟨c1, ct⟩]) (by rw [uI_ne (by omega), uI_ne (by omega)]; exact g2))
          · refine pw_iastN 109 rfl dX12_goHour_108 (by first | rfl | assumption | exact rowS hh | exact mtS hm | exact ruS hr | exact mtA1 hm | exact mtA2 hm | exact mtA3 hm | exact mtA4 hm | exact mtA5 hm | exact mtA6 hm | exact mtA7 hm | exact ruA1 hr | exact ruA2 hr | exact ruA3 hr) (by omega) (by first | decide | omega) ?_
            refine pw_aload_n 110 rfl dX12_goHour_109 rfl ?_
            refine pw_bipush (v := nI 7) 112 rfl dX12_goHour_110 rfl ?_
            refine pw_iload_n 113 rfl dX12_goHour_112 rfl ?_
            first | refine pw_iaddN 114 rfl dX12_goHour_113 ?_ | refine pw_iadd 114 rfl dX12_goHour_113 ?_
            refine pw_ialdN 115 rfl dX12_goHour_114 (by first | rfl | assumption | exact rowS hh | exact mtS hm | exact ruS hr | exact mtA1 hm | exact mtA2 hm | exact mtA3 hm | exact mtA4 hm | exact mtA5 hm | exact mtA6 hm | exact mtA7 hm | exact ruA1 hr | exact ruA2 hr | exact ruA3 hr) (by omega) (by first | decide | omega) ?_
            refine pw_iconst (v := nI 2) 116 rfl dX12_goHour_115 rfl ?_
            refine pw_icmp_ne (tgt := 136) 119 rfl dX12_goHour_116 rfl (fun h116 => ?_) (fun h116 => absurd h116 (by rw [uI_ne (by omega), uW, c1]; decide))
            refine pw_aload_n 137 rfl dX12_goHour_136 rfl ?_
            refine pw_bipush (v := nI 7) 139 rfl dX12_goHour_137 rfl ?_
            refine pw_iload_n 140 rfl dX12_goHour_139 rfl ?_
            first | refine pw_iaddN 141 rfl dX12_goHour_140 ?_ | refine pw_iadd 141 rfl dX12_goHour_140 ?_
            refine pw_ialdN 142 rfl dX12_goHour_141 (by first | rfl | assumption | exact rowS hh | exact mtS hm | exact ruS hr | exact mtA1 hm | exact mtA2 hm | exact mtA3 hm | exact mtA4 hm | exact mtA5 hm | exact mtA6 hm | exact mtA7 hm | exact ruA1 hr | exact ruA2 hr | exact ruA3 hr) (by omega) (by first | decide | omega) ?_
            refine pw_iconst (v := nI 1) 143 rfl dX12_goHour_142 rfl ?_
            refine pw_icmp_ne (tgt := 163) 146 rfl dX12_goHour_143 rfl (fun h143 => absurd (by rw [uI_ne (by omega), uW, c1]) h143) (fun h143 => ?_)
            refine pw_aload_n 147 rfl dX12_goHour_146 rfl ?_
            refine pw_iload_n 148 rfl dX12_goHour_147 rfl ?_
            refine pw_ialdN 149 rfl dX12_goHour_148 (by first | rfl | assumption | exact rowS hh | exact mtS hm | exact ruS hr | exact mtA1 hm | exact mtA2 hm | exact mtA3 hm | exact mtA4 hm | exact mtA5 hm | exact mtA6 hm | exact mtA7 hm | exact ruA1 hr | exact ruA2 hr | exact ruA3 hr) (by omega) (by first | decide | omega) ?_
            refine pw_aload_n 150 rfl dX12_goHour_149 rfl ?_
            refine pw_bipush (v := nI 28) 152 rfl dX12_goHour_150 rfl ?_
            refine pw_ialdN 153 rfl dX12_goHour_152 (by first | rfl | assumption | exact rowS hh | exact mtS hm | exact ruS hr | exact mtA1 hm | exact mtA2 hm | exact mtA3 hm | exact mtA4 hm | exact mtA5 hm | exact mtA6 hm | exact mtA7 hm | exact ruA1 hr | exact ruA2 hr | exact ruA3 hr) (by omega) (by first | decide | omega) ?_
            refine pw_icmp_ne (tgt := 163) 156 rfl dX12_goHour_153 rfl (fun h153 => ?_) (fun h153 => absurd h153 (by rw [uI_eq, uI_ne (by omega), uT, ← eh, nI_eq (by omega) (by omega)]; exact ct))
            refine pw_iincN 166 rfl dX12_goHour_163 (by decide) rfl ?_
            refine pw_goto (tgt := 52) dX12_goHour_166 rfl ?_
            rotate_left
            refine ih _ rd' (inv _ (fun a j q => by rw [uI_ne (by omega), g1 _ _ (by omega)]) (by rw [uI_eq, eh]) (by rw [uI_ne (by omega), uW, hV, if_neg (fun z => ct z.2)]) (by rw [uI_ne (by omega)]; exact g2))
        · have ev : hV s b k = b (7 + k) := if_neg (fun z => c1 z.1)
          by_cases c2 : b (7 + k) = 2
          · have eh : hH s b k = b k - s k := by unfold hH; rw [if_neg c1, if_pos c2]
            refine pw_aload_n 80 rfl dX12_goHour_79 rfl ?_
            refine pw_bipush (v := nI 7) 82 rfl dX12_goHour_80 rfl ?_
            refine pw_iload_n 83 rfl dX12_goHour_82 rfl ?_
            first | refine pw_iaddN 84 rfl dX12_goHour_83 ?_ | refine pw_iadd 84 rfl dX12_goHour_83 ?_
            refine pw_ialdN 85 rfl dX12_goHour_84 (by first | rfl | assumption | exact rowS hh | exact mtS hm | exact ruS hr | exact mtA1 hm | exact mtA2 hm | exact mtA3 hm | exact mtA4 hm | exact mtA5 hm | exact mtA6 hm | exact mtA7 hm | exact ruA1 hr | exact ruA2 hr | exact ruA3 hr) (by omega) (by first | decide | omega) ?_
            refine pw_iconst (v := nI 1) 86 rfl dX12_goHour_85 rfl ?_
            refine pw_icmp_ne (tgt := 109) 89 rfl dX12_goHour_86 rfl (fun h86 => ?_) (fun h86 => absurd h86 (by rw [uW, nI_eq (by omega) (by decide)]; exact c1))
            refine pw_aload_n 110 rfl dX12_goHour_109 rfl ?_
            refine pw_bipush (v := nI 7) 112 rfl dX12_goHour_110 rfl ?_
            refine pw_iload_n 113 rfl dX12_goHour_112 rfl ?_
            first | refine pw_iaddN 114 rfl dX12_goHour_113 ?_ | refine pw_iadd 114 rfl dX12_goHour_113 ?_
            refine pw_ialdN 115 rfl dX12_goHour_114 (by first | rfl | assumption | exact rowS hh | exact mtS hm | exact ruS hr | exact mtA1 hm | exact mtA2 hm | exact mtA3 hm | exact mtA4 hm | exact mtA5 hm | exact mtA6 hm | exact mtA7 hm | exact ruA1 hr | exact ruA2 hr | exact ruA3 hr) (by omega) (by first | decide | omega) ?_
            refine pw_iconst (v := nI 2) 116 rfl dX12_goHour_115 rfl ?_
            refine pw_icmp_ne (tgt := 136) 119 rfl dX12_goHour_116 rfl (fun h116 => absurd (by rw [uW, c2]) h116) (fun h116 => ?_)
            refine pw_aload_n 120 rfl dX12_goHour_119 rfl ?_
            refine pw_iload_n 121 rfl dX12_goHour_120 rfl ?_
            refine pw_iconst (v := nI 0) 122 rfl dX12_goHour_121 rfl ?_
            refine pw_aload_n 123 rfl dX12_goHour_122 rfl ?_
            refine pw_iload_n 124 rfl dX12_goHour_123 rfl ?_
            refine pw_ialdN 125 rfl dX12_goHour_124 (by first | rfl | assumption | exact rowS hh | exact mtS hm | exact ruS hr | exact mtA1 hm | exact mtA2 hm | exact mtA3 hm | exact mtA4 hm | exact mtA5 hm | exact mtA6 hm | exact mtA7 hm | exact ruA1 hr | exact ruA2 hr | exact ruA3 hr) (by omega) (by first | decide | omega) ?_
            refine pw_aload_n 126 rfl dX12_goHour_125 rfl ?_
            refine pw_getR 129 rfl dX12_goHour_126 fX12_45 (by first | rfl | assumption | exact rowS hh | exact mtS hm | exact ruS hr | exact mtA1 hm | exact mtA2 hm | exact mtA3 hm | exact mtA4 hm | exact mtA5 hm | exact mtA6 hm | exact mtA7 hm | exact ruA1 hr | exact ruA2 hr | exact ruA3 hr) rfl (by first | rfl | assumption | exact mtR0 hm | exact mtR1 hm | exact mtR2 hm | exact mtR3 hm | exact mtR4 hm | exact mtR5 hm | exact mtR6 hm | exact ruR0 hr | exact ruR1 hr | exact ruR3 hr) ?_
            refine pw_iload_n 130 rfl dX12_goHour_129 rfl ?_
            refine pw_ialdN 131 rfl dX12_goHour_130 (by first | rfl | assumption | exact rowS hh | exact mtS hm | exact ruS hr | exact mtA1 hm | exact mtA2 hm | exact mtA3 hm | exact mtA4 hm | exact mtA5 hm | exact mtA6 hm | exact mtA7 hm | exact ruA1 hr | exact ruA2 hr | exact ruA3 hr) (by omega) (by first | decide | omega) ?_
            rotate_left
            rw [uH, uS]
            refine pw_isub 132 rfl dX12_goHour_131 ?_
            refine pw_mmax 135 rfl dX12_goHour_132 mX12_195 (Nat.le_of_ble_eq_true rfl) ?_
            rotate_left
            rw [nI_subm (by omega) (by omega)]
            refine pw_iastN 136 rfl dX12_goHour_135 (by first | rfl | assumption | exact rowS hh | exact mtS hm | exact ruS hr | exact mtA1 hm | exact mtA2 hm | exact mtA3 hm | exact mtA4 hm | exact mtA5 hm | exact mtA6 hm | exact mtA7 hm | exact ruA1 hr | exact ruA2 hr | exact ruA3 hr) (by omega) (by first | decide | omega) ?_
            refine pw_aload_n 137 rfl dX12_goHour_136 rfl ?_
            refine pw_bipush (v := nI 7) 139 rfl dX12_goHour_137 rfl ?_
            refine pw_iload_n 140 rfl dX12_goHour_139 rfl ?_
            first | refine pw_iaddN 141 rfl dX12_goHour_140 ?_ | refine pw_iadd 141 rfl dX12_goHour_140 ?_
            refine pw_ialdN 142 rfl dX12_goHour_141 (by first | rfl | assumption | exact rowS hh | exact mtS hm | exact ruS hr | exact mtA1 hm | exact mtA2 hm | exact mtA3 hm | exact mtA4 hm | exact mtA5 hm | exact mtA6 hm | exact mtA7 hm | exact ruA1 hr | exact ruA2 hr | exact ruA3 hr) (by omega) (by first | decide | omega) ?_
            refine pw_iconst (v := nI 1) 143 rfl dX12_goHour_142 rfl ?_
            refine pw_icmp_ne (tgt := 163) 146 rfl dX12_goHour_143 rfl (fun h143 => ?_) (fun h143 => absurd h143 (by rw [uI_ne (by omega), uW, nI_eq (by omega) (by decide)]; exact c1))
            refine pw_iincN 166 rfl dX12_goHour_163 (by decide) rfl ?_
            refine pw_goto (tgt := 52) dX12_goHour_166 rfl ?_
            rotate_left
            refine ih _ rd' (inv _ (fun a j q => by rw [uI_ne (by omega), g1 _ _ (by omega)]) (by rw [uI_eq, eh]) (by rw [uI_ne (by omega), uW, ev]) (by rw [uI_ne (by omega)]; exact g2))
          · have eh : hH s b k = b k := by unfold hH; rw [if_neg c1, if_neg c2]
            refine pw_aload_n 80 rfl dX12_goHour_79 rfl ?_
            refine pw_bipush (v := nI 7) 82 rfl dX12_goHour_80 rfl ?_
            refine pw_iload_n 83 rfl dX12_goHour_82 rfl ?_
            first | refine pw_iaddN 84 rfl dX12_goHour_83 ?_ | refine pw_iadd 84 rfl dX12_goHour_83 ?_
            refine pw_ialdN 85 rfl dX12_goHour_84 (by first | rfl | assumption | exact rowS hh | exact mtS hm | exact ruS hr | exact mtA1 hm | exact mtA2 hm | exact mtA3 hm | exact mtA4 hm | exact mtA5 hm | exact mtA6 hm | exact mtA7 hm | exact ruA1 hr | exact ruA2 hr | exact ruA3 hr) (by omega) (by first | decide | omega) ?_
            refine pw_iconst (v := nI 1) 86 rfl dX12_goHour_85 rfl ?_
            refine pw_icmp_ne (tgt := 109) 89 rfl dX12_goHour_86 rfl (fun h86 => ?_) (fun h86 => absurd h86 (by rw [uW, nI_eq (by omega) (by decide)]; exact c1))
            refine pw_aload_n 110 rfl dX12_goHour_109 rfl ?_
            refine pw_bipush (v := nI 7) 112 rfl dX12_goHour_110 rfl ?_
            refine pw_iload_n 113 rfl dX12_goHour_112 rfl ?_
            first | refine pw_iaddN 114 rfl dX12_goHour_113 ?_ | refine pw_iadd 114 rfl dX12_goHour_113 ?_
            refine pw_ialdN 115 rfl dX12_goHour_114 (by first | rfl | assumption | exact rowS hh | exact mtS hm | exact ruS hr | exact mtA1 hm | exact mtA2 hm | exact mtA3 hm | exact mtA4 hm | exact mtA5 hm | exact mtA6 hm | exact mtA7 hm | exact ruA1 hr | exact ruA2 hr | exact ruA3 hr) (by omega) (by first | decide | omega) ?_
            refine pw_iconst (v := nI 2) 116 rfl dX12_goHour_115 rfl ?_
            refine pw_icmp_ne (tgt := 136) 119 rfl dX12_goHour_116 rfl (fun h116 => ?_) (fun h116 => absurd h116 (by rw [uW, nI_eq (by omega) (by decide)]; exact c2))
            refine pw_aload_n 137 rfl dX12_goHour_136 rfl ?_
            refine pw_bipush (v := nI 7) 139 rfl dX12_goHour_137 rfl ?_
            refine pw_iload_n 140 rfl dX12_goHour_139 rfl ?_
            first | refine pw_iaddN 141 rfl dX12_goHour_140 ?_ | refine pw_iadd 141 rfl dX12_goHour_140 ?_
            refine pw_ialdN 142 rfl dX12_goHour_141 (by first | rfl | assumption | exact rowS hh | exact mtS hm | exact ruS hr | exact mtA1 hm | exact mtA2 hm | exact mtA3 hm | exact mtA4 hm | exact mtA5 hm | exact mtA6 hm | exact mtA7 hm | exact ruA1 hr | exact ruA2 hr | exact ruA3 hr) (by omega) (by first | decide | omega) ?_
            refine pw_iconst (v := nI 1) 143 rfl dX12_goHour_142 rfl ?_
            refine pw_icmp_ne (tgt := 163) 146 rfl dX12_goHour_143 rfl (fun h143 => ?_) (fun h143 => absurd h143 (by rw [uW, nI_eq (by omega) (by decide)]; exact c1))
            refine pw_iincN 166 rfl dX12_goHour_163 (by decide) rfl ?_
            refine pw_goto (tgt := 52) dX12_goHour_166 rfl ?_
            rotate_left
            refine ih _ rd' (inv _ (fun a j q => g1 _ _ (by omega)) (by rw [uH, eh]) (by rw [uW, ev]) g2)
      by_cases c0 : b (14 + k) = 0
      · refine pw_iload_n 53 rfl dX12_goHour_52 rfl ?_
        refine pw_aload_n 54 rfl dX12_goHour_53 rfl ?_
        refine pw_getI 57 rfl dX12_goHour_54 fX12_95 (by first | rfl | assumption | exact rowS hh | exact mtS hm | exact ruS hr | exact mtA1 hm | exact mtA2 hm | exact mtA3 hm | exact mtA4 hm | exact mtA5 hm | exact mtA6 hm | exact mtA7 hm | exact ruA1 hr | exact ruA2 hr | exact ruA3 hr) rfl ?_
        refine pw_icmp_ge (tgt := 169) 60 rfl dX12_goHour_57 rfl (fun h57 => absurd h57 (by rw [hn']; (simp (disch := omega) only [nI_leI, nI_ltI, nI_eq, show (0 : Int32) = nI 0 from rfl, not_true_eq_false, not_false_eq_true] <;> omega))) (fun h57 => ?_)
        refine pw_aload_n 61 rfl dX12_goHour_60 rfl ?_
        refine pw_bipush (v := nI 14) 63 rfl dX12_goHour_61 rfl ?_
        refine pw_iload_n 64 rfl dX12_goHour_63 rfl ?_
        first | refine pw_iaddN 65 rfl dX12_goHour_64 ?_ | refine pw_iadd 65 rfl dX12_goHour_64 ?_
        refine pw_ialdN 66 rfl dX12_goHour_65 (by first | rfl | assumption | exact rowS hh | exact mtS hm | exact ruS hr | exact mtA1 hm | exact mtA2 hm | exact mtA3 hm | exact mtA4 hm | exact mtA5 hm | exact mtA6 hm | exact mtA7 hm | exact ruA1 hr | exact ruA2 hr | exact ruA3 hr) (by omega) (by first | decide | omega) ?_
        refine pw_if_le (tgt := 79) 69 rfl dX12_goHour_66 rfl (fun h66 => ?_) (fun h66 => absurd (by rw [eU, c0]; decide) h66)
        rotate_left
        exact tail I' (fun _ _ _ => rfl) (by rw [eU, c0])
      · refine pw_iload_n 53 rfl dX12_goHour_52 rfl ?_
        refine pw_aload_n 54 rfl dX12_goHour_53 rfl ?_
        refine pw_getI 57 rfl dX12_goHour_54 fX12_95 (by first | rfl | assumption | exact rowS hh | exact mtS hm | exact ruS hr | exact mtA1 hm | exact mtA2 hm | exact mtA3 hm | exact mtA4 hm | exact mtA5 hm | exact mtA6 hm | exact mtA7 hm | exact ruA1 hr | exact ruA2 hr | exact ruA3 hr) rfl ?_
        refine pw_icmp_ge (tgt := 169) 60 rfl dX12_goHour_57 rfl (fun h57 => absurd h57 (by rw [hn']; (simp (disch := omega) only [nI_leI, nI_ltI, nI_eq, show (0 : Int32) = nI 0 from rfl, not_true_eq_false, not_false_eq_true] <;> omega))) (fun h57 => ?_)
        refine pw_aload_n 61 rfl dX12_goHour_60 rfl ?_
        refine pw_bipush (v := nI 14) 63 rfl dX12_goHour_61 rfl ?_
        refine pw_iload_n 64 rfl dX12_goHour_63 rfl ?_
        first | refine pw_iaddN 65 rfl dX12_goHour_64 ?_ | refine pw_iadd 65 rfl dX12_goHour_64 ?_
        refine pw_ialdN 66 rfl dX12_goHour_65 (by first | rfl | assumption | exact rowS hh | exact mtS hm | exact ruS hr | exact mtA1 hm | exact mtA2 hm | exact mtA3 hm | exact mtA4 hm | exact mtA5 hm | exact mtA6 hm | exact mtA7 hm | exact ruA1 hr | exact ruA2 hr | exact ruA3 hr) (by omega) (by first | decide | omega) ?_
        refine pw_if_le (tgt := 79) 69 rfl dX12_goHour_66 rfl (fun h66 => absurd h66 (by rw [eU]; exact nI_nle (by omega) (by omega))) (fun h66 => ?_)
        refine pw_aload_n 70 rfl dX12_goHour_69 rfl ?_
        refine pw_bipush (v := nI 14) 72 rfl dX12_goHour_70 rfl ?_
        refine pw_iload_n 73 rfl dX12_goHour_72 rfl ?_
        first | refine pw_iaddN 74 rfl dX12_goHour_73 ?_ | refine pw_iadd 74 rfl dX12_goHour_73 ?_
        refine pw_dup2 75 rfl dX12_goHour_74 rfl rfl ?_
        refine pw_ialdN 76 rfl dX12_goHour_75 (by first | rfl | assumption | exact rowS hh | exact mtS hm | exact ruS hr | exact mtA1 hm | exact mtA2 hm | exact mtA3 hm | exact mtA4 hm | exact mtA5 hm | exact mtA6 hm | exact mtA7 hm | exact ruA1 hr | exact ruA2 hr | exact ruA3 hr) (by omega) (by first | decide | omega) ?_
        refine pw_iconst (v := nI 1) 77 rfl dX12_goHour_76 rfl ?_
        rotate_left
        rw [eU]
        refine pw_isubN 78 rfl dX12_goHour_77 (by omega) ?_
        refine pw_iastN 79 rfl dX12_goHour_78 (by first | rfl | assumption | exact rowS hh | exact mtS hm | exact ruS hr | exact mtA1 hm | exact mtA2 hm | exact mtA3 hm | exact mtA4 hm | exact mtA5 hm | exact mtA6 hm | exact mtA7 hm | exact ruA1 hr | exact ruA2 hr | exact ruA3 hr) (by omega) (by first | decide | omega) ?_
        rotate_left
        exact tail _ (fun a j q => uI_ne (by omega)) (uI_eq _ _ _ _)
  refine pw_iconst (v := nI 0) 1 rfl dX12_goHour_0 rfl ?_
  refine pw_istore_n 2 rfl dX12_goHour_1 (by decide) ?_
  rotate_left
  have L := nat_loop n (fun k => ∀ (I' : pI) (rd' : Option Nat), (∀ a j, a ≠ 8 → a ≠ 12 → ¬ (a = 0 ∧ (j = 9 ∨ j = 10 ∨ j = 11 ∨ j = 12 ∨ j = 17)) → I' a j = I a j) → (∀ q, q < k → I' 12 q = nI (s q)) → PW SM yX12_goHour.cls cX12_goHour 3 (d + 2) 2 [some (.ref 0), some (.ref h), some (.int (nI k))] [] (I') (J) (RM rd' rl) (rX cX12_goHour none (fun r' I' J' R' => r' = none ∧ MB I' h (hrow n s b) ∧ mFr h I I' ∧ MD I' (dl ++ hL s b n) ∧ J = J' ∧ ∃ rd', R' = RM rd' rl))) ?_ ?_
  · exact L I rd (fun _ _ _ _ _ => rfl) (fun q hq => by omega)
  · intro I' rd' g1 g2
    have hn' : I' 0 1 = nI n := by rw [g1 _ _ (by omega) (by omega) (by omega)]; exact hn
    refine pw_iload_n 3 rfl dX12_goHour_2 rfl ?_
    refine pw_aload_n 4 rfl dX12_goHour_3 rfl ?_
    refine pw_getI 7 rfl dX12_goHour_4 fX12_95 (by first | rfl | assumption | exact rowS hh | exact mtS hm | exact ruS hr | exact mtA1 hm | exact mtA2 hm | exact mtA3 hm | exact mtA4 hm | exact mtA5 hm | exact mtA6 hm | exact mtA7 hm | exact ruA1 hr | exact ruA2 hr | exact ruA3 hr) rfl ?_
    refine pw_icmp_ge (tgt := 50) 10 rfl dX12_goHour_7 rfl (fun h7 => ?_) (fun h7 => absurd (by rw [hn']; (simp (disch := omega) only [nI_leI, nI_ltI, nI_eq, show (0 : Int32) = nI 0 from rfl, not_true_eq_false, not_false_eq_true] <;> omega)) h7)
    refine pw_iconst (v := nI 0) 51 rfl dX12_goHour_50 rfl ?_
    refine pw_istore_n 52 rfl dX12_goHour_51 (by decide) ?_
    rotate_left
    refine loop2 I' rd' ⟨fun a j q1 q2 q3 q4 q5 => g1 a j q2 q3 (by omega), fun q hq => ⟨?_, ?_, ?_, ?_⟩, ?_, ?_, ?_, ?_, fun q hq => g2 q hq, ?_, hMD.2.1, fun j x hj hx => ?_⟩
    · rw [g1 _ _ (by omega) (by omega) (by omega), if_neg (by omega)]; exact hM q (by omega)
    · rw [g1 _ _ (by omega) (by omega) (by omega)]; exact hM _ (by omega)
    · rw [g1 _ _ (by omega) (by omega) (by omega), if_neg (by omega)]; exact hM _ (by omega)
    · rw [g1 _ _ (by omega) (by omega) (by omega)]; exact hM _ (by omega)
    · rw [g1 _ _ (by omega) (by omega) (by omega)]; exact hM _ (by omega)
    · rw [g1 _ _ (by omega) (by omega) (by omega)]; exact hM _ (by omega)
    · rw [g1 _ _ (by omega) (by omega) (by omega)]; exact hM _ (by omega)
    · rw [g1 _ _ (by omega) (by omega) (by omega)]; exact hM _ (by omega)
    · rw [g1 _ _ (by omega) (by omega) (by omega)]; exact hMD.1
    · rw [g1 _ _ (by omega) (by omega) (by omega)]; exact hMD.2.2 j x hj hx
  · intro k hk ih I' rd' g1 g2
    have hn' : I' 0 1 = nI n := by rw [g1 _ _ (by omega) (by omega) (by omega)]; exact hn
    have hb := hB k (by omega)
    have e3 : I' h (7 + k) = nI (b (7 + k)) := by rw [g1 _ _ (by omega) (by omega) (by omega)]; exact hM _ (by omega)
    have e4 : I' h (14 + k) = nI (b (14 + k)) := by rw [g1 _ _ (by omega) (by omega) (by omega)]; exact hM _ (by omega)
    have stop : s k = 0 → PW SM yX12_goHour.cls cX12_goHour 3 (d + 2) 2 [some (.ref 0), some (.ref h), some (.int (nI (k + 1)))] [] ((uI I' 12 k (nI 0))) (J) (RM rd' rl) (rX cX12_goHour none (fun r' I' J' R' => r' = none ∧ MB I' h (hrow n s b) ∧ mFr h I I' ∧ MD I' (dl ++ hL s b n) ∧ J = J' ∧ ∃ rd', R' = RM rd' rl)) := fun h0 => ih _ rd' (fun a j h1 h2 h3 => by rw [uI_ne (by omega), g1 a j h1 h2 h3]) (fun q hq => by
      by_cases eq : q = k
      · subst eq; rw [uI_eq, h0]
      · rw [uI_ne (by omega)]; exact g2 q (by omega))
    have hMC' : MC I' n pc := ⟨h7, hn', fun j hj => by rw [g1 _ _ (by omega) (by omega) (by omega)]; exact hP j hj⟩
    have hM' : MB I' h b := fun j hj => by rw [g1 _ _ (by omega) (by omega) (by omega)]; exact hM j hj
    refine pw_iload_n 3 rfl dX12_goHour_2 rfl ?_
    refine pw_aload_n 4 rfl dX12_goHour_3 rfl ?_
    refine pw_getI 7 rfl dX12_goHour_4 fX12_95 (by first | rfl | assumption | exact rowS hh | exact mtS hm | exact ruS hr | exact mtA1 hm | exact mtA2 hm | exact mtA3 hm | exact mtA4 hm | exact mtA5 hm | exact mtA6 hm | exact mtA7 hm | exact ruA1 hr | exact ruA2 hr | exact ruA3 hr) rfl ?_
    refine pw_icmp_ge (tgt := 50) 10 rfl dX12_goHour_7 rfl (fun h7 => absurd h7 (by rw [hn']; (simp (disch := omega) only [nI_leI, nI_ltI, nI_eq, show (0 : Int32) = nI 0 from rfl, not_true_eq_false, not_false_eq_true] <;> omega))) (fun h7 => ?_)
    refine pw_aload_n 11 rfl dX12_goHour_10 rfl ?_
    refine pw_getR 14 rfl dX12_goHour_11 fX12_45 (by first | rfl | assumption | exact rowS hh | exact mtS hm | exact ruS hr | exact mtA1 hm | exact mtA2 hm | exact mtA3 hm | exact mtA4 hm | exact mtA5 hm | exact mtA6 hm | exact mtA7 hm | exact ruA1 hr | exact ruA2 hr | exact ruA3 hr) rfl (by first | rfl | assumption | exact mtR0 hm | exact mtR1 hm | exact mtR2 hm | exact mtR3 hm | exact mtR4 hm | exact mtR5 hm | exact mtR6 hm | exact ruR0 hr | exact ruR1 hr | exact ruR3 hr) ?_
    refine pw_iload_n 15 rfl dX12_goHour_14 rfl ?_
    refine pw_aload_n 16 rfl dX12_goHour_15 rfl ?_
    refine pw_bipush (v := nI 7) 18 rfl dX12_goHour_16 rfl ?_
    refine pw_iload_n 19 rfl dX12_goHour_18 rfl ?_
    first | refine pw_iaddN 20 rfl dX12_goHour_19 ?_ | refine pw_iadd 20 rfl dX12_goHour_19 ?_
    refine pw_ialdN 21 rfl dX12_goHour_20 (by first | rfl | assumption | exact rowS hh | exact mtS hm | exact ruS hr | exact mtA1 hm | exact mtA2 hm | exact mtA3 hm | exact mtA4 hm | exact mtA5 hm | exact mtA6 hm | exact mtA7 hm | exact ruA1 hr | exact ruA2 hr | exact ruA3 hr) (by omega) (by first | decide | omega) ?_
    refine pw_if_eq (tgt := 42) 24 rfl dX12_goHour_21 rfl (fun h21 => ?_) (fun h21 => ?_)
    rotate_left
    refine pw_aload_n 25 rfl dX12_goHour_24 rfl ?_
    refine pw_bipush (v := nI 14) 27 rfl dX12_goHour_25 rfl ?_
    refine pw_iload_n 28 rfl dX12_goHour_27 rfl ?_
    first | refine pw_iaddN 29 rfl dX12_goHour_28 ?_ | refine pw_iadd 29 rfl dX12_goHour_28 ?_
    refine pw_ialdN 30 rfl dX12_goHour_29 (by first | rfl | assumption | exact rowS hh | exact mtS hm | exact ruS hr | exact mtA1 hm | exact mtA2 hm | exact mtA3 hm | exact mtA4 hm | exact mtA5 hm | exact mtA6 hm | exact mtA7 hm | exact ruA1 hr | exact ruA2 hr | exact ruA3 hr) (by omega) (by first | decide | omega) ?_
    refine pw_if_ne (tgt := 42) 33 rfl dX12_goHour_30 rfl (fun h30 => ?_) (fun h30 => ?_)
    rotate_left
    refine pw_aload_n 34 rfl dX12_goHour_33 rfl ?_
    refine pw_aload_n 35 rfl dX12_goHour_34 rfl ?_
    refine pw_iload_n 36 rfl dX12_goHour_35 rfl ?_
    refine pw_callV (as := [_, _]) 39 rfl dX12_goHour_36 mX12_212 vX12_stepsOf (hE.2 n pc b h k I' J rd' hW hh hk hMC' hM' (g1 _ _ (by omega) (by omega) (by omega)) (fun j => g1 _ _ (by omega) (by omega) (by omega)) (fun j => g1 _ _ (by omega) (by omega) (by omega))) (by first | rfl | assumption | exact rowS hh | exact mtS hm | exact ruS hr | exact mtA1 hm | exact mtA2 hm | exact mtA3 hm | exact mtA4 hm | exact mtA5 hm | exact mtA6 hm | exact mtA7 hm | exact ruA1 hr | exact ruA2 hr | exact ruA3 hr) rfl (by decide) ⟨rfl, by decide, by decide, show (parseMethodDescriptor yX12_stepsOf.desc).map (fun d => d.parameters.length) = some 2 by decide +kernel⟩ (by omega) (by decide) (Nat.le_of_ble_eq_true rfl) rfl (fun r36 I36 J36 R36 c36 => ?_)
    rotate_left
    · rw [e3, show (0 : Int32) = nI 0 from rfl, nI_eq (by omega) (by decide)] at h21
      refine pw_iconst (v := nI 0) 43 rfl dX12_goHour_42 rfl ?_
      refine pw_iastN 44 rfl dX12_goHour_43 (by first | rfl | assumption | exact rowS hh | exact mtS hm | exact ruS hr | exact mtA1 hm | exact mtA2 hm | exact mtA3 hm | exact mtA4 hm | exact mtA5 hm | exact mtA6 hm | exact mtA7 hm | exact ruA1 hr | exact ruA2 hr | exact ruA3 hr) (by omega) (by first | decide | omega) ?_
      refine pw_iincN 47 rfl dX12_goHour_44 (by decide) rfl ?_
      refine pw_goto (tgt := 2) dX12_goHour_47 rfl ?_
      rotate_left
      exact stop (by rw [hse]; unfold sts; rw [if_neg (fun z => z.1 h21)])
    · rw [e4, show (0 : Int32) = nI 0 from rfl, nI_eq (by omega) (by decide)] at h30
      refine pw_iconst (v := nI 0) 43 rfl dX12_goHour_42 rfl ?_
      refine pw_iastN 44 rfl dX12_goHour_43 (by first | rfl | assumption | exact rowS hh | exact mtS hm | exact ruS hr | exact mtA1 hm | exact mtA2 hm | exact mtA3 hm | exact mtA4 hm | exact mtA5 hm | exact mtA6 hm | exact mtA7 hm | exact ruA1 hr | exact ruA2 hr | exact ruA3 hr) (by omega) (by first | decide | omega) ?_
      refine pw_iincN 47 rfl dX12_goHour_44 (by decide) rfl ?_
      refine pw_goto (tgt := 2) dX12_goHour_47 rfl ?_
      rotate_left
      exact stop (by rw [hse]; unfold sts; rw [if_neg (fun z => h30 z.2)])
    · rw [e3, show (0 : Int32) = nI 0 from rfl, nI_eq (by omega) (by decide)] at h21
      rw [e4, show (0 : Int32) = nI 0 from rfl, nI_eq (by omega) (by decide)] at h30
      obtain ⟨rfl, c1, rfl, rd2, rfl⟩ := c36
      refine pw_goto (tgt := 43) dX12_goHour_39 rfl ?_
      refine pw_iastN 44 rfl dX12_goHour_43 (by first | rfl | assumption | exact rowS hh | exact mtS hm | exact ruS hr | exact mtA1 hm | exact mtA2 hm | exact mtA3 hm | exact mtA4 hm | exact mtA5 hm | exact mtA6 hm | exact mtA7 hm | exact ruA1 hr | exact ruA2 hr | exact ruA3 hr) (by omega) (by first | decide | omega) ?_
      refine pw_iincN 47 rfl dX12_goHour_44 (by decide) rfl ?_
      refine pw_goto (tgt := 2) dX12_goHour_47 rfl ?_
      rotate_left
      refine ih _ rd2 (fun a j h1 h2 h3 => ?_) (fun q hq => ?_)
      · rw [uI_ne (by omega), c1 a j h1 h3, g1 a j h1 h2 h3]
      · by_cases eq : q = k
        · subst eq; rw [uI_eq, hse]; unfold sts; rw [if_pos ⟨h21, h30⟩]
        · rw [uI_ne (by omega), c1 _ _ (by omega) (by omega)]; exact g2 q (by omega)
