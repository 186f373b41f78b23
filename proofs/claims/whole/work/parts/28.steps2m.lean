set_option maxRecDepth 100000 in
set_option maxHeartbeats 2000000 in
theorem m_steps0 {hl : Nat} {rt : List Nat} (hhl : hl = 6 ∨ hl = 7) {d n q h : Nat} {pc b : Nat → Nat} {rd : Option Nat} {I : pI} {J : pJ} (hR : MRl I hl rt) (hW : WF n pc b) (hh : h = 1 ∨ h = 11) (hq : q < n) (hC : MC I n pc) (hB : MB I h b) : PC SM (d + 236) yX12_stepsOf cX12_stepsOf 7 (some .int) [.ref 0, .ref h, .int (nI q)] (I) (J) (RM rd (some hl)) (fun r' I' J' R' => r' = some (.int (nI (ruE rt (lett n pc b q)))) ∧ (∀ a j, a ≠ 8 → ¬ (a = 0 ∧ (j = 9 ∨ j = 10 ∨ j = 11 ∨ j = 12 ∨ j = 17)) → I' a j = I a j) ∧ J = J' ∧ ∃ rd', R' = RM rd' (some hl)) := by
  refine PC.of [some (.ref 0), some (.ref h), some (.int (nI q)), none, none, none, none] rfl rfl (Nat.le_of_ble_eq_true rfl) ?_
  obtain ⟨r1, r2, r3, r4⟩ := hR
  obtain ⟨h7, hn, hpc⟩ := hC
  obtain ⟨-, ⟨t1, t2⟩, hO, -, hBd⟩ := hW
  have hsl : SM[hl]? = some (102, 40) := by rcases hhl with rfl | rfl <;> rfl
  have eP := hpc q (by omega)
  have eR := (ruE_nI rt (lett n pc b q)).1
  refine pw_iconst (v := nI 1) 1 rfl dX12_stepsOf_0 rfl ?_
  refine pw_aload_n 2 rfl dX12_stepsOf_1 rfl ?_
  refine pw_getR 5 rfl dX12_stepsOf_2 fX12_13 (by first | rfl | assumption | exact rowS hh | exact mtS hm | exact ruS hr | exact mtA1 hm | exact mtA2 hm | exact mtA3 hm | exact mtA4 hm | exact mtA5 hm | exact mtA6 hm | exact mtA7 hm | exact ruA1 hr | exact ruA2 hr | exact ruA3 hr) rfl (by first | rfl | assumption | exact mtR0 hm | exact mtR1 hm | exact mtR2 hm | exact mtR3 hm | exact mtR4 hm | exact mtR5 hm | exact mtR6 hm | exact ruR0 hr | exact ruR1 hr | exact ruR3 hr) ?_
  refine pw_iload_n 6 rfl dX12_stepsOf_5 rfl ?_
  refine pw_ialdN 7 rfl dX12_stepsOf_6 (by first | rfl | assumption | exact rowS hh | exact mtS hm | exact ruS hr | exact mtA1 hm | exact mtA2 hm | exact mtA3 hm | exact mtA4 hm | exact mtA5 hm | exact mtA6 hm | exact mtA7 hm | exact ruA1 hr | exact ruA2 hr | exact ruA3 hr) (by omega) (by first | decide | omega) ?_
  rotate_left
  rw [eP]
  by_cases h0 : rt = []
  · subst h0
    refine pw_iconst (v := nI 4) 8 rfl dX12_stepsOf_7 rfl ?_
    refine pw_idiv 9 rfl dX12_stepsOf_8 (by decide) ?_
    first | refine pw_iaddN 10 rfl dX12_stepsOf_9 ?_ | refine pw_iadd 10 rfl dX12_stepsOf_9 ?_
    refine pw_istore_n 11 rfl dX12_stepsOf_10 (by decide) ?_
    refine pw_aload_n 12 rfl dX12_stepsOf_11 rfl ?_
    refine pw_getI 15 rfl dX12_stepsOf_12 fX12_186 (by first | rfl | assumption | exact rowS hh | exact mtS hm | exact ruS hr | exact mtA1 hm | exact mtA2 hm | exact mtA3 hm | exact mtA4 hm | exact mtA5 hm | exact mtA6 hm | exact mtA7 hm | exact ruA1 hr | exact ruA2 hr | exact ruA3 hr) rfl ?_
    refine pw_if_le (tgt := 236) 18 rfl dX12_stepsOf_15 rfl (fun h15 => ?_) (fun h15 => absurd (by rw [r2]; decide) h15)
    refine pw_iconst (v := nI 0) 237 rfl dX12_stepsOf_236 rfl ?_
    refine pw_iconst (v := nI 3) 238 rfl dX12_stepsOf_237 rfl ?_
    refine pw_iload_n 239 rfl dX12_stepsOf_238 rfl ?_
    refine pw_mmin 242 rfl dX12_stepsOf_239 mX12_189 (Nat.le_of_ble_eq_true rfl) ?_
    refine pw_mmax 245 rfl dX12_stepsOf_242 mX12_195 (Nat.le_of_ble_eq_true rfl) ?_
    rotate_left
    rw [clampV]
    refine pw_iret dX12_stepsOf_245 rfl ?_
    rotate_left
    refine ⟨?_, fun _ _ _ _ => rfl, rfl, rd, rfl⟩
    rw [← eR, ruF, if_pos rfl]
    rfl
  · have hl1 : 1 ≤ rt.length := by
      rcases rt with _ | ⟨x, xs⟩
      · exact absurd rfl h0
      · rw [List.length_cons]; omega
    obtain ⟨f, hf1, hf2⟩ := ruF_ok h0 r1 r4
    refine pw_iconst (v := nI 4) 8 rfl dX12_stepsOf_7 rfl ?_
    refine pw_idiv 9 rfl dX12_stepsOf_8 (by decide) ?_
    first | refine pw_iaddN 10 rfl dX12_stepsOf_9 ?_ | refine pw_iadd 10 rfl dX12_stepsOf_9 ?_
    refine pw_istore_n 11 rfl dX12_stepsOf_10 (by decide) ?_
    refine pw_aload_n 12 rfl dX12_stepsOf_11 rfl ?_
    refine pw_getI 15 rfl dX12_stepsOf_12 fX12_186 (by first | rfl | assumption | exact rowS hh | exact mtS hm | exact ruS hr | exact mtA1 hm | exact mtA2 hm | exact mtA3 hm | exact mtA4 hm | exact mtA5 hm | exact mtA6 hm | exact mtA7 hm | exact ruA1 hr | exact ruA2 hr | exact ruA3 hr) rfl ?_
    refine pw_if_le (tgt := 236) 18 rfl dX12_stepsOf_15 rfl (fun h15 => absurd h15 (by rw [r2]; exact nI_nle hl1 (by omega))) (fun h15 => ?_)
    refine pw_iconst (v := nI 0) 19 rfl dX12_stepsOf_18 rfl ?_
    refine pw_istore 21 rfl dX12_stepsOf_19 (by decide) ?_
    refine pw_iconst (v := nI 0) 22 rfl dX12_stepsOf_21 rfl ?_
    refine pw_istore 24 rfl dX12_stepsOf_22 (by decide) ?_
    refine pw_iconst (v := nI 0) 25 rfl dX12_stepsOf_24 rfl ?_
    refine pw_istore 27 rfl dX12_stepsOf_25 (by decide) ?_
    rotate_left
    have hbq := hBd q (by omega)
    have Lo := nat_loop n (fun k => PW SM yX12_stepsOf.cls cX12_stepsOf 7 (d + 236) 27 [some (.ref 0), some (.ref h), some (.int (nI q)), some (.int (nI 1 + nI (pc q) / nI 4)), some (.int (nI (cntB b (b q) q k))), some (.int (nI (cntD b (b q) q k))), some (.int (nI k))] [] (I) (J) (RM rd (some hl)) (rX cX12_stepsOf (some .int) (fun r' I' J' R' => r' = some (.int (nI (ruE rt (lett n pc b q)))) ∧ (∀ a j, a ≠ 8 → ¬ (a = 0 ∧ (j = 9 ∨ j = 10 ∨ j = 11 ∨ j = 12 ∨ j = 17)) → I' a j = I a j) ∧ J = J' ∧ ∃ rd', R' = RM rd' (some hl)))) ?_ ?_
    · exact Lo
    · refine pw_iload 29 rfl dX12_stepsOf_27 rfl ?_
      refine pw_aload_n 30 rfl dX12_stepsOf_29 rfl ?_
      refine pw_getI 33 rfl dX12_stepsOf_30 fX12_95 (by first | rfl | assumption | exact rowS hh | exact mtS hm | exact ruS hr | exact mtA1 hm | exact mtA2 hm | exact mtA3 hm | exact mtA4 hm | exact mtA5 hm | exact mtA6 hm | exact mtA7 hm | exact ruA1 hr | exact ruA2 hr | exact ruA3 hr) rfl ?_
      refine pw_icmp_ge (tgt := 115) 36 rfl dX12_stepsOf_33 rfl (fun h33 => ?_) (fun h33 => absurd (by rw [hn]; (simp (disch := omega) only [nI_leI, nI_ltI, nI_eq, show (0 : Int32) = nI 0 from rfl, not_true_eq_false, not_false_eq_true] <;> omega)) h33)
      refine pw_aload_n 116 rfl dX12_stepsOf_115 rfl ?_
      refine pw_getR 119 rfl dX12_stepsOf_116 fX12_33 (by first | rfl | assumption | exact rowS hh | exact mtS hm | exact ruS hr | exact mtA1 hm | exact mtA2 hm | exact mtA3 hm | exact mtA4 hm | exact mtA5 hm | exact mtA6 hm | exact mtA7 hm | exact ruA1 hr | exact ruA2 hr | exact ruA3 hr) rfl (by first | rfl | assumption | exact mtR0 hm | exact mtR1 hm | exact mtR2 hm | exact mtR3 hm | exact mtR4 hm | exact mtR5 hm | exact mtR6 hm | exact ruR0 hr | exact ruR1 hr | exact ruR3 hr) ?_
      refine pw_iconst (v := nI 0) 120 rfl dX12_stepsOf_119 rfl ?_
      refine pw_aload_n 121 rfl dX12_stepsOf_120 rfl ?_
      refine pw_getR 124 rfl dX12_stepsOf_121 fX12_13 (by first | rfl | assumption | exact rowS hh | exact mtS hm | exact ruS hr | exact mtA1 hm | exact mtA2 hm | exact mtA3 hm | exact mtA4 hm | exact mtA5 hm | exact mtA6 hm | exact mtA7 hm | exact ruA1 hr | exact ruA2 hr | exact ruA3 hr) rfl (by first | rfl | assumption | exact mtR0 hm | exact mtR1 hm | exact mtR2 hm | exact mtR3 hm | exact mtR4 hm | exact mtR5 hm | exact mtR6 hm | exact ruR0 hr | exact ruR1 hr | exact ruR3 hr) ?_
      refine pw_iload_n 125 rfl dX12_stepsOf_124 rfl ?_
      refine pw_ialdN 126 rfl dX12_stepsOf_125 (by first | rfl | assumption | exact rowS hh | exact mtS hm | exact ruS hr | exact mtA1 hm | exact mtA2 hm | exact mtA3 hm | exact mtA4 hm | exact mtA5 hm | exact mtA6 hm | exact mtA7 hm | exact ruA1 hr | exact ruA2 hr | exact ruA3 hr) (by omega) (by first | decide | omega) ?_
      rotate_left
      rw [eP]
      refine pw_iastN 127 rfl dX12_stepsOf_126 (by first | rfl | assumption | exact rowS hh | exact mtS hm | exact ruS hr | exact mtA1 hm | exact mtA2 hm | exact mtA3 hm | exact mtA4 hm | exact mtA5 hm | exact mtA6 hm | exact mtA7 hm | exact ruA1 hr | exact ruA2 hr | exact ruA3 hr) (by omega) (by first | decide | omega) ?_
      refine pw_aload_n 128 rfl dX12_stepsOf_127 rfl ?_
      refine pw_getR 131 rfl dX12_stepsOf_128 fX12_33 (by first | rfl | assumption | exact rowS hh | exact mtS hm | exact ruS hr | exact mtA1 hm | exact mtA2 hm | exact mtA3 hm | exact mtA4 hm | exact mtA5 hm | exact mtA6 hm | exact mtA7 hm | exact ruA1 hr | exact ruA2 hr | exact ruA3 hr) rfl (by first | rfl | assumption | exact mtR0 hm | exact mtR1 hm | exact mtR2 hm | exact mtR3 hm | exact mtR4 hm | exact mtR5 hm | exact mtR6 hm | exact ruR0 hr | exact ruR1 hr | exact ruR3 hr) ?_
      refine pw_iconst (v := nI 1) 132 rfl dX12_stepsOf_131 rfl ?_
      refine pw_aload_n 133 rfl dX12_stepsOf_132 rfl ?_
      refine pw_iload_n 134 rfl dX12_stepsOf_133 rfl ?_
      refine pw_ialdN 135 rfl dX12_stepsOf_134 (by first | rfl | assumption | exact rowS hh | exact mtS hm | exact ruS hr | exact mtA1 hm | exact mtA2 hm | exact mtA3 hm | exact mtA4 hm | exact mtA5 hm | exact mtA6 hm | exact mtA7 hm | exact ruA1 hr | exact ruA2 hr | exact ruA3 hr) (by omega) (by first | decide | omega) ?_
      rotate_left
      have f1 : ∀ k, k < 32 → ∀ (j : Nat) (v : Int32), uI I 8 j v h k = nI (b k) := fun k hk j v => by rw [uI_ne (by omega)]; exact hB k hk
      rw [f1 q (by omega)]
      refine pw_iastN 136 rfl dX12_stepsOf_135 (by first | rfl | assumption | exact rowS hh | exact mtS hm | exact ruS hr | exact mtA1 hm | exact mtA2 hm | exact mtA3 hm | exact mtA4 hm | exact mtA5 hm | exact mtA6 hm | exact mtA7 hm | exact ruA1 hr | exact ruA2 hr | exact ruA3 hr) (by omega) (by first | decide | omega) ?_
      refine pw_aload_n 137 rfl dX12_stepsOf_136 rfl ?_
      refine pw_getR 140 rfl dX12_stepsOf_137 fX12_33 (by first | rfl | assumption | exact rowS hh | exact mtS hm | exact ruS hr | exact mtA1 hm | exact mtA2 hm | exact mtA3 hm | exact mtA4 hm | exact mtA5 hm | exact mtA6 hm | exact mtA7 hm | exact ruA1 hr | exact ruA2 hr | exact ruA3 hr) rfl (by first | rfl | assumption | exact mtR0 hm | exact mtR1 hm | exact mtR2 hm | exact mtR3 hm | exact mtR4 hm | exact mtR5 hm | exact mtR6 hm | exact ruR0 hr | exact ruR1 hr | exact ruR3 hr) ?_
      refine pw_iconst (v := nI 2) 141 rfl dX12_stepsOf_140 rfl ?_
      refine pw_aload_n 142 rfl dX12_stepsOf_141 rfl ?_
      refine pw_bipush (v := nI 7) 144 rfl dX12_stepsOf_142 rfl ?_
      refine pw_iload_n 145 rfl dX12_stepsOf_144 rfl ?_
      first | refine pw_iaddN 146 rfl dX12_stepsOf_145 ?_ | refine pw_iadd 146 rfl dX12_stepsOf_145 ?_
      refine pw_ialdN 147 rfl dX12_stepsOf_146 (by first | rfl | assumption | exact rowS hh | exact mtS hm | exact ruS hr | exact mtA1 hm | exact mtA2 hm | exact mtA3 hm | exact mtA4 hm | exact mtA5 hm | exact mtA6 hm | exact mtA7 hm | exact ruA1 hr | exact ruA2 hr | exact ruA3 hr) (by omega) (by first | decide | omega) ?_
      rotate_left
      rw [uI_ne (by omega), f1 (7 + q) (by omega)]
      have fin : ∀ (v2 v3 : Int32), v2 = (if b (7 + q) = 1 then nI 1 else nI 0) → v3 = (if b 29 = q then nI 1 else nI 0) → PW SM yX12_stepsOf.cls cX12_stepsOf 7 (d + 236) 176 [some (.ref 0), some (.ref h), some (.int (nI q)), some (.int (nI 1 + nI (pc q) / nI 4)), some (.int (nI (cntB b (b q) q n))), some (.int (nI (cntD b (b q) q n))), some (.int (nI n))] [] (uI (uI (uI (uI I 8 0 (nI (pc q))) 8 1 (nI (b q))) 8 2 v2) 8 3 v3) (J) (RM rd (some hl)) (rX cX12_stepsOf (some .int) (fun r' I' J' R' => r' = some (.int (nI (ruE rt (lett n pc b q)))) ∧ (∀ a j, a ≠ 8 → ¬ (a = 0 ∧ (j = 9 ∨ j = 10 ∨ j = 11 ∨ j = 12 ∨ j = 17)) → I' a j = I a j) ∧ J = J' ∧ ∃ rd', R' = RM rd' (some hl))) := by
        intro v2 v3 e2 e3
        refine pw_aload_n 177 rfl dX12_stepsOf_176 rfl ?_
        refine pw_getR 180 rfl dX12_stepsOf_177 fX12_33 (by first | rfl | assumption | exact rowS hh | exact mtS hm | exact ruS hr | exact mtA1 hm | exact mtA2 hm | exact mtA3 hm | exact mtA4 hm | exact mtA5 hm | exact mtA6 hm | exact mtA7 hm | exact ruA1 hr | exact ruA2 hr | exact ruA3 hr) rfl (by first | rfl | assumption | exact mtR0 hm | exact mtR1 hm | exact mtR2 hm | exact mtR3 hm | exact mtR4 hm | exact mtR5 hm | exact mtR6 hm | exact ruR0 hr | exact ruR1 hr | exact ruR3 hr) ?_
        refine pw_iconst (v := nI 4) 181 rfl dX12_stepsOf_180 rfl ?_
        refine pw_iload 183 rfl dX12_stepsOf_181 rfl ?_
        refine pw_iastN 184 rfl dX12_stepsOf_183 (by first | rfl | assumption | exact rowS hh | exact mtS hm | exact ruS hr | exact mtA1 hm | exact mtA2 hm | exact mtA3 hm | exact mtA4 hm | exact mtA5 hm | exact mtA6 hm | exact mtA7 hm | exact ruA1 hr | exact ruA2 hr | exact ruA3 hr) (by omega) (by first | decide | omega) ?_
        refine pw_aload_n 185 rfl dX12_stepsOf_184 rfl ?_
        refine pw_getR 188 rfl dX12_stepsOf_185 fX12_33 (by first | rfl | assumption | exact rowS hh | exact mtS hm | exact ruS hr | exact mtA1 hm | exact mtA2 hm | exact mtA3 hm | exact mtA4 hm | exact mtA5 hm | exact mtA6 hm | exact mtA7 hm | exact ruA1 hr | exact ruA2 hr | exact ruA3 hr) rfl (by first | rfl | assumption | exact mtR0 hm | exact mtR1 hm | exact mtR2 hm | exact mtR3 hm | exact mtR4 hm | exact mtR5 hm | exact mtR6 hm | exact ruR0 hr | exact ruR1 hr | exact ruR3 hr) ?_
        refine pw_iconst (v := nI 5) 189 rfl dX12_stepsOf_188 rfl ?_
        refine pw_iload 191 rfl dX12_stepsOf_189 rfl ?_
        refine pw_iastN 192 rfl dX12_stepsOf_191 (by first | rfl | assumption | exact rowS hh | exact mtS hm | exact ruS hr | exact mtA1 hm | exact mtA2 hm | exact mtA3 hm | exact mtA4 hm | exact mtA5 hm | exact mtA6 hm | exact mtA7 hm | exact ruA1 hr | exact ruA2 hr | exact ruA3 hr) (by omega) (by first | decide | omega) ?_
        refine pw_aload_n 193 rfl dX12_stepsOf_192 rfl ?_
        refine pw_getR 196 rfl dX12_stepsOf_193 fX12_33 (by first | rfl | assumption | exact rowS hh | exact mtS hm | exact ruS hr | exact mtA1 hm | exact mtA2 hm | exact mtA3 hm | exact mtA4 hm | exact mtA5 hm | exact mtA6 hm | exact mtA7 hm | exact ruA1 hr | exact ruA2 hr | exact ruA3 hr) rfl (by first | rfl | assumption | exact mtR0 hm | exact mtR1 hm | exact mtR2 hm | exact mtR3 hm | exact mtR4 hm | exact mtR5 hm | exact mtR6 hm | exact ruR0 hr | exact ruR1 hr | exact ruR3 hr) ?_
        refine pw_bipush (v := nI 6) 198 rfl dX12_stepsOf_196 rfl ?_
        refine pw_aload_n 199 rfl dX12_stepsOf_198 rfl ?_
        refine pw_bipush (v := nI 30) 201 rfl dX12_stepsOf_199 rfl ?_
        refine pw_ialdN 202 rfl dX12_stepsOf_201 (by first | rfl | assumption | exact rowS hh | exact mtS hm | exact ruS hr | exact mtA1 hm | exact mtA2 hm | exact mtA3 hm | exact mtA4 hm | exact mtA5 hm | exact mtA6 hm | exact mtA7 hm | exact ruA1 hr | exact ruA2 hr | exact ruA3 hr) (by omega) (by first | decide | omega) ?_
        rotate_left
        rw [uI_ne (by omega), uI_ne (by omega), uI_ne (by omega), uI_ne (by omega), uI_ne (by omega), f1 30 (by omega)]
        refine pw_bipush (v := nI 7) 204 rfl dX12_stepsOf_202 rfl ?_
        refine pw_irem 205 rfl dX12_stepsOf_204 (by decide) ?_
        refine pw_iastN 206 rfl dX12_stepsOf_205 (by first | rfl | assumption | exact rowS hh | exact mtS hm | exact ruS hr | exact mtA1 hm | exact mtA2 hm | exact mtA3 hm | exact mtA4 hm | exact mtA5 hm | exact mtA6 hm | exact mtA7 hm | exact ruA1 hr | exact ruA2 hr | exact ruA3 hr) (by omega) (by first | decide | omega) ?_
        refine pw_aload_n 207 rfl dX12_stepsOf_206 rfl ?_
        refine pw_aload_n 208 rfl dX12_stepsOf_207 rfl ?_
        refine pw_getR 211 rfl dX12_stepsOf_208 fX12_27 (by first | rfl | assumption | exact rowS hh | exact mtS hm | exact ruS hr | exact mtA1 hm | exact mtA2 hm | exact mtA3 hm | exact mtA4 hm | exact mtA5 hm | exact mtA6 hm | exact mtA7 hm | exact ruA1 hr | exact ruA2 hr | exact ruA3 hr) rfl (by first | rfl | assumption | exact mtR0 hm | exact mtR1 hm | exact mtR2 hm | exact mtR3 hm | exact mtR4 hm | exact mtR5 hm | exact mtR6 hm | exact ruR0 hr | exact ruR1 hr | exact ruR3 hr) ?_
        refine pw_aload_n 212 rfl dX12_stepsOf_211 rfl ?_
        refine pw_getI 215 rfl dX12_stepsOf_212 fX12_186 (by first | rfl | assumption | exact rowS hh | exact mtS hm | exact ruS hr | exact mtA1 hm | exact mtA2 hm | exact mtA3 hm | exact mtA4 hm | exact mtA5 hm | exact mtA6 hm | exact mtA7 hm | exact ruA1 hr | exact ruA2 hr | exact ruA3 hr) rfl ?_
        rotate_left
        rw [uI_ne (by omega), uI_ne (by omega), uI_ne (by omega), uI_ne (by omega), uI_ne (by omega), uI_ne (by omega), uI_ne (by omega), r2]
        refine pw_bipush (v := nI 40) 217 rfl dX12_stepsOf_215 rfl ?_
        refine pw_callV (as := [_, _, _]) 220 rfl dX12_stepsOf_217 mX12_120 vX12_begin (m_begin (d := d + 235) hsl) (by first | rfl | assumption | exact rowS hh | exact mtS hm | exact ruS hr | exact mtA1 hm | exact mtA2 hm | exact mtA3 hm | exact mtA4 hm | exact mtA5 hm | exact mtA6 hm | exact mtA7 hm | exact ruA1 hr | exact ruA2 hr | exact ruA3 hr) rfl (by decide) ⟨rfl, by decide, by decide, show (parseMethodDescriptor yX12_begin.desc).map (fun d => d.parameters.length) = some 3 by decide +kernel⟩ (by omega) (by decide) (Nat.le_of_ble_eq_true rfl) rfl (fun r217 I217 J217 R217 c217 => ?_)
        obtain ⟨rfl, rfl, rfl, rfl⟩ := c217
        refine pw_aload_n 221 rfl dX12_stepsOf_220 rfl ?_
        refine pw_iconst (v := nI 1) 222 rfl dX12_stepsOf_221 rfl ?_
        refine pw_putI 225 rfl dX12_stepsOf_222 fX12_179 w12_17 (by first | rfl | assumption | exact rowS hh | exact mtS hm | exact ruS hr | exact mtA1 hm | exact mtA2 hm | exact mtA3 hm | exact mtA4 hm | exact mtA5 hm | exact mtA6 hm | exact mtA7 hm | exact ruA1 hr | exact ruA2 hr | exact ruA3 hr) rfl rfl rfl ?_
        rotate_left
        generalize hI1 : uI (uI (uI (uI (uI (uI (uI (uI (uI (uI (uI (uI I 8 0 (nI (pc q))) 8 1 (nI (b q))) 8 2 v2) 8 3 v3) 8 4 (nI (cntB b (b q) q n))) 8 5 (nI (cntD b (b q) q n))) 8 6 (nI (b 30) - nI (b 30) / nI 7 * nI 7)) 0 9 (nI rt.length)) 0 10 (nI 40)) 0 11 (nI 0)) 0 12 (-1)) 0 17 (nI 1) = I1
        have g0 : ∀ a j, a ≠ 8 → ¬ (a = 0 ∧ (j = 9 ∨ j = 10 ∨ j = 11 ∨ j = 12 ∨ j = 17)) → I1 a j = I a j := by
          intro a j h1 h2
          rw [← hI1, uI_ne (by omega), uI_ne (by omega), uI_ne (by omega), uI_ne (by omega), uI_ne (by omega), uI_ne (by omega), uI_ne (by omega), uI_ne (by omega), uI_ne (by omega), uI_ne (by omega), uI_ne (by omega), uI_ne (by omega)]
        have hMP : MP I1 hl 40 rt.length 40 rt rt := by
          refine ⟨hsl, r1, by decide, by decide, (Nat.min_eq_left r1).symm, ?_, ?_, ?_, List.suffix_refl _, fun j c hj => ?_, by omega⟩
          · rw [← hI1, uI_ne (by omega), uI_ne (by omega), uI_ne (by omega), uI_ne (by omega), uI_eq]
          · rw [← hI1, uI_ne (by omega), uI_ne (by omega), uI_ne (by omega), uI_eq]
          · rw [← hI1, uI_ne (by omega), uI_ne (by omega), uI_eq, Nat.sub_self]
          · rw [g0 hl j (by omega) (by omega)]; exact r3 j c hj
        have h12 : I1 0 12 = -1 := by rw [← hI1, uI_ne (by omega), uI_eq]
        have hLt : mLt I1 (lett n pc b q) := by
          refine Or.inl ⟨by rw [← hI1, uI_eq], lettN ?_ ?_ ?_ ?_ ?_ ?_ ?_⟩
          · rw [← hI1, uI_ne (by omega), uI_ne (by omega), uI_ne (by omega), uI_ne (by omega), uI_ne (by omega), uI_ne (by omega), uI_ne (by omega), uI_ne (by omega), uI_ne (by omega), uI_ne (by omega), uI_ne (by omega), uI_eq]
          · rw [← hI1, uI_ne (by omega), uI_ne (by omega), uI_ne (by omega), uI_ne (by omega), uI_ne (by omega), uI_ne (by omega), uI_ne (by omega), uI_ne (by omega), uI_ne (by omega), uI_ne (by omega), uI_eq]
          · rw [← hI1, uI_ne (by omega), uI_ne (by omega), uI_ne (by omega), uI_ne (by omega), uI_ne (by omega), uI_ne (by omega), uI_ne (by omega), uI_ne (by omega), uI_ne (by omega), uI_eq, e2]
          · rw [← hI1, uI_ne (by omega), uI_ne (by omega), uI_ne (by omega), uI_ne (by omega), uI_ne (by omega), uI_ne (by omega), uI_ne (by omega), uI_ne (by omega), uI_eq, e3]
          · rw [← hI1, uI_ne (by omega), uI_ne (by omega), uI_ne (by omega), uI_ne (by omega), uI_ne (by omega), uI_ne (by omega), uI_ne (by omega), uI_eq]
          · rw [← hI1, uI_ne (by omega), uI_ne (by omega), uI_ne (by omega), uI_ne (by omega), uI_ne (by omega), uI_ne (by omega), uI_eq]
          · rw [← hI1, uI_ne (by omega), uI_ne (by omega), uI_ne (by omega), uI_ne (by omega), uI_ne (by omega), uI_eq]
        have cx := m_heldK 4 0 rfl d hl 40 rt.length 40 (some hl) rt rt (lett n pc b q) I1 J hMP r1 h12 hLt
        rw [hf1] at cx
        refine pw_aload_n 226 rfl dX12_stepsOf_225 rfl ?_
        refine pw_iconst (v := nI 0) 227 rfl dX12_stepsOf_226 rfl ?_
        refine pw_callV (as := [_]) 230 rfl dX12_stepsOf_227 mX12_166 vX12_held cx (by first | rfl | assumption | exact rowS hh | exact mtS hm | exact ruS hr | exact mtA1 hm | exact mtA2 hm | exact mtA3 hm | exact mtA4 hm | exact mtA5 hm | exact mtA6 hm | exact mtA7 hm | exact ruA1 hr | exact ruA2 hr | exact ruA3 hr) rfl (by decide) ⟨rfl, by decide, by decide, show (parseMethodDescriptor yX12_held.desc).map (fun d => d.parameters.length) = some 1 by decide +kernel⟩ (by omega) (by decide) (Nat.le_of_ble_eq_true rfl) rfl (fun r227 I227 J227 R227 c227 => ?_)
        rotate_left
        obtain ⟨⟨rfl, p1, p2, p3⟩, p4, rfl, rfl⟩ := c227
        refine pw_istore_n 231 rfl dX12_stepsOf_230 (by decide) ?_
        refine pw_aload_n 232 rfl dX12_stepsOf_231 rfl ?_
        refine pw_iconst (v := nI 0) 233 rfl dX12_stepsOf_232 rfl ?_
        refine pw_putI 236 rfl dX12_stepsOf_233 fX12_179 w12_17 (by first | rfl | assumption | exact rowS hh | exact mtS hm | exact ruS hr | exact mtA1 hm | exact mtA2 hm | exact mtA3 hm | exact mtA4 hm | exact mtA5 hm | exact mtA6 hm | exact mtA7 hm | exact ruA1 hr | exact ruA2 hr | exact ruA3 hr) rfl rfl rfl ?_
        refine pw_iconst (v := nI 0) 237 rfl dX12_stepsOf_236 rfl ?_
        refine pw_iconst (v := nI 3) 238 rfl dX12_stepsOf_237 rfl ?_
        refine pw_iload_n 239 rfl dX12_stepsOf_238 rfl ?_
        refine pw_mmin 242 rfl dX12_stepsOf_239 mX12_189 (Nat.le_of_ble_eq_true rfl) ?_
        refine pw_mmax 245 rfl dX12_stepsOf_242 mX12_195 (Nat.le_of_ble_eq_true rfl) ?_
        rotate_left
        rw [clampV]
        refine pw_iret dX12_stepsOf_245 rfl ?_
        rotate_left
        refine ⟨?_, fun a j h1 h2 => ?_, rfl, some hl, rfl⟩
        · rw [← eR, hf2]
        · rw [uI_ne (by omega), p4 a j (by omega), g0 a j h1 h2]
      have fin3 : ∀ (v2 : Int32), v2 = (if b (7 + q) = 1 then nI 1 else nI 0) → PW SM yX12_stepsOf.cls cX12_stepsOf 7 (d + 236) 157 [some (.ref 0), some (.ref h), some (.int (nI q)), some (.int (nI 1 + nI (pc q) / nI 4)), some (.int (nI (cntB b (b q) q n))), some (.int (nI (cntD b (b q) q n))), some (.int (nI n))] [] (uI (uI (uI I 8 0 (nI (pc q))) 8 1 (nI (b q))) 8 2 v2) (J) (RM rd (some hl)) (rX cX12_stepsOf (some .int) (fun r' I' J' R' => r' = some (.int (nI (ruE rt (lett n pc b q)))) ∧ (∀ a j, a ≠ 8 → ¬ (a = 0 ∧ (j = 9 ∨ j = 10 ∨ j = 11 ∨ j = 12 ∨ j = 17)) → I' a j = I a j) ∧ J = J' ∧ ∃ rd', R' = RM rd' (some hl))) := by
        intro v2 e2
        by_cases ho : b 29 = q
        · refine pw_aload_n 158 rfl dX12_stepsOf_157 rfl ?_
          refine pw_getR 161 rfl dX12_stepsOf_158 fX12_33 (by first | rfl | assumption | exact rowS hh | exact mtS hm | exact ruS hr | exact mtA1 hm | exact mtA2 hm | exact mtA3 hm | exact mtA4 hm | exact mtA5 hm | exact mtA6 hm | exact mtA7 hm | exact ruA1 hr | exact ruA2 hr | exact ruA3 hr) rfl (by first | rfl | assumption | exact mtR0 hm | exact mtR1 hm | exact mtR2 hm | exact mtR3 hm | exact mtR4 hm | exact mtR5 hm | exact mtR6 hm | exact ruR0 hr | exact ruR1 hr | exact ruR3 hr) ?_
          refine pw_iconst (v := nI 3) 162 rfl dX12_stepsOf_161 rfl ?_
          refine pw_aload_n 163 rfl dX12_stepsOf_162 rfl ?_
          refine pw_bipush (v := nI 29) 165 rfl dX12_stepsOf_163 rfl ?_
          refine pw_ialdN 166 rfl dX12_stepsOf_165 (by first | rfl | assumption | exact rowS hh | exact mtS hm | exact ruS hr | exact mtA1 hm | exact mtA2 hm | exact mtA3 hm | exact mtA4 hm | exact mtA5 hm | exact mtA6 hm | exact mtA7 hm | exact ruA1 hr | exact ruA2 hr | exact ruA3 hr) (by omega) (by first | decide | omega) ?_
          refine pw_iload_n 167 rfl dX12_stepsOf_166 rfl ?_
          refine pw_icmp_ne (tgt := 174) 170 rfl dX12_stepsOf_167 rfl (fun h167 => absurd (by rw [uI_ne (by omega), uI_ne (by omega), f1 29 (by omega), ho]) h167) (fun h167 => ?_)
          refine pw_iconst (v := nI 1) 171 rfl dX12_stepsOf_170 rfl ?_
          refine pw_goto (tgt := 175) dX12_stepsOf_171 rfl ?_
          refine pw_iastN 176 rfl dX12_stepsOf_175 (by first | rfl | assumption | exact rowS hh | exact mtS hm | exact ruS hr | exact mtA1 hm | exact mtA2 hm | exact mtA3 hm | exact mtA4 hm | exact mtA5 hm | exact mtA6 hm | exact mtA7 hm | exact ruA1 hr | exact ruA2 hr | exact ruA3 hr) (by omega) (by first | decide | omega) ?_
          rotate_left
          exact fin _ _ e2 (by rw [if_pos ho])
        · refine pw_aload_n 158 rfl dX12_stepsOf_157 rfl ?_
          refine pw_getR 161 rfl dX12_stepsOf_158 fX12_33 (by first | rfl | assumption | exact rowS hh | exact mtS hm | exact ruS hr | exact mtA1 hm | exact mtA2 hm | exact mtA3 hm | exact mtA4 hm | exact mtA5 hm | exact mtA6 hm | exact mtA7 hm | exact ruA1 hr | exact ruA2 hr | exact ruA3 hr) rfl (by first | rfl | assumption | exact mtR0 hm | exact mtR1 hm | exact mtR2 hm | exact mtR3 hm | exact mtR4 hm | exact mtR5 hm | exact mtR6 hm | exact ruR0 hr | exact ruR1 hr | exact ruR3 hr) ?_
          refine pw_iconst (v := nI 3) 162 rfl dX12_stepsOf_161 rfl ?_
          refine pw_aload_n 163 rfl dX12_stepsOf_162 rfl ?_
          refine pw_bipush (v := nI 29) 165 rfl dX12_stepsOf_163 rfl ?_
          refine pw_ialdN 166 rfl dX12_stepsOf_165 (by first | rfl | assumption | exact rowS hh | exact mtS hm | exact ruS hr | exact mtA1 hm | exact mtA2 hm | exact mtA3 hm | exact mtA4 hm | exact mtA5 hm | exact mtA6 hm | exact mtA7 hm | exact ruA1 hr | exact ruA2 hr | exact ruA3 hr) (by omega) (by first | decide | omega) ?_
          refine pw_iload_n 167 rfl dX12_stepsOf_166 rfl ?_
          refine pw_icmp_ne (tgt := 174) 170 rfl dX12_stepsOf_167 rfl (fun h167 => ?_) (fun h167 => absurd h167 (by rw [uI_ne (by omega), uI_ne (by omega), f1 29 (by omega), nI_eq (by omega) (by omega)]; exact ho))
          refine pw_iconst (v := nI 0) 175 rfl dX12_stepsOf_174 rfl ?_
          refine pw_iastN 176 rfl dX12_stepsOf_175 (by first | rfl | assumption | exact rowS hh | exact mtS hm | exact ruS hr | exact mtA1 hm | exact mtA2 hm | exact mtA3 hm | exact mtA4 hm | exact mtA5 hm | exact mtA6 hm | exact mtA7 hm | exact ruA1 hr | exact ruA2 hr | exact ruA3 hr) (by omega) (by first | decide | omega) ?_
          rotate_left
          exact fin _ _ e2 (by rw [if_neg ho])
      by_cases hw : b (7 + q) = 1
      · refine pw_iconst (v := nI 1) 148 rfl dX12_stepsOf_147 rfl ?_
        refine pw_icmp_ne (tgt := 155) 151 rfl dX12_stepsOf_148 rfl (fun h148 => absurd (by rw [hw]) h148) (fun h148 => ?_)
        refine pw_iconst (v := nI 1) 152 rfl dX12_stepsOf_151 rfl ?_
        refine pw_goto (tgt := 156) dX12_stepsOf_152 rfl ?_
        refine pw_iastN 157 rfl dX12_stepsOf_156 (by first | rfl | assumption | exact rowS hh | exact mtS hm | exact ruS hr | exact mtA1 hm | exact mtA2 hm | exact mtA3 hm | exact mtA4 hm | exact mtA5 hm | exact mtA6 hm | exact mtA7 hm | exact ruA1 hr | exact ruA2 hr | exact ruA3 hr) (by omega) (by first | decide | omega) ?_
        rotate_left
        exact fin3 _ (by rw [if_pos hw])
      · refine pw_iconst (v := nI 1) 148 rfl dX12_stepsOf_147 rfl ?_
        refine pw_icmp_ne (tgt := 155) 151 rfl dX12_stepsOf_148 rfl (fun h148 => ?_) (fun h148 => absurd h148 (by rw [nI_eq (by omega) (by omega)]; exact hw))
        refine pw_iconst (v := nI 0) 156 rfl dX12_stepsOf_155 rfl ?_
        refine pw_iastN 157 rfl dX12_stepsOf_156 (by first | rfl | assumption | exact rowS hh | exact mtS hm | exact ruS hr | exact mtA1 hm | exact mtA2 hm | exact mtA3 hm | exact mtA4 hm | exact mtA5 hm | exact mtA6 hm | exact mtA7 hm | exact ruA1 hr | exact ruA2 hr | exact ruA3 hr) (by omega) (by first | decide | omega) ?_
        rotate_left
        exact fin3 _ (by rw [if_neg hw])
    · intro k hk ih
      have hbk := hBd k (by omega)
      have w1 : I h (7 + k) = nI (b (7 + k)) := hB _ (by omega)
      have w2 : I h k = nI (b k) := hB _ (by omega)
      have w3 : I h q = nI (b q) := hB _ (by omega)
      have st2 : PW SM yX12_stepsOf.cls cX12_stepsOf 7 (d + 236) 72 [some (.ref 0), some (.ref h), some (.int (nI q)), some (.int (nI 1 + nI (pc q) / nI 4)), some (.int (nI (cntB b (b q) q (k + 1)))), some (.int (nI (cntD b (b q) q k))), some (.int (nI k))] [] (I) (J) (RM rd (some hl)) (rX cX12_stepsOf (some .int) (fun r' I' J' R' => r' = some (.int (nI (ruE rt (lett n pc b q)))) ∧ (∀ a j, a ≠ 8 → ¬ (a = 0 ∧ (j = 9 ∨ j = 10 ∨ j = 11 ∨ j = 12 ∨ j = 17)) → I' a j = I a j) ∧ J = J' ∧ ∃ rd', R' = RM rd' (some hl))) := by
        have e : cntD b (b q) q (k + 1) = cntD b (b q) q k + if k ≠ q ∧ b (7 + k) = 2 ∧ b k < b q then 1 else 0 := rfl
        by_cases c1 : k = q
        · rw [e, if_neg (fun z => z.1 c1)] at ih
          refine pw_iload 74 rfl dX12_stepsOf_72 rfl ?_
          refine pw_iload 76 rfl dX12_stepsOf_74 rfl ?_
          refine pw_iload_n 77 rfl dX12_stepsOf_76 rfl ?_
          refine pw_icmp_eq (tgt := 105) 80 rfl dX12_stepsOf_77 rfl (fun h77 => ?_) (fun h77 => absurd (by rw [c1]) h77)
          refine pw_iconst (v := nI 0) 106 rfl dX12_stepsOf_105 rfl ?_
          first | refine pw_iaddN 107 rfl dX12_stepsOf_106 ?_ | refine pw_iadd 107 rfl dX12_stepsOf_106 ?_
          refine pw_istore 109 rfl dX12_stepsOf_107 (by decide) ?_
          refine pw_iincN 112 rfl dX12_stepsOf_109 (by decide) rfl ?_
          refine pw_goto (tgt := 27) dX12_stepsOf_112 rfl ?_
          rotate_left
          exact ih
        · have c1' : ¬ nI k = nI q := by rw [nI_eq (by omega) (by omega)]; exact c1
          by_cases c2 : b (7 + k) = 2
          · by_cases c3 : b k < b q
            · rw [e, if_pos ⟨c1, c2, c3⟩] at ih
              refine pw_iload 74 rfl dX12_stepsOf_72 rfl ?_
              refine pw_iload 76 rfl dX12_stepsOf_74 rfl ?_
              refine pw_iload_n 77 rfl dX12_stepsOf_76 rfl ?_
              refine pw_icmp_eq (tgt := 105) 80 rfl dX12_stepsOf_77 rfl (fun h77 => absurd h77 c1') (fun h77 => ?_)
              refine pw_aload_n 81 rfl dX12_stepsOf_80 rfl ?_
              refine pw_bipush (v := nI 7) 83 rfl dX12_stepsOf_81 rfl ?_
              refine pw_iload 85 rfl dX12_stepsOf_83 rfl ?_
              first | refine pw_iaddN 86 rfl dX12_stepsOf_85 ?_ | refine pw_iadd 86 rfl dX12_stepsOf_85 ?_
              refine pw_ialdN 87 rfl dX12_stepsOf_86 (by first | rfl | assumption | exact rowS hh | exact mtS hm | exact ruS hr | exact mtA1 hm | exact mtA2 hm | exact mtA3 hm | exact mtA4 hm | exact mtA5 hm | exact mtA6 hm | exact mtA7 hm | exact ruA1 hr | exact ruA2 hr | exact ruA3 hr) (by omega) (by first | decide | omega) ?_
              refine pw_iconst (v := nI 2) 88 rfl dX12_stepsOf_87 rfl ?_
              refine pw_icmp_ne (tgt := 105) 91 rfl dX12_stepsOf_88 rfl (fun h88 => absurd (by rw [w1, c2]) h88) (fun h88 => ?_)
              refine pw_aload_n 92 rfl dX12_stepsOf_91 rfl ?_
              refine pw_iload 94 rfl dX12_stepsOf_92 rfl ?_
              refine pw_ialdN 95 rfl dX12_stepsOf_94 (by first | rfl | assumption | exact rowS hh | exact mtS hm | exact ruS hr | exact mtA1 hm | exact mtA2 hm | exact mtA3 hm | exact mtA4 hm | exact mtA5 hm | exact mtA6 hm | exact mtA7 hm | exact ruA1 hr | exact ruA2 hr | exact ruA3 hr) (by omega) (by first | decide | omega) ?_
              refine pw_aload_n 96 rfl dX12_stepsOf_95 rfl ?_
              refine pw_iload_n 97 rfl dX12_stepsOf_96 rfl ?_
              refine pw_ialdN 98 rfl dX12_stepsOf_97 (by first | rfl | assumption | exact rowS hh | exact mtS hm | exact ruS hr | exact mtA1 hm | exact mtA2 hm | exact mtA3 hm | exact mtA4 hm | exact mtA5 hm | exact mtA6 hm | exact mtA7 hm | exact ruA1 hr | exact ruA2 hr | exact ruA3 hr) (by omega) (by first | decide | omega) ?_
              refine pw_icmp_ge (tgt := 105) 101 rfl dX12_stepsOf_98 rfl (fun h98 => absurd h98 (by rw [w2, w3]; (simp (disch := omega) only [nI_leI, nI_ltI, nI_eq, show (0 : Int32) = nI 0 from rfl, not_true_eq_false, not_false_eq_true] <;> omega))) (fun h98 => ?_)
              refine pw_iconst (v := nI 1) 102 rfl dX12_stepsOf_101 rfl ?_
              refine pw_goto (tgt := 106) dX12_stepsOf_102 rfl ?_
              first | refine pw_iaddN 107 rfl dX12_stepsOf_106 ?_ | refine pw_iadd 107 rfl dX12_stepsOf_106 ?_
              refine pw_istore 109 rfl dX12_stepsOf_107 (by decide) ?_
              refine pw_iincN 112 rfl dX12_stepsOf_109 (by decide) rfl ?_
              refine pw_goto (tgt := 27) dX12_stepsOf_112 rfl ?_
              rotate_left
              exact ih
            · rw [e, if_neg (fun z => c3 z.2.2)] at ih
              refine pw_iload 74 rfl dX12_stepsOf_72 rfl ?_
              refine pw_iload 76 rfl dX12_stepsOf_74 rfl ?_
              refine pw_iload_n 77 rfl dX12_stepsOf_76 rfl ?_
              refine pw_icmp_eq (tgt := 105) 80 rfl dX12_stepsOf_77 rfl (fun h77 => absurd h77 c1') (fun h77 => ?_)
              refine pw_aload_n 81 rfl dX12_stepsOf_80 rfl ?_
              refine pw_bipush (v := nI 7) 83 rfl dX12_stepsOf_81 rfl ?_
              refine pw_iload 85 rfl dX12_stepsOf_83 rfl ?_
              first | refine pw_iaddN 86 rfl dX12_stepsOf_85 ?_ | refine pw_iadd 86 rfl dX12_stepsOf_85 ?_
              refine pw_ialdN 87 rfl dX12_stepsOf_86 (by first | rfl | assumption | exact rowS hh | exact mtS hm | exact ruS hr | exact mtA1 hm | exact mtA2 hm | exact mtA3 hm | exact mtA4 hm | exact mtA5 hm | exact mtA6 hm | exact mtA7 hm | exact ruA1 hr | exact ruA2 hr | exact ruA3 hr) (by omega) (by first | decide | omega) ?_
              refine pw_iconst (v := nI 2) 88 rfl dX12_stepsOf_87 rfl ?_
              refine pw_icmp_ne (tgt := 105) 91 rfl dX12_stepsOf_88 rfl (fun h88 => absurd (by rw [w1, c2]) h88) (fun h88 => ?_)
              refine pw_aload_n 92 rfl dX12_stepsOf_91 rfl ?_
              refine pw_iload 94 rfl dX12_stepsOf_92 rfl ?_
              refine pw_ialdN 95 rfl dX12_stepsOf_94 (by first | rfl | assumption | exact rowS hh | exact mtS hm | exact ruS hr | exact mtA1 hm | exact mtA2 hm | exact mtA3 hm | exact mtA4 hm | exact mtA5 hm | exact mtA6 hm | exact mtA7 hm | exact ruA1 hr | exact ruA2 hr | exact ruA3 hr) (by omega) (by first | decide | omega) ?_
              refine pw_aload_n 96 rfl dX12_stepsOf_95 rfl ?_
              refine pw_iload_n 97 rfl dX12_stepsOf_96 rfl ?_
              refine pw_ialdN 98 rfl dX12_stepsOf_97 (by first | rfl | assumption | exact rowS hh | exact mtS hm | exact ruS hr | exact mtA1 hm | exact mtA2 hm | exact mtA3 hm | exact mtA4 hm | exact mtA5 hm | exact mtA6 hm | exact mtA7 hm | exact ruA1 hr | exact ruA2 hr | exact ruA3 hr) (by omega) (by first | decide | omega) ?_
              refine pw_icmp_ge (tgt := 105) 101 rfl dX12_stepsOf_98 rfl (fun h98 => ?_) (fun h98 => absurd (by rw [w2, w3]; (simp (disch := omega) only [nI_leI, nI_ltI, nI_eq, show (0 : Int32) = nI 0 from rfl, not_true_eq_false, not_false_eq_true] <;> omega)) h98)
              refine pw_iconst (v := nI 0) 106 rfl dX12_stepsOf_105 rfl ?_
              first | refine pw_iaddN 107 rfl dX12_stepsOf_106 ?_ | refine pw_iadd 107 rfl dX12_stepsOf_106 ?_
              refine pw_istore 109 rfl dX12_stepsOf_107 (by decide) ?_
              refine pw_iincN 112 rfl dX12_stepsOf_109 (by decide) rfl ?_
              refine pw_goto (tgt := 27) dX12_stepsOf_112 rfl ?_
              rotate_left
              exact ih
          · rw [e, if_neg (fun z => c2 z.2.1)] at ih
            refine pw_iload 74 rfl dX12_stepsOf_72 rfl ?_
            refine pw_iload 76 rfl dX12_stepsOf_74 rfl ?_
            refine pw_iload_n 77 rfl dX12_stepsOf_76 rfl ?_
            refine pw_icmp_eq (tgt := 105) 80 rfl dX12_stepsOf_77 rfl (fun h77 => absurd h77 c1') (fun h77 => ?_)
            refine pw_aload_n 81 rfl dX12_stepsOf_80 rfl ?_
            refine pw_bipush (v := nI 7) 83 rfl dX12_stepsOf_81 rfl ?_
            refine pw_iload 85 rfl dX12_stepsOf_83 rfl ?_
            first | refine pw_iaddN 86 rfl dX12_stepsOf_85 ?_ | refine pw_iadd 86 rfl dX12_stepsOf_85 ?_
            refine pw_ialdN 87 rfl dX12_stepsOf_86 (by first | rfl | assumption | exact rowS hh | exact mtS hm | exact ruS hr | exact mtA1 hm | exact mtA2 hm | exact mtA3 hm | exact mtA4 hm | exact mtA5 hm | exact mtA6 hm | exact mtA7 hm | exact ruA1 hr | exact ruA2 hr | exact ruA3 hr) (by omega) (by first | decide | omega) ?_
            refine pw_iconst (v := nI 2) 88 rfl dX12_stepsOf_87 rfl ?_
            refine pw_icmp_ne (tgt := 105) 91 rfl dX12_stepsOf_88 rfl (fun h88 => ?_) (fun h88 => absurd h88 (by rw [w1, nI_eq (by omega) (by omega)]; exact c2))
            refine pw_iconst (v := nI 0) 106 rfl dX12_stepsOf_105 rfl ?_
            first | refine pw_iaddN 107 rfl dX12_stepsOf_106 ?_ | refine pw_iadd 107 rfl dX12_stepsOf_106 ?_
            refine pw_istore 109 rfl dX12_stepsOf_107 (by decide) ?_
            refine pw_iincN 112 rfl dX12_stepsOf_109 (by decide) rfl ?_
            refine pw_goto (tgt := 27) dX12_stepsOf_112 rfl ?_
            rotate_left
            exact ih
      have e : cntB b (b q) q (k + 1) = cntB b (b q) q k + if k ≠ q ∧ b (7 + k) ≠ 0 ∧ b k = b q then 1 else 0 := rfl
      by_cases c1 : k = q
      · rw [e, if_neg (fun z => z.1 c1)] at st2
        refine pw_iload 29 rfl dX12_stepsOf_27 rfl ?_
        refine pw_aload_n 30 rfl dX12_stepsOf_29 rfl ?_
        refine pw_getI 33 rfl dX12_stepsOf_30 fX12_95 (by first | rfl | assumption | exact rowS hh | exact mtS hm | exact ruS hr | exact mtA1 hm | exact mtA2 hm | exact mtA3 hm | exact mtA4 hm | exact mtA5 hm | exact mtA6 hm | exact mtA7 hm | exact ruA1 hr | exact ruA2 hr | exact ruA3 hr) rfl ?_
        refine pw_icmp_ge (tgt := 115) 36 rfl dX12_stepsOf_33 rfl (fun h33 => absurd h33 (by rw [hn]; (simp (disch := omega) only [nI_leI, nI_ltI, nI_eq, show (0 : Int32) = nI 0 from rfl, not_true_eq_false, not_false_eq_true] <;> omega))) (fun h33 => ?_)
        refine pw_iload 38 rfl dX12_stepsOf_36 rfl ?_
        refine pw_iload 40 rfl dX12_stepsOf_38 rfl ?_
        refine pw_iload_n 41 rfl dX12_stepsOf_40 rfl ?_
        refine pw_icmp_eq (tgt := 68) 44 rfl dX12_stepsOf_41 rfl (fun h41 => ?_) (fun h41 => absurd (by rw [c1]) h41)
        refine pw_iconst (v := nI 0) 69 rfl dX12_stepsOf_68 rfl ?_
        first | refine pw_iaddN 70 rfl dX12_stepsOf_69 ?_ | refine pw_iadd 70 rfl dX12_stepsOf_69 ?_
        refine pw_istore 72 rfl dX12_stepsOf_70 (by decide) ?_
        rotate_left
        exact st2
      · have c1' : ¬ nI k = nI q := by rw [nI_eq (by omega) (by omega)]; exact c1
        by_cases c2 : b (7 + k) = 0
        · rw [e, if_neg (fun z => z.2.1 c2)] at st2
          refine pw_iload 29 rfl dX12_stepsOf_27 rfl ?_
          refine pw_aload_n 30 rfl dX12_stepsOf_29 rfl ?_
          refine pw_getI 33 rfl dX12_stepsOf_30 fX12_95 (by first | rfl | assumption | exact rowS hh | exact mtS hm | exact ruS hr | exact mtA1 hm | exact mtA2 hm | exact mtA3 hm | exact mtA4 hm | exact mtA5 hm | exact mtA6 hm | exact mtA7 hm | exact ruA1 hr | exact ruA2 hr | exact ruA3 hr) rfl ?_
          refine pw_icmp_ge (tgt := 115) 36 rfl dX12_stepsOf_33 rfl (fun h33 => absurd h33 (by rw [hn]; (simp (disch := omega) only [nI_leI, nI_ltI, nI_eq, show (0 : Int32) = nI 0 from rfl, not_true_eq_false, not_false_eq_true] <;> omega))) (fun h33 => ?_)
          refine pw_iload 38 rfl dX12_stepsOf_36 rfl ?_
          refine pw_iload 40 rfl dX12_stepsOf_38 rfl ?_
          refine pw_iload_n 41 rfl dX12_stepsOf_40 rfl ?_
          refine pw_icmp_eq (tgt := 68) 44 rfl dX12_stepsOf_41 rfl (fun h41 => absurd h41 c1') (fun h41 => ?_)
          refine pw_aload_n 45 rfl dX12_stepsOf_44 rfl ?_
          refine pw_bipush (v := nI 7) 47 rfl dX12_stepsOf_45 rfl ?_
          refine pw_iload 49 rfl dX12_stepsOf_47 rfl ?_
          first | refine pw_iaddN 50 rfl dX12_stepsOf_49 ?_ | refine pw_iadd 50 rfl dX12_stepsOf_49 ?_
          refine pw_ialdN 51 rfl dX12_stepsOf_50 (by first | rfl | assumption | exact rowS hh | exact mtS hm | exact ruS hr | exact mtA1 hm | exact mtA2 hm | exact mtA3 hm | exact mtA4 hm | exact mtA5 hm | exact mtA6 hm | exact mtA7 hm | exact ruA1 hr | exact ruA2 hr | exact ruA3 hr) (by omega) (by first | decide | omega) ?_
          refine pw_if_eq (tgt := 68) 54 rfl dX12_stepsOf_51 rfl (fun h51 => ?_) (fun h51 => absurd (by rw [w1, c2]; rfl) h51)
          refine pw_iconst (v := nI 0) 69 rfl dX12_stepsOf_68 rfl ?_
          first | refine pw_iaddN 70 rfl dX12_stepsOf_69 ?_ | refine pw_iadd 70 rfl dX12_stepsOf_69 ?_
          refine pw_istore 72 rfl dX12_stepsOf_70 (by decide) ?_
          rotate_left
          exact st2
        · have c2' : ¬ I h (7 + k) = 0 := by rw [w1]; exact nI_ne0 (by omega) (by omega)
          by_cases c3 : b k = b q
          · rw [e, if_pos ⟨c1, c2, c3⟩] at st2
            refine pw_iload 29 rfl dX12_stepsOf_27 rfl ?_
            refine pw_aload_n 30 rfl dX12_stepsOf_29 rfl ?_
            refine pw_getI 33 rfl dX12_stepsOf_30 fX12_95 (by first | rfl | assumption | exact rowS hh | exact mtS hm | exact ruS hr | exact mtA1 hm | exact mtA2 hm | exact mtA3 hm | exact mtA4 hm | exact mtA5 hm | exact mtA6 hm | exact mtA7 hm | exact ruA1 hr | exact ruA2 hr | exact ruA3 hr) rfl ?_
            refine pw_icmp_ge (tgt := 115) 36 rfl dX12_stepsOf_33 rfl (fun h33 => absurd h33 (by rw [hn]; (simp (disch := omega) only [nI_leI, nI_ltI, nI_eq, show (0 : Int32) = nI 0 from rfl, not_true_eq_false, not_false_eq_true] <;> omega))) (fun h33 => ?_)
            refine pw_iload 38 rfl dX12_stepsOf_36 rfl ?_
            refine pw_iload 40 rfl dX12_stepsOf_38 rfl ?_
            refine pw_iload_n 41 rfl dX12_stepsOf_40 rfl ?_
            refine pw_icmp_eq (tgt := 68) 44 rfl dX12_stepsOf_41 rfl (fun h41 => absurd h41 c1') (fun h41 => ?_)
            refine pw_aload_n 45 rfl dX12_stepsOf_44 rfl ?_
            refine pw_bipush (v := nI 7) 47 rfl dX12_stepsOf_45 rfl ?_
            refine pw_iload 49 rfl dX12_stepsOf_47 rfl ?_
            first | refine pw_iaddN 50 rfl dX12_stepsOf_49 ?_ | refine pw_iadd 50 rfl dX12_stepsOf_49 ?_
            refine pw_ialdN 51 rfl dX12_stepsOf_50 (by first | rfl | assumption | exact rowS hh | exact mtS hm | exact ruS hr | exact mtA1 hm | exact mtA2 hm | exact mtA3 hm | exact mtA4 hm | exact mtA5 hm | exact mtA6 hm | exact mtA7 hm | exact ruA1 hr | exact ruA2 hr | exact ruA3 hr) (by omega) (by first | decide | omega) ?_
            refine pw_if_eq (tgt := 68) 54 rfl dX12_stepsOf_51 rfl (fun h51 => absurd h51 c2') (fun h51 => ?_)
            refine pw_aload_n 55 rfl dX12_stepsOf_54 rfl ?_
            refine pw_iload 57 rfl dX12_stepsOf_55 rfl ?_
            refine pw_ialdN 58 rfl dX12_stepsOf_57 (by first | rfl | assumption | exact rowS hh | exact mtS hm | exact ruS hr | exact mtA1 hm | exact mtA2 hm | exact mtA3 hm | exact mtA4 hm | exact mtA5 hm | exact mtA6 hm | exact mtA7 hm | exact ruA1 hr | exact ruA2 hr | exact ruA3 hr) (by omega) (by first | decide | omega) ?_
            refine pw_aload_n 59 rfl dX12_stepsOf_58 rfl ?_
            refine pw_iload_n 60 rfl dX12_stepsOf_59 rfl ?_
            refine pw_ialdN 61 rfl dX12_stepsOf_60 (by first | rfl | assumption | exact rowS hh | exact mtS hm | exact ruS hr | exact mtA1 hm | exact mtA2 hm | exact mtA3 hm | exact mtA4 hm | exact mtA5 hm | exact mtA6 hm | exact mtA7 hm | exact ruA1 hr | exact ruA2 hr | exact ruA3 hr) (by omega) (by first | decide | omega) ?_
            refine pw_icmp_ne (tgt := 68) 64 rfl dX12_stepsOf_61 rfl (fun h61 => absurd (by rw [w2, w3, c3]) h61) (fun h61 => ?_)
            refine pw_iconst (v := nI 1) 65 rfl dX12_stepsOf_64 rfl ?_
            refine pw_goto (tgt := 69) dX12_stepsOf_65 rfl ?_
            first | refine pw_iaddN 70 rfl dX12_stepsOf_69 ?_ | refine pw_iadd 70 rfl dX12_stepsOf_69 ?_
            refine pw_istore 72 rfl dX12_stepsOf_70 (by decide) ?_
            rotate_left
            exact st2
          · rw [e, if_neg (fun z => c3 z.2.2)] at st2
            refine pw_iload 29 rfl dX12_stepsOf_27 rfl ?_
            refine pw_aload_n 30 rfl dX12_stepsOf_29 rfl ?_
            refine pw_getI 33 rfl dX12_stepsOf_30 fX12_95 (by first | rfl | assumption | exact rowS hh | exact mtS hm | exact ruS hr | exact mtA1 hm | exact mtA2 hm | exact mtA3 hm | exact mtA4 hm | exact mtA5 hm | exact mtA6 hm | exact mtA7 hm | exact ruA1 hr | exact ruA2 hr | exact ruA3 hr) rfl ?_
            refine pw_icmp_ge (tgt := 115) 36 rfl dX12_stepsOf_33 rfl (fun h33 => absurd h33 (by rw [hn]; (simp (disch := omega) only [nI_leI, nI_ltI, nI_eq, show (0 : Int32) = nI 0 from rfl, not_true_eq_false, not_false_eq_true] <;> omega))) (fun h33 => ?_)
            refine pw_iload 38 rfl dX12_stepsOf_36 rfl ?_
            refine pw_iload 40 rfl dX12_stepsOf_38 rfl ?_
            refine pw_iload_n 41 rfl dX12_stepsOf_40 rfl ?_
            refine pw_icmp_eq (tgt := 68) 44 rfl dX12_stepsOf_41 rfl (fun h41 => absurd h41 c1') (fun h41 => ?_)
            refine pw_aload_n 45 rfl dX12_stepsOf_44 rfl ?_
            refine pw_bipush (v := nI 7) 47 rfl dX12_stepsOf_45 rfl ?_
            refine pw_iload 49 rfl dX12_stepsOf_47 rfl ?_
            first | refine pw_iaddN 50 rfl dX12_stepsOf_49 ?_ | refine pw_iadd 50 rfl dX12_stepsOf_49 ?_
            refine pw_ialdN 51 rfl dX12_stepsOf_50 (by first | rfl | assumption | exact rowS hh | exact mtS hm | exact ruS hr | exact mtA1 hm | exact mtA2 hm | exact mtA3 hm | exact mtA4 hm | exact mtA5 hm | exact mtA6 hm | exact mtA7 hm | exact ruA1 hr | exact ruA2 hr | exact ruA3 hr) (by omega) (by first | decide | omega) ?_
            refine pw_if_eq (tgt := 68) 54 rfl dX12_stepsOf_51 rfl (fun h51 => absurd h51 c2') (fun h51 => ?_)
            refine pw_aload_n 55 rfl dX12_stepsOf_54 rfl ?_
            refine pw_iload 57 rfl dX12_stepsOf_55 rfl ?_
            refine pw_ialdN 58 rfl dX12_stepsOf_57 (by first | rfl | assumption | exact rowS hh | exact mtS hm | exact ruS hr | exact mtA1 hm | exact mtA2 hm | exact mtA3 hm | exact mtA4 hm | exact mtA5 hm | exact mtA6 hm | exact mtA7 hm | exact ruA1 hr | exact ruA2 hr | exact ruA3 hr) (by omega) (by first | decide | omega) ?_
            refine pw_aload_n 59 rfl dX12_stepsOf_58 rfl ?_
            refine pw_iload_n 60 rfl dX12_stepsOf_59 rfl ?_
            refine pw_ialdN 61 rfl dX12_stepsOf_60 (by first | rfl | assumption | exact rowS hh | exact mtS hm | exact ruS hr | exact mtA1 hm | exact mtA2 hm | exact mtA3 hm | exact mtA4 hm | exact mtA5 hm | exact mtA6 hm | exact mtA7 hm | exact ruA1 hr | exact ruA2 hr | exact ruA3 hr) (by omega) (by first | decide | omega) ?_
            refine pw_icmp_ne (tgt := 68) 64 rfl dX12_stepsOf_61 rfl (fun h61 => ?_) (fun h61 => absurd h61 (by rw [w2, w3, nI_eq (by omega) (by omega)]; exact c3))
            refine pw_iconst (v := nI 0) 69 rfl dX12_stepsOf_68 rfl ?_
            first | refine pw_iaddN 70 rfl dX12_stepsOf_69 ?_ | refine pw_iadd 70 rfl dX12_stepsOf_69 ?_
            refine pw_istore 72 rfl dX12_stepsOf_70 (by decide) ?_
            rotate_left
            exact st2
theorem m_steps {hl : Nat} {rt : List Nat} {I : pI} (hhl : hl = 6 ∨ hl = 7) (hR : MRl I hl rt) : MSt 236 (some hl) I (ruE rt) := by
  refine ⟨fun lt => (ruE_nI rt lt).2, fun n pc b h q I1 J1 rd1 hW hh hq hC hB h16 h6 h7 => ?_⟩
  obtain ⟨r1, r2, r3, r4⟩ := hR
  have hR1 : MRl I1 hl rt := ⟨r1, by rw [h16]; exact r2, fun j c hj => by
    have := r3 j c hj
    rcases hhl with rfl | rfl
    · rw [h6 j]; exact this
    · rw [h7 j]; exact this, r4⟩
  exact m_steps0 (d := 0) hhl hR1 hW hh hq hC hB
