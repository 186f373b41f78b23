theorem wrR_le {tx : List Nat} {p : Nat} (h : wrR tx = some p) : p ≤ 40 := by
  have hl : (tx.take 40).length ≤ 40 := by rw [List.length_take]; exact Nat.min_le_left _ _
  unfold wrR at h
  by_cases h0 : tx = []
  · rw [if_pos h0] at h; cases h
  · rw [if_neg h0] at h
    rcases e : pHeld 4 (tx.take 40) with r | ⟨f, r⟩
    · rw [e] at h
      simp only [Option.some.injEq] at h
      omega
    · rw [e] at h
      simp only at h
      split at h
      · cases h
      · simp only [Option.some.injEq] at h
        omega
def oSheet (kd v f st : Int32) : aSt → Int32 × aSt
  | (n, pc, b, us, kp, rw, tx, rt, hd, sw) => match inOf 0 3 kd with
    | none => (-1, (n, pc, b, us, kp, rw, tx, rt, hd, sw))
    | some k => if nI 7 < v then (-1, (n, pc, b, us, kp, rw, tx, rt, hd, sw)) else if k = 3 then (-3, (n, shP kd f st 0 n pc, b, us, kp, rw, tx, rt, hd, sw)) else if v < 0 then (-2, (n, pc, b, us, kp, rw, tx, rt, hd, sw)) else (nI (sumN (shP kd f st v.toNatClampNeg n pc) n), (n, shP kd f st v.toNatClampNeg n pc, b, us, kp, rw, tx, rt, hd, sw))
set_option maxRecDepth 100000 in
set_option maxHeartbeats 2000000 in
theorem xo_sheet {d : Nat} {s : aSt} {I : pI} {J : pJ} (hA : XA I J s) (kd v f st : Int32) : PC SX (d + 8) yX11_sheet cX11_sheet 5 (some .int) [.ref 0, .int kd, .int v, .int f, .int st] (I) (J) (RX) (oP (oSheet kd v f st s)) := by
  refine PC.of [some (.ref 0), some (.int kd), some (.int v), some (.int f), some (.int st)] rfl rfl (Nat.le_of_ble_eq_true rfl) ?_
  obtain ⟨n, pc, b, us, kp, rw, tx, rt, hd, sw⟩ := s
  obtain ⟨a1, a2, a3, a4, a5, a6, a7, a8⟩ := id hA
  have hn7 := a1.1
  rcases inOf_cases (lo := 0) (hi := 3) (by decide) kd (by decide) with ⟨k, k1, k2, rfl, hj⟩ | ⟨hj, hp⟩
  · rw [oSheet, hj]
    by_cases h7 : nI 7 < v
    · refine pw_iload_n 1 rfl dX11_sheet_0 rfl ?_
      refine pw_iconst (v := nI 0) 2 rfl dX11_sheet_1 rfl ?_
      refine pw_iconst (v := nI 3) 3 rfl dX11_sheet_2 rfl ?_
      refine pw_callSP (as := [_, _, _]) 6 rfl dX11_sheet_3 mX11_174 sX11_outside (x_outside (d := d) _ _ _) ⟨rfl, by decide, by decide, show (parseMethodDescriptor yX11_outside.desc).map (fun d => d.parameters.length) = some 3 by decide +kernel⟩ (by omega) (by decide) (Nat.le_of_ble_eq_true rfl) rfl ?_
      refine pw_if_ne (tgt := 15) 9 rfl dX11_sheet_6 rfl (fun h6 => absurd (by rw [out_in k1 k2 (by decide)]; decide) h6) (fun h6 => ?_)
      refine pw_iload_n 10 rfl dX11_sheet_9 rfl ?_
      refine pw_bipush (v := nI 7) 12 rfl dX11_sheet_10 rfl ?_
      refine pw_icmp_le (tgt := 17) 15 rfl dX11_sheet_12 rfl (fun h12 => absurd h12 (fun z => by rw [Int32.le_iff_toInt_le] at z; rw [Int32.lt_iff_toInt_lt] at h7; omega)) (fun h12 => ?_)
      refine pw_iconst (v := -1) 16 rfl dX11_sheet_15 rfl ?_
      refine pw_iret dX11_sheet_16 rfl ?_
      rotate_left
      refine ⟨?_, ?_, rfl⟩
      · show _ = some (Value.int (if nI 7 < v then ((-1 : Int32), _) else _).1)
        rw [if_pos h7]
      · show XA _ _ (if nI 7 < v then ((-1 : Int32), _) else _).2
        rw [if_pos h7]
        exact hA
    · have hle : v ≤ nI 7 := Int32.not_lt.mp h7
      by_cases e3 : k = 3
      · subst e3
        refine pw_iload_n 1 rfl dX11_sheet_0 rfl ?_
        refine pw_iconst (v := nI 0) 2 rfl dX11_sheet_1 rfl ?_
        refine pw_iconst (v := nI 3) 3 rfl dX11_sheet_2 rfl ?_
        refine pw_callSP (as := [_, _, _]) 6 rfl dX11_sheet_3 mX11_174 sX11_outside (x_outside (d := d) _ _ _) ⟨rfl, by decide, by decide, show (parseMethodDescriptor yX11_outside.desc).map (fun d => d.parameters.length) = some 3 by decide +kernel⟩ (by omega) (by decide) (Nat.le_of_ble_eq_true rfl) rfl ?_
        refine pw_if_ne (tgt := 15) 9 rfl dX11_sheet_6 rfl (fun h6 => absurd (by rw [out_in k1 k2 (by decide)]; decide) h6) (fun h6 => ?_)
        refine pw_iload_n 10 rfl dX11_sheet_9 rfl ?_
        refine pw_bipush (v := nI 7) 12 rfl dX11_sheet_10 rfl ?_
        refine pw_icmp_le (tgt := 17) 15 rfl dX11_sheet_12 rfl (fun h12 => ?_) (fun h12 => absurd hle h12)
        refine pw_iload_n 18 rfl dX11_sheet_17 rfl ?_
        refine pw_iconst (v := nI 3) 19 rfl dX11_sheet_18 rfl ?_
        refine pw_icmp_ne (tgt := 37) 22 rfl dX11_sheet_19 rfl (fun h19 => absurd rfl h19) (fun h19 => ?_)
        refine pw_aload_n 23 rfl dX11_sheet_22 rfl ?_
        refine pw_getR 26 rfl dX11_sheet_23 fX11_10 (by first | rfl | assumption | exact rowS hh | exact mtS hm | exact ruS hr | exact mtA1 hm | exact mtA2 hm | exact mtA3 hm | exact mtA4 hm | exact mtA5 hm | exact mtA6 hm | exact mtA7 hm | exact ruA1 hr | exact ruA2 hr | exact ruA3 hr) rfl (by first | rfl | assumption | exact mtR0 hm | exact mtR1 hm | exact mtR2 hm | exact mtR3 hm | exact mtR4 hm | exact mtR5 hm | exact mtR6 hm | exact ruR0 hr | exact ruR1 hr | exact ruR3 hr) ?_
        refine pw_iload_n 27 rfl dX11_sheet_26 rfl ?_
        refine pw_iconst (v := nI 0) 28 rfl dX11_sheet_27 rfl ?_
        refine pw_iload_n 29 rfl dX11_sheet_28 rfl ?_
        refine pw_iload 31 rfl dX11_sheet_29 rfl ?_
        rotate_left
        refine pw_callV (as := [_, _, _, _]) 34 rfl dX11_sheet_31 mX11_178 vX1_takePaces (x_takePaces (d := d + 6) (mm := 0) a1 (by decide) (nI 3) f st) (by first | rfl | assumption | exact rowS hh | exact mtS hm | exact ruS hr | exact mtA1 hm | exact mtA2 hm | exact mtA3 hm | exact mtA4 hm | exact mtA5 hm | exact mtA6 hm | exact mtA7 hm | exact ruA1 hr | exact ruA2 hr | exact ruA3 hr) rfl (by decide) ⟨rfl, by decide, by decide, show (parseMethodDescriptor yX1_takePaces.desc).map (fun d => d.parameters.length) = some 4 by decide +kernel⟩ (by omega) (by decide) (Nat.le_of_ble_eq_true rfl) rfl (fun r31 I31 J31 R31 c31 => ?_)
        obtain ⟨rfl, m1, m2, rfl, rfl⟩ := c31
        refine pw_bipush (v := -3) 36 rfl dX11_sheet_34 rfl ?_
        refine pw_iret dX11_sheet_36 rfl ?_
        rotate_left
        have ee : ∀ (x y z : Int32 × aSt), (if nI 7 < v then x else y) = y := fun x y z => if_neg h7
        refine ⟨?_, ?_, rfl⟩
        · show _ = some (Value.int (if nI 7 < v then ((-1 : Int32), _) else _).1)
          rw [if_neg h7]; rfl
        · show XA _ _ (if nI 7 < v then ((-1 : Int32), _) else _).2
          rw [if_neg h7]
          exact XA_mt hA (fun a ha => m2 a (by omega)) m1 (XU_fr a5 (fun a h1 h2 h3 h4 => m2 a (by omega))) (XN_fr a3 (m2 19 (by omega)))
      · by_cases h0 : v < 0
        · refine pw_iload_n 1 rfl dX11_sheet_0 rfl ?_
          refine pw_iconst (v := nI 0) 2 rfl dX11_sheet_1 rfl ?_
          refine pw_iconst (v := nI 3) 3 rfl dX11_sheet_2 rfl ?_
          refine pw_callSP (as := [_, _, _]) 6 rfl dX11_sheet_3 mX11_174 sX11_outside (x_outside (d := d) _ _ _) ⟨rfl, by decide, by decide, show (parseMethodDescriptor yX11_outside.desc).map (fun d => d.parameters.length) = some 3 by decide +kernel⟩ (by omega) (by decide) (Nat.le_of_ble_eq_true rfl) rfl ?_
          refine pw_if_ne (tgt := 15) 9 rfl dX11_sheet_6 rfl (fun h6 => absurd (by rw [out_in k1 k2 (by decide)]; decide) h6) (fun h6 => ?_)
          refine pw_iload_n 10 rfl dX11_sheet_9 rfl ?_
          refine pw_bipush (v := nI 7) 12 rfl dX11_sheet_10 rfl ?_
          refine pw_icmp_le (tgt := 17) 15 rfl dX11_sheet_12 rfl (fun h12 => ?_) (fun h12 => absurd hle h12)
          refine pw_iload_n 18 rfl dX11_sheet_17 rfl ?_
          refine pw_iconst (v := nI 3) 19 rfl dX11_sheet_18 rfl ?_
          refine pw_icmp_ne (tgt := 37) 22 rfl dX11_sheet_19 rfl (fun h19 => ?_) (fun h19 => absurd h19 (by (simp (disch := omega) only [nI_leI, nI_ltI, nI_eq, show (0 : Int32) = nI 0 from rfl, not_true_eq_false, not_false_eq_true] <;> omega)))
          refine pw_iload_n 38 rfl dX11_sheet_37 rfl ?_
          refine pw_if_ge (tgt := 44) 41 rfl dX11_sheet_38 rfl (fun h38 => absurd h38 (fun z => by rw [Int32.le_iff_toInt_le] at z; rw [Int32.lt_iff_toInt_lt] at h0; omega)) (fun h38 => ?_)
          refine pw_bipush (v := -2) 43 rfl dX11_sheet_41 rfl ?_
          refine pw_iret dX11_sheet_43 rfl ?_
          rotate_left
          refine ⟨?_, ?_, rfl⟩
          · show _ = some (Value.int (if nI 7 < v then ((-1 : Int32), _) else _).1)
            rw [if_neg h7, if_neg e3, if_pos h0]
          · show XA _ _ (if nI 7 < v then ((-1 : Int32), _) else _).2
            rw [if_neg h7, if_neg e3, if_pos h0]
            exact hA
        · obtain ⟨j, hjj, rfl⟩ := nI_of h0
          have hj7 : j ≤ 7 := by rw [nI_leI hjj (by decide)] at hle; exact hle
          refine pw_iload_n 1 rfl dX11_sheet_0 rfl ?_
          refine pw_iconst (v := nI 0) 2 rfl dX11_sheet_1 rfl ?_
          refine pw_iconst (v := nI 3) 3 rfl dX11_sheet_2 rfl ?_
          refine pw_callSP (as := [_, _, _]) 6 rfl dX11_sheet_3 mX11_174 sX11_outside (x_outside (d := d) _ _ _) ⟨rfl, by decide, by decide, show (parseMethodDescriptor yX11_outside.desc).map (fun d => d.parameters.length) = some 3 by decide +kernel⟩ (by omega) (by decide) (Nat.le_of_ble_eq_true rfl) rfl ?_
          refine pw_if_ne (tgt := 15) 9 rfl dX11_sheet_6 rfl (fun h6 => absurd (by rw [out_in k1 k2 (by decide)]; decide) h6) (fun h6 => ?_)
          refine pw_iload_n 10 rfl dX11_sheet_9 rfl ?_
          refine pw_bipush (v := nI 7) 12 rfl dX11_sheet_10 rfl ?_
          refine pw_icmp_le (tgt := 17) 15 rfl dX11_sheet_12 rfl (fun h12 => ?_) (fun h12 => absurd hle h12)
          refine pw_iload_n 18 rfl dX11_sheet_17 rfl ?_
          refine pw_iconst (v := nI 3) 19 rfl dX11_sheet_18 rfl ?_
          refine pw_icmp_ne (tgt := 37) 22 rfl dX11_sheet_19 rfl (fun h19 => ?_) (fun h19 => absurd h19 (by (simp (disch := omega) only [nI_leI, nI_ltI, nI_eq, show (0 : Int32) = nI 0 from rfl, not_true_eq_false, not_false_eq_true] <;> omega)))
          refine pw_iload_n 38 rfl dX11_sheet_37 rfl ?_
          refine pw_if_ge (tgt := 44) 41 rfl dX11_sheet_38 rfl (fun h38 => ?_) (fun h38 => absurd (nI_pos' (by omega)) h38)
          refine pw_aload_n 45 rfl dX11_sheet_44 rfl ?_
          refine pw_getR 48 rfl dX11_sheet_45 fX11_10 (by first | rfl | assumption | exact rowS hh | exact mtS hm | exact ruS hr | exact mtA1 hm | exact mtA2 hm | exact mtA3 hm | exact mtA4 hm | exact mtA5 hm | exact mtA6 hm | exact mtA7 hm | exact ruA1 hr | exact ruA2 hr | exact ruA3 hr) rfl (by first | rfl | assumption | exact mtR0 hm | exact mtR1 hm | exact mtR2 hm | exact mtR3 hm | exact mtR4 hm | exact mtR5 hm | exact mtR6 hm | exact ruR0 hr | exact ruR1 hr | exact ruR3 hr) ?_
          refine pw_iload_n 49 rfl dX11_sheet_48 rfl ?_
          refine pw_iload_n 50 rfl dX11_sheet_49 rfl ?_
          refine pw_iload_n 51 rfl dX11_sheet_50 rfl ?_
          refine pw_iload 53 rfl dX11_sheet_51 rfl ?_
          rotate_left
          refine pw_callV (as := [_, _, _, _]) 56 rfl dX11_sheet_53 mX11_178 vX1_takePaces (x_takePaces (d := d + 6) (mm := j) a1 hj7 (nI k) f st) (by first | rfl | assumption | exact rowS hh | exact mtS hm | exact ruS hr | exact mtA1 hm | exact mtA2 hm | exact mtA3 hm | exact mtA4 hm | exact mtA5 hm | exact mtA6 hm | exact mtA7 hm | exact ruA1 hr | exact ruA2 hr | exact ruA3 hr) rfl (by decide) ⟨rfl, by decide, by decide, show (parseMethodDescriptor yX1_takePaces.desc).map (fun d => d.parameters.length) = some 4 by decide +kernel⟩ (by omega) (by decide) (Nat.le_of_ble_eq_true rfl) rfl (fun r53 I53 J53 R53 c53 => ?_)
          obtain ⟨rfl, m1, m2, rfl, rfl⟩ := c53
          rotate_left
          refine pw_aload_n 57 rfl dX11_sheet_56 rfl ?_
          refine pw_getR 60 rfl dX11_sheet_57 fX11_10 (by first | rfl | assumption | exact rowS hh | exact mtS hm | exact ruS hr | exact mtA1 hm | exact mtA2 hm | exact mtA3 hm | exact mtA4 hm | exact mtA5 hm | exact mtA6 hm | exact mtA7 hm | exact ruA1 hr | exact ruA2 hr | exact ruA3 hr) rfl (by first | rfl | assumption | exact mtR0 hm | exact mtR1 hm | exact mtR2 hm | exact mtR3 hm | exact mtR4 hm | exact mtR5 hm | exact mtR6 hm | exact ruR0 hr | exact ruR1 hr | exact ruR3 hr) ?_
          refine pw_aload_n 61 rfl dX11_sheet_60 rfl ?_
          refine pw_getR 64 rfl dX11_sheet_61 fX11_10 (by first | rfl | assumption | exact rowS hh | exact mtS hm | exact ruS hr | exact mtA1 hm | exact mtA2 hm | exact mtA3 hm | exact mtA4 hm | exact mtA5 hm | exact mtA6 hm | exact mtA7 hm | exact ruA1 hr | exact ruA2 hr | exact ruA3 hr) rfl (by first | rfl | assumption | exact mtR0 hm | exact mtR1 hm | exact mtR2 hm | exact mtR3 hm | exact mtR4 hm | exact mtR5 hm | exact mtR6 hm | exact ruR0 hr | exact ruR1 hr | exact ruR3 hr) ?_
          refine pw_getR 67 rfl dX11_sheet_64 fX11_152 (by first | rfl | assumption | exact rowS hh | exact mtS hm | exact ruS hr | exact mtA1 hm | exact mtA2 hm | exact mtA3 hm | exact mtA4 hm | exact mtA5 hm | exact mtA6 hm | exact mtA7 hm | exact ruA1 hr | exact ruA2 hr | exact ruA3 hr) rfl (by first | rfl | assumption | exact mtR0 hm | exact mtR1 hm | exact mtR2 hm | exact mtR3 hm | exact mtR4 hm | exact mtR5 hm | exact mtR6 hm | exact ruR0 hr | exact ruR1 hr | exact ruR3 hr) ?_
          refine pw_callVP (as := [_]) 70 rfl dX11_sheet_67 mX11_182 vX1_sumOf (x_sumOf (d := d + 7) (f := shP (nI k) f st j n pc) (Or.inl rfl) m1.2.1 hn7 rfl (XM_s0 m1).1) (by first | rfl | assumption | exact rowS hh | exact mtS hm | exact ruS hr | exact mtA1 hm | exact mtA2 hm | exact mtA3 hm | exact mtA4 hm | exact mtA5 hm | exact mtA6 hm | exact mtA7 hm | exact ruA1 hr | exact ruA2 hr | exact ruA3 hr) rfl (by decide) ⟨rfl, by decide, by decide, show (parseMethodDescriptor yX1_sumOf.desc).map (fun d => d.parameters.length) = some 1 by decide +kernel⟩ (by omega) (by decide) (Nat.le_of_ble_eq_true rfl) rfl ?_
          refine pw_iret dX11_sheet_70 rfl ?_
          rotate_left
          refine ⟨?_, ?_, rfl⟩
          · show _ = some (Value.int (if nI 7 < nI j then ((-1 : Int32), _) else _).1)
            rw [if_neg h7, if_neg e3, if_neg h0, nI_clamp (by omega)]
          · show XA _ _ (if nI 7 < nI j then ((-1 : Int32), _) else _).2
            rw [if_neg h7, if_neg e3, if_neg h0, nI_clamp (by omega)]
            exact XA_mt hA (fun a ha => m2 a (by omega)) m1 (XU_fr a5 (fun a h1 h2 h3 h4 => m2 a (by omega))) (XN_fr a3 (m2 19 (by omega)))
  · rw [oSheet, hj]
    refine pw_iload_n 1 rfl dX11_sheet_0 rfl ?_
    refine pw_iconst (v := nI 0) 2 rfl dX11_sheet_1 rfl ?_
    refine pw_iconst (v := nI 3) 3 rfl dX11_sheet_2 rfl ?_
    refine pw_callSP (as := [_, _, _]) 6 rfl dX11_sheet_3 mX11_174 sX11_outside (x_outside (d := d) _ _ _) ⟨rfl, by decide, by decide, show (parseMethodDescriptor yX11_outside.desc).map (fun d => d.parameters.length) = some 3 by decide +kernel⟩ (by omega) (by decide) (Nat.le_of_ble_eq_true rfl) rfl ?_
    refine pw_if_ne (tgt := 15) 9 rfl dX11_sheet_6 rfl (fun h6 => ?_) (fun h6 => absurd h6 (by rw [outV_y hp]; decide))
    refine pw_iconst (v := -1) 16 rfl dX11_sheet_15 rfl ?_
    refine pw_iret dX11_sheet_16 rfl ?_
    rotate_left
    exact ⟨rfl, hA, rfl⟩
def oRule : aSt → Int32 × aSt
  | (n, pc, b, us, kp, rw, tx, rt, hd, sw) => match wrR tx with
    | none => (nI 0, (n, pc, b, us, kp, rw, [], tx, hd, sw))
    | some p => (-1 - nI p, (n, pc, b, us, kp, rw, [], rt, hd, sw))
set_option maxRecDepth 100000 in
set_option maxHeartbeats 2000000 in
theorem xo_rule {d : Nat} {s : aSt} {I : pI} {J : pJ} (hA : XA I J s) : PC SX (d + 8) yX11_rule cX11_rule 2 (some .int) [.ref 0] (I) (J) (RX) (oP (oRule s)) := by
  refine PC.of [some (.ref 0), none] rfl rfl (Nat.le_of_ble_eq_true rfl) ?_
  obtain ⟨n, pc, b, us, kp, rw, tx, rt, hd, sw⟩ := s
  obtain ⟨a1, a2, a3, a4, a5, a6, a7, a8⟩ := id hA
  rw [oRule]
  refine pw_aload_n 1 rfl dX11_rule_0 rfl ?_
  refine pw_getR 4 rfl dX11_rule_1 fX11_23 (by first | rfl | assumption | exact rowS hh | exact mtS hm | exact ruS hr | exact mtA1 hm | exact mtA2 hm | exact mtA3 hm | exact mtA4 hm | exact mtA5 hm | exact mtA6 hm | exact mtA7 hm | exact ruA1 hr | exact ruA2 hr | exact ruA3 hr) rfl (by first | rfl | assumption | exact mtR0 hm | exact mtR1 hm | exact mtR2 hm | exact mtR3 hm | exact mtR4 hm | exact mtR5 hm | exact mtR6 hm | exact ruR0 hr | exact ruR1 hr | exact ruR3 hr) ?_
  refine pw_aload_n 5 rfl dX11_rule_4 rfl ?_
  refine pw_getR 8 rfl dX11_rule_5 fX11_29 (by first | rfl | assumption | exact rowS hh | exact mtS hm | exact ruS hr | exact mtA1 hm | exact mtA2 hm | exact mtA3 hm | exact mtA4 hm | exact mtA5 hm | exact mtA6 hm | exact mtA7 hm | exact ruA1 hr | exact ruA2 hr | exact ruA3 hr) rfl (by first | rfl | assumption | exact mtR0 hm | exact mtR1 hm | exact mtR2 hm | exact mtR3 hm | exact mtR4 hm | exact mtR5 hm | exact mtR6 hm | exact ruR0 hr | exact ruR1 hr | exact ruR3 hr) ?_
  refine pw_callV (as := [_]) 11 rfl dX11_rule_8 mX11_124 vX6_read (x_ruleRead (d := d + 2) a4) (by first | rfl | assumption | exact rowS hh | exact mtS hm | exact ruS hr | exact mtA1 hm | exact mtA2 hm | exact mtA3 hm | exact mtA4 hm | exact mtA5 hm | exact mtA6 hm | exact mtA7 hm | exact ruA1 hr | exact ruA2 hr | exact ruA3 hr) rfl (by decide) ⟨rfl, by decide, by decide, show (parseMethodDescriptor yX6_read.desc).map (fun d => d.parameters.length) = some 1 by decide +kernel⟩ (by omega) (by decide) (Nat.le_of_ble_eq_true rfl) rfl (fun r8 I8 J8 R8 c8 => ?_)
  obtain ⟨rfl, m1, m2, rfl, rfl⟩ := c8
  refine pw_istore_n 12 rfl dX11_rule_11 (by decide) ?_
  rotate_left
  refine pw_aload_n 13 rfl dX11_rule_12 rfl ?_
  refine pw_getR 16 rfl dX11_rule_13 fX11_29 (by first | rfl | assumption | exact rowS hh | exact mtS hm | exact ruS hr | exact mtA1 hm | exact mtA2 hm | exact mtA3 hm | exact mtA4 hm | exact mtA5 hm | exact mtA6 hm | exact mtA7 hm | exact ruA1 hr | exact ruA2 hr | exact ruA3 hr) rfl (by first | rfl | assumption | exact mtR0 hm | exact mtR1 hm | exact mtR2 hm | exact mtR3 hm | exact mtR4 hm | exact mtR5 hm | exact mtR6 hm | exact ruR0 hr | exact ruR1 hr | exact ruR3 hr) ?_
  refine pw_callV (as := []) 19 rfl dX11_rule_16 mX11_121 vX10_clear (x_clearT (d := d + 7)) (by first | rfl | assumption | exact rowS hh | exact mtS hm | exact ruS hr | exact mtA1 hm | exact mtA2 hm | exact mtA3 hm | exact mtA4 hm | exact mtA5 hm | exact mtA6 hm | exact mtA7 hm | exact ruA1 hr | exact ruA2 hr | exact ruA3 hr) rfl (by decide) ⟨rfl, by decide, by decide, show (parseMethodDescriptor yX10_clear.desc).map (fun d => d.parameters.length) = some 0 by decide +kernel⟩ (by omega) (by decide) (Nat.le_of_ble_eq_true rfl) rfl (fun r16 I16 J16 R16 c16 => ?_)
  obtain ⟨rfl, t1, t2, rfl, rfl⟩ := c16
  rotate_left
  have hf : ∀ a, a ≠ 13 → a ≠ 14 → a ≠ 16 → a ≠ 17 → I16 a = I a := fun a h1 h2 h3 h4 => by rw [t2 a h4, m2 a h1 h2 h3]
  have hA1 : XA I16 J (n, pc, b, us, kp, rw, [], rt, hd, sw) := ⟨XM_fr a1 (fun a h1 h2 => hf a (by omega) (by omega) (by omega) (by omega)), XE_fr a2 (hf 9 (by decide) (by decide) (by decide) (by decide)) (hf 10 (by decide) (by decide) (by decide) (by decide)), XN_fr a3 (hf 19 (by decide) (by decide) (by decide) (by decide)), t1, XU_fr a5 (fun a h1 h2 h3 h4 => hf a (by omega) (by omega) (by omega) (by omega)), XK_fr a6 (hf 24 (by decide) (by decide) (by decide) (by decide)) (hf 38 (by decide) (by decide) (by decide) (by decide)) (hf 39 (by decide) (by decide) (by decide) (by decide)), XH_fr a7 (hf 62 (by decide) (by decide) (by decide) (by decide)) (hf 63 (by decide) (by decide) (by decide) (by decide)), XG_fr a8 (by rw [hf 64 (by decide) (by decide) (by decide) (by decide)]) (hf 65 (by decide) (by decide) (by decide) (by decide))⟩
  rcases e : wrR tx with _ | p
  · have hE1 : XE I16 13 (ruE tx) := XE_fr (m1 e) (t2 13 (by decide)) (t2 14 (by decide))
    refine pw_iload_n 20 rfl dX11_rule_19 rfl ?_
    refine pw_iconst (v := -1) 21 rfl dX11_rule_20 rfl ?_
    refine pw_icmp_eq (tgt := 28) 24 rfl dX11_rule_21 rfl (fun h21 => ?_) (fun h21 => absurd rfl h21)
    refine pw_aload_n 29 rfl dX11_rule_28 rfl ?_
    refine pw_getR 32 rfl dX11_rule_29 fX11_19 (by first | rfl | assumption | exact rowS hh | exact mtS hm | exact ruS hr | exact mtA1 hm | exact mtA2 hm | exact mtA3 hm | exact mtA4 hm | exact mtA5 hm | exact mtA6 hm | exact mtA7 hm | exact ruA1 hr | exact ruA2 hr | exact ruA3 hr) rfl (by first | rfl | assumption | exact mtR0 hm | exact mtR1 hm | exact mtR2 hm | exact mtR3 hm | exact mtR4 hm | exact mtR5 hm | exact mtR6 hm | exact ruR0 hr | exact ruR1 hr | exact ruR3 hr) ?_
    refine pw_aload_n 33 rfl dX11_rule_32 rfl ?_
    refine pw_getR 36 rfl dX11_rule_33 fX11_23 (by first | rfl | assumption | exact rowS hh | exact mtS hm | exact ruS hr | exact mtA1 hm | exact mtA2 hm | exact mtA3 hm | exact mtA4 hm | exact mtA5 hm | exact mtA6 hm | exact mtA7 hm | exact ruA1 hr | exact ruA2 hr | exact ruA3 hr) rfl (by first | rfl | assumption | exact mtR0 hm | exact mtR1 hm | exact mtR2 hm | exact mtR3 hm | exact mtR4 hm | exact mtR5 hm | exact mtR6 hm | exact ruR0 hr | exact ruR1 hr | exact ruR3 hr) ?_
    refine pw_callV (as := [_]) 39 rfl dX11_rule_36 mX11_128 vX6_copyFrom (x_copyRule (d := d + 6) hE1) (by first | rfl | assumption | exact rowS hh | exact mtS hm | exact ruS hr | exact mtA1 hm | exact mtA2 hm | exact mtA3 hm | exact mtA4 hm | exact mtA5 hm | exact mtA6 hm | exact mtA7 hm | exact ruA1 hr | exact ruA2 hr | exact ruA3 hr) rfl (by decide) ⟨rfl, by decide, by decide, show (parseMethodDescriptor yX6_copyFrom.desc).map (fun d => d.parameters.length) = some 1 by decide +kernel⟩ (by omega) (by decide) (Nat.le_of_ble_eq_true rfl) rfl (fun r36 I36 J36 R36 c36 => ?_)
    obtain ⟨rfl, k1, k2, rfl, rfl⟩ := c36
    refine pw_iconst (v := nI 0) 40 rfl dX11_rule_39 rfl ?_
    refine pw_iret dX11_rule_40 rfl ?_
    rotate_left
    obtain ⟨b1, b2, b3, b4, b5, b6, b7, b8⟩ := hA1
    exact ⟨rfl, ⟨XM_fr b1 (fun a h1 h2 => k2 a (by omega) (by omega)), k1, XN_fr b3 (k2 19 (by decide) (by decide)), XT_fr b4 (k2 17 (by decide) (by decide)) (k2 18 (by decide) (by decide)), XU_fr b5 (fun a h1 h2 h3 h4 => k2 a (by omega) (by omega)), XK_fr b6 (k2 24 (by decide) (by decide)) (k2 38 (by decide) (by decide)) (k2 39 (by decide) (by decide)), XH_fr b7 (k2 62 (by decide) (by decide)) (k2 63 (by decide) (by decide)), XG_fr b8 (by rw [k2 64 (by decide) (by decide)]) (k2 65 (by decide) (by decide))⟩, rfl⟩
  · have hp := wrR_le e
    have hne : ¬ nI p = -1 := fun z => nI_pos (show p < 2 ^ 31 by omega) (by rw [z]; decide)
    refine pw_iload_n 20 rfl dX11_rule_19 rfl ?_
    refine pw_iconst (v := -1) 21 rfl dX11_rule_20 rfl ?_
    refine pw_icmp_eq (tgt := 28) 24 rfl dX11_rule_21 rfl (fun h21 => absurd h21 hne) (fun h21 => ?_)
    refine pw_iconst (v := -1) 25 rfl dX11_rule_24 rfl ?_
    refine pw_iload_n 26 rfl dX11_rule_25 rfl ?_
    refine pw_isub 27 rfl dX11_rule_26 ?_
    refine pw_iret dX11_rule_27 rfl ?_
    rotate_left
    exact ⟨rfl, hA1, rfl⟩
def oLaw : aSt → Int32 × aSt
  | (n, pc, b, us, kp, rw, tx, rt, hd, sw) => match wrR tx with
    | none => (nI (cdn n pc (ruE tx) b 20) - nI (cdn n pc (ruE rt) b 20), (n, pc, b, us, kp, [lI (cdn n pc (ruE tx) b 20), lI (cdn n pc (ruE rt) b 20), lI (hrs n pc (ruE tx) 20 b 29), lI (hrs n pc (ruE rt) 20 b 29)], [], rt, hd, sw))
    | some p => (-10000 - nI p, (n, pc, b, us, kp, rw, [], rt, hd, sw))
set_option maxRecDepth 100000 in
set_option maxHeartbeats 2000000 in
theorem xo_law {d : Nat} {s : aSt} {I : pI} {J : pJ} (hA : XA I J s) (hW : WA s) : PC SX (d + 8) yX11_law cX11_law 2 (some .int) [.ref 0] (I) (J) (RX) (oP (oLaw s)) := by
  refine PC.of [some (.ref 0), none] rfl rfl (Nat.le_of_ble_eq_true rfl) ?_
  obtain ⟨n, pc, b, us, kp, rw, tx, rt, hd, sw⟩ := s
  obtain ⟨a1, a2, a3, a4, a5, a6, a7, a8⟩ := id hA
  obtain ⟨aW, -, -⟩ := id hW
  rw [oLaw]
  refine pw_aload_n 1 rfl dX11_law_0 rfl ?_
  refine pw_getR 4 rfl dX11_law_1 fX11_23 (by first | rfl | assumption | exact rowS hh | exact mtS hm | exact ruS hr | exact mtA1 hm | exact mtA2 hm | exact mtA3 hm | exact mtA4 hm | exact mtA5 hm | exact mtA6 hm | exact mtA7 hm | exact ruA1 hr | exact ruA2 hr | exact ruA3 hr) rfl (by first | rfl | assumption | exact mtR0 hm | exact mtR1 hm | exact mtR2 hm | exact mtR3 hm | exact mtR4 hm | exact mtR5 hm | exact mtR6 hm | exact ruR0 hr | exact ruR1 hr | exact ruR3 hr) ?_
  refine pw_aload_n 5 rfl dX11_law_4 rfl ?_
  refine pw_getR 8 rfl dX11_law_5 fX11_29 (by first | rfl | assumption | exact rowS hh | exact mtS hm | exact ruS hr | exact mtA1 hm | exact mtA2 hm | exact mtA3 hm | exact mtA4 hm | exact mtA5 hm | exact mtA6 hm | exact mtA7 hm | exact ruA1 hr | exact ruA2 hr | exact ruA3 hr) rfl (by first | rfl | assumption | exact mtR0 hm | exact mtR1 hm | exact mtR2 hm | exact mtR3 hm | exact mtR4 hm | exact mtR5 hm | exact mtR6 hm | exact ruR0 hr | exact ruR1 hr | exact ruR3 hr) ?_
  refine pw_callV (as := [_]) 11 rfl dX11_law_8 mX11_124 vX6_read (x_ruleRead (d := d + 2) a4) (by first | rfl | assumption | exact rowS hh | exact mtS hm | exact ruS hr | exact mtA1 hm | exact mtA2 hm | exact mtA3 hm | exact mtA4 hm | exact mtA5 hm | exact mtA6 hm | exact mtA7 hm | exact ruA1 hr | exact ruA2 hr | exact ruA3 hr) rfl (by decide) ⟨rfl, by decide, by decide, show (parseMethodDescriptor yX6_read.desc).map (fun d => d.parameters.length) = some 1 by decide +kernel⟩ (by omega) (by decide) (Nat.le_of_ble_eq_true rfl) rfl (fun r8 I8 J8 R8 c8 => ?_)
  obtain ⟨rfl, m1, m2, rfl, rfl⟩ := c8
  refine pw_istore_n 12 rfl dX11_law_11 (by decide) ?_
  rotate_left
  refine pw_aload_n 13 rfl dX11_law_12 rfl ?_
  refine pw_getR 16 rfl dX11_law_13 fX11_29 (by first | rfl | assumption | exact rowS hh | exact mtS hm | exact ruS hr | exact mtA1 hm | exact mtA2 hm | exact mtA3 hm | exact mtA4 hm | exact mtA5 hm | exact mtA6 hm | exact mtA7 hm | exact ruA1 hr | exact ruA2 hr | exact ruA3 hr) rfl (by first | rfl | assumption | exact mtR0 hm | exact mtR1 hm | exact mtR2 hm | exact mtR3 hm | exact mtR4 hm | exact mtR5 hm | exact mtR6 hm | exact ruR0 hr | exact ruR1 hr | exact ruR3 hr) ?_
  refine pw_callV (as := []) 19 rfl dX11_law_16 mX11_121 vX10_clear (x_clearT (d := d + 7)) (by first | rfl | assumption | exact rowS hh | exact mtS hm | exact ruS hr | exact mtA1 hm | exact mtA2 hm | exact mtA3 hm | exact mtA4 hm | exact mtA5 hm | exact mtA6 hm | exact mtA7 hm | exact ruA1 hr | exact ruA2 hr | exact ruA3 hr) rfl (by decide) ⟨rfl, by decide, by decide, show (parseMethodDescriptor yX10_clear.desc).map (fun d => d.parameters.length) = some 0 by decide +kernel⟩ (by omega) (by decide) (Nat.le_of_ble_eq_true rfl) rfl (fun r16 I16 J16 R16 c16 => ?_)
  obtain ⟨rfl, t1, t2, rfl, rfl⟩ := c16
  rotate_left
  have hf : ∀ a, a ≠ 13 → a ≠ 14 → a ≠ 16 → a ≠ 17 → I16 a = I a := fun a h1 h2 h3 h4 => by rw [t2 a h4, m2 a h1 h2 h3]
  have hA1 : XA I16 J (n, pc, b, us, kp, rw, [], rt, hd, sw) := ⟨XM_fr a1 (fun a h1 h2 => hf a (by omega) (by omega) (by omega) (by omega)), XE_fr a2 (hf 9 (by decide) (by decide) (by decide) (by decide)) (hf 10 (by decide) (by decide) (by decide) (by decide)), XN_fr a3 (hf 19 (by decide) (by decide) (by decide) (by decide)), t1, XU_fr a5 (fun a h1 h2 h3 h4 => hf a (by omega) (by omega) (by omega) (by omega)), XK_fr a6 (hf 24 (by decide) (by decide) (by decide) (by decide)) (hf 38 (by decide) (by decide) (by decide) (by decide)) (hf 39 (by decide) (by decide) (by decide) (by decide)), XH_fr a7 (hf 62 (by decide) (by decide) (by decide) (by decide)) (hf 63 (by decide) (by decide) (by decide) (by decide)), XG_fr a8 (by rw [hf 64 (by decide) (by decide) (by decide) (by decide)]) (hf 65 (by decide) (by decide) (by decide) (by decide))⟩
  rcases e : wrR tx with _ | p
  · have hE1 : XE I16 13 (ruE tx) := XE_fr (m1 e) (t2 13 (by decide)) (t2 14 (by decide))
    refine pw_iload_n 20 rfl dX11_law_19 rfl ?_
    refine pw_iconst (v := -1) 21 rfl dX11_law_20 rfl ?_
    refine pw_icmp_eq (tgt := 32) 24 rfl dX11_law_21 rfl (fun h21 => ?_) (fun h21 => absurd rfl h21)
    refine pw_aload_n 33 rfl dX11_law_32 rfl ?_
    refine pw_getR 36 rfl dX11_law_33 fX11_59 (by first | rfl | assumption | exact rowS hh | exact mtS hm | exact ruS hr | exact mtA1 hm | exact mtA2 hm | exact mtA3 hm | exact mtA4 hm | exact mtA5 hm | exact mtA6 hm | exact mtA7 hm | exact ruA1 hr | exact ruA2 hr | exact ruA3 hr) rfl (by first | rfl | assumption | exact mtR0 hm | exact mtR1 hm | exact mtR2 hm | exact mtR3 hm | exact mtR4 hm | exact mtR5 hm | exact mtR6 hm | exact ruR0 hr | exact ruR1 hr | exact ruR3 hr) ?_
    refine pw_aload_n 37 rfl dX11_law_36 rfl ?_
    refine pw_getR 40 rfl dX11_law_37 fX11_23 (by first | rfl | assumption | exact rowS hh | exact mtS hm | exact ruS hr | exact mtA1 hm | exact mtA2 hm | exact mtA3 hm | exact mtA4 hm | exact mtA5 hm | exact mtA6 hm | exact mtA7 hm | exact ruA1 hr | exact ruA2 hr | exact ruA3 hr) rfl (by first | rfl | assumption | exact mtR0 hm | exact mtR1 hm | exact mtR2 hm | exact mtR3 hm | exact mtR4 hm | exact mtR5 hm | exact mtR6 hm | exact ruR0 hr | exact ruR1 hr | exact ruR3 hr) ?_
    refine pw_callV (as := [_]) 43 rfl dX11_law_40 mX11_334 vX5_compareRules (x_compareRules (d := d) hA1.1 aW.1 hA1.2.1 hE1) (by first | rfl | assumption | exact rowS hh | exact mtS hm | exact ruS hr | exact mtA1 hm | exact mtA2 hm | exact mtA3 hm | exact mtA4 hm | exact mtA5 hm | exact mtA6 hm | exact mtA7 hm | exact ruA1 hr | exact ruA2 hr | exact ruA3 hr) rfl (by decide) ⟨rfl, by decide, by decide, show (parseMethodDescriptor yX5_compareRules.desc).map (fun d => d.parameters.length) = some 1 by decide +kernel⟩ (by omega) (by decide) (Nat.le_of_ble_eq_true rfl) rfl (fun r40 I40 J40 R40 c40 => ?_)
    obtain ⟨rfl, k1, k2, rfl⟩ := c40
    rotate_left
    refine pw_iret dX11_law_43 rfl ?_
    rotate_left
    exact ⟨rfl, XA_rw hA1 (fun a ha => k2 a (by omega) (by omega) (by omega) (by omega)) k1, rfl⟩
  · have hp := wrR_le e
    have hne : ¬ nI p = -1 := fun z => nI_pos (show p < 2 ^ 31 by omega) (by rw [z]; decide)
    refine pw_iload_n 20 rfl dX11_law_19 rfl ?_
    refine pw_iconst (v := -1) 21 rfl dX11_law_20 rfl ?_
    refine pw_icmp_eq (tgt := 32) 24 rfl dX11_law_21 rfl (fun h21 => absurd h21 hne) (fun h21 => ?_)
    refine pw_sipush (v := -10000) 27 rfl dX11_law_24 rfl ?_
    refine pw_iload_n 28 rfl dX11_law_27 rfl ?_
    refine pw_isub 29 rfl dX11_law_28 ?_
    refine pw_goto (tgt := 43) dX11_law_29 rfl ?_
    refine pw_iret dX11_law_43 rfl ?_
    rotate_left
    exact ⟨rfl, hA1, rfl⟩
