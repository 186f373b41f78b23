theorem fstL_mono {ok : Nat → Bool} {j f : Nat} (h : fstL ok j = some f) : ∀ N, j ≤ N → fstL ok N = some f
  | 0, hj => by rw [show j = 0 by omega] at h; exact h
  | N + 1, hj => by
    by_cases e : j = N + 1
    · rw [← e]; exact h
    · exact fstL_s (fstL_mono h N (by omega))
theorem fstL_first {ok : Nat → Bool} {k N : Nat} (h : fstL ok k = none) (hk : ok k = true) (hN : k < N) : fstL ok N = some k :=
  fstL_mono (fstL_y ((fstL_cnt ok k).mp h) hk) N hN
theorem fstL_step {ok : Nat → Bool} {k : Nat} (h : fstL ok k = none) (hk : ok k = false) : fstL ok (k + 1) = none := by rw [fstL_n hk]; exact h
def wrV (o : Option Nat) : Int32 := match o with
  | none => -1
  | some p => nI p
def badC (tx : List Nat) (room p : Nat) : Bool := !(if p % 2 = 0 then isDg (tx.getD p 0) && decide (p / 2 < room) else decide (tx.getD p 0 = 59))
def wrC (tx : List Nat) (room : Nat) : Option Nat := if tx.length = 0 then none else match fstL (badC tx room) (min tx.length 13) with
  | some p => some p
  | none => if 13 < tx.length then some 13 else if tx.length % 2 = 0 then some tx.length else none
theorem wrC_0 {tx : List Nat} {room : Nat} (h : tx.length = 0) : wrC tx room = none := if_pos h
theorem wrC_s {tx : List Nat} {room p : Nat} (h : ¬ tx.length = 0) (e : fstL (badC tx room) (min tx.length 13) = some p) : wrC tx room = some p := by rw [wrC, if_neg h, e]
theorem wrC_n {tx : List Nat} {room : Nat} (h : ¬ tx.length = 0) (e : fstL (badC tx room) (min tx.length 13) = none) : wrC tx room = if 13 < tx.length then some 13 else if tx.length % 2 = 0 then some tx.length else none := by rw [wrC, if_neg h, e]
theorem getD_s {tx : List Nat} {p c : Nat} (h : tx[p]? = some c) : tx.getD p 0 = c := by rw [List.getD_eq_getElem?_getD, h]; rfl
set_option maxRecDepth 100000 in
set_option maxHeartbeats 2000000 in
theorem x_wrongC {d room : Nat} {I : pI} {J : pJ} {tx : List Nat} (hT : XT I tx) (hr : room ≤ 7) : PC SX (d + 1) yX10_wrongAsClimbers cX10_wrongAsClimbers 4 (some .int) [.ref 17, .int (nI room)] (I) (J) (RX) (pPu (.int (wrV (wrC tx room))) I J RX) := by
  refine PC.of [some (.ref 17), some (.int (nI room)), none, none] rfl rfl (Nat.le_of_ble_eq_true rfl) ?_
  obtain ⟨n1, n2, n3⟩ := id hT
  by_cases h0 : tx.length = 0
  · rw [wrC_0 h0]
    refine pw_aload_n 1 rfl dX10_wrongAsClimbers_0 rfl ?_
    refine pw_getI 4 rfl dX10_wrongAsClimbers_1 fX10_15 (by first | rfl | assumption | exact rowS hh | exact mtS hm | exact ruS hr | exact mtA1 hm | exact mtA2 hm | exact mtA3 hm | exact mtA4 hm | exact mtA5 hm | exact mtA6 hm | exact mtA7 hm | exact ruA1 hr | exact ruA2 hr | exact ruA3 hr) rfl ?_
    refine pw_if_ne (tgt := 9) 7 rfl dX10_wrongAsClimbers_4 rfl (fun h4 => absurd (by rw [n1, h0]; rfl) h4) (fun h4 => ?_)
    refine pw_iconst (v := -1) 8 rfl dX10_wrongAsClimbers_7 rfl ?_
    refine pw_iret dX10_wrongAsClimbers_8 rfl ?_
    rotate_left
    exact ⟨rfl, rfl, rfl, rfl⟩
  · refine pw_aload_n 1 rfl dX10_wrongAsClimbers_0 rfl ?_
    refine pw_getI 4 rfl dX10_wrongAsClimbers_1 fX10_15 (by first | rfl | assumption | exact rowS hh | exact mtS hm | exact ruS hr | exact mtA1 hm | exact mtA2 hm | exact mtA3 hm | exact mtA4 hm | exact mtA5 hm | exact mtA6 hm | exact mtA7 hm | exact ruA1 hr | exact ruA2 hr | exact ruA3 hr) rfl ?_
    refine pw_if_ne (tgt := 9) 7 rfl dX10_wrongAsClimbers_4 rfl (fun h4 => ?_) (fun h4 => absurd h4 (by rw [n1]; exact nI_ne0 (by omega) (by omega)))
    refine pw_iconst (v := nI 0) 10 rfl dX10_wrongAsClimbers_9 rfl ?_
    refine pw_istore_n 11 rfl dX10_wrongAsClimbers_10 (by decide) ?_
    rotate_left
    have L := nat_loop (min tx.length 13) (fun k => ∀ (x3 : Option Value), fstL (badC tx room) k = none → PW SX yX10_wrongAsClimbers.cls cX10_wrongAsClimbers 4 (d + 1) 11 [some (.ref 17), some (.int (nI room)), some (.int (nI k)), x3] [] (I) (J) (RX) (rX cX10_wrongAsClimbers (some .int) (pPu (.int (wrV (wrC tx room))) I J RX))) ?_ ?_
    · exact L _ rfl
    · intro x3 hf
      rw [wrC_n h0 hf]
      by_cases h13 : 13 < tx.length
      · rw [if_pos h13, show min tx.length 13 = 13 by omega]
        refine pw_iload_n 12 rfl dX10_wrongAsClimbers_11 rfl ?_
        refine pw_aload_n 13 rfl dX10_wrongAsClimbers_12 rfl ?_
        refine pw_getI 16 rfl dX10_wrongAsClimbers_13 fX10_15 (by first | rfl | assumption | exact rowS hh | exact mtS hm | exact ruS hr | exact mtA1 hm | exact mtA2 hm | exact mtA3 hm | exact mtA4 hm | exact mtA5 hm | exact mtA6 hm | exact mtA7 hm | exact ruA1 hr | exact ruA2 hr | exact ruA3 hr) rfl ?_
        refine pw_icmp_ge (tgt := 85) 19 rfl dX10_wrongAsClimbers_16 rfl (fun h16 => absurd h16 (by rw [n1]; (simp (disch := omega) only [nI_leI, nI_ltI, nI_eq, show (0 : Int32) = nI 0 from rfl, not_true_eq_false, not_false_eq_true] <;> omega))) (fun h16 => ?_)
        refine pw_iload_n 20 rfl dX10_wrongAsClimbers_19 rfl ?_
        refine pw_bipush (v := nI 13) 22 rfl dX10_wrongAsClimbers_20 rfl ?_
        refine pw_icmp_ge (tgt := 85) 25 rfl dX10_wrongAsClimbers_22 rfl (fun h22 => ?_) (fun h22 => absurd (by decide) h22)
        refine pw_aload_n 86 rfl dX10_wrongAsClimbers_85 rfl ?_
        refine pw_getI 89 rfl dX10_wrongAsClimbers_86 fX10_15 (by first | rfl | assumption | exact rowS hh | exact mtS hm | exact ruS hr | exact mtA1 hm | exact mtA2 hm | exact mtA3 hm | exact mtA4 hm | exact mtA5 hm | exact mtA6 hm | exact mtA7 hm | exact ruA1 hr | exact ruA2 hr | exact ruA3 hr) rfl ?_
        refine pw_bipush (v := nI 13) 91 rfl dX10_wrongAsClimbers_89 rfl ?_
        refine pw_icmp_le (tgt := 97) 94 rfl dX10_wrongAsClimbers_91 rfl (fun h91 => absurd h91 (by rw [n1]; (simp (disch := omega) only [nI_leI, nI_ltI, nI_eq, show (0 : Int32) = nI 0 from rfl, not_true_eq_false, not_false_eq_true] <;> omega))) (fun h91 => ?_)
        refine pw_bipush (v := nI 13) 96 rfl dX10_wrongAsClimbers_94 rfl ?_
        refine pw_iret dX10_wrongAsClimbers_96 rfl ?_
        rotate_left
        exact ⟨rfl, rfl, rfl, rfl⟩
      · rw [if_neg h13, show min tx.length 13 = tx.length by omega]
        refine pw_iload_n 12 rfl dX10_wrongAsClimbers_11 rfl ?_
        refine pw_aload_n 13 rfl dX10_wrongAsClimbers_12 rfl ?_
        refine pw_getI 16 rfl dX10_wrongAsClimbers_13 fX10_15 (by first | rfl | assumption | exact rowS hh | exact mtS hm | exact ruS hr | exact mtA1 hm | exact mtA2 hm | exact mtA3 hm | exact mtA4 hm | exact mtA5 hm | exact mtA6 hm | exact mtA7 hm | exact ruA1 hr | exact ruA2 hr | exact ruA3 hr) rfl ?_
        refine pw_icmp_ge (tgt := 85) 19 rfl dX10_wrongAsClimbers_16 rfl (fun h16 => ?_) (fun h16 => absurd (by rw [n1]; (simp (disch := omega) only [nI_leI, nI_ltI, nI_eq, show (0 : Int32) = nI 0 from rfl, not_true_eq_false, not_false_eq_true] <;> omega)) h16)
        refine pw_aload_n 86 rfl dX10_wrongAsClimbers_85 rfl ?_
        refine pw_getI 89 rfl dX10_wrongAsClimbers_86 fX10_15 (by first | rfl | assumption | exact rowS hh | exact mtS hm | exact ruS hr | exact mtA1 hm | exact mtA2 hm | exact mtA3 hm | exact mtA4 hm | exact mtA5 hm | exact mtA6 hm | exact mtA7 hm | exact ruA1 hr | exact ruA2 hr | exact ruA3 hr) rfl ?_
        refine pw_bipush (v := nI 13) 91 rfl dX10_wrongAsClimbers_89 rfl ?_
        refine pw_icmp_le (tgt := 97) 94 rfl dX10_wrongAsClimbers_91 rfl (fun h91 => ?_) (fun h91 => absurd (by rw [n1]; (simp (disch := omega) only [nI_leI, nI_ltI, nI_eq, show (0 : Int32) = nI 0 from rfl, not_true_eq_false, not_false_eq_true] <;> omega)) h91)
        refine pw_aload_n 98 rfl dX10_wrongAsClimbers_97 rfl ?_
        refine pw_getI 101 rfl dX10_wrongAsClimbers_98 fX10_15 (by first | rfl | assumption | exact rowS hh | exact mtS hm | exact ruS hr | exact mtA1 hm | exact mtA2 hm | exact mtA3 hm | exact mtA4 hm | exact mtA5 hm | exact mtA6 hm | exact mtA7 hm | exact ruA1 hr | exact ruA2 hr | exact ruA3 hr) rfl ?_
        rotate_left
        rw [n1]
        by_cases he : tx.length % 2 = 0
        · rw [if_pos he]
          refine pw_iconst (v := nI 2) 102 rfl dX10_wrongAsClimbers_101 rfl ?_
          refine pw_iremN 103 rfl dX10_wrongAsClimbers_102 (by omega) (by omega) (by omega) ?_
          refine pw_if_ne (tgt := 113) 106 rfl dX10_wrongAsClimbers_103 rfl (fun h103 => absurd (by rw [he]; rfl) h103) (fun h103 => ?_)
          refine pw_aload_n 107 rfl dX10_wrongAsClimbers_106 rfl ?_
          refine pw_getI 110 rfl dX10_wrongAsClimbers_107 fX10_15 (by first | rfl | assumption | exact rowS hh | exact mtS hm | exact ruS hr | exact mtA1 hm | exact mtA2 hm | exact mtA3 hm | exact mtA4 hm | exact mtA5 hm | exact mtA6 hm | exact mtA7 hm | exact ruA1 hr | exact ruA2 hr | exact ruA3 hr) rfl ?_
          rotate_left
          rw [n1]
          refine pw_goto (tgt := 114) dX10_wrongAsClimbers_110 rfl ?_
          refine pw_iret dX10_wrongAsClimbers_114 rfl ?_
          rotate_left
          exact ⟨rfl, rfl, rfl, rfl⟩
        · rw [if_neg he]
          refine pw_iconst (v := nI 2) 102 rfl dX10_wrongAsClimbers_101 rfl ?_
          refine pw_iremN 103 rfl dX10_wrongAsClimbers_102 (by omega) (by omega) (by omega) ?_
          refine pw_if_ne (tgt := 113) 106 rfl dX10_wrongAsClimbers_103 rfl (fun h103 => ?_) (fun h103 => absurd h103 (nI_ne0 (by omega) (by omega)))
          refine pw_iconst (v := -1) 114 rfl dX10_wrongAsClimbers_113 rfl ?_
          refine pw_iret dX10_wrongAsClimbers_114 rfl ?_
          rotate_left
          exact ⟨rfl, rfl, rfl, rfl⟩
    · intro k hk ih x3 hf
      have hk1 : k < tx.length := by omega
      have hk2 : k < 13 := by omega
      obtain ⟨c, hc⟩ : ∃ c, tx[k]? = some c := ⟨_, List.getElem?_eq_getElem hk1⟩
      have hcl := (n3 k c hc).2
      have hg := getD_s hc
      have bad : badC tx room k = true → ∀ (x3 : Option Value), PW SX yX10_wrongAsClimbers.cls cX10_wrongAsClimbers 4 (d + 1) 77 [some (.ref 17), some (.int (nI room)), some (.int (nI k)), x3] [] (I) (J) (RX) (rX cX10_wrongAsClimbers (some .int) (pPu (.int (wrV (wrC tx room))) I J RX)) := by
        intro hb x3
        rw [wrC_s h0 (fstL_first hf hb hk)]
        refine pw_iload_n 78 rfl dX10_wrongAsClimbers_77 rfl ?_
        refine pw_iret dX10_wrongAsClimbers_78 rfl ?_
        rotate_left
        exact ⟨rfl, rfl, rfl, rfl⟩
      by_cases he : k % 2 = 0
      · have eb : badC tx room k = !(isDg c && decide (k / 2 < room)) := by rw [badC, if_pos he, hg]
        refine pw_iload_n 12 rfl dX10_wrongAsClimbers_11 rfl ?_
        refine pw_aload_n 13 rfl dX10_wrongAsClimbers_12 rfl ?_
        refine pw_getI 16 rfl dX10_wrongAsClimbers_13 fX10_15 (by first | rfl | assumption | exact rowS hh | exact mtS hm | exact ruS hr | exact mtA1 hm | exact mtA2 hm | exact mtA3 hm | exact mtA4 hm | exact mtA5 hm | exact mtA6 hm | exact mtA7 hm | exact ruA1 hr | exact ruA2 hr | exact ruA3 hr) rfl ?_
        refine pw_icmp_ge (tgt := 85) 19 rfl dX10_wrongAsClimbers_16 rfl (fun h16 => absurd h16 (by rw [n1]; (simp (disch := omega) only [nI_leI, nI_ltI, nI_eq, show (0 : Int32) = nI 0 from rfl, not_true_eq_false, not_false_eq_true] <;> omega))) (fun h16 => ?_)
        refine pw_iload_n 20 rfl dX10_wrongAsClimbers_19 rfl ?_
        refine pw_bipush (v := nI 13) 22 rfl dX10_wrongAsClimbers_20 rfl ?_
        refine pw_icmp_ge (tgt := 85) 25 rfl dX10_wrongAsClimbers_22 rfl (fun h22 => absurd h22 (by (simp (disch := omega) only [nI_leI, nI_ltI, nI_eq, show (0 : Int32) = nI 0 from rfl, not_true_eq_false, not_false_eq_true] <;> omega))) (fun h22 => ?_)
        refine pw_iload_n 26 rfl dX10_wrongAsClimbers_25 rfl ?_
        refine pw_iconst (v := nI 2) 27 rfl dX10_wrongAsClimbers_26 rfl ?_
        refine pw_iremN 28 rfl dX10_wrongAsClimbers_27 (by omega) (by omega) (by omega) ?_
        refine pw_if_ne (tgt := 57) 31 rfl dX10_wrongAsClimbers_28 rfl (fun h28 => absurd (by rw [he]; rfl) h28) (fun h28 => ?_)
        refine pw_aload_n 32 rfl dX10_wrongAsClimbers_31 rfl ?_
        refine pw_iload_n 33 rfl dX10_wrongAsClimbers_32 rfl ?_
        refine pw_callVP (as := [_]) 36 rfl dX10_wrongAsClimbers_33 mX10_19 vX10_at (x_at (d := d) hT (by omega)) (by first | rfl | assumption | exact rowS hh | exact mtS hm | exact ruS hr | exact mtA1 hm | exact mtA2 hm | exact mtA3 hm | exact mtA4 hm | exact mtA5 hm | exact mtA6 hm | exact mtA7 hm | exact ruA1 hr | exact ruA2 hr | exact ruA3 hr) rfl (by decide) ⟨rfl, by decide, by decide, show (parseMethodDescriptor yX10_at.desc).map (fun d => d.parameters.length) = some 1 by decide +kernel⟩ (by omega) (by decide) (Nat.le_of_ble_eq_true rfl) rfl ?_
        rotate_left
        rw [tAt_s hc]
        cases hd : isDg c with
        | true =>
          by_cases hro : k / 2 < room
          · refine pw_callSP (as := [_]) 39 rfl dX10_wrongAsClimbers_36 mX10_23 sX10_isDigit (x_isDigit (d := d) (show c < 65536 by omega)) ⟨rfl, by decide, by decide, show (parseMethodDescriptor yX10_isDigit.desc).map (fun d => d.parameters.length) = some 1 by decide +kernel⟩ (by omega) (by decide) (Nat.le_of_ble_eq_true rfl) rfl ?_
            refine pw_if_eq (tgt := 53) 42 rfl dX10_wrongAsClimbers_39 rfl (fun h39 => absurd h39 (by rw [hd]; decide)) (fun h39 => ?_)
            refine pw_iload_n 43 rfl dX10_wrongAsClimbers_42 rfl ?_
            refine pw_iconst (v := nI 2) 44 rfl dX10_wrongAsClimbers_43 rfl ?_
            refine pw_idivN 45 rfl dX10_wrongAsClimbers_44 (by omega) (by omega) (by omega) ?_
            refine pw_iload_n 46 rfl dX10_wrongAsClimbers_45 rfl ?_
            refine pw_icmp_ge (tgt := 53) 49 rfl dX10_wrongAsClimbers_46 rfl (fun h46 => absurd h46 (by (simp (disch := omega) only [nI_leI, nI_ltI, nI_eq, show (0 : Int32) = nI 0 from rfl, not_true_eq_false, not_false_eq_true] <;> omega))) (fun h46 => ?_)
            refine pw_iconst (v := nI 1) 50 rfl dX10_wrongAsClimbers_49 rfl ?_
            refine pw_goto (tgt := 72) dX10_wrongAsClimbers_50 rfl ?_
            refine pw_istore_n 73 rfl dX10_wrongAsClimbers_72 (by decide) ?_
            refine pw_iload_n 74 rfl dX10_wrongAsClimbers_73 rfl ?_
            refine pw_if_ne (tgt := 79) 77 rfl dX10_wrongAsClimbers_74 rfl (fun h74 => ?_) (fun h74 => absurd h74 (by decide))
            refine pw_iincN 82 rfl dX10_wrongAsClimbers_79 (by decide) rfl ?_
            refine pw_goto (tgt := 11) dX10_wrongAsClimbers_82 rfl ?_
            rotate_left
            exact ih _ (fstL_step hf (by rw [eb, hd, decide_eq_true hro]; rfl))
          · refine pw_callSP (as := [_]) 39 rfl dX10_wrongAsClimbers_36 mX10_23 sX10_isDigit (x_isDigit (d := d) (show c < 65536 by omega)) ⟨rfl, by decide, by decide, show (parseMethodDescriptor yX10_isDigit.desc).map (fun d => d.parameters.length) = some 1 by decide +kernel⟩ (by omega) (by decide) (Nat.le_of_ble_eq_true rfl) rfl ?_
            refine pw_if_eq (tgt := 53) 42 rfl dX10_wrongAsClimbers_39 rfl (fun h39 => absurd h39 (by rw [hd]; decide)) (fun h39 => ?_)
            refine pw_iload_n 43 rfl dX10_wrongAsClimbers_42 rfl ?_
            refine pw_iconst (v := nI 2) 44 rfl dX10_wrongAsClimbers_43 rfl ?_
            refine pw_idivN 45 rfl dX10_wrongAsClimbers_44 (by omega) (by omega) (by omega) ?_
            refine pw_iload_n 46 rfl dX10_wrongAsClimbers_45 rfl ?_
            refine pw_icmp_ge (tgt := 53) 49 rfl dX10_wrongAsClimbers_46 rfl (fun h46 => ?_) (fun h46 => absurd (by (simp (disch := omega) only [nI_leI, nI_ltI, nI_eq, show (0 : Int32) = nI 0 from rfl, not_true_eq_false, not_false_eq_true] <;> omega)) h46)
            refine pw_iconst (v := nI 0) 54 rfl dX10_wrongAsClimbers_53 rfl ?_
            refine pw_goto (tgt := 72) dX10_wrongAsClimbers_54 rfl ?_
            refine pw_istore_n 73 rfl dX10_wrongAsClimbers_72 (by decide) ?_
            refine pw_iload_n 74 rfl dX10_wrongAsClimbers_73 rfl ?_
            refine pw_if_ne (tgt := 79) 77 rfl dX10_wrongAsClimbers_74 rfl (fun h74 => absurd rfl h74) (fun h74 => ?_)
            rotate_left
            exact bad (by rw [eb, hd, decide_eq_false hro]; rfl) _
        | false =>
          refine pw_callSP (as := [_]) 39 rfl dX10_wrongAsClimbers_36 mX10_23 sX10_isDigit (x_isDigit (d := d) (show c < 65536 by omega)) ⟨rfl, by decide, by decide, show (parseMethodDescriptor yX10_isDigit.desc).map (fun d => d.parameters.length) = some 1 by decide +kernel⟩ (by omega) (by decide) (Nat.le_of_ble_eq_true rfl) rfl ?_
          refine pw_if_eq (tgt := 53) 42 rfl dX10_wrongAsClimbers_39 rfl (fun h39 => ?_) (fun h39 => absurd (by rw [hd]; rfl) h39)
          refine pw_iconst (v := nI 0) 54 rfl dX10_wrongAsClimbers_53 rfl ?_
          refine pw_goto (tgt := 72) dX10_wrongAsClimbers_54 rfl ?_
          refine pw_istore_n 73 rfl dX10_wrongAsClimbers_72 (by decide) ?_
          refine pw_iload_n 74 rfl dX10_wrongAsClimbers_73 rfl ?_
          refine pw_if_ne (tgt := 79) 77 rfl dX10_wrongAsClimbers_74 rfl (fun h74 => absurd rfl h74) (fun h74 => ?_)
          rotate_left
          exact bad (by rw [eb, hd]; rfl) _
      · have eb : badC tx room k = !(decide (c = 59)) := by rw [badC, if_neg he, hg]
        refine pw_iload_n 12 rfl dX10_wrongAsClimbers_11 rfl ?_
        refine pw_aload_n 13 rfl dX10_wrongAsClimbers_12 rfl ?_
        refine pw_getI 16 rfl dX10_wrongAsClimbers_13 fX10_15 (by first | rfl | assumption | exact rowS hh | exact mtS hm | exact ruS hr | exact mtA1 hm | exact mtA2 hm | exact mtA3 hm | exact mtA4 hm | exact mtA5 hm | exact mtA6 hm | exact mtA7 hm | exact ruA1 hr | exact ruA2 hr | exact ruA3 hr) rfl ?_
        refine pw_icmp_ge (tgt := 85) 19 rfl dX10_wrongAsClimbers_16 rfl (fun h16 => absurd h16 (by rw [n1]; (simp (disch := omega) only [nI_leI, nI_ltI, nI_eq, show (0 : Int32) = nI 0 from rfl, not_true_eq_false, not_false_eq_true] <;> omega))) (fun h16 => ?_)
        refine pw_iload_n 20 rfl dX10_wrongAsClimbers_19 rfl ?_
        refine pw_bipush (v := nI 13) 22 rfl dX10_wrongAsClimbers_20 rfl ?_
        refine pw_icmp_ge (tgt := 85) 25 rfl dX10_wrongAsClimbers_22 rfl (fun h22 => absurd h22 (by (simp (disch := omega) only [nI_leI, nI_ltI, nI_eq, show (0 : Int32) = nI 0 from rfl, not_true_eq_false, not_false_eq_true] <;> omega))) (fun h22 => ?_)
        refine pw_iload_n 26 rfl dX10_wrongAsClimbers_25 rfl ?_
        refine pw_iconst (v := nI 2) 27 rfl dX10_wrongAsClimbers_26 rfl ?_
        refine pw_iremN 28 rfl dX10_wrongAsClimbers_27 (by omega) (by omega) (by omega) ?_
        refine pw_if_ne (tgt := 57) 31 rfl dX10_wrongAsClimbers_28 rfl (fun h28 => ?_) (fun h28 => absurd h28 (nI_ne0 (by omega) (by omega)))
        refine pw_aload_n 58 rfl dX10_wrongAsClimbers_57 rfl ?_
        refine pw_iload_n 59 rfl dX10_wrongAsClimbers_58 rfl ?_
        refine pw_callVP (as := [_]) 62 rfl dX10_wrongAsClimbers_59 mX10_19 vX10_at (x_at (d := d) hT (by omega)) (by first | rfl | assumption | exact rowS hh | exact mtS hm | exact ruS hr | exact mtA1 hm | exact mtA2 hm | exact mtA3 hm | exact mtA4 hm | exact mtA5 hm | exact mtA6 hm | exact mtA7 hm | exact ruA1 hr | exact ruA2 hr | exact ruA3 hr) rfl (by decide) ⟨rfl, by decide, by decide, show (parseMethodDescriptor yX10_at.desc).map (fun d => d.parameters.length) = some 1 by decide +kernel⟩ (by omega) (by decide) (Nat.le_of_ble_eq_true rfl) rfl ?_
        rotate_left
        rw [tAt_s hc]
        by_cases e59 : c = 59
        · refine pw_bipush (v := nI 59) 64 rfl dX10_wrongAsClimbers_62 rfl ?_
          refine pw_icmp_ne (tgt := 71) 67 rfl dX10_wrongAsClimbers_64 rfl (fun h64 => absurd (by rw [e59]) h64) (fun h64 => ?_)
          refine pw_iconst (v := nI 1) 68 rfl dX10_wrongAsClimbers_67 rfl ?_
          refine pw_goto (tgt := 72) dX10_wrongAsClimbers_68 rfl ?_
          refine pw_istore_n 73 rfl dX10_wrongAsClimbers_72 (by decide) ?_
          refine pw_iload_n 74 rfl dX10_wrongAsClimbers_73 rfl ?_
          refine pw_if_ne (tgt := 79) 77 rfl dX10_wrongAsClimbers_74 rfl (fun h74 => ?_) (fun h74 => absurd h74 (by decide))
          refine pw_iincN 82 rfl dX10_wrongAsClimbers_79 (by decide) rfl ?_
          refine pw_goto (tgt := 11) dX10_wrongAsClimbers_82 rfl ?_
          rotate_left
          exact ih _ (fstL_step hf (by rw [eb, decide_eq_true e59]; rfl))
        · refine pw_bipush (v := nI 59) 64 rfl dX10_wrongAsClimbers_62 rfl ?_
          refine pw_icmp_ne (tgt := 71) 67 rfl dX10_wrongAsClimbers_64 rfl (fun h64 => ?_) (fun h64 => absurd h64 (by (simp (disch := omega) only [nI_leI, nI_ltI, nI_eq, show (0 : Int32) = nI 0 from rfl, not_true_eq_false, not_false_eq_true] <;> omega)))
          refine pw_iconst (v := nI 0) 72 rfl dX10_wrongAsClimbers_71 rfl ?_
          refine pw_istore_n 73 rfl dX10_wrongAsClimbers_72 (by decide) ?_
          refine pw_iload_n 74 rfl dX10_wrongAsClimbers_73 rfl ?_
          refine pw_if_ne (tgt := 79) 77 rfl dX10_wrongAsClimbers_74 rfl (fun h74 => absurd rfl h74) (fun h74 => ?_)
          rotate_left
          exact bad (by rw [eb, decide_eq_false e59]; rfl) _
def sgA (c : Nat) : Nat := if c = 119 ∨ c = 102 then 3 else 2
theorem sgA_le (c : Nat) : sgA c ≤ 3 := by rw [sgA]; split <;> decide
set_option maxRecDepth 100000 in
set_option maxHeartbeats 2000000 in
theorem x_signsOfAct {d c : Nat} {I : pI} {J : pJ} (hc : c < 65536) : PC SX (d) yX10_signsOfAct cX10_signsOfAct 1 (some .int) [.int (nI c)] (I) (J) (RX) (pPu (.int (nI (sgA c))) I J RX) := by
  refine PC.of [some (.int (nI c))] rfl rfl (Nat.le_of_ble_eq_true rfl) ?_
  by_cases h1 : c = 119
  · rw [sgA, if_pos (Or.inl h1)]
    refine pw_iload_n 1 rfl dX10_signsOfAct_0 rfl ?_
    refine pw_bipush (v := nI 119) 3 rfl dX10_signsOfAct_1 rfl ?_
    refine pw_icmp_eq (tgt := 12) 6 rfl dX10_signsOfAct_3 rfl (fun h3 => ?_) (fun h3 => absurd (by rw [h1]) h3)
    refine pw_iconst (v := nI 3) 13 rfl dX10_signsOfAct_12 rfl ?_
    refine pw_goto (tgt := 17) dX10_signsOfAct_13 rfl ?_
    refine pw_iret dX10_signsOfAct_17 rfl ?_
    rotate_left
    exact ⟨rfl, rfl, rfl, rfl⟩
  · by_cases h2 : c = 102
    · rw [sgA, if_pos (Or.inr h2)]
      refine pw_iload_n 1 rfl dX10_signsOfAct_0 rfl ?_
      refine pw_bipush (v := nI 119) 3 rfl dX10_signsOfAct_1 rfl ?_
      refine pw_icmp_eq (tgt := 12) 6 rfl dX10_signsOfAct_3 rfl (fun h3 => absurd h3 (by (simp (disch := omega) only [nI_leI, nI_ltI, nI_eq, show (0 : Int32) = nI 0 from rfl, not_true_eq_false, not_false_eq_true] <;> omega))) (fun h3 => ?_)
      refine pw_iload_n 7 rfl dX10_signsOfAct_6 rfl ?_
      refine pw_bipush (v := nI 102) 9 rfl dX10_signsOfAct_7 rfl ?_
      refine pw_icmp_ne (tgt := 16) 12 rfl dX10_signsOfAct_9 rfl (fun h9 => absurd (by rw [h2]) h9) (fun h9 => ?_)
      refine pw_iconst (v := nI 3) 13 rfl dX10_signsOfAct_12 rfl ?_
      refine pw_goto (tgt := 17) dX10_signsOfAct_13 rfl ?_
      refine pw_iret dX10_signsOfAct_17 rfl ?_
      rotate_left
      exact ⟨rfl, rfl, rfl, rfl⟩
    · rw [sgA, if_neg (fun z => z.elim h1 h2)]
      refine pw_iload_n 1 rfl dX10_signsOfAct_0 rfl ?_
      refine pw_bipush (v := nI 119) 3 rfl dX10_signsOfAct_1 rfl ?_
      refine pw_icmp_eq (tgt := 12) 6 rfl dX10_signsOfAct_3 rfl (fun h3 => absurd h3 (by (simp (disch := omega) only [nI_leI, nI_ltI, nI_eq, show (0 : Int32) = nI 0 from rfl, not_true_eq_false, not_false_eq_true] <;> omega))) (fun h3 => ?_)
      refine pw_iload_n 7 rfl dX10_signsOfAct_6 rfl ?_
      refine pw_bipush (v := nI 102) 9 rfl dX10_signsOfAct_7 rfl ?_
      refine pw_icmp_ne (tgt := 16) 12 rfl dX10_signsOfAct_9 rfl (fun h9 => ?_) (fun h9 => absurd h9 (by (simp (disch := omega) only [nI_leI, nI_ltI, nI_eq, show (0 : Int32) = nI 0 from rfl, not_true_eq_false, not_false_eq_true] <;> omega)))
      refine pw_iconst (v := nI 2) 17 rfl dX10_signsOfAct_16 rfl ?_
      refine pw_iret dX10_signsOfAct_17 rfl ?_
      rotate_left
      exact ⟨rfl, rfl, rfl, rfl⟩
set_option maxRecDepth 100000 in
set_option maxHeartbeats 2000000 in
theorem x_signsNo {d : Nat} {I : pI} {J : pJ} : PC SX (d) yX10_signsOfAct cX10_signsOfAct 1 (some .int) [.int (-1)] (I) (J) (RX) (pPu (.int (nI 2)) I J RX) := by
  refine PC.of [some (.int (-1))] rfl rfl (Nat.le_of_ble_eq_true rfl) ?_
  refine pw_iload_n 1 rfl dX10_signsOfAct_0 rfl ?_
  refine pw_bipush (v := nI 119) 3 rfl dX10_signsOfAct_1 rfl ?_
  refine pw_icmp_eq (tgt := 12) 6 rfl dX10_signsOfAct_3 rfl (fun h3 => absurd h3 (by decide)) (fun h3 => ?_)
  refine pw_iload_n 7 rfl dX10_signsOfAct_6 rfl ?_
  refine pw_bipush (v := nI 102) 9 rfl dX10_signsOfAct_7 rfl ?_
  refine pw_icmp_ne (tgt := 16) 12 rfl dX10_signsOfAct_9 rfl (fun h9 => ?_) (fun h9 => absurd h9 (by decide))
  refine pw_iconst (v := nI 2) 17 rfl dX10_signsOfAct_16 rfl ?_
  refine pw_iret dX10_signsOfAct_17 rfl ?_
  rotate_left
  exact ⟨rfl, rfl, rfl, rfl⟩
def isAc (c : Nat) : Bool := decide (c = 110) || decide (c = 115) || decide (c = 98) || decide (c = 119) || decide (c = 102) || decide (c = 116)
def gdA (c p : Nat) : Bool := if p = 0 then isAc c else isDg c && (decide (p = 1) || !(decide (c = 48)))
theorem isAc_iff {c : Nat} : isAc c = true ↔ c = 110 ∨ c = 115 ∨ c = 98 ∨ c = 119 ∨ c = 102 ∨ c = 116 := by simp [isAc, or_assoc]
set_option maxRecDepth 100000 in
set_option maxHeartbeats 2000000 in
theorem x_goodInAct {d c p : Nat} {I : pI} {J : pJ} (hc : c < 65536) (hp : p < 65536) : PC SX (d + 1) yX10_goodInAct cX10_goodInAct 2 (some .boolean) [.int (nI c), .int (nI p)] (I) (J) (RX) (pPu (.int (nI (if gdA c p then 1 else 0))) I J RX) := by
  refine PC.of [some (.int (nI c)), some (.int (nI p))] rfl rfl (Nat.le_of_ble_eq_true rfl) ?_
  by_cases h0 : p = 0
  · rw [gdA, if_pos h0]
    by_cases ha : isAc c = true
    · rw [ha]
      rcases isAc_iff.mp ha with rfl | rfl | rfl | rfl | rfl | rfl
      · refine pw_iload_n 1 rfl dX10_goodInAct_0 rfl ?_
        refine pw_if_ne (tgt := 46) 4 rfl dX10_goodInAct_1 rfl (fun h1 => absurd (by rw [h0]; rfl) h1) (fun h1 => ?_)
        refine pw_iload_n 5 rfl dX10_goodInAct_4 rfl ?_
        refine pw_bipush (v := nI 110) 7 rfl dX10_goodInAct_5 rfl ?_
        refine pw_icmp_eq (tgt := 40) 10 rfl dX10_goodInAct_7 rfl (fun h7 => ?_) (fun h7 => absurd rfl h7)
        refine pw_iconst (v := nI 1) 41 rfl dX10_goodInAct_40 rfl ?_
        refine pw_goto (tgt := 45) dX10_goodInAct_41 rfl ?_
        refine pw_iret dX10_goodInAct_45 rfl ?_
        rotate_left
        exact ⟨rfl, rfl, rfl, rfl⟩
      · refine pw_iload_n 1 rfl dX10_goodInAct_0 rfl ?_
        refine pw_if_ne (tgt := 46) 4 rfl dX10_goodInAct_1 rfl (fun h1 => absurd (by rw [h0]; rfl) h1) (fun h1 => ?_)
        refine pw_iload_n 5 rfl dX10_goodInAct_4 rfl ?_
        refine pw_bipush (v := nI 110) 7 rfl dX10_goodInAct_5 rfl ?_
        refine pw_icmp_eq (tgt := 40) 10 rfl dX10_goodInAct_7 rfl (fun h7 => absurd h7 (by decide)) (fun h7 => ?_)
        refine pw_iload_n 11 rfl dX10_goodInAct_10 rfl ?_
        refine pw_bipush (v := nI 115) 13 rfl dX10_goodInAct_11 rfl ?_
        refine pw_icmp_eq (tgt := 40) 16 rfl dX10_goodInAct_13 rfl (fun h13 => ?_) (fun h13 => absurd rfl h13)
        refine pw_iconst (v := nI 1) 41 rfl dX10_goodInAct_40 rfl ?_
        refine pw_goto (tgt := 45) dX10_goodInAct_41 rfl ?_
        refine pw_iret dX10_goodInAct_45 rfl ?_
        rotate_left
        exact ⟨rfl, rfl, rfl, rfl⟩
      · refine pw_iload_n 1 rfl dX10_goodInAct_0 rfl ?_
        refine pw_if_ne (tgt := 46) 4 rfl dX10_goodInAct_1 rfl (fun h1 => absurd (by rw [h0]; rfl) h1) (fun h1 => ?_)
        refine pw_iload_n 5 rfl dX10_goodInAct_4 rfl ?_
        refine pw_bipush (v := nI 110) 7 rfl dX10_goodInAct_5 rfl ?_
        refine pw_icmp_eq (tgt := 40) 10 rfl dX10_goodInAct_7 rfl (fun h7 => absurd h7 (by decide)) (fun h7 => ?_)
        refine pw_iload_n 11 rfl dX10_goodInAct_10 rfl ?_
        refine pw_bipush (v := nI 115) 13 rfl dX10_goodInAct_11 rfl ?_
        refine pw_icmp_eq (tgt := 40) 16 rfl dX10_goodInAct_13 rfl (fun h13 => absurd h13 (by decide)) (fun h13 => ?_)
        refine pw_iload_n 17 rfl dX10_goodInAct_16 rfl ?_
        refine pw_bipush (v := nI 98) 19 rfl dX10_goodInAct_17 rfl ?_
        refine pw_icmp_eq (tgt := 40) 22 rfl dX10_goodInAct_19 rfl (fun h19 => ?_) (fun h19 => absurd rfl h19)
        refine pw_iconst (v := nI 1) 41 rfl dX10_goodInAct_40 rfl ?_
        refine pw_goto (tgt := 45) dX10_goodInAct_41 rfl ?_
        refine pw_iret dX10_goodInAct_45 rfl ?_
        rotate_left
        exact ⟨rfl, rfl, rfl, rfl⟩
      · refine pw_iload_n 1 rfl dX10_goodInAct_0 rfl ?_
        refine pw_if_ne (tgt := 46) 4 rfl dX10_goodInAct_1 rfl (fun h1 => absurd (by rw [h0]; rfl) h1) (fun h1 => ?_)
        refine pw_iload_n 5 rfl dX10_goodInAct_4 rfl ?_
        refine pw_bipush (v := nI 110) 7 rfl dX10_goodInAct_5 rfl ?_
        refine pw_icmp_eq (tgt := 40) 10 rfl dX10_goodInAct_7 rfl (fun h7 => absurd h7 (by decide)) (fun h7 => ?_)
        refine pw_iload_n 11 rfl dX10_goodInAct_10 rfl ?_
        refine pw_bipush (v := nI 115) 13 rfl dX10_goodInAct_11 rfl ?_
        refine pw_icmp_eq (tgt := 40) 16 rfl dX10_goodInAct_13 rfl (fun h13 => absurd h13 (by decide)) (fun h13 => ?_)
        refine pw_iload_n 17 rfl dX10_goodInAct_16 rfl ?_
        refine pw_bipush (v := nI 98) 19 rfl dX10_goodInAct_17 rfl ?_
        refine pw_icmp_eq (tgt := 40) 22 rfl dX10_goodInAct_19 rfl (fun h19 => absurd h19 (by decide)) (fun h19 => ?_)
        refine pw_iload_n 23 rfl dX10_goodInAct_22 rfl ?_
        refine pw_bipush (v := nI 119) 25 rfl dX10_goodInAct_23 rfl ?_
        refine pw_icmp_eq (tgt := 40) 28 rfl dX10_goodInAct_25 rfl (fun h25 => ?_) (fun h25 => absurd rfl h25)
        refine pw_iconst (v := nI 1) 41 rfl dX10_goodInAct_40 rfl ?_
        refine pw_goto (tgt := 45) dX10_goodInAct_41 rfl ?_
        refine pw_iret dX10_goodInAct_45 rfl ?_
        rotate_left
        exact ⟨rfl, rfl, rfl, rfl⟩
      · refine pw_iload_n 1 rfl dX10_goodInAct_0 rfl ?_
        refine pw_if_ne (tgt := 46) 4 rfl dX10_goodInAct_1 rfl (fun h1 => absurd (by rw [h0]; rfl) h1) (fun h1 => ?_)
        refine pw_iload_n 5 rfl dX10_goodInAct_4 rfl ?_
        refine pw_bipush (v := nI 110) 7 rfl dX10_goodInAct_5 rfl ?_
        refine pw_icmp_eq (tgt := 40) 10 rfl dX10_goodInAct_7 rfl (fun h7 => absurd h7 (by decide)) (fun h7 => ?_)
        refine pw_iload_n 11 rfl dX10_goodInAct_10 rfl ?_
        refine pw_bipush (v := nI 115) 13 rfl dX10_goodInAct_11 rfl ?_
        refine pw_icmp_eq (tgt := 40) 16 rfl dX10_goodInAct_13 rfl (fun h13 => absurd h13 (by decide)) (fun h13 => ?_)
        refine pw_iload_n 17 rfl dX10_goodInAct_16 rfl ?_
        refine pw_bipush (v := nI 98) 19 rfl dX10_goodInAct_17 rfl ?_
        refine pw_icmp_eq (tgt := 40) 22 rfl dX10_goodInAct_19 rfl (fun h19 => absurd h19 (by decide)) (fun h19 => ?_)
        refine pw_iload_n 23 rfl dX10_goodInAct_22 rfl ?_
        refine pw_bipush (v := nI 119) 25 rfl dX10_goodInAct_23 rfl ?_
        refine pw_icmp_eq (tgt := 40) 28 rfl dX10_goodInAct_25 rfl (fun h25 => absurd h25 (by decide)) (fun h25 => ?_)
        refine pw_iload_n 29 rfl dX10_goodInAct_28 rfl ?_
        refine pw_bipush (v := nI 102) 31 rfl dX10_goodInAct_29 rfl ?_
        refine pw_icmp_eq (tgt := 40) 34 rfl dX10_goodInAct_31 rfl (fun h31 => ?_) (fun h31 => absurd rfl h31)
        refine pw_iconst (v := nI 1) 41 rfl dX10_goodInAct_40 rfl ?_
        refine pw_goto (tgt := 45) dX10_goodInAct_41 rfl ?_
        refine pw_iret dX10_goodInAct_45 rfl ?_
        rotate_left
        exact ⟨rfl, rfl, rfl, rfl⟩
      · refine pw_iload_n 1 rfl dX10_goodInAct_0 rfl ?_
        refine pw_if_ne (tgt := 46) 4 rfl dX10_goodInAct_1 rfl (fun h1 => absurd (by rw [h0]; rfl) h1) (fun h1 => ?_)
        refine pw_iload_n 5 rfl dX10_goodInAct_4 rfl ?_
        refine pw_bipush (v := nI 110) 7 rfl dX10_goodInAct_5 rfl ?_
        refine pw_icmp_eq (tgt := 40) 10 rfl dX10_goodInAct_7 rfl (fun h7 => absurd h7 (by decide)) (fun h7 => ?_)
        refine pw_iload_n 11 rfl dX10_goodInAct_10 rfl ?_
        refine pw_bipush (v := nI 115) 13 rfl dX10_goodInAct_11 rfl ?_
        refine pw_icmp_eq (tgt := 40) 16 rfl dX10_goodInAct_13 rfl (fun h13 => absurd h13 (by decide)) (fun h13 => ?_)
        refine pw_iload_n 17 rfl dX10_goodInAct_16 rfl ?_
        refine pw_bipush (v := nI 98) 19 rfl dX10_goodInAct_17 rfl ?_
        refine pw_icmp_eq (tgt := 40) 22 rfl dX10_goodInAct_19 rfl (fun h19 => absurd h19 (by decide)) (fun h19 => ?_)
        refine pw_iload_n 23 rfl dX10_goodInAct_22 rfl ?_
        refine pw_bipush (v := nI 119) 25 rfl dX10_goodInAct_23 rfl ?_
        refine pw_icmp_eq (tgt := 40) 28 rfl dX10_goodInAct_25 rfl (fun h25 => absurd h25 (by decide)) (fun h25 => ?_)
        refine pw_iload_n 29 rfl dX10_goodInAct_28 rfl ?_
        refine pw_bipush (v := nI 102) 31 rfl dX10_goodInAct_29 rfl ?_
        refine pw_icmp_eq (tgt := 40) 34 rfl dX10_goodInAct_31 rfl (fun h31 => absurd h31 (by decide)) (fun h31 => ?_)
        refine pw_iload_n 35 rfl dX10_goodInAct_34 rfl ?_
        refine pw_bipush (v := nI 116) 37 rfl dX10_goodInAct_35 rfl ?_
        refine pw_icmp_ne (tgt := 44) 40 rfl dX10_goodInAct_37 rfl (fun h37 => absurd rfl h37) (fun h37 => ?_)
        refine pw_iconst (v := nI 1) 41 rfl dX10_goodInAct_40 rfl ?_
        refine pw_goto (tgt := 45) dX10_goodInAct_41 rfl ?_
        refine pw_iret dX10_goodInAct_45 rfl ?_
        rotate_left
        exact ⟨rfl, rfl, rfl, rfl⟩
    · have hn : ¬ (c = 110 ∨ c = 115 ∨ c = 98 ∨ c = 119 ∨ c = 102 ∨ c = 116) := fun z => ha (isAc_iff.mpr z)
      rw [Bool.eq_false_iff.mpr ha]
      refine pw_iload_n 1 rfl dX10_goodInAct_0 rfl ?_
      refine pw_if_ne (tgt := 46) 4 rfl dX10_goodInAct_1 rfl (fun h1 => absurd (by rw [h0]; rfl) h1) (fun h1 => ?_)
      refine pw_iload_n 5 rfl dX10_goodInAct_4 rfl ?_
      refine pw_bipush (v := nI 110) 7 rfl dX10_goodInAct_5 rfl ?_
      refine pw_icmp_eq (tgt := 40) 10 rfl dX10_goodInAct_7 rfl (fun h7 => absurd h7 (by rw [nI_eq (by omega) (by decide)]; omega)) (fun h7 => ?_)
      refine pw_iload_n 11 rfl dX10_goodInAct_10 rfl ?_
      refine pw_bipush (v := nI 115) 13 rfl dX10_goodInAct_11 rfl ?_
      refine pw_icmp_eq (tgt := 40) 16 rfl dX10_goodInAct_13 rfl (fun h13 => absurd h13 (by rw [nI_eq (by omega) (by decide)]; omega)) (fun h13 => ?_)
      refine pw_iload_n 17 rfl dX10_goodInAct_16 rfl ?_
      refine pw_bipush (v := nI 98) 19 rfl dX10_goodInAct_17 rfl ?_
      refine pw_icmp_eq (tgt := 40) 22 rfl dX10_goodInAct_19 rfl (fun h19 => absurd h19 (by rw [nI_eq (by omega) (by decide)]; omega)) (fun h19 => ?_)
      refine pw_iload_n 23 rfl dX10_goodInAct_22 rfl ?_
      refine pw_bipush (v := nI 119) 25 rfl dX10_goodInAct_23 rfl ?_
      refine pw_icmp_eq (tgt := 40) 28 rfl dX10_goodInAct_25 rfl (fun h25 => absurd h25 (by rw [nI_eq (by omega) (by decide)]; omega)) (fun h25 => ?_)
      refine pw_iload_n 29 rfl dX10_goodInAct_28 rfl ?_
      refine pw_bipush (v := nI 102) 31 rfl dX10_goodInAct_29 rfl ?_
      refine pw_icmp_eq (tgt := 40) 34 rfl dX10_goodInAct_31 rfl (fun h31 => absurd h31 (by rw [nI_eq (by omega) (by decide)]; omega)) (fun h31 => ?_)
      refine pw_iload_n 35 rfl dX10_goodInAct_34 rfl ?_
      refine pw_bipush (v := nI 116) 37 rfl dX10_goodInAct_35 rfl ?_
      refine pw_icmp_ne (tgt := 44) 40 rfl dX10_goodInAct_37 rfl (fun h37 => ?_) (fun h37 => absurd h37 (by rw [nI_eq (by omega) (by decide)]; omega))
      refine pw_iconst (v := nI 0) 45 rfl dX10_goodInAct_44 rfl ?_
      refine pw_iret dX10_goodInAct_45 rfl ?_
      rotate_left
      exact ⟨rfl, rfl, rfl, rfl⟩
  · rw [gdA, if_neg h0]
    cases hd : isDg c with
    | false =>
      rw [Bool.false_and]
      refine pw_iload_n 1 rfl dX10_goodInAct_0 rfl ?_
      refine pw_if_ne (tgt := 46) 4 rfl dX10_goodInAct_1 rfl (fun h1 => ?_) (fun h1 => absurd h1 (nI_ne0 (by omega) (by omega)))
      refine pw_iload_n 47 rfl dX10_goodInAct_46 rfl ?_
      refine pw_callSP (as := [_]) 50 rfl dX10_goodInAct_47 mX10_23 sX10_isDigit (x_isDigit (d := d) hc) ⟨rfl, by decide, by decide, show (parseMethodDescriptor yX10_isDigit.desc).map (fun d => d.parameters.length) = some 1 by decide +kernel⟩ (by omega) (by decide) (Nat.le_of_ble_eq_true rfl) rfl ?_
      refine pw_if_eq (tgt := 68) 53 rfl dX10_goodInAct_50 rfl (fun h50 => ?_) (fun h50 => absurd (by rw [hd]; rfl) h50)
      refine pw_iconst (v := nI 0) 69 rfl dX10_goodInAct_68 rfl ?_
      refine pw_iret dX10_goodInAct_69 rfl ?_
      rotate_left
      exact ⟨rfl, rfl, rfl, rfl⟩
    | true =>
      rw [Bool.true_and]
      by_cases h1 : p = 1
      · rw [decide_eq_true h1]
        refine pw_iload_n 1 rfl dX10_goodInAct_0 rfl ?_
        refine pw_if_ne (tgt := 46) 4 rfl dX10_goodInAct_1 rfl (fun h1 => ?_) (fun h1 => absurd h1 (nI_ne0 (by omega) (by omega)))
        refine pw_iload_n 47 rfl dX10_goodInAct_46 rfl ?_
        refine pw_callSP (as := [_]) 50 rfl dX10_goodInAct_47 mX10_23 sX10_isDigit (x_isDigit (d := d) hc) ⟨rfl, by decide, by decide, show (parseMethodDescriptor yX10_isDigit.desc).map (fun d => d.parameters.length) = some 1 by decide +kernel⟩ (by omega) (by decide) (Nat.le_of_ble_eq_true rfl) rfl ?_
        refine pw_if_eq (tgt := 68) 53 rfl dX10_goodInAct_50 rfl (fun h50 => absurd h50 (by rw [hd]; decide)) (fun h50 => ?_)
        refine pw_iload_n 54 rfl dX10_goodInAct_53 rfl ?_
        refine pw_iconst (v := nI 1) 55 rfl dX10_goodInAct_54 rfl ?_
        refine pw_icmp_eq (tgt := 64) 58 rfl dX10_goodInAct_55 rfl (fun h55 => ?_) (fun h55 => absurd (by rw [‹p = 1›]) h55)
        refine pw_iconst (v := nI 1) 65 rfl dX10_goodInAct_64 rfl ?_
        refine pw_goto (tgt := 69) dX10_goodInAct_65 rfl ?_
        refine pw_iret dX10_goodInAct_69 rfl ?_
        rotate_left
        exact ⟨rfl, rfl, rfl, rfl⟩
      · rw [decide_eq_false h1, Bool.false_or]
        by_cases h48 : c = 48
        · rw [decide_eq_true h48]
          refine pw_iload_n 1 rfl dX10_goodInAct_0 rfl ?_
          refine pw_if_ne (tgt := 46) 4 rfl dX10_goodInAct_1 rfl (fun h1 => ?_) (fun h1 => absurd h1 (nI_ne0 (by omega) (by omega)))
          refine pw_iload_n 47 rfl dX10_goodInAct_46 rfl ?_
          refine pw_callSP (as := [_]) 50 rfl dX10_goodInAct_47 mX10_23 sX10_isDigit (x_isDigit (d := d) hc) ⟨rfl, by decide, by decide, show (parseMethodDescriptor yX10_isDigit.desc).map (fun d => d.parameters.length) = some 1 by decide +kernel⟩ (by omega) (by decide) (Nat.le_of_ble_eq_true rfl) rfl ?_
          refine pw_if_eq (tgt := 68) 53 rfl dX10_goodInAct_50 rfl (fun h50 => absurd h50 (by rw [hd]; decide)) (fun h50 => ?_)
          refine pw_iload_n 54 rfl dX10_goodInAct_53 rfl ?_
          refine pw_iconst (v := nI 1) 55 rfl dX10_goodInAct_54 rfl ?_
          refine pw_icmp_eq (tgt := 64) 58 rfl dX10_goodInAct_55 rfl (fun h55 => absurd h55 (by rw [nI_eq (by omega) (by decide)]; omega)) (fun h55 => ?_)
          refine pw_iload_n 59 rfl dX10_goodInAct_58 rfl ?_
          refine pw_bipush (v := nI 48) 61 rfl dX10_goodInAct_59 rfl ?_
          refine pw_icmp_eq (tgt := 68) 64 rfl dX10_goodInAct_61 rfl (fun h61 => ?_) (fun h61 => absurd (by rw [‹c = 48›]) h61)
          refine pw_iconst (v := nI 0) 69 rfl dX10_goodInAct_68 rfl ?_
          refine pw_iret dX10_goodInAct_69 rfl ?_
          rotate_left
          exact ⟨rfl, rfl, rfl, rfl⟩
        · rw [decide_eq_false h48]
          refine pw_iload_n 1 rfl dX10_goodInAct_0 rfl ?_
          refine pw_if_ne (tgt := 46) 4 rfl dX10_goodInAct_1 rfl (fun h1 => ?_) (fun h1 => absurd h1 (nI_ne0 (by omega) (by omega)))
          refine pw_iload_n 47 rfl dX10_goodInAct_46 rfl ?_
          refine pw_callSP (as := [_]) 50 rfl dX10_goodInAct_47 mX10_23 sX10_isDigit (x_isDigit (d := d) hc) ⟨rfl, by decide, by decide, show (parseMethodDescriptor yX10_isDigit.desc).map (fun d => d.parameters.length) = some 1 by decide +kernel⟩ (by omega) (by decide) (Nat.le_of_ble_eq_true rfl) rfl ?_
          refine pw_if_eq (tgt := 68) 53 rfl dX10_goodInAct_50 rfl (fun h50 => absurd h50 (by rw [hd]; decide)) (fun h50 => ?_)
          refine pw_iload_n 54 rfl dX10_goodInAct_53 rfl ?_
          refine pw_iconst (v := nI 1) 55 rfl dX10_goodInAct_54 rfl ?_
          refine pw_icmp_eq (tgt := 64) 58 rfl dX10_goodInAct_55 rfl (fun h55 => absurd h55 (by rw [nI_eq (by omega) (by decide)]; omega)) (fun h55 => ?_)
          refine pw_iload_n 59 rfl dX10_goodInAct_58 rfl ?_
          refine pw_bipush (v := nI 48) 61 rfl dX10_goodInAct_59 rfl ?_
          refine pw_icmp_eq (tgt := 68) 64 rfl dX10_goodInAct_61 rfl (fun h61 => absurd h61 (by rw [nI_eq (by omega) (by decide)]; omega)) (fun h61 => ?_)
          refine pw_iconst (v := nI 1) 65 rfl dX10_goodInAct_64 rfl ?_
          refine pw_goto (tgt := 69) dX10_goodInAct_65 rfl ?_
          refine pw_iret dX10_goodInAct_69 rfl ?_
          rotate_left
          exact ⟨rfl, rfl, rfl, rfl⟩
/-- where the act begins that stands ahead of p -/
def dyb (tx : List Nat) : Nat → Nat
  | 0 => 0
  | p + 1 => if p = dyb tx p + sgA (tx.getD (dyb tx p) 0) then p else dyb tx p
theorem dyb_le (tx : List Nat) : ∀ p, dyb tx p ≤ p
  | 0 => Nat.le_refl _
  | p + 1 => by rw [dyb]; have := dyb_le tx p; split <;> omega
theorem dyb_lt (tx : List Nat) (p : Nat) : dyb tx (p + 1) ≤ p := by rw [dyb]; have := dyb_le tx p; split <;> omega
def badD (tx : List Nat) (p : Nat) : Bool := !(gdA (tx.getD p 0) (p - dyb tx (p + 1)))
def wrD (tx : List Nat) : Option Nat := match fstL (badD tx) (min tx.length 60) with
  | some p => some p
  | none => if 60 < tx.length then some 60 else if tx.length = 0 ∨ tx.length = dyb tx tx.length + sgA (tx.getD (dyb tx tx.length) 0) then none else some tx.length
theorem wrD_s {tx : List Nat} {p : Nat} (e : fstL (badD tx) (min tx.length 60) = some p) : wrD tx = some p := by rw [wrD, e]
theorem wrD_n {tx : List Nat} (e : fstL (badD tx) (min tx.length 60) = none) : wrD tx = if 60 < tx.length then some 60 else if tx.length = 0 ∨ tx.length = dyb tx tx.length + sgA (tx.getD (dyb tx tx.length) 0) then none else some tx.length := by rw [wrD, e]
set_option maxRecDepth 100000 in
set_option maxHeartbeats 2000000 in
theorem x_wrongD {d : Nat} {I : pI} {J : pJ} {tx : List Nat} (hT : XT I tx) : PC SX (d + 2) yX10_wrongAsDay cX10_wrongAsDay 3 (some .int) [.ref 17] (I) (J) (RX) (pPu (.int (wrV (wrD tx))) I J RX) := by
  refine PC.of [some (.ref 17), none, none] rfl rfl (Nat.le_of_ble_eq_true rfl) ?_
  obtain ⟨n1, n2, n3⟩ := id hT
  refine pw_iconst (v := nI 0) 1 rfl dX10_wrongAsDay_0 rfl ?_
  refine pw_istore_n 2 rfl dX10_wrongAsDay_1 (by decide) ?_
  refine pw_iconst (v := nI 0) 3 rfl dX10_wrongAsDay_2 rfl ?_
  refine pw_istore_n 4 rfl dX10_wrongAsDay_3 (by decide) ?_
  rotate_left
  have L := nat_loop (min tx.length 60) (fun k => fstL (badD tx) k = none → PW SX yX10_wrongAsDay.cls cX10_wrongAsDay 3 (d + 2) 4 [some (.ref 17), some (.int (nI (dyb tx k))), some (.int (nI k))] [] (I) (J) (RX) (rX cX10_wrongAsDay (some .int) (pPu (.int (wrV (wrD tx))) I J RX))) ?_ ?_
  · exact L rfl
  · intro hf
    rw [wrD_n hf]
    have hdl := dyb_le tx tx.length
    by_cases h60 : 60 < tx.length
    · rw [if_pos h60, show min tx.length 60 = 60 by omega]
      refine pw_iload_n 5 rfl dX10_wrongAsDay_4 rfl ?_
      refine pw_aload_n 6 rfl dX10_wrongAsDay_5 rfl ?_
      refine pw_getI 9 rfl dX10_wrongAsDay_6 fX10_15 (by first | rfl | assumption | exact rowS hh | exact mtS hm | exact ruS hr | exact mtA1 hm | exact mtA2 hm | exact mtA3 hm | exact mtA4 hm | exact mtA5 hm | exact mtA6 hm | exact mtA7 hm | exact ruA1 hr | exact ruA2 hr | exact ruA3 hr) rfl ?_
      refine pw_icmp_ge (tgt := 56) 12 rfl dX10_wrongAsDay_9 rfl (fun h9 => absurd h9 (by rw [n1]; (simp (disch := omega) only [nI_leI, nI_ltI, nI_eq, show (0 : Int32) = nI 0 from rfl, not_true_eq_false, not_false_eq_true] <;> omega))) (fun h9 => ?_)
      refine pw_iload_n 13 rfl dX10_wrongAsDay_12 rfl ?_
      refine pw_bipush (v := nI 60) 15 rfl dX10_wrongAsDay_13 rfl ?_
      refine pw_icmp_ge (tgt := 56) 18 rfl dX10_wrongAsDay_15 rfl (fun h15 => ?_) (fun h15 => absurd (by decide) h15)
      refine pw_aload_n 57 rfl dX10_wrongAsDay_56 rfl ?_
      refine pw_getI 60 rfl dX10_wrongAsDay_57 fX10_15 (by first | rfl | assumption | exact rowS hh | exact mtS hm | exact ruS hr | exact mtA1 hm | exact mtA2 hm | exact mtA3 hm | exact mtA4 hm | exact mtA5 hm | exact mtA6 hm | exact mtA7 hm | exact ruA1 hr | exact ruA2 hr | exact ruA3 hr) rfl ?_
      refine pw_bipush (v := nI 60) 62 rfl dX10_wrongAsDay_60 rfl ?_
      refine pw_icmp_le (tgt := 68) 65 rfl dX10_wrongAsDay_62 rfl (fun h62 => absurd h62 (by rw [n1]; (simp (disch := omega) only [nI_leI, nI_ltI, nI_eq, show (0 : Int32) = nI 0 from rfl, not_true_eq_false, not_false_eq_true] <;> omega))) (fun h62 => ?_)
      refine pw_bipush (v := nI 60) 67 rfl dX10_wrongAsDay_65 rfl ?_
      refine pw_iret dX10_wrongAsDay_67 rfl ?_
      rotate_left
      exact ⟨rfl, rfl, rfl, rfl⟩
    · rw [if_neg h60, show min tx.length 60 = tx.length by omega]
      by_cases h0 : tx.length = 0
      · rw [if_pos (Or.inl h0)]
        refine pw_iload_n 5 rfl dX10_wrongAsDay_4 rfl ?_
        refine pw_aload_n 6 rfl dX10_wrongAsDay_5 rfl ?_
        refine pw_getI 9 rfl dX10_wrongAsDay_6 fX10_15 (by first | rfl | assumption | exact rowS hh | exact mtS hm | exact ruS hr | exact mtA1 hm | exact mtA2 hm | exact mtA3 hm | exact mtA4 hm | exact mtA5 hm | exact mtA6 hm | exact mtA7 hm | exact ruA1 hr | exact ruA2 hr | exact ruA3 hr) rfl ?_
        refine pw_icmp_ge (tgt := 56) 12 rfl dX10_wrongAsDay_9 rfl (fun h9 => ?_) (fun h9 => absurd (by rw [n1]; (simp (disch := omega) only [nI_leI, nI_ltI, nI_eq, show (0 : Int32) = nI 0 from rfl, not_true_eq_false, not_false_eq_true] <;> omega)) h9)
        refine pw_aload_n 57 rfl dX10_wrongAsDay_56 rfl ?_
        refine pw_getI 60 rfl dX10_wrongAsDay_57 fX10_15 (by first | rfl | assumption | exact rowS hh | exact mtS hm | exact ruS hr | exact mtA1 hm | exact mtA2 hm | exact mtA3 hm | exact mtA4 hm | exact mtA5 hm | exact mtA6 hm | exact mtA7 hm | exact ruA1 hr | exact ruA2 hr | exact ruA3 hr) rfl ?_
        refine pw_bipush (v := nI 60) 62 rfl dX10_wrongAsDay_60 rfl ?_
        refine pw_icmp_le (tgt := 68) 65 rfl dX10_wrongAsDay_62 rfl (fun h62 => ?_) (fun h62 => absurd (by rw [n1]; (simp (disch := omega) only [nI_leI, nI_ltI, nI_eq, show (0 : Int32) = nI 0 from rfl, not_true_eq_false, not_false_eq_true] <;> omega)) h62)
        refine pw_aload_n 69 rfl dX10_wrongAsDay_68 rfl ?_
        refine pw_getI 72 rfl dX10_wrongAsDay_69 fX10_15 (by first | rfl | assumption | exact rowS hh | exact mtS hm | exact ruS hr | exact mtA1 hm | exact mtA2 hm | exact mtA3 hm | exact mtA4 hm | exact mtA5 hm | exact mtA6 hm | exact mtA7 hm | exact ruA1 hr | exact ruA2 hr | exact ruA3 hr) rfl ?_
        refine pw_if_eq (tgt := 92) 75 rfl dX10_wrongAsDay_72 rfl (fun h72 => ?_) (fun h72 => absurd (by rw [n1, ‹tx.length = 0›]; rfl) h72)
        refine pw_iconst (v := -1) 93 rfl dX10_wrongAsDay_92 rfl ?_
        refine pw_goto (tgt := 100) dX10_wrongAsDay_93 rfl ?_
        refine pw_iret dX10_wrongAsDay_100 rfl ?_
        rotate_left
        exact ⟨rfl, rfl, rfl, rfl⟩
      · have hdl2 : dyb tx tx.length < tx.length := by
          have := dyb_lt tx (tx.length - 1)
          rw [show tx.length - 1 + 1 = tx.length by omega] at this
          omega
        obtain ⟨c, hc⟩ : ∃ c, tx[dyb tx tx.length]? = some c := ⟨_, List.getElem?_eq_getElem hdl2⟩
        have hcl := (n3 _ c hc).2
        have hsl := sgA_le c
        rw [getD_s hc]
        refine pw_iload_n 5 rfl dX10_wrongAsDay_4 rfl ?_
        refine pw_aload_n 6 rfl dX10_wrongAsDay_5 rfl ?_
        refine pw_getI 9 rfl dX10_wrongAsDay_6 fX10_15 (by first | rfl | assumption | exact rowS hh | exact mtS hm | exact ruS hr | exact mtA1 hm | exact mtA2 hm | exact mtA3 hm | exact mtA4 hm | exact mtA5 hm | exact mtA6 hm | exact mtA7 hm | exact ruA1 hr | exact ruA2 hr | exact ruA3 hr) rfl ?_
        refine pw_icmp_ge (tgt := 56) 12 rfl dX10_wrongAsDay_9 rfl (fun h9 => ?_) (fun h9 => absurd (by rw [n1]; (simp (disch := omega) only [nI_leI, nI_ltI, nI_eq, show (0 : Int32) = nI 0 from rfl, not_true_eq_false, not_false_eq_true] <;> omega)) h9)
        refine pw_aload_n 57 rfl dX10_wrongAsDay_56 rfl ?_
        refine pw_getI 60 rfl dX10_wrongAsDay_57 fX10_15 (by first | rfl | assumption | exact rowS hh | exact mtS hm | exact ruS hr | exact mtA1 hm | exact mtA2 hm | exact mtA3 hm | exact mtA4 hm | exact mtA5 hm | exact mtA6 hm | exact mtA7 hm | exact ruA1 hr | exact ruA2 hr | exact ruA3 hr) rfl ?_
        refine pw_bipush (v := nI 60) 62 rfl dX10_wrongAsDay_60 rfl ?_
        refine pw_icmp_le (tgt := 68) 65 rfl dX10_wrongAsDay_62 rfl (fun h62 => ?_) (fun h62 => absurd (by rw [n1]; (simp (disch := omega) only [nI_leI, nI_ltI, nI_eq, show (0 : Int32) = nI 0 from rfl, not_true_eq_false, not_false_eq_true] <;> omega)) h62)
        refine pw_aload_n 69 rfl dX10_wrongAsDay_68 rfl ?_
        refine pw_getI 72 rfl dX10_wrongAsDay_69 fX10_15 (by first | rfl | assumption | exact rowS hh | exact mtS hm | exact ruS hr | exact mtA1 hm | exact mtA2 hm | exact mtA3 hm | exact mtA4 hm | exact mtA5 hm | exact mtA6 hm | exact mtA7 hm | exact ruA1 hr | exact ruA2 hr | exact ruA3 hr) rfl ?_
        refine pw_if_eq (tgt := 92) 75 rfl dX10_wrongAsDay_72 rfl (fun h72 => absurd h72 (by rw [n1]; exact nI_ne0 (by omega) (by omega))) (fun h72 => ?_)
        refine pw_aload_n 76 rfl dX10_wrongAsDay_75 rfl ?_
        refine pw_getI 79 rfl dX10_wrongAsDay_76 fX10_15 (by first | rfl | assumption | exact rowS hh | exact mtS hm | exact ruS hr | exact mtA1 hm | exact mtA2 hm | exact mtA3 hm | exact mtA4 hm | exact mtA5 hm | exact mtA6 hm | exact mtA7 hm | exact ruA1 hr | exact ruA2 hr | exact ruA3 hr) rfl ?_
        rotate_left
        rw [n1]
        refine pw_iload_n 80 rfl dX10_wrongAsDay_79 rfl ?_
        refine pw_aload_n 81 rfl dX10_wrongAsDay_80 rfl ?_
        refine pw_iload_n 82 rfl dX10_wrongAsDay_81 rfl ?_
        refine pw_callVP (as := [_]) 85 rfl dX10_wrongAsDay_82 mX10_19 vX10_at (x_at (d := d + 1) hT (by omega)) (by first | rfl | assumption | exact rowS hh | exact mtS hm | exact ruS hr | exact mtA1 hm | exact mtA2 hm | exact mtA3 hm | exact mtA4 hm | exact mtA5 hm | exact mtA6 hm | exact mtA7 hm | exact ruA1 hr | exact ruA2 hr | exact ruA3 hr) rfl (by decide) ⟨rfl, by decide, by decide, show (parseMethodDescriptor yX10_at.desc).map (fun d => d.parameters.length) = some 1 by decide +kernel⟩ (by omega) (by decide) (Nat.le_of_ble_eq_true rfl) rfl ?_
        rotate_left
        rw [tAt_s hc]
        by_cases he : tx.length = dyb tx tx.length + sgA c
        · rw [if_pos (Or.inr he)]
          refine pw_callSP (as := [_]) 88 rfl dX10_wrongAsDay_85 mX10_27 sX10_signsOfAct (x_signsOfAct (d := d + 1) (show c < 65536 by omega)) ⟨rfl, by decide, by decide, show (parseMethodDescriptor yX10_signsOfAct.desc).map (fun d => d.parameters.length) = some 1 by decide +kernel⟩ (by omega) (by decide) (Nat.le_of_ble_eq_true rfl) rfl ?_
          first | refine pw_iaddN 89 rfl dX10_wrongAsDay_88 ?_ | refine pw_iadd 89 rfl dX10_wrongAsDay_88 ?_
          refine pw_icmp_ne (tgt := 96) 92 rfl dX10_wrongAsDay_89 rfl (fun h89 => absurd (by rw [← he]) h89) (fun h89 => ?_)
          refine pw_iconst (v := -1) 93 rfl dX10_wrongAsDay_92 rfl ?_
          refine pw_goto (tgt := 100) dX10_wrongAsDay_93 rfl ?_
          refine pw_iret dX10_wrongAsDay_100 rfl ?_
          rotate_left
          exact ⟨rfl, rfl, rfl, rfl⟩
        · rw [if_neg (fun z => z.elim h0 he)]
          refine pw_callSP (as := [_]) 88 rfl dX10_wrongAsDay_85 mX10_27 sX10_signsOfAct (x_signsOfAct (d := d + 1) (show c < 65536 by omega)) ⟨rfl, by decide, by decide, show (parseMethodDescriptor yX10_signsOfAct.desc).map (fun d => d.parameters.length) = some 1 by decide +kernel⟩ (by omega) (by decide) (Nat.le_of_ble_eq_true rfl) rfl ?_
          first | refine pw_iaddN 89 rfl dX10_wrongAsDay_88 ?_ | refine pw_iadd 89 rfl dX10_wrongAsDay_88 ?_
          refine pw_icmp_ne (tgt := 96) 92 rfl dX10_wrongAsDay_89 rfl (fun h89 => ?_) (fun h89 => absurd h89 (by rw [nI_eq (by omega) (by omega)]; exact he))
          refine pw_aload_n 97 rfl dX10_wrongAsDay_96 rfl ?_
          refine pw_getI 100 rfl dX10_wrongAsDay_97 fX10_15 (by first | rfl | assumption | exact rowS hh | exact mtS hm | exact ruS hr | exact mtA1 hm | exact mtA2 hm | exact mtA3 hm | exact mtA4 hm | exact mtA5 hm | exact mtA6 hm | exact mtA7 hm | exact ruA1 hr | exact ruA2 hr | exact ruA3 hr) rfl ?_
          rotate_left
          rw [n1]
          refine pw_iret dX10_wrongAsDay_100 rfl ?_
          rotate_left
          exact ⟨rfl, rfl, rfl, rfl⟩
  · intro k hk ih hf
    have hk1 : k < tx.length := by omega
    have hk2 : k < 60 := by omega
    have hdl := dyb_le tx k
    have hdl1 := dyb_lt tx k
    obtain ⟨c, hc⟩ : ∃ c, tx[dyb tx k]? = some c := ⟨_, List.getElem?_eq_getElem (by omega)⟩
    obtain ⟨e, he⟩ : ∃ c, tx[k]? = some c := ⟨_, List.getElem?_eq_getElem hk1⟩
    have hcl := (n3 _ c hc).2
    have hel := (n3 _ e he).2
    have hsl := sgA_le c
    have hcg := getD_s hc
    have heg := getD_s he
    have eb : badD tx k = !(gdA e (k - dyb tx (k + 1))) := by rw [badD, heg]
    have tail : PW SX yX10_wrongAsDay.cls cX10_wrongAsDay 3 (d + 2) 34 [some (.ref 17), some (.int (nI (dyb tx (k + 1)))), some (.int (nI k))] [] (I) (J) (RX) (rX cX10_wrongAsDay (some .int) (pPu (.int (wrV (wrD tx))) I J RX)) := by
      refine pw_aload_n 35 rfl dX10_wrongAsDay_34 rfl ?_
      refine pw_iload_n 36 rfl dX10_wrongAsDay_35 rfl ?_
      refine pw_callVP (as := [_]) 39 rfl dX10_wrongAsDay_36 mX10_19 vX10_at (x_at (d := d + 1) hT (by omega)) (by first | rfl | assumption | exact rowS hh | exact mtS hm | exact ruS hr | exact mtA1 hm | exact mtA2 hm | exact mtA3 hm | exact mtA4 hm | exact mtA5 hm | exact mtA6 hm | exact mtA7 hm | exact ruA1 hr | exact ruA2 hr | exact ruA3 hr) rfl (by decide) ⟨rfl, by decide, by decide, show (parseMethodDescriptor yX10_at.desc).map (fun d => d.parameters.length) = some 1 by decide +kernel⟩ (by omega) (by decide) (Nat.le_of_ble_eq_true rfl) rfl ?_
      rotate_left
      rw [tAt_s he]
      cases hg : gdA e (k - dyb tx (k + 1)) with
      | true =>
        refine pw_iload_n 40 rfl dX10_wrongAsDay_39 rfl ?_
        refine pw_iload_n 41 rfl dX10_wrongAsDay_40 rfl ?_
        refine pw_isubN 42 rfl dX10_wrongAsDay_41 (by omega) ?_
        refine pw_callSP (as := [_, _]) 45 rfl dX10_wrongAsDay_42 mX10_30 sX10_goodInAct (x_goodInAct (d := d) (show e < 65536 by omega) (show k - dyb tx (k + 1) < 65536 by omega)) ⟨rfl, by decide, by decide, show (parseMethodDescriptor yX10_goodInAct.desc).map (fun d => d.parameters.length) = some 2 by decide +kernel⟩ (by omega) (by decide) (Nat.le_of_ble_eq_true rfl) rfl ?_
        refine pw_if_ne (tgt := 50) 48 rfl dX10_wrongAsDay_45 rfl (fun h45 => ?_) (fun h45 => absurd h45 (by rw [hg]; decide))
        refine pw_iincN 53 rfl dX10_wrongAsDay_50 (by decide) rfl ?_
        refine pw_goto (tgt := 4) dX10_wrongAsDay_53 rfl ?_
        rotate_left
        exact ih (fstL_step hf (by rw [eb, hg]; rfl))
      | false =>
        rw [wrD_s (fstL_first hf (by rw [eb, hg]; rfl) hk)]
        refine pw_iload_n 40 rfl dX10_wrongAsDay_39 rfl ?_
        refine pw_iload_n 41 rfl dX10_wrongAsDay_40 rfl ?_
        refine pw_isubN 42 rfl dX10_wrongAsDay_41 (by omega) ?_
        refine pw_callSP (as := [_, _]) 45 rfl dX10_wrongAsDay_42 mX10_30 sX10_goodInAct (x_goodInAct (d := d) (show e < 65536 by omega) (show k - dyb tx (k + 1) < 65536 by omega)) ⟨rfl, by decide, by decide, show (parseMethodDescriptor yX10_goodInAct.desc).map (fun d => d.parameters.length) = some 2 by decide +kernel⟩ (by omega) (by decide) (Nat.le_of_ble_eq_true rfl) rfl ?_
        refine pw_if_ne (tgt := 50) 48 rfl dX10_wrongAsDay_45 rfl (fun h45 => absurd (by rw [hg]; rfl) h45) (fun h45 => ?_)
        refine pw_iload_n 49 rfl dX10_wrongAsDay_48 rfl ?_
        refine pw_iret dX10_wrongAsDay_49 rfl ?_
        rotate_left
        exact ⟨rfl, rfl, rfl, rfl⟩
    refine pw_iload_n 5 rfl dX10_wrongAsDay_4 rfl ?_
    refine pw_aload_n 6 rfl dX10_wrongAsDay_5 rfl ?_
    refine pw_getI 9 rfl dX10_wrongAsDay_6 fX10_15 (by first | rfl | assumption | exact rowS hh | exact mtS hm | exact ruS hr | exact mtA1 hm | exact mtA2 hm | exact mtA3 hm | exact mtA4 hm | exact mtA5 hm | exact mtA6 hm | exact mtA7 hm | exact ruA1 hr | exact ruA2 hr | exact ruA3 hr) rfl ?_
    refine pw_icmp_ge (tgt := 56) 12 rfl dX10_wrongAsDay_9 rfl (fun h9 => absurd h9 (by rw [n1]; (simp (disch := omega) only [nI_leI, nI_ltI, nI_eq, show (0 : Int32) = nI 0 from rfl, not_true_eq_false, not_false_eq_true] <;> omega))) (fun h9 => ?_)
    refine pw_iload_n 13 rfl dX10_wrongAsDay_12 rfl ?_
    refine pw_bipush (v := nI 60) 15 rfl dX10_wrongAsDay_13 rfl ?_
    refine pw_icmp_ge (tgt := 56) 18 rfl dX10_wrongAsDay_15 rfl (fun h15 => absurd h15 (by (simp (disch := omega) only [nI_leI, nI_ltI, nI_eq, show (0 : Int32) = nI 0 from rfl, not_true_eq_false, not_false_eq_true] <;> omega))) (fun h15 => ?_)
    refine pw_iload_n 19 rfl dX10_wrongAsDay_18 rfl ?_
    refine pw_iload_n 20 rfl dX10_wrongAsDay_19 rfl ?_
    refine pw_aload_n 21 rfl dX10_wrongAsDay_20 rfl ?_
    refine pw_iload_n 22 rfl dX10_wrongAsDay_21 rfl ?_
    refine pw_callVP (as := [_]) 25 rfl dX10_wrongAsDay_22 mX10_19 vX10_at (x_at (d := d + 1) hT (by omega)) (by first | rfl | assumption | exact rowS hh | exact mtS hm | exact ruS hr | exact mtA1 hm | exact mtA2 hm | exact mtA3 hm | exact mtA4 hm | exact mtA5 hm | exact mtA6 hm | exact mtA7 hm | exact ruA1 hr | exact ruA2 hr | exact ruA3 hr) rfl (by decide) ⟨rfl, by decide, by decide, show (parseMethodDescriptor yX10_at.desc).map (fun d => d.parameters.length) = some 1 by decide +kernel⟩ (by omega) (by decide) (Nat.le_of_ble_eq_true rfl) rfl ?_
    rotate_left
    rw [tAt_s hc]
    by_cases hq : k = dyb tx k + sgA c
    · have e1 : dyb tx (k + 1) = k := by rw [dyb, hcg, if_pos hq]
      rw [e1] at tail
      refine pw_callSP (as := [_]) 28 rfl dX10_wrongAsDay_25 mX10_27 sX10_signsOfAct (x_signsOfAct (d := d + 1) (show c < 65536 by omega)) ⟨rfl, by decide, by decide, show (parseMethodDescriptor yX10_signsOfAct.desc).map (fun d => d.parameters.length) = some 1 by decide +kernel⟩ (by omega) (by decide) (Nat.le_of_ble_eq_true rfl) rfl ?_
      first | refine pw_iaddN 29 rfl dX10_wrongAsDay_28 ?_ | refine pw_iadd 29 rfl dX10_wrongAsDay_28 ?_
      refine pw_icmp_ne (tgt := 34) 32 rfl dX10_wrongAsDay_29 rfl (fun h29 => absurd (by rw [← hq]) h29) (fun h29 => ?_)
      refine pw_iload_n 33 rfl dX10_wrongAsDay_32 rfl ?_
      refine pw_istore_n 34 rfl dX10_wrongAsDay_33 (by decide) ?_
      rotate_left
      exact tail
    · have e1 : dyb tx (k + 1) = dyb tx k := by rw [dyb, hcg, if_neg hq]
      rw [e1] at tail
      refine pw_callSP (as := [_]) 28 rfl dX10_wrongAsDay_25 mX10_27 sX10_signsOfAct (x_signsOfAct (d := d + 1) (show c < 65536 by omega)) ⟨rfl, by decide, by decide, show (parseMethodDescriptor yX10_signsOfAct.desc).map (fun d => d.parameters.length) = some 1 by decide +kernel⟩ (by omega) (by decide) (Nat.le_of_ble_eq_true rfl) rfl ?_
      first | refine pw_iaddN 29 rfl dX10_wrongAsDay_28 ?_ | refine pw_iadd 29 rfl dX10_wrongAsDay_28 ?_
      refine pw_icmp_ne (tgt := 34) 32 rfl dX10_wrongAsDay_29 rfl (fun h29 => ?_) (fun h29 => absurd h29 (by rw [nI_eq (by omega) (by omega)]; exact hq))
      rotate_left
      exact tail
