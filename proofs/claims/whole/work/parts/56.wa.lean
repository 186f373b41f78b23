/-! what is told stays as it must be -/
theorem WN_keepA {n : Nat} {pc b : Nat → Nat} {us : List (Nat → Nat)} (h : ∀ u ∈ us, WN n pc u) (hb : WN n pc b) : ∀ u ∈ aKeep us b, WN n pc u := by
  intro u hu
  unfold aKeep at hu
  split at hu
  · rcases List.mem_append.mp hu with z | z
    · exact h u z
    · rw [List.mem_singleton.mp z]; exact hb
  · rcases List.mem_append.mp hu with z | z
    · exact h u (List.mem_of_mem_drop z)
    · rw [List.mem_singleton.mp z]; exact hb
theorem WA_q {f : qFn} {s : aSt} (h : WA s) : WA (qOp f s).2 := by
  obtain ⟨n, pc, b, us, kp, rw, tx, rt, hd, sw⟩ := s
  exact h
theorem WA_act {f : Nat → (Nat → Nat) → Int32 × (Nat → Nat)} {s : aSt} (hf : ∀ (n : Nat) (pc b : Nat → Nat), WN n pc b → WN n pc (f n b).2) (h : WA s) : WA (oAct f s).2 := by
  obtain ⟨n, pc, b, us, kp, rw, tx, rt, hd, sw⟩ := s
  obtain ⟨a1, a2, a3⟩ := h
  refine ⟨hf n pc b a1, ?_, a3⟩
  show ∀ u ∈ usA us b (f n b).1, WN n pc u
  unfold usA
  split
  · exact a2
  · exact WN_keepA a2 a1
theorem WA_hours {v : Int32} {s : aSt} (h : WA s) : WA (oHours v s).2 := by
  obtain ⟨n, pc, b, us, kp, rw, tx, rt, hd, sw⟩ := s
  obtain ⟨a1, a2, a3⟩ := h
  unfold oHours
  rcases inOf 0 60 v with _ | N
  · exact ⟨a1, a2, a3⟩
  · refine ⟨WN_hrs _ a1 N, ?_, a3⟩
    show ∀ u ∈ (if 0 < N then aKeep us b else us), WN n pc u
    split
    · exact WN_keepA a2 a1
    · exact a2
theorem WA_undo {s : aSt} (h : WA s) : WA (oUndo s).2 := by
  obtain ⟨n, pc, b, us, kp, rw, tx, rt, hd, sw⟩ := s
  obtain ⟨a1, a2, a3⟩ := h
  refine ⟨?_, fun u hu => a2 u (List.dropLast_subset _ hu), a3⟩
  show WN n pc (us.getLast?.getD b)
  cases e : us.getLast? with
  | none => exact a1
  | some u => exact a2 u (List.mem_of_getLast? e)
theorem WA_keep {w : Int32} {s : aSt} (h : WA s) : WA (oKeep w s).2 := by
  obtain ⟨n, pc, b, us, kp, rw, tx, rt, hd, sw⟩ := s
  obtain ⟨a1, a2, a3⟩ := h
  refine ⟨a1, a2, fun i u hu => ?_⟩
  have hu' : (if nI i = w then some b else kp i) = some u := hu
  split at hu'
  · cases hu'; exact a1
  · exact a3 i u hu'
theorem WA_again {w : Int32} {s : aSt} (h : WA s) : WA (oAgain w s).2 := by
  obtain ⟨n, pc, b, us, kp, rw, tx, rt, hd, sw⟩ := s
  obtain ⟨a1, a2, a3⟩ := h
  have hb : ∀ u, aBr kp w = some u → WN n pc u := fun u hu => by
    unfold aBr at hu
    split at hu
    · exact a3 _ u hu
    · cases hu
  refine ⟨?_, ?_, a3⟩
  · show WN n pc ((aBr kp w).getD b)
    cases e : aBr kp w with
    | none => exact a1
    | some u => exact hb u e
  · show ∀ u ∈ (if aBr kp w = none then us else []), WN n pc u
    split
    · exact a2
    · exact fun u hu => by cases hu
theorem WA_saw {w v : Int32} {s : aSt} (h : WA s) : WA (oSaw w v s).2 := by
  obtain ⟨n, pc, b, us, kp, rw, tx, rt, hd, sw⟩ := s
  exact h
theorem WA_denies {s : aSt} (h : WA s) : WA (oDenies s).2 := by
  obtain ⟨n, pc, b, us, kp, rw, tx, rt, hd, sw⟩ := s
  exact h
theorem WA_heard {w v : Int32} {s : aSt} (h : WA s) : WA (oHeard w v s).2 := by
  obtain ⟨n, pc, b, us, kp, rw, tx, rt, hd, sw⟩ := s
  exact h
theorem WA_forget {s : aSt} (h : WA s) : WA (oForget s).2 := by
  obtain ⟨n, pc, b, us, kp, rw, tx, rt, hd, sw⟩ := s
  exact h
theorem WA_sign {v : Int32} {s : aSt} (h : WA s) : WA (oSign v s).2 := by
  obtain ⟨n, pc, b, us, kp, rw, tx, rt, hd, sw⟩ := s
  exact h
theorem WA_end {v : Int32} {s : aSt} (h : WA s) : WA (oEnd v s).2 := by
  obtain ⟨n, pc, b, us, kp, rw, tx, rt, hd, sw⟩ := s
  exact h
theorem WA_rule {s : aSt} (h : WA s) : WA (oRule s).2 := by
  obtain ⟨n, pc, b, us, kp, rw, tx, rt, hd, sw⟩ := s
  cases e : wrR tx with
  | none => rw [show oRule (n, pc, b, us, kp, rw, tx, rt, hd, sw) = (nI 0, (n, pc, b, us, kp, rw, [], tx, hd, sw)) from by unfold oRule; simp only [e]]; exact h
  | some p => rw [show oRule (n, pc, b, us, kp, rw, tx, rt, hd, sw) = (-1 - nI p, (n, pc, b, us, kp, rw, [], rt, hd, sw)) from by unfold oRule; simp only [e]]; exact h
theorem WA_law {s : aSt} (h : WA s) : WA (oLaw s).2 := by
  obtain ⟨n, pc, b, us, kp, rw, tx, rt, hd, sw⟩ := s
  cases e : wrR tx with
  | none => rw [show oLaw (n, pc, b, us, kp, rw, tx, rt, hd, sw) = (nI (cdn n pc (ruE tx) b 20) - nI (cdn n pc (ruE rt) b 20), (n, pc, b, us, kp, [lI (cdn n pc (ruE tx) b 20), lI (cdn n pc (ruE rt) b 20), lI (hrs n pc (ruE tx) 20 b 29), lI (hrs n pc (ruE rt) 20 b 29)], [], rt, hd, sw)) from by unfold oLaw; simp only [e]]; exact h
  | some p => rw [show oLaw (n, pc, b, us, kp, rw, tx, rt, hd, sw) = (-10000 - nI p, (n, pc, b, us, kp, rw, [], rt, hd, sw)) from by unfold oLaw; simp only [e]]; exact h
theorem shP_le {kd f st : Int32} {m n : Nat} {pc : Nat → Nat} (h : ∀ k, k < 7 → pc k ≤ 9) : ∀ k, k < 7 → shP kd f st m n pc k ≤ 9 := fun k hk => by
  unfold shP
  have := (shA_nI kd f st k).2
  have := h k hk
  split
  · split <;> omega
  · omega
theorem WA_sheet {kd v f st : Int32} {s : aSt} (h : WA s) : WA (oSheet kd v f st s).2 := by
  obtain ⟨n, pc, b, us, kp, rw, tx, rt, hd, sw⟩ := s
  obtain ⟨a1, a2, a3⟩ := id h
  have hp : ∀ k, k < 7 → pc k ≤ 9 := fun k hk => (a1.1.2.2.2.2 k hk).1
  unfold oSheet
  rcases inOf 0 3 kd with _ | k
  · exact h
  · show WA (if nI 7 < v then _ else if k = 3 then _ else if v < 0 then _ else _ : Int32 × aSt).2
    split
    · exact h
    · split
      · exact ⟨WN_pc a1 (shP_le hp), fun u hu => WN_pc (a2 u hu) (shP_le hp), fun i u hu => WN_pc (a3 i u hu) (shP_le hp)⟩
      · split
        · exact h
        · exact ⟨WN_pc a1 (shP_le hp), fun u hu => WN_pc (a2 u hu) (shP_le hp), fun i u hu => WN_pc (a3 i u hu) (shP_le hp)⟩
theorem WN_pcA {tx : List Nat} {n : Nat} {pc b : Nat → Nat} (h : WN n pc b) (hL : ∀ k, 2 * k < tx.length → isDg (tx.getD (2 * k) 0) = true ∧ k < 7 - n) : ∀ k, 2 * k ≤ tx.length + 1 → WN (n + k) (pcA tx n pc k) b
  | 0, _ => h
  | k + 1, hk => by
    have ih := WN_pcA h hL k (by omega)
    obtain ⟨g1, g2⟩ := hL k (by omega)
    have hb := isDg_b g1
    have := WN_add (p := tx.getD (2 * k) 0 - 48) ih (by omega) (by omega)
    rw [bu4 ih.2.1 (by omega)] at this
    exact this
theorem WA_climbers {s : aSt} (h : WA s) : WA (oClimbers s).2 := by
  obtain ⟨n, pc, b, us, kp, rw, tx, rt, hd, sw⟩ := s
  obtain ⟨a1, a2, a3⟩ := id h
  cases e : wrC tx (7 - n) with
  | some p => rw [show oClimbers (n, pc, b, us, kp, rw, tx, rt, hd, sw) = (-1 - nI p, (n, pc, b, us, kp, rw, [], rt, hd, sw)) from by unfold oClimbers; simp only [e]]; exact h
  | none =>
    rw [show oClimbers (n, pc, b, us, kp, rw, tx, rt, hd, sw) = (nI ((tx.length + 1) / 2), (n + (tx.length + 1) / 2, pcA tx n pc ((tx.length + 1) / 2), b, if 0 < (tx.length + 1) / 2 then [] else us, if 0 < (tx.length + 1) / 2 then (fun _ => none) else kp, rw, [], rt, hd, sw)) from by unfold oClimbers; simp only [e]]
    by_cases h0 : 0 < (tx.length + 1) / 2
    · have hL : ∀ k, 2 * k < tx.length → isDg (tx.getD (2 * k) 0) = true ∧ k < 7 - n := by
        rcases wrC_ok e with h0 | ⟨-, -, h⟩
        · intro k hk; omega
        · exact h
      rw [if_pos h0, if_pos h0]
      exact ⟨WN_pcA a1 hL _ (by omega), (fun u hu => by cases hu), (fun i u hu => by cases hu)⟩
    · have e0 : (tx.length + 1) / 2 = 0 := by omega
      rw [if_neg h0, if_neg h0, e0]
      exact h
theorem WN_dayL {n : Nat} {pc : Nat → Nat} {E : (Nat → Int32) → Nat} {tx : List Nat} : ∀ f p b k, WN n pc b → WN n pc (dayL n pc E tx f p b k).2.2
  | 0, p, b, k, h => h
  | f + 1, p, b, k, h => by
    rw [dayL]
    split
    · split
      · exact WN_actM E _ _ _ h
      · exact WN_dayL f _ _ _ (WN_actM E _ _ _ h)
    · exact h
theorem WA_day {s : aSt} (h : WA s) : WA (oDay s).2 := by
  obtain ⟨n, pc, b, us, kp, rw, tx, rt, hd, sw⟩ := s
  obtain ⟨a1, a2, a3⟩ := id h
  cases e : wrD tx with
  | some p => rw [show oDay (n, pc, b, us, kp, rw, tx, rt, hd, sw) = (-1 - nI p, (n, pc, b, us, kp, rw, [], rt, hd, sw)) from by unfold oDay; simp only [e]]; exact h
  | none =>
    generalize hZ : dayL n pc (ruE rt) tx 80 0 b 0 = Z
    have hw : WN n pc Z.2.2 := by rw [← hZ]; exact WN_dayL _ _ _ _ a1
    rw [show oDay (n, pc, b, us, kp, rw, tx, rt, hd, sw) = (nI Z.1, (n, pc, Z.2.2, if 0 < Z.1 then aKeep us b else us, kp, [if Z.2.1 = true then 1 else 0, lI (Z.2.2 30)], [], rt, hd, sw)) from by unfold oDay; simp only [e, hZ]]
    refine ⟨hw, ?_, a3⟩
    show ∀ u ∈ (if 0 < Z.1 then aKeep us b else us), _
    split
    · exact WN_keepA a2 a1
    · exact a2
