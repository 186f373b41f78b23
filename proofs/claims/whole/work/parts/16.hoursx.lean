/-! hours one behind the other -/
def hr (n : Nat) (pc : Nat → Nat) (E : (Nat → Int32) → Nat) (b : Nat → Nat) : Nat → Nat := hrow n (sts n pc b E) b
def hrs (n : Nat) (pc : Nat → Nat) (E : (Nat → Int32) → Nat) : Nat → (Nat → Nat) → (Nat → Nat)
  | 0, b => b
  | k + 1, b => hr n pc E (hrs n pc E k b)
/-- who comes down in the hour from b on -/
def dnb (n : Nat) (pc : Nat → Nat) (E : (Nat → Int32) → Nat) (b : Nat → Nat) : Nat := bts (hC (sts n pc b E) b) n
def cdn (n : Nat) (pc : Nat → Nat) (E : (Nat → Int32) → Nat) (b : Nat → Nat) : Nat → Nat
  | 0 => 0
  | k + 1 => cdn n pc E b k + popc (dnb n pc E (hrs n pc E k b))
theorem popc_le (x : Nat) : popc x ≤ 10 := pop_le 10 x
theorem cdn_le (n : Nat) (pc : Nat → Nat) (E : (Nat → Int32) → Nat) (b : Nat → Nat) : ∀ k, cdn n pc E b k ≤ 10 * k
  | 0 => Nat.le_refl _
  | k + 1 => by rw [cdn]; have := cdn_le n pc E b k; have := popc_le (dnb n pc E (hrs n pc E k b)); omega
theorem WF_hr {n : Nat} {pc b : Nat → Nat} (E : (Nat → Int32) → Nat) (hW : WF n pc b) : WF n pc (hr n pc E b) := by
  obtain ⟨h7, ⟨t1, t2⟩, hOw, hDn, hB⟩ := id hW
  refine ⟨h7, ⟨t1, t2⟩, hO_or hOw n (Nat.le_refl n), hD_le hDn n, fun k hk => ?_⟩
  have hb := hB k hk
  have l1 := hH_le (s := sts n pc b E) hW hk
  have l2 := hV_le (s := sts n pc b E) hW hk
  refine ⟨hb.1, ?_, ?_, ?_, ?_⟩
  · show hrow _ _ _ k ≤ b 28
    rw [hrow_h hk]; split <;> omega
  · show hrow _ _ _ (7 + k) ≤ 2
    rw [hrow_w hk]
    split
    · unfold hY; split <;> omega
    · omega
  · show hrow _ _ _ (14 + k) ≤ 500
    rw [hrow_u hk]; split <;> omega
  · show hrow _ _ _ (21 + k) ≤ 999
    rw [hrow_b hk]
    split
    · exact Nat.min_le_left _ _
    · omega
theorem WF_hrs {n : Nat} {pc b : Nat → Nat} (E : (Nat → Int32) → Nat) (hW : WF n pc b) : ∀ k, WF n pc (hrs n pc E k b)
  | 0 => hW
  | k + 1 => WF_hr E (WF_hrs E hW k)
/-- one hour of the class's mountain, in the words of hr -/
theorem x_hour {m r d n : Nat} {pc b : Nat → Nat} {E : (Nat → Int32) → Nat} (hm : isMt m) (hr' : isRu r) {I : pI} {J : pJ} (hM : XM I m n pc b) (hW : WF n pc b) (hE : XE I r E) : PC SX (d + 5) yX1_passHour cX1_passHour 4 none [.ref m, .ref r] I J RX (fun r' I' J' R' => r' = none ∧ XM I' m n pc (hr n pc E b) ∧ XE I' r E ∧ I' m 12 = nI (dnb n pc E b) ∧ (∀ q, q < n → I' (m + 7) q = nI (dist (hr n pc E b q) (b q))) ∧ (∀ a, a ≠ r + 2 → ¬ (m ≤ a ∧ a ≤ m + 7) → I' a = I a) ∧ J = J' ∧ R' = RX) := by
  refine (x_passHour rfl hm hr' hM hW hE).mono (fun r' I' J' R' h => ?_)
  obtain ⟨a1, a2, a3, a4, a5, a6, a7⟩ := h
  have n1 : ¬ (m ≤ r ∧ r ≤ m + 7) := fun z => (ru_mt hm hr' z.1 z.2).1 rfl
  have n2 : ¬ (m ≤ r + 1 ∧ r + 1 ≤ m + 7) := fun z => (ru_mt hm hr' z.1 z.2).2.1 rfl
  refine ⟨a1, a2, XE_fr hE (a5 r (by omega) n1) (a5 (r + 1) (by omega) n2), a3, fun q hq => ?_, a5, a6, a7⟩
  rw [a4 q hq]
  have h7 := hM.1
  show _ = nI (dist (hrow n _ b q) (b q))
  rw [hrow_h (by omega), if_pos hq]
set_option maxRecDepth 100000 in
set_option maxHeartbeats 2000000 in
theorem x_passHours {m r d n N : Nat} {pc b : Nat → Nat} {E : (Nat → Int32) → Nat} (hm : isMt m) (hr : isRu r) {I : pI} {J : pJ} (hM : XM I m n pc b) (hW : WF n pc b) (hE : XE I r E) (hN : N ≤ 100) : PC SX (d + 6) yX1_passHours cX1_passHours 5 (some .int) [.ref m, .ref r, .int (nI N)] (I) (J) (RX) (fun r' I' J' R' => r' = some (.int (nI (cdn n pc E b N))) ∧ XM I' m n pc (hrs n pc E N b) ∧ XE I' r E ∧ (∀ a, a ≠ r + 2 → ¬ (m ≤ a ∧ a ≤ m + 7) → I' a = I a) ∧ J = J' ∧ R' = RX) := by
  refine PC.of [some (.ref m), some (.ref r), some (.int (nI N)), none, none] rfl rfl (Nat.le_of_ble_eq_true rfl) ?_
  refine pw_iconst (v := nI 0) 1 rfl dX1_passHours_0 rfl ?_
  refine pw_istore_n 2 rfl dX1_passHours_1 (by decide) ?_
  refine pw_iconst (v := nI 0) 3 rfl dX1_passHours_2 rfl ?_
  refine pw_istore 5 rfl dX1_passHours_3 (by decide) ?_
  rotate_left
  have L := nat_loop N (fun k => ∀ (I' : pI), XM I' m n pc (hrs n pc E k b) → XE I' r E → (∀ a, a ≠ r + 2 → ¬ (m ≤ a ∧ a ≤ m + 7) → I' a = I a) → PW SX yX1_passHours.cls cX1_passHours 5 (d + 6) 5 [some (.ref m), some (.ref r), some (.int (nI N)), some (.int (nI (cdn n pc E b k))), some (.int (nI k))] [] (I') (J) (RX) (rX cX1_passHours (some .int) (fun r' I' J' R' => r' = some (.int (nI (cdn n pc E b N))) ∧ XM I' m n pc (hrs n pc E N b) ∧ XE I' r E ∧ (∀ a, a ≠ r + 2 → ¬ (m ≤ a ∧ a ≤ m + 7) → I' a = I a) ∧ J = J' ∧ R' = RX))) ?_ ?_
  · exact L I hM hE (fun _ _ _ => rfl)
  · intro I' g1 g2 g3
    refine pw_iload 7 rfl dX1_passHours_5 rfl ?_
    refine pw_iload_n 8 rfl dX1_passHours_7 rfl ?_
    refine pw_icmp_ge (tgt := 32) 11 rfl dX1_passHours_8 rfl (fun h8 => ?_) (fun h8 => absurd (by (simp (disch := omega) only [nI_leI, nI_ltI, nI_eq, show (0 : Int32) = nI 0 from rfl, not_true_eq_false, not_false_eq_true] <;> omega)) h8)
    refine pw_iload_n 33 rfl dX1_passHours_32 rfl ?_
    refine pw_iret dX1_passHours_33 rfl ?_
    rotate_left
    exact ⟨rfl, g1, g2, g3, rfl, rfl⟩
  · intro k hk ih I' g1 g2 g3
    refine pw_iload 7 rfl dX1_passHours_5 rfl ?_
    refine pw_iload_n 8 rfl dX1_passHours_7 rfl ?_
    refine pw_icmp_ge (tgt := 32) 11 rfl dX1_passHours_8 rfl (fun h8 => absurd h8 (by (simp (disch := omega) only [nI_leI, nI_ltI, nI_eq, show (0 : Int32) = nI 0 from rfl, not_true_eq_false, not_false_eq_true] <;> omega))) (fun h8 => ?_)
    refine pw_aload_n 12 rfl dX1_passHours_11 rfl ?_
    refine pw_aload_n 13 rfl dX1_passHours_12 rfl ?_
    refine pw_callV (as := [_]) 16 rfl dX1_passHours_13 mX1_83 vX1_passHour (x_hour (d := d) hm hr g1 (WF_hrs E hW k) g2) (by first | rfl | assumption | exact rowS hh | exact mtS hm | exact ruS hr | exact mtA1 hm | exact mtA2 hm | exact mtA3 hm | exact mtA4 hm | exact mtA5 hm | exact mtA6 hm | exact mtA7 hm | exact ruA1 hr | exact ruA2 hr | exact ruA3 hr) rfl (by decide) ⟨rfl, by decide, by decide, show (parseMethodDescriptor yX1_passHour.desc).map (fun d => d.parameters.length) = some 1 by decide +kernel⟩ (by omega) (by decide) (Nat.le_of_ble_eq_true rfl) rfl (fun r13 I13 J13 R13 c13 => ?_)
    rotate_left
    obtain ⟨rfl, c1, c2, c3, c4, c5, rfl, rfl⟩ := c13
    refine pw_iload_n 17 rfl dX1_passHours_16 rfl ?_
    refine pw_aload_n 18 rfl dX1_passHours_17 rfl ?_
    refine pw_getI 21 rfl dX1_passHours_18 fX1_49 (by first | rfl | assumption | exact rowS hh | exact mtS hm | exact ruS hr | exact mtA1 hm | exact mtA2 hm | exact mtA3 hm | exact mtA4 hm | exact mtA5 hm | exact mtA6 hm | exact mtA7 hm | exact ruA1 hr | exact ruA2 hr | exact ruA3 hr) rfl ?_
    refine pw_callSP (as := [_]) 24 rfl dX1_passHours_21 mX1_87 sJ6_bitCount_0f7a4 (x_bitCount (d := d) _) ⟨rfl, by decide, by decide, show (parseMethodDescriptor yJ6_bitCount_0f7a4.desc).map (fun d => d.parameters.length) = some 1 by decide +kernel⟩ (by omega) (by decide) (Nat.le_of_ble_eq_true rfl) rfl ?_
    rotate_left
    have h128 : dnb n pc E (hrs n pc E k b) < 1024 := Nat.lt_of_lt_of_le (bts_lt _ n) (Nat.le_trans (Nat.pow_le_pow_right (by decide) hM.1) (by decide))
    rw [c3, bc_pop _ h128]
    first | refine pw_iaddN 25 rfl dX1_passHours_24 ?_ | refine pw_iadd 25 rfl dX1_passHours_24 ?_
    refine pw_istore_n 26 rfl dX1_passHours_25 (by decide) ?_
    refine pw_iincN 29 rfl dX1_passHours_26 (by decide) rfl ?_
    refine pw_goto (tgt := 5) dX1_passHours_29 rfl ?_
    rotate_left
    exact ih I13 c1 c2 (fun a h1 h2 => by rw [c5 a h1 h2, g3 a h1 h2])
