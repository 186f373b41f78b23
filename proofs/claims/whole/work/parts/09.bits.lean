/-! sets as numbers; bitCount -/
theorem le_nI {a b : Nat} (ha : a < 2147483648) (hb : b < 2147483648) : nI a ≤ nI b ↔ a ≤ b := nI_leI ha hb
/-- the set of the k below n with P, as bits -/
def bts (P : Nat → Bool) : Nat → Nat
  | 0 => 0
  | k + 1 => bts P k + if P k then 2 ^ k else 0
theorem bts_lt (P : Nat → Bool) : ∀ n, bts P n < 2 ^ n
  | 0 => Nat.zero_lt_one
  | k + 1 => by
    have := bts_lt P k
    rw [bts, Nat.pow_succ]
    split <;> omega
theorem bts_congr {P Q : Nat → Bool} : ∀ {n}, (∀ k, k < n → P k = Q k) → bts P n = bts Q n
  | 0, _ => rfl
  | k + 1, h => by
    rw [bts, bts, bts_congr (fun j hj => h j (by omega)), h k (by omega)]
theorem bts_bit (P : Nat → Bool) : ∀ n j, (bts P n).testBit j = (decide (j < n) && P j)
  | 0, j => by simp [bts]
  | k + 1, j => by
    have hlt := bts_lt P k
    rw [bts]
    by_cases hP : P k
    · rw [if_pos hP, Nat.add_comm]
      rcases Nat.lt_trichotomy j k with h | h | h
      · rw [Nat.testBit_two_pow_add_gt h, bts_bit P k j]
        simp [h, show j < k + 1 by omega]
      · subst h
        rw [Nat.testBit_two_pow_add_eq, bts_bit P j j]
        simp [hP]
      · rw [Nat.testBit_lt_two_pow]
        · simp [show ¬ j < k + 1 by omega]
        · have : 2 ^ k + bts P k < 2 ^ (k + 1) := by rw [Nat.pow_succ]; omega
          exact Nat.lt_of_lt_of_le this (Nat.pow_le_pow_right (by decide) (by omega))
    · rw [if_neg hP, Nat.add_zero, bts_bit P k j]
      by_cases h : j = k
      · subst h; simp [hP]
      · simp [show (j < k + 1) = (j < k) from propext ⟨fun _ => by omega, fun _ => by omega⟩]
theorem nI_or (a b : Nat) : nI a ||| nI b = nI (a ||| b) := by
  unfold nI
  apply Int32.toBitVec_inj.mp
  apply BitVec.eq_of_toNat_eq
  simp [Int32.toBitVec_or, BitVec.toNat_or, BitVec.toNat_ofNat, Nat.or_mod_two_pow]
theorem sh_l : ∀ n, n < 32 → ((nI n &&& 31).toBitVec.smod 32).toNat = n := by decide +kernel
theorem nI_shl {k : Nat} (h : k < 31) : nI 1 <<< (nI k &&& 31) = nI (2 ^ k) := by
  have hb : (1 : Nat) * 2 ^ k < 2 ^ 32 := by
    have : 2 ^ k < 2 ^ 31 := Nat.pow_lt_pow_right (by decide) h
    omega
  have := pk_shlN (n := 1) (nI k &&& 31) k (sh_l k (by omega)) hb
  rwa [Nat.one_mul] at this
theorem or_bit {a k : Nat} (h : a < 2 ^ k) : a ||| 2 ^ k = a + 2 ^ k := by
  have := Nat.two_pow_add_eq_or_of_lt h 1
  rw [Nat.mul_one] at this
  rw [Nat.or_comm, ← this, Nat.add_comm]
theorem nI_bit {a k : Nat} (hk : k < 31) (h : a < 2 ^ k) : nI a ||| nI 1 <<< (nI k &&& 31) = nI (a + 2 ^ k) := by
  rw [nI_shl hk, nI_or, or_bit h]
/-- Integer.bitCount, as its code has it -/
def ush (x : Int32) (k : Nat) : Int32 := (x.toUInt32 >>> ((nI k).toUInt32 &&& Int32.toUInt32 31)).toInt32
def bcF (x : Int32) : Int32 :=
  let a := x - (ush x 1 &&& 1431655765)
  let b := (a &&& 858993459) + (ush a 2 &&& 858993459)
  let c := (b + ush b 4) &&& 252645135
  let e := c + ush c 8
  let f := e + ush e 16
  f &&& nI 63
def pop : Nat → Nat → Nat
  | 0, _ => 0
  | k + 1, x => x % 2 + pop k (x / 2)
theorem bc_pop : ∀ x, x < 1024 → bcF (nI x) = nI (pop 10 x) := by decide +kernel
theorem pop_le : ∀ k x, pop k x ≤ k
  | 0, _ => Nat.le_refl 0
  | k + 1, x => by rw [pop]; have := pop_le k (x / 2); omega
set_option maxRecDepth 100000 in
set_option maxHeartbeats 2000000 in
theorem x_bitCount {S : pS} {d : Nat} (x : Int32) {I : pI} {J : pJ} {R : pR} : PC S (d) yJ6_bitCount_0f7a4 cJ6_bitCount_0f7a4 1 (some .int) [.int x] I J R (pPu (.int (bcF x)) I J R) := by
  refine PC.of [some (.int x)] rfl rfl (Nat.le_of_ble_eq_true rfl) ?_
  refine pw_iload_n 1 rfl dJ6_bitCount_0f7a4_0 rfl ?_
  refine pw_iload_n 2 rfl dJ6_bitCount_0f7a4_1 rfl ?_
  refine pw_iconst (v := nI 1) 3 rfl dJ6_bitCount_0f7a4_2 rfl ?_
  refine pw_iushr 4 rfl dJ6_bitCount_0f7a4_3 rfl ?_
  refine pw_ldcw 7 rfl dJ6_bitCount_0f7a4_4 kJ6_265 ?_
  refine pw_iand 8 rfl dJ6_bitCount_0f7a4_7 ?_
  refine pw_isub 9 rfl dJ6_bitCount_0f7a4_8 ?_
  refine pw_istore_n 10 rfl dJ6_bitCount_0f7a4_9 (by decide) ?_
  refine pw_iload_n 11 rfl dJ6_bitCount_0f7a4_10 rfl ?_
  refine pw_ldcw 14 rfl dJ6_bitCount_0f7a4_11 kJ6_266 ?_
  refine pw_iand 15 rfl dJ6_bitCount_0f7a4_14 ?_
  refine pw_iload_n 16 rfl dJ6_bitCount_0f7a4_15 rfl ?_
  refine pw_iconst (v := nI 2) 17 rfl dJ6_bitCount_0f7a4_16 rfl ?_
  refine pw_iushr 18 rfl dJ6_bitCount_0f7a4_17 rfl ?_
  refine pw_ldcw 21 rfl dJ6_bitCount_0f7a4_18 kJ6_266 ?_
  refine pw_iand 22 rfl dJ6_bitCount_0f7a4_21 ?_
  first | refine pw_iaddN 23 rfl dJ6_bitCount_0f7a4_22 ?_ | refine pw_iadd 23 rfl dJ6_bitCount_0f7a4_22 ?_
  refine pw_istore_n 24 rfl dJ6_bitCount_0f7a4_23 (by decide) ?_
  refine pw_iload_n 25 rfl dJ6_bitCount_0f7a4_24 rfl ?_
  refine pw_iload_n 26 rfl dJ6_bitCount_0f7a4_25 rfl ?_
  refine pw_iconst (v := nI 4) 27 rfl dJ6_bitCount_0f7a4_26 rfl ?_
  refine pw_iushr 28 rfl dJ6_bitCount_0f7a4_27 rfl ?_
  first | refine pw_iaddN 29 rfl dJ6_bitCount_0f7a4_28 ?_ | refine pw_iadd 29 rfl dJ6_bitCount_0f7a4_28 ?_
  refine pw_ldcw 32 rfl dJ6_bitCount_0f7a4_29 kJ6_267 ?_
  refine pw_iand 33 rfl dJ6_bitCount_0f7a4_32 ?_
  refine pw_istore_n 34 rfl dJ6_bitCount_0f7a4_33 (by decide) ?_
  refine pw_iload_n 35 rfl dJ6_bitCount_0f7a4_34 rfl ?_
  refine pw_iload_n 36 rfl dJ6_bitCount_0f7a4_35 rfl ?_
  refine pw_bipush (v := nI 8) 38 rfl dJ6_bitCount_0f7a4_36 rfl ?_
  refine pw_iushr 39 rfl dJ6_bitCount_0f7a4_38 rfl ?_
  first | refine pw_iaddN 40 rfl dJ6_bitCount_0f7a4_39 ?_ | refine pw_iadd 40 rfl dJ6_bitCount_0f7a4_39 ?_
  refine pw_istore_n 41 rfl dJ6_bitCount_0f7a4_40 (by decide) ?_
  refine pw_iload_n 42 rfl dJ6_bitCount_0f7a4_41 rfl ?_
  refine pw_iload_n 43 rfl dJ6_bitCount_0f7a4_42 rfl ?_
  refine pw_bipush (v := nI 16) 45 rfl dJ6_bitCount_0f7a4_43 rfl ?_
  refine pw_iushr 46 rfl dJ6_bitCount_0f7a4_45 rfl ?_
  first | refine pw_iaddN 47 rfl dJ6_bitCount_0f7a4_46 ?_ | refine pw_iadd 47 rfl dJ6_bitCount_0f7a4_46 ?_
  refine pw_istore_n 48 rfl dJ6_bitCount_0f7a4_47 (by decide) ?_
  refine pw_iload_n 49 rfl dJ6_bitCount_0f7a4_48 rfl ?_
  refine pw_bipush (v := nI 63) 51 rfl dJ6_bitCount_0f7a4_49 rfl ?_
  refine pw_iand 52 rfl dJ6_bitCount_0f7a4_51 ?_
  refine pw_iret dJ6_bitCount_0f7a4_52 rfl ?_
  rotate_left
  exact ⟨rfl, rfl, rfl, rfl⟩
