theorem XM_fr {I I' : pI} {m n : Nat} {pc b : Nat → Nat} (hM : XM I m n pc b) (h : ∀ a, m ≤ a → a ≤ m + 7 → I' a = I a) : XM I' m n pc b := by
  unfold XM at *
  rw [h m (by omega) (by omega), h (m + 1) (by omega) (by omega), h (m + 2) (by omega) (by omega), h (m + 3) (by omega) (by omega), h (m + 4) (by omega) (by omega), h (m + 5) (by omega) (by omega)]
  exact hM
def jn (s : Nat) (a b : Int32) : Int32 :=
  if s = 43 then a + b else if s = 45 then a - b else if s = 42 then a * b else if s = 47 then (if b = 0 then nI 0 else a / b) else if s = 60 then (if a < b then nI 1 else nI 0) else if s = 62 then (if b < a then nI 1 else nI 0) else (if a = b then nI 1 else nI 0)
def isOp (s : Nat) : Prop := s = 43 ∨ s = 45 ∨ s = 42 ∨ s = 47 ∨ s = 60 ∨ s = 62 ∨ s = 61
set_option maxRecDepth 100000 in
set_option maxHeartbeats 2000000 in
theorem x_joined {d s : Nat} (a b : Int32) (hs : isOp s) {I : pI} {J : pJ} {R : pR} : PC SX (d) yX6_joined cX6_joined 3 (some .int) [.int (nI s), .int a, .int b] I J R (pPu (.int (jn s a b)) I J R) := by
  refine PC.of [some (.int (nI s)), some (.int a), some (.int b)] rfl rfl (Nat.le_of_ble_eq_true rfl) ?_
  rcases hs with rfl | rfl | rfl | rfl | rfl | rfl | rfl
  · refine pw_iload_n 1 rfl dX6_joined_0 rfl ?_
    refine pw_tableIn (tgt := 100) (off := 99) dX6_joined_1 (by decide) (by decide) (by decide) rfl ?_
    refine pw_iload_n 101 rfl dX6_joined_100 rfl ?_
    refine pw_iload_n 102 rfl dX6_joined_101 rfl ?_
    first | refine pw_iaddN 103 rfl dX6_joined_102 ?_ | refine pw_iadd 103 rfl dX6_joined_102 ?_
    refine pw_iret dX6_joined_103 rfl ?_
    rotate_left
    exact ⟨rfl, rfl, rfl, rfl⟩
  · refine pw_iload_n 1 rfl dX6_joined_0 rfl ?_
    refine pw_tableIn (tgt := 104) (off := 103) dX6_joined_1 (by decide) (by decide) (by decide) rfl ?_
    refine pw_iload_n 105 rfl dX6_joined_104 rfl ?_
    refine pw_iload_n 106 rfl dX6_joined_105 rfl ?_
    refine pw_isub 107 rfl dX6_joined_106 ?_
    refine pw_iret dX6_joined_107 rfl ?_
    rotate_left
    exact ⟨rfl, rfl, rfl, rfl⟩
  · refine pw_iload_n 1 rfl dX6_joined_0 rfl ?_
    refine pw_tableIn (tgt := 108) (off := 107) dX6_joined_1 (by decide) (by decide) (by decide) rfl ?_
    refine pw_iload_n 109 rfl dX6_joined_108 rfl ?_
    refine pw_iload_n 110 rfl dX6_joined_109 rfl ?_
    first | refine pw_imulN 111 rfl dX6_joined_110 ?_ | refine pw_imul 111 rfl dX6_joined_110 ?_
    refine pw_iret dX6_joined_111 rfl ?_
    rotate_left
    exact ⟨rfl, rfl, rfl, rfl⟩
  · refine pw_iload_n 1 rfl dX6_joined_0 rfl ?_
    refine pw_tableIn (tgt := 112) (off := 111) dX6_joined_1 (by decide) (by decide) (by decide) rfl ?_
    refine pw_iload_n 113 rfl dX6_joined_112 rfl ?_
    refine pw_if_ne (tgt := 120) 116 rfl dX6_joined_113 rfl (fun h113 => ?_) (fun h113 => ?_)
    refine pw_iload_n 121 rfl dX6_joined_120 rfl ?_
    refine pw_iload_n 122 rfl dX6_joined_121 rfl ?_
    refine pw_idiv 123 rfl dX6_joined_122 (by assumption) ?_
    refine pw_iret dX6_joined_123 rfl ?_
    rotate_left
    refine pw_iconst (v := nI 0) 117 rfl dX6_joined_116 rfl ?_
    refine pw_goto (tgt := 123) dX6_joined_117 rfl ?_
    refine pw_iret dX6_joined_123 rfl ?_
    rotate_left
    · rw [show jn 47 a b = if b = 0 then nI 0 else a / b from rfl, if_neg h113]; exact ⟨rfl, rfl, rfl, rfl⟩
    · rw [show jn 47 a b = if b = 0 then nI 0 else a / b from rfl, if_pos h113]; exact ⟨rfl, rfl, rfl, rfl⟩
  · refine pw_iload_n 1 rfl dX6_joined_0 rfl ?_
    refine pw_tableIn (tgt := 124) (off := 123) dX6_joined_1 (by decide) (by decide) (by decide) rfl ?_
    refine pw_iload_n 125 rfl dX6_joined_124 rfl ?_
    refine pw_iload_n 126 rfl dX6_joined_125 rfl ?_
    refine pw_icmp_ge (tgt := 133) 129 rfl dX6_joined_126 rfl (fun h126 => ?_) (fun h126 => ?_)
    refine pw_iconst (v := nI 0) 134 rfl dX6_joined_133 rfl ?_
    refine pw_iret dX6_joined_134 rfl ?_
    rotate_left
    refine pw_iconst (v := nI 1) 130 rfl dX6_joined_129 rfl ?_
    refine pw_goto (tgt := 134) dX6_joined_130 rfl ?_
    refine pw_iret dX6_joined_134 rfl ?_
    rotate_left
    · rw [show jn 60 a b = if a < b then nI 1 else nI 0 from rfl, if_neg (by rw [Int32.le_iff_toInt_le] at h126; rw [Int32.lt_iff_toInt_lt]; omega)]; exact ⟨rfl, rfl, rfl, rfl⟩
    · rw [show jn 60 a b = if a < b then nI 1 else nI 0 from rfl, if_pos (by rw [Int32.le_iff_toInt_le] at h126; rw [Int32.lt_iff_toInt_lt]; omega)]; exact ⟨rfl, rfl, rfl, rfl⟩
  · refine pw_iload_n 1 rfl dX6_joined_0 rfl ?_
    refine pw_tableIn (tgt := 135) (off := 134) dX6_joined_1 (by decide) (by decide) (by decide) rfl ?_
    refine pw_iload_n 136 rfl dX6_joined_135 rfl ?_
    refine pw_iload_n 137 rfl dX6_joined_136 rfl ?_
    refine pw_icmp_le (tgt := 144) 140 rfl dX6_joined_137 rfl (fun h137 => ?_) (fun h137 => ?_)
    refine pw_iconst (v := nI 0) 145 rfl dX6_joined_144 rfl ?_
    refine pw_iret dX6_joined_145 rfl ?_
    rotate_left
    refine pw_iconst (v := nI 1) 141 rfl dX6_joined_140 rfl ?_
    refine pw_goto (tgt := 145) dX6_joined_141 rfl ?_
    refine pw_iret dX6_joined_145 rfl ?_
    rotate_left
    · rw [show jn 62 a b = if b < a then nI 1 else nI 0 from rfl, if_neg (by rw [Int32.le_iff_toInt_le] at h137; rw [Int32.lt_iff_toInt_lt]; omega)]; exact ⟨rfl, rfl, rfl, rfl⟩
    · rw [show jn 62 a b = if b < a then nI 1 else nI 0 from rfl, if_pos (by rw [Int32.le_iff_toInt_le] at h137; rw [Int32.lt_iff_toInt_lt]; omega)]; exact ⟨rfl, rfl, rfl, rfl⟩
  · refine pw_iload_n 1 rfl dX6_joined_0 rfl ?_
    refine pw_tableIn (tgt := 146) (off := 145) dX6_joined_1 (by decide) (by decide) (by decide) rfl ?_
    refine pw_iload_n 147 rfl dX6_joined_146 rfl ?_
    refine pw_iload_n 148 rfl dX6_joined_147 rfl ?_
    refine pw_icmp_ne (tgt := 155) 151 rfl dX6_joined_148 rfl (fun h148 => ?_) (fun h148 => ?_)
    refine pw_iconst (v := nI 0) 156 rfl dX6_joined_155 rfl ?_
    refine pw_iret dX6_joined_156 rfl ?_
    rotate_left
    refine pw_iconst (v := nI 1) 152 rfl dX6_joined_151 rfl ?_
    refine pw_goto (tgt := 156) dX6_joined_152 rfl ?_
    refine pw_iret dX6_joined_156 rfl ?_
    rotate_left
    · rw [show jn 61 a b = if a = b then nI 1 else nI 0 from rfl, if_neg h148]; exact ⟨rfl, rfl, rfl, rfl⟩
    · rw [show jn 61 a b = if a = b then nI 1 else nI 0 from rfl, if_pos h148]; exact ⟨rfl, rfl, rfl, rfl⟩
def letB (s : Nat) : Bool := s == 112 || s == 104 || s == 117 || s == 111 || s == 107 || s == 98 || s == 110
theorem letB_iff {s : Nat} : letB s = true ↔ isLet s := by simp [letB, isLet, or_assoc]
theorem letB_no {s : Nat} (h : ¬ isLet s) : letB s = false := by
  cases e : letB s with
  | false => rfl
  | true => exact absurd (letB_iff.mp e) h
set_option maxRecDepth 100000 in
set_option maxHeartbeats 2000000 in
theorem x_isLetter {d s : Nat} (hs : s < 2147483648) {I : pI} {J : pJ} {R : pR} : PC SX (d) yX6_isLetter cX6_isLetter 1 (some .boolean) [.int (nI s)] I J R (pPu (.int (nI (if letB s then 1 else 0))) I J R) := by
  refine PC.of [some (.int (nI s))] rfl rfl (Nat.le_of_ble_eq_true rfl) ?_
  by_cases hl : isLet s
  · rw [if_pos (letB_iff.mpr hl)]
    rcases hl with rfl | rfl | rfl | rfl | rfl | rfl | rfl
    · refine pw_iload_n 1 rfl dX6_isLetter_0 rfl ?_
      refine pw_bipush (v := nI 112) 3 rfl dX6_isLetter_1 rfl ?_
      refine pw_icmp_eq (tgt := 42) 6 rfl dX6_isLetter_3 rfl (fun h3 => ?_) (fun h3 => absurd rfl h3)
      refine pw_iconst (v := nI 1) 43 rfl dX6_isLetter_42 rfl ?_
      refine pw_goto (tgt := 47) dX6_isLetter_43 rfl ?_
      refine pw_iret dX6_isLetter_47 rfl ?_
      rotate_left
      exact ⟨rfl, rfl, rfl, rfl⟩
    · refine pw_iload_n 1 rfl dX6_isLetter_0 rfl ?_
      refine pw_bipush (v := nI 112) 3 rfl dX6_isLetter_1 rfl ?_
      refine pw_icmp_eq (tgt := 42) 6 rfl dX6_isLetter_3 rfl (fun h3 => absurd h3 (by decide)) (fun h3 => ?_)
      refine pw_iload_n 7 rfl dX6_isLetter_6 rfl ?_
      refine pw_bipush (v := nI 104) 9 rfl dX6_isLetter_7 rfl ?_
      refine pw_icmp_eq (tgt := 42) 12 rfl dX6_isLetter_9 rfl (fun h9 => ?_) (fun h9 => absurd rfl h9)
      refine pw_iconst (v := nI 1) 43 rfl dX6_isLetter_42 rfl ?_
      refine pw_goto (tgt := 47) dX6_isLetter_43 rfl ?_
      refine pw_iret dX6_isLetter_47 rfl ?_
      rotate_left
      exact ⟨rfl, rfl, rfl, rfl⟩
    · refine pw_iload_n 1 rfl dX6_isLetter_0 rfl ?_
      refine pw_bipush (v := nI 112) 3 rfl dX6_isLetter_1 rfl ?_
      refine pw_icmp_eq (tgt := 42) 6 rfl dX6_isLetter_3 rfl (fun h3 => absurd h3 (by decide)) (fun h3 => ?_)
      refine pw_iload_n 7 rfl dX6_isLetter_6 rfl ?_
      refine pw_bipush (v := nI 104) 9 rfl dX6_isLetter_7 rfl ?_
      refine pw_icmp_eq (tgt := 42) 12 rfl dX6_isLetter_9 rfl (fun h9 => absurd h9 (by decide)) (fun h9 => ?_)
      refine pw_iload_n 13 rfl dX6_isLetter_12 rfl ?_
      refine pw_bipush (v := nI 117) 15 rfl dX6_isLetter_13 rfl ?_
      refine pw_icmp_eq (tgt := 42) 18 rfl dX6_isLetter_15 rfl (fun h15 => ?_) (fun h15 => absurd rfl h15)
      refine pw_iconst (v := nI 1) 43 rfl dX6_isLetter_42 rfl ?_
      refine pw_goto (tgt := 47) dX6_isLetter_43 rfl ?_
      refine pw_iret dX6_isLetter_47 rfl ?_
      rotate_left
      exact ⟨rfl, rfl, rfl, rfl⟩
    · refine pw_iload_n 1 rfl dX6_isLetter_0 rfl ?_
      refine pw_bipush (v := nI 112) 3 rfl dX6_isLetter_1 rfl ?_
      refine pw_icmp_eq (tgt := 42) 6 rfl dX6_isLetter_3 rfl (fun h3 => absurd h3 (by decide)) (fun h3 => ?_)
      refine pw_iload_n 7 rfl dX6_isLetter_6 rfl ?_
      refine pw_bipush (v := nI 104) 9 rfl dX6_isLetter_7 rfl ?_
      refine pw_icmp_eq (tgt := 42) 12 rfl dX6_isLetter_9 rfl (fun h9 => absurd h9 (by decide)) (fun h9 => ?_)
      refine pw_iload_n 13 rfl dX6_isLetter_12 rfl ?_
      refine pw_bipush (v := nI 117) 15 rfl dX6_isLetter_13 rfl ?_
      refine pw_icmp_eq (tgt := 42) 18 rfl dX6_isLetter_15 rfl (fun h15 => absurd h15 (by decide)) (fun h15 => ?_)
      refine pw_iload_n 19 rfl dX6_isLetter_18 rfl ?_
      refine pw_bipush (v := nI 111) 21 rfl dX6_isLetter_19 rfl ?_
      refine pw_icmp_eq (tgt := 42) 24 rfl dX6_isLetter_21 rfl (fun h21 => ?_) (fun h21 => absurd rfl h21)
      refine pw_iconst (v := nI 1) 43 rfl dX6_isLetter_42 rfl ?_
      refine pw_goto (tgt := 47) dX6_isLetter_43 rfl ?_
      refine pw_iret dX6_isLetter_47 rfl ?_
      rotate_left
      exact ⟨rfl, rfl, rfl, rfl⟩
    · refine pw_iload_n 1 rfl dX6_isLetter_0 rfl ?_
      refine pw_bipush (v := nI 112) 3 rfl dX6_isLetter_1 rfl ?_
      refine pw_icmp_eq (tgt := 42) 6 rfl dX6_isLetter_3 rfl (fun h3 => absurd h3 (by decide)) (fun h3 => ?_)
      refine pw_iload_n 7 rfl dX6_isLetter_6 rfl ?_
      refine pw_bipush (v := nI 104) 9 rfl dX6_isLetter_7 rfl ?_
      refine pw_icmp_eq (tgt := 42) 12 rfl dX6_isLetter_9 rfl (fun h9 => absurd h9 (by decide)) (fun h9 => ?_)
      refine pw_iload_n 13 rfl dX6_isLetter_12 rfl ?_
      refine pw_bipush (v := nI 117) 15 rfl dX6_isLetter_13 rfl ?_
      refine pw_icmp_eq (tgt := 42) 18 rfl dX6_isLetter_15 rfl (fun h15 => absurd h15 (by decide)) (fun h15 => ?_)
      refine pw_iload_n 19 rfl dX6_isLetter_18 rfl ?_
      refine pw_bipush (v := nI 111) 21 rfl dX6_isLetter_19 rfl ?_
      refine pw_icmp_eq (tgt := 42) 24 rfl dX6_isLetter_21 rfl (fun h21 => absurd h21 (by decide)) (fun h21 => ?_)
      refine pw_iload_n 25 rfl dX6_isLetter_24 rfl ?_
      refine pw_bipush (v := nI 107) 27 rfl dX6_isLetter_25 rfl ?_
      refine pw_icmp_eq (tgt := 42) 30 rfl dX6_isLetter_27 rfl (fun h27 => ?_) (fun h27 => absurd rfl h27)
      refine pw_iconst (v := nI 1) 43 rfl dX6_isLetter_42 rfl ?_
      refine pw_goto (tgt := 47) dX6_isLetter_43 rfl ?_
      refine pw_iret dX6_isLetter_47 rfl ?_
      rotate_left
      exact ⟨rfl, rfl, rfl, rfl⟩
    · refine pw_iload_n 1 rfl dX6_isLetter_0 rfl ?_
      refine pw_bipush (v := nI 112) 3 rfl dX6_isLetter_1 rfl ?_
      refine pw_icmp_eq (tgt := 42) 6 rfl dX6_isLetter_3 rfl (fun h3 => absurd h3 (by decide)) (fun h3 => ?_)
      refine pw_iload_n 7 rfl dX6_isLetter_6 rfl ?_
      refine pw_bipush (v := nI 104) 9 rfl dX6_isLetter_7 rfl ?_
      refine pw_icmp_eq (tgt := 42) 12 rfl dX6_isLetter_9 rfl (fun h9 => absurd h9 (by decide)) (fun h9 => ?_)
      refine pw_iload_n 13 rfl dX6_isLetter_12 rfl ?_
      refine pw_bipush (v := nI 117) 15 rfl dX6_isLetter_13 rfl ?_
      refine pw_icmp_eq (tgt := 42) 18 rfl dX6_isLetter_15 rfl (fun h15 => absurd h15 (by decide)) (fun h15 => ?_)
      refine pw_iload_n 19 rfl dX6_isLetter_18 rfl ?_
      refine pw_bipush (v := nI 111) 21 rfl dX6_isLetter_19 rfl ?_
      refine pw_icmp_eq (tgt := 42) 24 rfl dX6_isLetter_21 rfl (fun h21 => absurd h21 (by decide)) (fun h21 => ?_)
      refine pw_iload_n 25 rfl dX6_isLetter_24 rfl ?_
      refine pw_bipush (v := nI 107) 27 rfl dX6_isLetter_25 rfl ?_
      refine pw_icmp_eq (tgt := 42) 30 rfl dX6_isLetter_27 rfl (fun h27 => absurd h27 (by decide)) (fun h27 => ?_)
      refine pw_iload_n 31 rfl dX6_isLetter_30 rfl ?_
      refine pw_bipush (v := nI 98) 33 rfl dX6_isLetter_31 rfl ?_
      refine pw_icmp_eq (tgt := 42) 36 rfl dX6_isLetter_33 rfl (fun h33 => ?_) (fun h33 => absurd rfl h33)
      refine pw_iconst (v := nI 1) 43 rfl dX6_isLetter_42 rfl ?_
      refine pw_goto (tgt := 47) dX6_isLetter_43 rfl ?_
      refine pw_iret dX6_isLetter_47 rfl ?_
      rotate_left
      exact ⟨rfl, rfl, rfl, rfl⟩
    · refine pw_iload_n 1 rfl dX6_isLetter_0 rfl ?_
      refine pw_bipush (v := nI 112) 3 rfl dX6_isLetter_1 rfl ?_
      refine pw_icmp_eq (tgt := 42) 6 rfl dX6_isLetter_3 rfl (fun h3 => absurd h3 (by decide)) (fun h3 => ?_)
      refine pw_iload_n 7 rfl dX6_isLetter_6 rfl ?_
      refine pw_bipush (v := nI 104) 9 rfl dX6_isLetter_7 rfl ?_
      refine pw_icmp_eq (tgt := 42) 12 rfl dX6_isLetter_9 rfl (fun h9 => absurd h9 (by decide)) (fun h9 => ?_)
      refine pw_iload_n 13 rfl dX6_isLetter_12 rfl ?_
      refine pw_bipush (v := nI 117) 15 rfl dX6_isLetter_13 rfl ?_
      refine pw_icmp_eq (tgt := 42) 18 rfl dX6_isLetter_15 rfl (fun h15 => absurd h15 (by decide)) (fun h15 => ?_)
      refine pw_iload_n 19 rfl dX6_isLetter_18 rfl ?_
      refine pw_bipush (v := nI 111) 21 rfl dX6_isLetter_19 rfl ?_
      refine pw_icmp_eq (tgt := 42) 24 rfl dX6_isLetter_21 rfl (fun h21 => absurd h21 (by decide)) (fun h21 => ?_)
      refine pw_iload_n 25 rfl dX6_isLetter_24 rfl ?_
      refine pw_bipush (v := nI 107) 27 rfl dX6_isLetter_25 rfl ?_
      refine pw_icmp_eq (tgt := 42) 30 rfl dX6_isLetter_27 rfl (fun h27 => absurd h27 (by decide)) (fun h27 => ?_)
      refine pw_iload_n 31 rfl dX6_isLetter_30 rfl ?_
      refine pw_bipush (v := nI 98) 33 rfl dX6_isLetter_31 rfl ?_
      refine pw_icmp_eq (tgt := 42) 36 rfl dX6_isLetter_33 rfl (fun h33 => absurd h33 (by decide)) (fun h33 => ?_)
      refine pw_iload_n 37 rfl dX6_isLetter_36 rfl ?_
      refine pw_bipush (v := nI 110) 39 rfl dX6_isLetter_37 rfl ?_
      refine pw_icmp_ne (tgt := 46) 42 rfl dX6_isLetter_39 rfl (fun h39 => absurd rfl h39) (fun h39 => ?_)
      refine pw_iconst (v := nI 1) 43 rfl dX6_isLetter_42 rfl ?_
      refine pw_goto (tgt := 47) dX6_isLetter_43 rfl ?_
      refine pw_iret dX6_isLetter_47 rfl ?_
      rotate_left
      exact ⟨rfl, rfl, rfl, rfl⟩
  · rw [letB_no hl, if_neg (by decide)]
    have e : ∀ c, c < 1000 → (s = c → isLet s) → ¬ nI s = nI c := fun c hc h q => hl (h ((nI_eq hs (by omega)).mp q))
    refine pw_iload_n 1 rfl dX6_isLetter_0 rfl ?_
    refine pw_bipush (v := nI 112) 3 rfl dX6_isLetter_1 rfl ?_
    refine pw_icmp_eq (tgt := 42) 6 rfl dX6_isLetter_3 rfl (fun h3 => absurd h3 (e 112 (by decide) (fun h => by simp [isLet, h]))) (fun h3 => ?_)
    refine pw_iload_n 7 rfl dX6_isLetter_6 rfl ?_
    refine pw_bipush (v := nI 104) 9 rfl dX6_isLetter_7 rfl ?_
    refine pw_icmp_eq (tgt := 42) 12 rfl dX6_isLetter_9 rfl (fun h9 => absurd h9 (e 104 (by decide) (fun h => by simp [isLet, h]))) (fun h9 => ?_)
    refine pw_iload_n 13 rfl dX6_isLetter_12 rfl ?_
    refine pw_bipush (v := nI 117) 15 rfl dX6_isLetter_13 rfl ?_
    refine pw_icmp_eq (tgt := 42) 18 rfl dX6_isLetter_15 rfl (fun h15 => absurd h15 (e 117 (by decide) (fun h => by simp [isLet, h]))) (fun h15 => ?_)
    refine pw_iload_n 19 rfl dX6_isLetter_18 rfl ?_
    refine pw_bipush (v := nI 111) 21 rfl dX6_isLetter_19 rfl ?_
    refine pw_icmp_eq (tgt := 42) 24 rfl dX6_isLetter_21 rfl (fun h21 => absurd h21 (e 111 (by decide) (fun h => by simp [isLet, h]))) (fun h21 => ?_)
    refine pw_iload_n 25 rfl dX6_isLetter_24 rfl ?_
    refine pw_bipush (v := nI 107) 27 rfl dX6_isLetter_25 rfl ?_
    refine pw_icmp_eq (tgt := 42) 30 rfl dX6_isLetter_27 rfl (fun h27 => absurd h27 (e 107 (by decide) (fun h => by simp [isLet, h]))) (fun h27 => ?_)
    refine pw_iload_n 31 rfl dX6_isLetter_30 rfl ?_
    refine pw_bipush (v := nI 98) 33 rfl dX6_isLetter_31 rfl ?_
    refine pw_icmp_eq (tgt := 42) 36 rfl dX6_isLetter_33 rfl (fun h33 => absurd h33 (e 98 (by decide) (fun h => by simp [isLet, h]))) (fun h33 => ?_)
    refine pw_iload_n 37 rfl dX6_isLetter_36 rfl ?_
    refine pw_bipush (v := nI 110) 39 rfl dX6_isLetter_37 rfl ?_
    refine pw_icmp_ne (tgt := 46) 42 rfl dX6_isLetter_39 rfl (fun h39 => ?_) (fun h39 => absurd h39 (e 110 (by decide) (fun h => by simp [isLet, h])))
    refine pw_iconst (v := nI 0) 47 rfl dX6_isLetter_46 rfl ?_
    refine pw_iret dX6_isLetter_47 rfl ?_
    rotate_left
    exact ⟨rfl, rfl, rfl, rfl⟩
/-- the class's codes of a RULE: numbers below 1000, 1000 + sign, 1256 the - ahead of a thing -/
def okC (c : Nat) : Prop := c < 1000 ∨ (1000 ≤ c ∧ isLet (c - 1000)) ∨ c = 1256 ∨ (1000 ≤ c ∧ isOp (c - 1000))
def stC (lt : Nat → Int32) (c : Nat) (s : List Int32) : List Int32 :=
  if c < 1000 then nI c :: s else if letB (c - 1000) then lt (c - 1000) :: s else if c = 1256 then (match s with
    | x :: t => (-x) :: t
    | [] => []) else (match s with
    | y :: x :: t => jn (c - 1000) x y :: t
    | s => s)
def evC (lt : Nat → Int32) : List Nat → List Int32 → List Int32
  | [], s => s
  | c :: cs, s => evC lt cs (stC lt c s)
def withF (s : List Int32) : Int32 := match s.reverse with
  | [] => nI 0
  | x :: _ => withV x (nI 0) (nI 3)
def XR (I : pI) (r : Nat) (cs : List Nat) : Prop := I r 2 = nI cs.length ∧ cs.length ≤ 40 ∧ ∀ j c, cs[j]? = some c → I (r + 1) j = nI c ∧ okC c
theorem XR_fr {I I' : pI} {r : Nat} {cs : List Nat} (h : XR I r cs) (h0 : I' r = I r) (h1 : I' (r + 1) = I (r + 1)) : XR I' r cs := by
  unfold XR at *
  rw [h0, h1]
  exact h
theorem op_nlet {s : Nat} (h : isOp s) : letB s = false ∧ s ≠ 256 ∧ s < 1000 := by
  rcases h with rfl | rfl | rfl | rfl | rfl | rfl | rfl <;> decide
