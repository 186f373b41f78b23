/-! the class's cells: 0 the object, 1 .. 8 now, 9 .. 12 rule, 13 .. 16 otherRule, 17 .. 18 text, 19 .. 20 told, 21 .. 39 past, 40 .. 50 outlook (43 .. its mountain), 51 .. 59 plans (52 .. its mountain), 60 .. 61 standing, 62 .. 63 rumours, 64 .. 66 sights, 67 .. 69 games -/
def SX : pS := [(11, 12), (1, 13), (100, 7), (100, 7), (100, 7), (100, 7), (100, 7), (100, 7), (100, 7), (6, 9), (100, 40), (100, 40), (100, 40), (6, 9), (100, 40), (100, 40), (100, 40), (10, 2), (100, 80), (2, 2), (101, 12), (4, 6), (104, 12), (104, 2), (103, 2), (100, 32),
  (100, 32), (100, 32), (100, 32), (100, 32), (100, 32), (100, 32), (100, 32), (100, 32), (100, 32), (100, 32), (100, 32), (100, 32), (100, 32), (100, 32), (3, 6), (100, 7), (100, 10), (1, 13), (100, 7), (100, 7), (100, 7), (100, 7), (100, 7), (100, 7), (100, 7),
  (5, 5), (1, 13), (100, 7), (100, 7), (100, 7), (100, 7), (100, 7), (100, 7), (100, 7), (9, 3), (100, 7), (7, 4), (100, 12), (8, 8), (100, 10), (100, 40), (0, 3), (100, 21), (100, 21)]
def rxL : List (List (Option Nat)) := [[some 1, some 9, some 13, some 17, some 19, some 21, some 40, some 51, some 60, some 62, some 64, some 67], [some 2, some 3, some 4, some 5, some 6, some 7, some 8], [], [], [], [], [], [], [],
  [some 10, some 11, none, some 12], [], [], [], [some 14, some 15, none, some 16], [], [], [], [some 18], [], [some 20], [], [some 22, some 23, some 24, some 25], [some 26, some 27, some 28, some 29, some 30, some 31, some 32, some 33, some 34, some 35, some 36, some 37], [some 38, some 39], [], [],
  [], [], [], [], [], [], [], [], [], [], [], [], [], [], [some 1, some 43, some 9, some 19, some 41, some 42], [], [], [some 44, some 45, some 46, some 47, some 48, some 49, some 50], [], [], [], [], [], [], [],
  [some 1, some 52, some 9, some 19], [some 53, some 54, some 55, some 56, some 57, some 58, some 59], [], [], [], [], [], [], [], [some 1, some 19, some 61], [], [some 1, some 19, some 63], [], [some 19, some 65, none, some 66], [], [], [some 19, some 68, some 69]]
def RX : pR := fun h k => (rxL.getD h []).getD k none
def isMt (m : Nat) : Prop := m = 1 ∨ m = 43 ∨ m = 52
def isRu (m : Nat) : Prop := m = 9 ∨ m = 13
theorem mtS {m : Nat} (h : isMt m) : SX[m]? = some (1, 13) := by rcases h with rfl | rfl | rfl <;> rfl
theorem mtA1 {m : Nat} (h : isMt m) : SX[m + 1]? = some (100, 7) := by rcases h with rfl | rfl | rfl <;> rfl
theorem mtA2 {m : Nat} (h : isMt m) : SX[m + 2]? = some (100, 7) := by rcases h with rfl | rfl | rfl <;> rfl
theorem mtA3 {m : Nat} (h : isMt m) : SX[m + 3]? = some (100, 7) := by rcases h with rfl | rfl | rfl <;> rfl
theorem mtA4 {m : Nat} (h : isMt m) : SX[m + 4]? = some (100, 7) := by rcases h with rfl | rfl | rfl <;> rfl
theorem mtA5 {m : Nat} (h : isMt m) : SX[m + 5]? = some (100, 7) := by rcases h with rfl | rfl | rfl <;> rfl
theorem mtA6 {m : Nat} (h : isMt m) : SX[m + 6]? = some (100, 7) := by rcases h with rfl | rfl | rfl <;> rfl
theorem mtA7 {m : Nat} (h : isMt m) : SX[m + 7]? = some (100, 7) := by rcases h with rfl | rfl | rfl <;> rfl
theorem mtR0 {m : Nat} (h : isMt m) : RX m 0 = some (m + 1) := by rcases h with rfl | rfl | rfl <;> rfl
theorem mtR1 {m : Nat} (h : isMt m) : RX m 1 = some (m + 2) := by rcases h with rfl | rfl | rfl <;> rfl
theorem mtR2 {m : Nat} (h : isMt m) : RX m 2 = some (m + 3) := by rcases h with rfl | rfl | rfl <;> rfl
theorem mtR3 {m : Nat} (h : isMt m) : RX m 3 = some (m + 4) := by rcases h with rfl | rfl | rfl <;> rfl
theorem mtR4 {m : Nat} (h : isMt m) : RX m 4 = some (m + 5) := by rcases h with rfl | rfl | rfl <;> rfl
theorem mtR5 {m : Nat} (h : isMt m) : RX m 5 = some (m + 6) := by rcases h with rfl | rfl | rfl <;> rfl
theorem mtR6 {m : Nat} (h : isMt m) : RX m 6 = some (m + 7) := by rcases h with rfl | rfl | rfl <;> rfl
theorem ruS {m : Nat} (h : isRu m) : SX[m]? = some (6, 9) := by rcases h with rfl | rfl <;> rfl
theorem ruA1 {m : Nat} (h : isRu m) : SX[m + 1]? = some (100, 40) := by rcases h with rfl | rfl <;> rfl
theorem ruA2 {m : Nat} (h : isRu m) : SX[m + 2]? = some (100, 40) := by rcases h with rfl | rfl <;> rfl
theorem ruA3 {m : Nat} (h : isRu m) : SX[m + 3]? = some (100, 40) := by rcases h with rfl | rfl <;> rfl
theorem ruR0 {m : Nat} (h : isRu m) : RX m 0 = some (m + 1) := by rcases h with rfl | rfl <;> rfl
theorem ruR1 {m : Nat} (h : isRu m) : RX m 1 = some (m + 2) := by rcases h with rfl | rfl <;> rfl
theorem ruR3 {m : Nat} (h : isRu m) : RX m 3 = some (m + 3) := by rcases h with rfl | rfl <;> rfl
theorem sx_len : SX.length = 70 := rfl
theorem rx_len : rxL.length = 68 := rfl
/-! the reference's cells: 0 the object, 1 now, 2 pace, 3 text, 4 row, 5 told, 6 rule, 7 otherRule, 8 asked, 9 undos, 10 aside, 11 then, 12 steps, 13 downFirst, 14 acts, 15 owned, 16 gone, 17 longest, 18 heardOf, 19 heardBy, 20 sawOf, 21 sawBy, 22 wins, 23 kept, 24 isKept, 25 keptCame -/
def SM : pS := [(12, 42), (100, 32), (100, 7), (102, 80), (101, 16), (100, 7), (102, 40), (102, 40), (100, 7), (100, 384), (100, 32), (100, 32), (100, 7), (100, 12), (100, 240), (100, 8), (100, 7), (100, 7), (100, 12), (100, 12), (100, 10), (100, 10), (103, 882), (100, 64), (103, 2), (100, 2)]
def RM (rd rl : Option Nat) : pR := fun h k => if h = 0 then (match k with
  | 0 => some 1
  | 2 => some 2
  | 3 => some 3
  | 5 => some 4
  | 8 => rd
  | 13 => some 5
  | 14 => rl
  | 15 => some 7
  | 18 => some 8
  | 19 => some 9
  | 21 => some 10
  | 22 => some 11
  | 23 => some 12
  | 25 => some 13
  | 26 => some 14
  | 27 => some 15
  | 28 => some 16
  | 29 => some 17
  | 30 => some 18
  | 31 => some 19
  | 33 => some 20
  | 34 => some 21
  | 36 => some 22
  | 39 => some 23
  | 40 => some 24
  | 41 => some 25
  | _ => none) else none
theorem rowS {h : Nat} (hh : h = 1 ∨ h = 11) : SM[h]? = some (100, 32) := by rcases hh with rfl | rfl <;> rfl
theorem sm_len : SM.length = 26 := rfl
