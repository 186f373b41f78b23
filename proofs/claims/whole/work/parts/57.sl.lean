/-! both worlds and the row that is asked for -/
def SL : pS := SX ++ SM ++ [(101, 1)]
theorem sl_len : SL.length = 97 := rfl
theorem sl_x : ∀ k, k < SX.length → SL[0 + k]? = SX[k]? := by decide +kernel
theorem sl_m : ∀ k, k < SM.length → SL[70 + k]? = SM[k]? := by decide +kernel
