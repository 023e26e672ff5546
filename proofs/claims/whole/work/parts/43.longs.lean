/-! small whole numbers as longs -/
def nL (k : Nat) : Int64 := Int64.ofNat k
theorem nL_toInt {k : Nat} (h : k < 2 ^ 63) : (nL k).toInt = k := Int64.toInt_ofNat_of_lt h
theorem nL_inj {a b : Nat} (ha : a < 2 ^ 63) (hb : b < 2 ^ 63) (h : nL a = nL b) : a = b := by
  have := congrArg Int64.toInt h
  rw [nL_toInt ha, nL_toInt hb] at this
  omega
theorem nL_div {a b : Nat} (ha : a < 2 ^ 63) (hb : b < 2 ^ 63) : nL a / nL b = nL (a / b) := by
  apply Int64.toInt_inj.mp
  have h1 : a / b < 2 ^ 63 := Nat.lt_of_le_of_lt (Nat.div_le_self a b) ha
  rw [Int64.toInt_div, nL_toInt ha, nL_toInt hb, nL_toInt h1]
  rw [Int.tdiv_eq_ediv_of_nonneg (by omega), ← Int.natCast_ediv]
  generalize a / b = q at h1
  exact Int.bmod_eq_of_le (by omega) (by omega)
theorem nL_mul {a b : Nat} (h : a * b < 2 ^ 63) : nL a * nL b = nL (a * b) := by
  unfold nL
  rw [← Int64.ofNat_mul]
theorem nL_rem {a b : Nat} (ha : a < 2 ^ 63) (hb : b < 2 ^ 63) : nL a - nL a / nL b * nL b = nL (a % b) := by
  rw [nL_div ha hb]
  have h1 : a / b * b ≤ a := Nat.div_mul_le_self a b
  have h2 := Nat.div_add_mod a b
  rw [Nat.mul_comm] at h2
  rw [nL_mul (by omega)]
  apply Int64.toInt_inj.mp
  have h3 : a % b < 2 ^ 63 := by omega
  rw [Int64.toInt_sub, nL_toInt ha, nL_toInt (by omega), nL_toInt h3]
  rw [show ((a : Int) - (a / b * b : Nat)) = (a % b : Nat) by omega]
  exact Int.bmod_eq_of_le (by omega) (by omega)
theorem nL_ne {b : Nat} (hb : b < 2 ^ 63) (h : b ≠ 0) : nL b ≠ 0 := fun e => h (nL_inj hb (by omega) (b := 0) e)
theorem nL_i {a : Nat} (h : a < 2 ^ 31) : (nI a).toInt64 = nL a := by
  apply Int64.toInt_inj.mp
  rw [nL_toInt (by omega)]
  simp
  exact nI_toInt (by omega)
