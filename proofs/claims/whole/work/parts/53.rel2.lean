/-! Numbers without overflow; a tendon whose rows did not change. -/
theorem bm32 {x : Int} (h1 : -2147483648 ≤ x) (h2 : x < 2147483648) : x.bmod (2 ^ 32) = x := by
  show (if x % 4294967296 < (4294967296 + 1) / 2 then x % 4294967296 else x % 4294967296 - 4294967296) = x
  split <;> omega
theorem bm64 {x : Int} (h1 : -9223372036854775808 ≤ x) (h2 : x < 9223372036854775808) : x.bmod (2 ^ 64) = x := by
  show (if x % 18446744073709551616 < (18446744073709551616 + 1) / 2 then x % 18446744073709551616 else x % 18446744073709551616 - 18446744073709551616) = x
  split <;> omega
theorem i_sub {a b : Int32} (h1 : -2147483648 ≤ a.toInt - b.toInt) (h2 : a.toInt - b.toInt < 2147483648) : (a - b).toInt = a.toInt - b.toInt := by rw [Int32.toInt_sub, bm32 h1 h2]
theorem i_add {a b : Int32} (h1 : -2147483648 ≤ a.toInt + b.toInt) (h2 : a.toInt + b.toInt < 2147483648) : (a + b).toInt = a.toInt + b.toInt := by rw [Int32.toInt_add, bm32 h1 h2]
theorem i_mul {a b : Int32} (h1 : -2147483648 ≤ a.toInt * b.toInt) (h2 : a.toInt * b.toInt < 2147483648) : (a * b).toInt = a.toInt * b.toInt := by rw [Int32.toInt_mul, bm32 h1 h2]
theorem l_sub {a b : Int64} (h1 : -9223372036854775808 ≤ a.toInt - b.toInt) (h2 : a.toInt - b.toInt < 9223372036854775808) : (a - b).toInt = a.toInt - b.toInt := by rw [Int64.toInt_sub, bm64 h1 h2]
theorem l_add {a b : Int64} (h1 : -9223372036854775808 ≤ a.toInt + b.toInt) (h2 : a.toInt + b.toInt < 9223372036854775808) : (a + b).toInt = a.toInt + b.toInt := by rw [Int64.toInt_add, bm64 h1 h2]
theorem l_mul {a b : Int64} (h1 : -9223372036854775808 ≤ a.toInt * b.toInt) (h2 : a.toInt * b.toInt < 9223372036854775808) : (a * b).toInt = a.toInt * b.toInt := by rw [Int64.toInt_mul, bm64 h1 h2]
theorem td_abs {a b : Int} (hb : 0 < b) : (0 ≤ a → a.tdiv b = a / b) ∧ (a < 0 → a.tdiv b = -((-a) / b)) := by
  constructor
  · intro h; exact Int.tdiv_eq_ediv_of_nonneg h
  · intro h
    have : a.tdiv b = -((-a).tdiv b) := by rw [Int.neg_tdiv, Int.neg_neg]
    rw [this, Int.tdiv_eq_ediv_of_nonneg (by omega)]
theorem td_bound {a b : Int} (hb : 0 < b) : (0 ≤ a → 0 ≤ a.tdiv b ∧ a.tdiv b ≤ a) ∧ (a < 0 → a ≤ a.tdiv b ∧ a.tdiv b ≤ 0) := by
  have e := td_abs (a := a) hb
  constructor
  · intro h
    rw [e.1 h]
    exact ⟨Int.ediv_nonneg h (by omega), Int.ediv_le_self b h⟩
  · intro h
    rw [e.2 h]
    have h1 := Int.ediv_nonneg (a := -a) (b := b) (by omega) (by omega)
    have h2 := Int.ediv_le_self (a := -a) b (by omega)
    omega
theorem i_div {a b : Int32} (hb : 0 < b.toInt) : (a / b).toInt = a.toInt.tdiv b.toInt := by
  have h := td_bound (a := a.toInt) hb
  have h3 := Int32.le_toInt a
  have h4 := Int32.toInt_lt a
  rw [Int32.toInt_div, bm32]
  · rcases Int.lt_or_le a.toInt 0 with c | c
    · have := h.2 c; omega
    · have := h.1 c; omega
  · rcases Int.lt_or_le a.toInt 0 with c | c
    · have := h.2 c; omega
    · have := h.1 c; omega
theorem l_div {a b : Int64} (hb : 0 < b.toInt) : (a / b).toInt = a.toInt.tdiv b.toInt := by
  have h := td_bound (a := a.toInt) hb
  have h3 := Int64.le_toInt a
  have h4 := Int64.toInt_lt a
  rw [Int64.toInt_div, bm64]
  · rcases Int.lt_or_le a.toInt 0 with c | c
    · have := h.2 c; omega
    · have := h.1 c; omega
  · rcases Int.lt_or_le a.toInt 0 with c | c
    · have := h.2 c; omega
    · have := h.1 c; omega
theorem slope_same {dx dy : Int32} (hx : 100 ≤ dx.toInt) (hy1 : -6000 ≤ dy.toInt) (hy2 : dy.toInt ≤ 6000) : ((1000 : Int64) * dy.toInt64 / dx.toInt64).toInt32 = (1000 : Int32) * dy / dx := by
  apply Int32.toInt_inj.mp
  have e1 : ((1000 : Int64) * dy.toInt64).toInt = 1000 * dy.toInt := by
    rw [l_mul, Int32.toInt_toInt64, show (1000 : Int64).toInt = 1000 from rfl] <;> rw [Int32.toInt_toInt64, show (1000 : Int64).toInt = 1000 from rfl] <;> omega
  have e2 : ((1000 : Int32) * dy).toInt = 1000 * dy.toInt := by
    rw [i_mul, show (1000 : Int32).toInt = 1000 from rfl] <;> rw [show (1000 : Int32).toInt = 1000 from rfl] <;> omega
  have h := td_bound (a := 1000 * dy.toInt) (b := dx.toInt) (by omega)
  rw [Int64.toInt_toInt32, l_div (by rw [Int32.toInt_toInt64]; omega), Int32.toInt_toInt64, e1, i_div (by omega), e2]
  apply bm32
  · rcases Int.lt_or_le (1000 * dy.toInt) 0 with c | c
    · have := h.2 c; omega
    · have := h.1 c; omega
  · rcases Int.lt_or_le (1000 * dy.toInt) 0 with c | c
    · have := h.2 c; omega
    · have := h.1 c; omega
theorem RlT_congr {k : Nat} {r : kR} {mar msi mst men mpu mxs mys mar' msi' mst' men' mpu' mxs' mys' : Nat → Int32} {mfo mfo' : Nat → Int64} (h : RlT k r mar msi mst men mpu mxs mys mfo) (h1 : mar' k = mar k) (h2 : msi' k = msi k) (h3 : mst' k = mst k) (h4 : men' k = men k) (h5 : mpu' k = mpu k)
    (h6 : ∀ i, i < 10 → mxs' (10 * k + i) = mxs (10 * k + i)) (h7 : ∀ i, i < 10 → mys' (10 * k + i) = mys (10 * k + i)) (h8 : ∀ i, i < 10 → mfo' (10 * k + i) = mfo (10 * k + i)) : RlT k r mar' msi' mst' men' mpu' mxs' mys' mfo' := by
  obtain ⟨n, a1, a2, a3, a4, a5, a6, a7, a8, a9, a10, a11⟩ := h
  refine ⟨n, a1, a2, by rw [h2]; exact a3, by rw [h1]; exact a4, a5, by rw [h3]; exact a6, a7, by rw [h4, h5]; exact a8, ?_, ?_, ?_⟩
  · intro i hi
    rw [h6 i (by omega), h7 i (by omega)]
    exact a9 i hi
  · intro i hi
    have e1 := h6 i (by omega)
    have e2 := h6 (i + 1) (by omega)
    have e3 := h7 i (by omega)
    have e4 := h7 (i + 1) (by omega)
    rw [← Nat.add_assoc] at e2 e4
    unfold lnO slO
    rw [e1, e2, e3, e4]
    exact a10 i hi
  · intro i hi
    rw [h8 i hi]
    exact a11 i hi
