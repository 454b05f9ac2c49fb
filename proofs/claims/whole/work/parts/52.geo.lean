/-! Geometry: root, length, slope, turn. -/
theorem mid_lN {a b : Nat} (h : a + b < 2 ^ 32) : ((lN a + lN b) + (1 : Int64)) / (2 : Int64) = lN ((a + b + 1) / 2) := by
  rw [lN_add, lN_1, show (2 : Int64) = lN 2 from rfl, pk_lDiv (by omega) (by omega) (by omega)]
theorem lN_m1 {a : Nat} (h : 1 ≤ a) : lN a - (1 : Int64) = lN (a - 1) := lN_sub h
/-- both searches for the root come to one number -/
theorem root_both (v : Int64) : ∀ (m a b : Nat), a ≤ b → b ≤ 200000 → b - a < 2 ^ m → ∃ r : Nat, r ≤ 200000 ∧
    (∀ fu n, m < n → fM_root_L7 fu v n (lN b) (lN a) = some (lN r)) ∧ ∀ fu n c, m < n → c + m ≤ 40 → fD_rootOf_L10 fu v n (nI c) (lN b) (lN a) = some (lN r).toInt32 := by
  intro m
  induction m with
  | zero =>
    intro a b hab hb hm
    have e : a = b := by omega
    subst e
    refine ⟨a, hb, ?_, ?_⟩
    · intro fu n hn
      obtain ⟨n, rfl⟩ : ∃ q, n = q + 1 := ⟨n - 1, by omega⟩
      rw [fM_root_L7_s, if_pos ((pk_lLE (by omega) (by omega)).mpr (Nat.le_refl _))]
    · intro fu n c hn hc
      obtain ⟨n, rfl⟩ : ∃ q, n = q + 1 := ⟨n - 1, by omega⟩
      rw [fD_rootOf_L10_s]
      by_cases q : (40 : Int32) ≤ nI c
      · rw [if_pos q]
      · rw [if_neg q, if_pos ((pk_lLE (by omega) (by omega)).mpr (Nat.le_refl _))]
  | succ m ih =>
    intro a b hab hb hm
    by_cases c0 : b ≤ a
    · refine ⟨a, by omega, ?_, ?_⟩
      · intro fu n hn
        obtain ⟨n, rfl⟩ : ∃ q, n = q + 1 := ⟨n - 1, by omega⟩
        rw [fM_root_L7_s, if_pos ((pk_lLE (by omega) (by omega)).mpr c0)]
      · intro fu n c hn hc
        obtain ⟨n, rfl⟩ : ∃ q, n = q + 1 := ⟨n - 1, by omega⟩
        rw [fD_rootOf_L10_s]
        by_cases q : (40 : Int32) ≤ nI c
        · rw [if_pos q]
        · rw [if_neg q, if_pos ((pk_lLE (by omega) (by omega)).mpr c0)]
    · have hp : 2 ^ (m + 1) = 2 * 2 ^ m := by rw [Nat.pow_succ]; omega
      have hle : ¬ lN b ≤ lN a := fun q => c0 ((pk_lLE (by omega) (by omega)).mp q)
      by_cases c1 : v < lN ((a + b + 1) / 2) * lN ((a + b + 1) / 2)
      · obtain ⟨r, h1, h2, h3⟩ := ih a ((a + b + 1) / 2 - 1) (by omega) (by omega) (by omega)
        refine ⟨r, h1, ?_, ?_⟩
        · intro fu n hn
          obtain ⟨n, rfl⟩ : ∃ q, n = q + 1 := ⟨n - 1, by omega⟩
          rw [fM_root_L7_s, if_neg hle, mid_lN (by omega), if_pos c1, Option.bind_some, lN_m1 (by omega)]
          exact h2 fu n (by omega)
        · intro fu n c hn hc
          obtain ⟨n, rfl⟩ : ∃ q, n = q + 1 := ⟨n - 1, by omega⟩
          have hc40 : ¬ (40 : Int32) ≤ nI c := fun q => absurd ((nI_leI (a := 40) (b := c) (by decide) (by omega)).mp q) (by omega)
          rw [fD_rootOf_L10_s, if_neg hc40, if_neg hle, mid_lN (by omega), if_pos c1, Option.bind_some, lN_m1 (by omega), nI_1]
          exact h3 fu n (c + 1) (by omega) (by omega)
      · obtain ⟨r, h1, h2, h3⟩ := ih ((a + b + 1) / 2) b (by omega) (by omega) (by omega)
        refine ⟨r, h1, ?_, ?_⟩
        · intro fu n hn
          obtain ⟨n, rfl⟩ : ∃ q, n = q + 1 := ⟨n - 1, by omega⟩
          rw [fM_root_L7_s, if_neg hle, mid_lN (by omega), if_neg c1, Option.bind_some]
          exact h2 fu n (by omega)
        · intro fu n c hn hc
          obtain ⟨n, rfl⟩ : ∃ q, n = q + 1 := ⟨n - 1, by omega⟩
          have hc40 : ¬ (40 : Int32) ≤ nI c := fun q => absurd ((nI_leI (a := 40) (b := c) (by decide) (by omega)).mp q) (by omega)
          rw [fD_rootOf_L10_s, if_neg hc40, if_neg hle, mid_lN (by omega), if_neg c1, Option.bind_some, nI_1]
          exact h3 fu n (c + 1) (by omega) (by omega)
theorem rt_is (v : Int64) : ∃ r : Nat, r ≤ 200000 ∧ rt v = lN r ∧ (∀ fu, 100 ≤ fu → fM_root fu v = some (lN r)) ∧ ∀ fu, 100 ≤ fu → fD_rootOf fu v = some (lN r).toInt32 := by
  obtain ⟨r, h1, h2, h3⟩ := root_both v 18 0 200000 (by omega) (by omega) (by decide)
  have h4 : ∀ fu, 100 ≤ fu → fM_root fu v = some (lN r) := fun fu hf => h2 fu fu (by omega)
  refine ⟨r, h1, ?_, h4, fun fu hf => h3 fu fu 0 (by omega) (by omega)⟩
  unfold rt
  rw [h4 2000 (by omega)]
  rfl
theorem rt_M {fu : Nat} (hf : 100 ≤ fu) (v : Int64) : fM_root fu v = some (rt v) := by
  obtain ⟨r, h1, h2, h3, h4⟩ := rt_is v
  rw [h2, h3 fu hf]
theorem rt_D {fu : Nat} (hf : 100 ≤ fu) (v : Int64) : fD_rootOf fu v = some (rt v).toInt32 := by
  obtain ⟨r, h1, h2, h3, h4⟩ := rt_is v
  rw [h2, h4 fu hf]
theorem rt_back (v : Int64) : (rt v).toInt32.toInt64 = rt v := by
  obtain ⟨r, h1, h2, -, -⟩ := rt_is v
  rw [h2, lN_i, nI_l (by omega)]
section GEO
variable {fu : Nat} {thr ten loc rou mum sli sha fad day : Int32} {mar msi mst men mpu mxs mys : Nat → Int32} {mfo : Nat → Int64} {mor : Nat → Int32} {mo1 mo2 : Nat → Int64} {N k i n : Nat}
theorem len_M (hf : 100 ≤ fu) (hk : k < 6) (hi : i + 1 < 10) : fM_lengthOf fu thr ten loc rou mum sli sha fad day mar msi mst men mpu mxs mys mfo mor mo1 mo2 (nI k) (nI i) = some (lnO mxs mys (10 * k + i)) := by
  unfold fM_lengthOf
  rw [ix10, nI_1, if_pos (z_ok (by omega) (by omega)), if_pos (z_ok (by omega) (by omega)), if_pos (z_ok (by omega) (by omega)), if_pos (z_ok (by omega) (by omega)), z_cl (by omega), z_cl (by omega), rt_M hf]
  rfl
theorem sub_ne {a b : Int32} (h : a.toInt ≠ b.toInt) : ¬ a - b = 0 := fun e => h (by
  have : a = b := by
    have h2 := congrArg (fun z => z + b) e
    simpa using h2
  rw [this])
theorem slope_M (hk : k < 6) (hi : i + 1 < 10) (hx : (mxs (10 * k + i)).toInt + 100 ≤ (mxs (10 * k + i + 1)).toInt) : fM_slopeOf fu thr ten loc rou mum sli sha fad day mar msi mst men mpu mxs mys mfo mor mo1 mo2 (nI k) (nI i) = some (slO mxs mys (10 * k + i)) := by
  unfold fM_slopeOf
  rw [ix10, nI_1, if_pos (z_ok (by omega) (by omega)), if_pos (z_ok (by omega) (by omega)), if_pos (z_ok (by omega) (by omega)), if_pos (z_ok (by omega) (by omega)), z_cl (by omega), z_cl (by omega), if_pos (sub_ne (by omega))]
  rfl
/-- the turn at the i-th of n points -/
def trO (mxs mys : Nat → Int32) (k n i : Nat) : Int32 := if i = 0 ∨ i + 1 = n then 0 else if 0 ≤ slO mxs mys (10 * k + i) - slO mxs mys (10 * k + (i - 1)) then slO mxs mys (10 * k + i) - slO mxs mys (10 * k + (i - 1)) else -(slO mxs mys (10 * k + i) - slO mxs mys (10 * k + (i - 1)))
theorem turn_M (hk : k < 6) (hn : n ≤ 10) (hi : i < n) (hs : msi k = nI n) (hx : ∀ j, j + 1 < n → (mxs (10 * k + j)).toInt + 100 ≤ (mxs (10 * k + j + 1)).toInt) : fM_turnOf fu thr ten loc rou mum sli sha fad day mar msi mst men mpu mxs mys mfo mor mo1 mo2 (nI k) (nI i) = some (trO mxs mys k n i) := by
  unfold fM_turnOf trO
  by_cases c0 : i = 0
  · subst c0
    rw [if_pos (show nI 0 = 0 from rfl), if_pos (Or.inl rfl)]
  · have hne : ¬ nI i = 0 := fun e => c0 ((nI_eq (a := i) (b := 0) (by omega) (by omega)).mp e)
    rw [if_neg hne, if_pos (z_ok (by omega) (by omega)), z_cl (by omega), hs, show nI n - (1 : Int32) = nI (n - 1) from pk_sub (a := n) (b := 1) (by omega)]
    by_cases c1 : i + 1 = n
    · rw [if_pos ((nI_eq (by omega) (by omega)).mpr (by omega)), if_pos (Or.inr c1)]
    · rw [if_neg (fun e => c1 (by have := (nI_eq (a := i) (b := n - 1) (by omega) (by omega)).mp e; omega)), if_neg (by omega), slope_M hk (by omega) (hx i (by omega)), Option.bind_some, show nI i - (1 : Int32) = nI (i - 1) from pk_sub (a := i) (b := 1) (by omega), slope_M hk (by omega) (hx (i - 1) (by omega)), Option.bind_some]
      by_cases c2 : (0 : Int32) ≤ slO mxs mys (10 * k + i) - slO mxs mys (10 * k + (i - 1))
      · rw [if_pos c2, if_pos c2]
      · rw [if_neg c2, if_neg c2]
theorem betw_D {xs ys ln sl : Nat → Int32} {p : Int32} (hn : n ≤ 10) : fD_isBetweenPieces fu (nI n) xs ys ln sl p = some (if 1 ≤ p.toInt ∧ p.toInt + 1 < n then 1 else 0) := by
  unfold fD_isBetweenPieces
  by_cases c0 : p ≤ 0
  · rw [if_pos c0, if_neg (by rw [Int32.le_iff_toInt_le, z0] at c0; omega)]
  · rw [if_neg c0]
    rw [Int32.le_iff_toInt_le, z0] at c0
    by_cases c1 : nI n - (1 : Int32) ≤ p
    · rw [if_pos c1, if_neg (by rw [Int32.le_iff_toInt_le, nI_m1 (by omega)] at c1; omega)]
    · rw [if_neg c1, if_pos (by rw [Int32.le_iff_toInt_le, nI_m1 (by omega)] at c1; omega)]
theorem betw_t {xs ys ln sl : Nat → Int32} (hn : n ≤ 10) (h : 1 ≤ i ∧ i + 1 < n) : fD_isBetweenPieces fu (nI n) xs ys ln sl (nI i) = some 1 := by
  rw [betw_D hn, if_pos (by rw [nI_toInt (by omega)]; omega)]
theorem betw_f {xs ys ln sl : Nat → Int32} (hn : n ≤ 10) (hi : i < 10) (h : ¬ (1 ≤ i ∧ i + 1 < n)) : fD_isBetweenPieces fu (nI n) xs ys ln sl (nI i) = some 0 := by
  rw [betw_D hn, if_neg (by rw [nI_toInt (by omega)]; omega)]
/-- the bend at the i-th point, as the class has it -/
theorem bend_t {xs ys ln sl : Nat → Int32} (hn : n ≤ 10) (h : 1 ≤ i ∧ i + 1 < n) (hs : ∀ j, j + 1 < n → sl j = slO mxs mys (10 * k + j)) : fD_bendAt fu (nI n) xs ys ln sl (nI i) = some (slO mxs mys (10 * k + i) - slO mxs mys (10 * k + (i - 1))) := by
  unfold fD_bendAt
  rw [betw_t hn h, Option.bind_some, if_neg (by decide), if_pos (z_ok (by omega) (by omega)), show nI i - (1 : Int32) = nI (i - 1) from pk_sub (a := i) (b := 1) (by omega), if_pos (z_ok (by omega) (by omega)), z_cl (by omega), z_cl (by omega), hs i (by omega), hs (i - 1) (by omega)]
theorem bend_f {xs ys ln sl : Nat → Int32} (hn : n ≤ 10) (hi : i < 10) (h : ¬ (1 ≤ i ∧ i + 1 < n)) : fD_bendAt fu (nI n) xs ys ln sl (nI i) = some 0 := by
  unfold fD_bendAt
  rw [betw_f hn hi h, Option.bind_some, if_pos rfl]
theorem turn_D {xs ys ln sl : Nat → Int32} (hn : n ≤ 10) (hi : i < n) (hs : ∀ j, j + 1 < n → sl j = slO mxs mys (10 * k + j)) : fD_turnAt fu (nI n) xs ys ln sl (nI i) = some (trO mxs mys k n i) := by
  unfold fD_turnAt trO
  by_cases c : 1 ≤ i ∧ i + 1 < n
  · rw [bend_t (k := k) (mxs := mxs) (mys := mys) hn c hs, Option.bind_some, if_neg (show ¬ (i = 0 ∨ i + 1 = n) by omega), Int32.zero_sub]
  · rw [bend_f hn (by omega) c, Option.bind_some, if_pos (show i = 0 ∨ i + 1 = n by omega), if_pos (by decide)]
end GEO
