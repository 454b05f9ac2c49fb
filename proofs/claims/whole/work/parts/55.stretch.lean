/-! How much longer a tendon is: a sum over its pieces. -/
def sm (f : Nat → Int64) : Nat → Int64
  | 0 => 0
  | i + 1 => sm f i + f i
theorem sm_congr {f g : Nat → Int64} : ∀ {m : Nat}, (∀ i, i < m → f i = g i) → sm f m = sm g m
  | 0, _ => rfl
  | m + 1, h => by
    show sm f m + f m = sm g m + g m
    rw [sm_congr (fun i hi => h i (by omega)), h m (by omega)]
/-- what a piece adds with both ends' forces together b -/
def pcO (area : Int32) (mxs mys : Nat → Int32) (k i : Nat) (b : Int64) : Int64 := b * lnO mxs mys (10 * k + i) * (1000 : Int64) / ((2 : Int64) * area.toInt64 * (195000 : Int64))
theorem den_pos {area : Int32} (h1 : 50 ≤ area.toInt) (h2 : area.toInt ≤ 10000) : ((2 : Int64) * area.toInt64 * (195000 : Int64)).toInt = 390000 * area.toInt := by
  have e1 : ((2 : Int64) * area.toInt64).toInt = 2 * area.toInt := by
    rw [l_mul, Int32.toInt_toInt64, show (2 : Int64).toInt = 2 from rfl] <;> rw [Int32.toInt_toInt64, show (2 : Int64).toInt = 2 from rfl] <;> omega
  rw [l_mul, e1, show (195000 : Int64).toInt = 195000 from rfl]
  · omega
  · rw [e1, show (195000 : Int64).toInt = 195000 from rfl]; omega
  · rw [e1, show (195000 : Int64).toInt = 195000 from rfl]; omega
theorem den_ne {area : Int32} (h1 : 50 ≤ area.toInt) (h2 : area.toInt ≤ 10000) : ¬ (2 : Int64) * area.toInt64 * (195000 : Int64) = 0 := fun e => by
  have := congrArg Int64.toInt e
  rw [den_pos h1 h2, show (0 : Int64).toInt = 0 from rfl] at this
  omega
section ST
variable {fu n k : Nat} {area state pf pw : Int32} {xs ys ln sl mxs mys : Nat → Int32} {fo tr : Nat → Int64}
theorem stOf_D {i : Nat} {b : Int64} {size : Int32} (ha1 : 50 ≤ area.toInt) (ha2 : area.toInt ≤ 10000) (hi : i < 10) (hl : ln i = (lnO mxs mys (10 * k + i)).toInt32) : fT_stretchOf fu area state pf pw size xs ys ln sl fo tr (nI i) b = some (pcO area mxs mys k i b) := by
  unfold fT_stretchOf pcO
  rw [if_pos (z_ok (by omega) (by omega)), z_cl (by omega), hl, show (lnO mxs mys (10 * k + i)).toInt32.toInt64 = lnO mxs mys (10 * k + i) from rt_back _, quo_ne (den_ne ha1 ha2), Option.bind_some]
theorem str_DL (ha1 : 50 ≤ area.toInt) (ha2 : area.toInt ≤ 10000) (hn : n ≤ 10) (hl : ∀ i, i + 1 < n → ln i = (lnO mxs mys (10 * k + i)).toInt32) : ∀ m i q, i + m = n - 1 → m < q → fT_stretch_L4 fu area state pf pw (nI n) xs ys ln sl fo tr q (nI i) (sm (fun i => pcO area mxs mys k i (fo i + fo (i + 1))) i) = some (sm (fun i => pcO area mxs mys k i (fo i + fo (i + 1))) (n - 1)) := by
  intro m
  induction m with
  | zero =>
    intro i q hi hq
    obtain ⟨q, rfl⟩ : ∃ z, q = z + 1 := ⟨q - 1, by omega⟩
    have c : nI n - (1 : Int32) ≤ nI i := by rw [Int32.le_iff_toInt_le, nI_m1 (by omega), nI_toInt (by omega)]; omega
    rw [fT_stretch_L4_s, if_pos c, show i = n - 1 by omega]
  | succ m ih =>
    intro i q hi hq
    obtain ⟨q, rfl⟩ : ∃ z, q = z + 1 := ⟨q - 1, by omega⟩
    have c : ¬ nI n - (1 : Int32) ≤ nI i := by rw [Int32.le_iff_toInt_le, nI_m1 (by omega), nI_toInt (by omega)]; omega
    rw [fT_stretch_L4_s, if_neg c, if_pos (z_ok (by omega) (by omega)), nI_1, if_pos (z_ok (by omega) (by omega)), z_cl (by omega), z_cl (by omega), stOf_D (k := k) (mxs := mxs) (mys := mys) ha1 ha2 (by omega) (hl i (by omega)), Option.bind_some]
    exact ih (i + 1) q (by omega) (by omega)
theorem str_D (hf : 100 ≤ fu) (ha1 : 50 ≤ area.toInt) (ha2 : area.toInt ≤ 10000) (hn : n ≤ 10) (hl : ∀ i, i + 1 < n → ln i = (lnO mxs mys (10 * k + i)).toInt32) : fT_stretch fu area state pf pw (nI n) xs ys ln sl fo tr = some (sm (fun i => pcO area mxs mys k i (fo i + fo (i + 1))) (n - 1)) :=
  str_DL ha1 ha2 hn hl (n - 1) 0 fu (by omega) (by omega)
variable {thr ten loc rou mum sli sha fad day : Int32} {mar msi mst men mpu : Nat → Int32} {mfo : Nat → Int64} {mor : Nat → Int32} {mo1 mo2 : Nat → Int64}
theorem str_ML (hf : 100 ≤ fu) (hk : k < 6) (ha1 : 50 ≤ (mar k).toInt) (ha2 : (mar k).toInt ≤ 10000) (hn : n ≤ 10) (hs : msi k = nI n) : ∀ m i q, i + m = n - 1 → m < q → fM_longerOf_L5 fu thr ten loc rou mum sli sha fad day mar msi mst men mpu mxs mys mfo mor mo1 mo2 (nI k) q (nI i) (sm (fun i => pcO (mar k) mxs mys k i (mfo (10 * k + i) + mfo (10 * k + i + 1))) i) = some (sm (fun i => pcO (mar k) mxs mys k i (mfo (10 * k + i) + mfo (10 * k + i + 1))) (n - 1)).toInt32 := by
  intro m
  induction m with
  | zero =>
    intro i q hi hq
    obtain ⟨q, rfl⟩ : ∃ z, q = z + 1 := ⟨q - 1, by omega⟩
    have c : msi k ≤ nI i + (1 : Int32) := by rw [hs, nI_1, Int32.le_iff_toInt_le, nI_toInt (by omega), nI_toInt (by omega)]; omega
    rw [fM_longerOf_L5_s, if_pos (z_ok (by omega) (by omega)), z_cl (by omega), if_pos c, show i = n - 1 by omega]
  | succ m ih =>
    intro i q hi hq
    obtain ⟨q, rfl⟩ : ∃ z, q = z + 1 := ⟨q - 1, by omega⟩
    have c : ¬ msi k ≤ nI i + (1 : Int32) := by rw [hs, nI_1, Int32.le_iff_toInt_le, nI_toInt (by omega), nI_toInt (by omega)]; omega
    rw [fM_longerOf_L5_s, if_pos (z_ok (by omega) (by omega)), z_cl (k := k) (by omega), if_neg c, ix10, if_pos (z_ok (by omega) (by omega)), nI_1, if_pos (z_ok (by omega) (by omega)), len_M hf hk (by omega), Option.bind_some, if_pos (z_ok2 (by omega) (by omega)), if_pos (den_ne ha1 ha2), nI_1, z_cl (by omega), z_cl (by omega)]
    exact ih (i + 1) q (by omega) (by omega)
theorem str_M (hf : 100 ≤ fu) (hk : k < 6) (ha1 : 50 ≤ (mar k).toInt) (ha2 : (mar k).toInt ≤ 10000) (hn : n ≤ 10) (hs : msi k = nI n) : fM_longerOf fu thr ten loc rou mum sli sha fad day mar msi mst men mpu mxs mys mfo mor mo1 mo2 (nI k) = some (sm (fun i => pcO (mar k) mxs mys k i (mfo (10 * k + i) + mfo (10 * k + i + 1))) (n - 1)).toInt32 :=
  str_ML hf hk ha1 ha2 hn hs (n - 1) 0 fu (by omega) (by omega)
end ST
