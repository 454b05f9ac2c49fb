/-! Rows for the simulation: ranges, indices, the reference's small tests. -/
theorem in_eq (fu : Nat) (a b c : Int32) : fM_in fu a b c = some (if b.toInt ≤ a.toInt ∧ a.toInt ≤ c.toInt then 1 else 0) := fL_isWithin_eq fu a b c
theorem iw_t {fu : Nat} {a b c : Int32} (h : b.toInt ≤ a.toInt ∧ a.toInt ≤ c.toInt) : fL_isWithin fu a b c = some 1 := by rw [fL_isWithin_eq, if_pos h]
theorem iw_f {fu : Nat} {a b c : Int32} (h : ¬ (b.toInt ≤ a.toInt ∧ a.toInt ≤ c.toInt)) : fL_isWithin fu a b c = some 0 := by rw [fL_isWithin_eq, if_neg h]
theorem in_t {fu : Nat} {a b c : Int32} (h : b.toInt ≤ a.toInt ∧ a.toInt ≤ c.toInt) : fM_in fu a b c = some 1 := by rw [in_eq, if_pos h]
theorem in_f {fu : Nat} {a b c : Int32} (h : ¬ (b.toInt ≤ a.toInt ∧ a.toInt ≤ c.toInt)) : fM_in fu a b c = some 0 := by rw [in_eq, if_neg h]
theorem nI_m1 {n : Nat} (h : n < 2 ^ 30) : (nI n - (1 : Int32)).toInt = (n : Int) - 1 := pk_sub_toInt (a := n) (b := 1) h (by decide)
theorem nI_m2 {n : Nat} (h : n < 2 ^ 30) : (nI n - (2 : Int32)).toInt = (n : Int) - 2 := pk_sub_toInt (a := n) (b := 2) h (by decide)
theorem z0 : (0 : Int32).toInt = 0 := rfl
theorem z1 : (1 : Int32).toInt = 1 := rfl
theorem nI_lit (n : Nat) : (OfNat.ofNat n : Int32) = nI n := rfl
/-- a number is one of N places, or it isn't -/
theorem z_ix (p : Int32) {N : Nat} (hN : N ≤ 60) : (∃ k, k < N ∧ p = nI k) ∨ ¬ ¬ (p < 0 ∨ N ≤ p.toNatClampNeg) := by
  by_cases h : ¬ (p < 0 ∨ N ≤ p.toNatClampNeg)
  · exact Or.inl (vp_in_of h (by omega))
  · exact Or.inr h
theorem z_ok {k N : Nat} (h : k < N) (hN : N ≤ 60) : ¬ ((nI k) < 0 ∨ N ≤ (nI k).toNatClampNeg) := vp_in_nI h (by omega)
theorem z_cl {k : Nat} (h : k < 2 ^ 31) : (nI k).toNatClampNeg = k := nI_clamp h
theorem z_rg {k N : Nat} (h : k < N) (h2 : k < 2 ^ 31) : (nI k).toNatClampNeg ∈ List.range N := by rw [z_cl h2]; exact List.mem_range.mpr h
section HM
variable {fu : Nat} {thr loc rou mum sli sha fad day : Int32} {mar msi mst men mpu mxs mys : Nat → Int32} {mfo : Nat → Int64} {mor : Nat → Int32} {mo1 mo2 : Nat → Int64} {N k : Nat} {p : Int32}
theorem isT_t (hN : N ≤ 6) (hk : k < N) : fM_isTendon fu thr (nI N) loc rou mum sli sha fad day mar msi mst men mpu mxs mys mfo mor mo1 mo2 (nI k) = some 1 := by
  unfold fM_isTendon
  rw [in_t (by rw [nI_m1 (by omega), nI_toInt (by omega), z0]; omega), Option.bind_some, if_pos (by decide)]
theorem isT_f (hN : N ≤ 6) (h : ¬ ¬ (p < 0 ∨ N ≤ p.toNatClampNeg)) : fM_isTendon fu thr (nI N) loc rou mum sli sha fad day mar msi mst men mpu mxs mys mfo mor mo1 mo2 p = some 0 := by
  rw [z_in] at h
  unfold fM_isTendon
  rw [in_f (by rw [nI_m1 (by omega), z0]; omega), Option.bind_some, if_pos (by decide)]
theorem hasF_t (hN : N ≤ 6) (hk : k < N) (h : ¬ mst k ≤ 0) : fM_hasForces fu thr (nI N) loc rou mum sli sha fad day mar msi mst men mpu mxs mys mfo mor mo1 mo2 (nI k) = some 1 := by
  unfold fM_hasForces
  rw [isT_t hN hk, Option.bind_some, if_neg (by decide), if_pos (z_ok (by omega) (by omega)), z_cl (by omega), if_neg h]
theorem hasF_0 (hN : N ≤ 6) (hk : k < N) (h : mst k ≤ 0) : fM_hasForces fu thr (nI N) loc rou mum sli sha fad day mar msi mst men mpu mxs mys mfo mor mo1 mo2 (nI k) = some 0 := by
  unfold fM_hasForces
  rw [isT_t hN hk, Option.bind_some, if_neg (by decide), if_pos (z_ok (by omega) (by omega)), z_cl (by omega), if_pos h]
theorem hasF_f (hN : N ≤ 6) (h : ¬ ¬ (p < 0 ∨ N ≤ p.toNatClampNeg)) : fM_hasForces fu thr (nI N) loc rou mum sli sha fad day mar msi mst men mpu mxs mys mfo mor mo1 mo2 p = some 0 := by
  unfold fM_hasForces
  rw [isT_f hN h, Option.bind_some, if_pos rfl]
end HM
theorem st_le {a : Int32} (h : a = 0 ∨ a = 1 ∨ a = 2) : a ≤ 0 ↔ a = 0 := by
  rcases h with rfl | rfl | rfl <;> decide
theorem ix10 {k i : Nat} : (10 : Int32) * nI k + nI i = nI (10 * k + i) := by
  rw [show (10 : Int32) = nI 10 from rfl, pk_mul, nI_add]
