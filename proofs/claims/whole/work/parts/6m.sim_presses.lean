theorem sim_presses {fu : Nat} (hfu : 2000 ≤ fu) {N : Nat} {lc : Int32} {dc : Int32} {sp : Int32} {sh : Int32} {fd : Int32} {lo : Nat → Int32} {rough : Int32} {mu : Int32} {Rs : Nat → kR} {thr : Int32} {ten : Int32} {loc : Int32} {rou : Int32} {mum : Int32} {sli : Int32} {sha : Int32} {fad : Int32} {day : Int32} {mar : Nat → Int32} {msi : Nat → Int32} {mst : Nat → Int32} {men : Nat → Int32} {mpu : Nat → Int32} {mxs : Nat → Int32} {mys : Nat → Int32} {mfo : Nat → Int64} {mor : Nat → Int32} {mo1 : Nat → Int64} {mo2 : Nat → Int64} (h : Rl N lc dc sp sh fd lo rough mu Rs thr ten loc rou mum sli sha fad day mar msi mst men mpu mxs mys mfo mor mo1 mo2) (p1 p2 : Int32) : ∃ (r : Int32), fL_presses fu N lc dc sp sh fd lo rough mu Rs p1 p2 = some r ∧ fM_presses fu thr ten loc rou mum sli sha fad day mar msi mst men mpu mxs mys mfo mor mo1 mo2 p1 p2 = some r ∧ Rl N lc dc sp sh fd lo rough mu Rs thr ten loc rou mum sli sha fad day mar msi mst men mpu mxs mys mfo mor mo1 mo2 := by
  obtain ⟨h6, rfl, rfl, rfl, rfl, rfl, rfl, rfl, rfl, hb, hK, hT, hU⟩ := id h
  rcases z_ix p1 (N := N) (by omega) with ⟨k, hk, rfl⟩ | c
  · obtain ⟨n, a1, a2, a3, a4, a5, a6, a7, a8, a9, a10, a11⟩ := hT k hk
    by_cases c2 : (Rs k).2.1 = 0
    · refine ⟨-2000000000, ?_, ?_, h⟩
      · unfold fL_presses
        rw [z_cl (by omega), if_neg (fun q => q.2 c2)]
      · unfold fM_presses
        rw [hasF_0 h6 hk (by rw [a6, c2]; decide), Option.bind_some, if_pos rfl]
    · have hc : (¬ ((nI k) < 0 ∨ N ≤ (nI k).toNatClampNeg)) ∧ ¬ (Rs (nI k).toNatClampNeg).2.1 = 0 := ⟨z_ok hk (by omega), by rw [z_cl (by omega)]; exact c2⟩
      have hm : ¬ mst k ≤ 0 := by rw [a6, st_le a7]; exact c2
      by_cases c3 : 1 ≤ p2.toInt ∧ p2.toInt ≤ (n : Int) - 2
      · obtain ⟨i, hi, rfl⟩ : ∃ i, i + 1 < n ∧ p2 = nI i := by
          obtain ⟨i, hi, e⟩ := vp_in_of (x := p2) (n := n - 1) (z_in.mpr (by omega)) (by omega)
          exact ⟨i, by omega, e⟩
        have hi1 : 1 ≤ i := by rw [nI_toInt (by omega)] at c3; omega
        refine ⟨((mfo (10 * k + i) * (slO mxs mys (10 * k + i) - slO mxs mys (10 * k + (i - 1))).toInt64) / (1000 : Int64)).toInt32, ?_, ?_, h⟩
        · unfold fL_presses
          rw [if_pos hc, if_pos (z_rg hk (by omega)), z_cl (k := k) (by omega), a2, betw_t a1 (by omega), Option.bind_some, if_neg (by decide), if_pos (z_ok (by omega) (by omega)), bend_t (k := k) (mxs := mxs) (mys := mys) a1 (by omega) (fun j hj => (a10 j hj).2.2), Option.bind_some, z_cl (by omega), (a11 i (by omega)).1]
        · unfold fM_presses
          rw [hasF_t h6 hk hm, Option.bind_some, if_neg (by decide), if_pos (z_ok (by omega) (by omega)), z_cl (k := k) (by omega), a3, in_t (by rw [nI_m2 (by omega), z1]; exact c3), Option.bind_some, if_neg (by decide), slope_M (by omega) (by omega) (a10 i hi).1, Option.bind_some, show nI i - (1 : Int32) = nI (i - 1) from pk_sub (a := i) (b := 1) (by omega), slope_M (by omega) (by omega) (a10 (i - 1) (by omega)).1, Option.bind_some, ix10, if_pos (z_ok (by omega) (by omega)), z_cl (by omega)]
      · refine ⟨-2000000000, ?_, ?_, h⟩
        · unfold fL_presses
          rw [if_pos hc, if_pos (z_rg hk (by omega)), z_cl (k := k) (by omega), a2, betw_D a1, if_neg (by omega), Option.bind_some, if_pos rfl]
        · unfold fM_presses
          rw [hasF_t h6 hk hm, Option.bind_some, if_neg (by decide), if_pos (z_ok (by omega) (by omega)), z_cl (k := k) (by omega), a3, in_f (by rw [nI_m2 (by omega), z1]; exact c3), Option.bind_some, if_pos rfl]
  · refine ⟨-2000000000, ?_, ?_, h⟩
    · unfold fL_presses
      rw [if_neg (fun q => c q.1)]
    · unfold fM_presses
      rw [hasF_f h6 c, Option.bind_some, if_pos rfl]
