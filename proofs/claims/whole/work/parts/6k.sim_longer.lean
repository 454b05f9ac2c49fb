theorem sim_longer {fu : Nat} (hfu : 2000 ≤ fu) {N : Nat} {lc : Int32} {dc : Int32} {sp : Int32} {sh : Int32} {fd : Int32} {lo : Nat → Int32} {rough : Int32} {mu : Int32} {Rs : Nat → kR} {thr : Int32} {ten : Int32} {loc : Int32} {rou : Int32} {mum : Int32} {sli : Int32} {sha : Int32} {fad : Int32} {day : Int32} {mar : Nat → Int32} {msi : Nat → Int32} {mst : Nat → Int32} {men : Nat → Int32} {mpu : Nat → Int32} {mxs : Nat → Int32} {mys : Nat → Int32} {mfo : Nat → Int64} {mor : Nat → Int32} {mo1 : Nat → Int64} {mo2 : Nat → Int64} (h : Rl N lc dc sp sh fd lo rough mu Rs thr ten loc rou mum sli sha fad day mar msi mst men mpu mxs mys mfo mor mo1 mo2) (p1 : Int32) : ∃ (r : Int32), fL_longer fu N lc dc sp sh fd lo rough mu Rs p1 = some r ∧ fM_longer fu thr ten loc rou mum sli sha fad day mar msi mst men mpu mxs mys mfo mor mo1 mo2 p1 = some r ∧ Rl N lc dc sp sh fd lo rough mu Rs thr ten loc rou mum sli sha fad day mar msi mst men mpu mxs mys mfo mor mo1 mo2 := by
  obtain ⟨h6, rfl, rfl, rfl, rfl, rfl, rfl, rfl, rfl, hb, hK, hT, hU⟩ := id h
  rcases z_ix p1 (N := N) (by omega) with ⟨k, hk, rfl⟩ | c
  · obtain ⟨n, a1, a2, a3, a4, a5, a6, a7, a8, a9, a10, a11⟩ := hT k hk
    by_cases c2 : (Rs k).2.1 = 0
    · refine ⟨-1, ?_, ?_, h⟩
      · unfold fL_longer
        rw [z_cl (by omega), if_neg (fun q => q.2 c2)]
      · unfold fM_longer
        rw [hasF_0 h6 hk (by rw [a6, c2]; decide), Option.bind_some, if_pos rfl]
    · have hc : (¬ ((nI k) < 0 ∨ N ≤ (nI k).toNatClampNeg)) ∧ ¬ (Rs (nI k).toNatClampNeg).2.1 = 0 := ⟨z_ok hk (by omega), by rw [z_cl (by omega)]; exact c2⟩
      have hm : ¬ mst k ≤ 0 := by rw [a6, st_le a7]; exact c2
      refine ⟨(sm (fun i => pcO (mar k) mxs mys k i (mfo (10 * k + i) + mfo (10 * k + i + 1))) (n - 1)).toInt32, ?_, ?_, h⟩
      · have e : sm (fun i => pcO (Rs k).1 mxs mys k i ((Rs k).2.2.2.2.2.2.2.2.2.1 i + (Rs k).2.2.2.2.2.2.2.2.2.1 (i + 1))) (n - 1) = sm (fun i => pcO (mar k) mxs mys k i (mfo (10 * k + i) + mfo (10 * k + i + 1))) (n - 1) := sm_congr (fun i hi => by rw [(a11 i (by omega)).1, (a11 (i + 1) (by omega)).1, a4, Nat.add_assoc])
        unfold fL_longer
        rw [if_pos hc, if_pos (z_rg hk (by omega)), z_cl (k := k) (by omega), a2, str_D (k := k) (mxs := mxs) (mys := mys) (by omega) a5.1 a5.2 a1 (fun i hi => (a10 i hi).2.1), Option.bind_some, e]
      · unfold fM_longer
        rw [hasF_t h6 hk hm, Option.bind_some, if_neg (by decide), str_M (by omega) (by omega) (by rw [a4]; exact a5.1) (by rw [a4]; exact a5.2) a1 a3, Option.bind_some]
  · refine ⟨-1, ?_, ?_, h⟩
    · unfold fL_longer
      rw [if_neg (fun q => c q.1)]
    · unfold fM_longer
      rw [hasF_f h6 c, Option.bind_some, if_pos rfl]
