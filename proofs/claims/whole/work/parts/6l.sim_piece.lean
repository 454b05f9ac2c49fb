theorem sim_piece {fu : Nat} (hfu : 2000 ≤ fu) {N : Nat} {lc : Int32} {dc : Int32} {sp : Int32} {sh : Int32} {fd : Int32} {lo : Nat → Int32} {rough : Int32} {mu : Int32} {Rs : Nat → kR} {thr : Int32} {ten : Int32} {loc : Int32} {rou : Int32} {mum : Int32} {sli : Int32} {sha : Int32} {fad : Int32} {day : Int32} {mar : Nat → Int32} {msi : Nat → Int32} {mst : Nat → Int32} {men : Nat → Int32} {mpu : Nat → Int32} {mxs : Nat → Int32} {mys : Nat → Int32} {mfo : Nat → Int64} {mor : Nat → Int32} {mo1 : Nat → Int64} {mo2 : Nat → Int64} (h : Rl N lc dc sp sh fd lo rough mu Rs thr ten loc rou mum sli sha fad day mar msi mst men mpu mxs mys mfo mor mo1 mo2) (p1 p2 p3 : Int32) : ∃ (r : Int32), fL_piece fu N lc dc sp sh fd lo rough mu Rs p1 p2 p3 = some r ∧ fM_piece fu thr ten loc rou mum sli sha fad day mar msi mst men mpu mxs mys mfo mor mo1 mo2 p1 p2 p3 = some r ∧ Rl N lc dc sp sh fd lo rough mu Rs thr ten loc rou mum sli sha fad day mar msi mst men mpu mxs mys mfo mor mo1 mo2 := by
  obtain ⟨h6, rfl, rfl, rfl, rfl, rfl, rfl, rfl, rfl, hb, hK, hT, hU⟩ := id h
  rcases z_ix p1 (N := N) (by omega) with ⟨k, hk, rfl⟩ | c
  · obtain ⟨n, a1, a2, a3, a4, a5, a6, a7, a8, a9, a10, a11⟩ := hT k hk
    by_cases c2 : 0 ≤ p2.toInt ∧ p2.toInt ≤ (n : Int) - 2
    · obtain ⟨i, hi, rfl⟩ : ∃ i, i + 1 < n ∧ p2 = nI i := by
        obtain ⟨i, hi, e⟩ := vp_in_of (x := p2) (n := n - 1) (z_in.mpr (by omega)) (by omega)
        exact ⟨i, by omega, e⟩
      have hcl : ∀ X : Option Int32, (fL_piece fu N loc day sli sha fad lo rou mum Rs (nI k) (nI i) p3 = X) = ((if p3 = (0 : Int32) then some ((lnO mxs mys (10 * k + i)).toInt32) else (if p3 = (1 : Int32) then some (slO mxs mys (10 * k + i)) else (if p3 = (2 : Int32) then some (trO mxs mys k n (i + 1)) else some (-1 : Int32)))) = X) := fun X => by
        unfold fL_piece
        rw [if_pos (z_ok hk (by omega)), if_pos (z_rg hk (by omega)), z_cl (k := k) (by omega), a2]
        unfold fD_hasPiece
        rw [iw_t (by rw [nI_m2 (by omega), z0]; exact c2), Option.bind_some, if_pos (by decide), Option.bind_some, if_neg (by decide), if_pos (z_ok (by omega) (by omega)), if_pos (z_ok (by omega) (by omega)), z_cl (k := i) (by omega), (a10 i hi).2.1, (a10 i hi).2.2, nI_1, turn_D (k := k) (mxs := mxs) (mys := mys) a1 (by omega) (fun j hj => (a10 j hj).2.2), Option.bind_some]
      have hcm : ∀ X : Option Int32, (fM_piece fu thr (nI N) loc rou mum sli sha fad day mar msi mst men mpu mxs mys mfo mor mo1 mo2 (nI k) (nI i) p3 = X) = (((fM_in fu p3 (0 : Int32) (2 : Int32)).bind fun r_27 => (if r_27 = (0 : Int32) then some (-1 : Int32) else (if p3 = (0 : Int32) then some ((lnO mxs mys (10 * k + i)).toInt32) else (if p3 = (1 : Int32) then some (slO mxs mys (10 * k + i)) else some (trO mxs mys k n (i + 1)))))) = X) := fun X => by
        unfold fM_piece
        rw [isT_t h6 hk, Option.bind_some, if_neg (by decide), if_pos (z_ok (by omega) (by omega)), z_cl (k := k) (by omega), a3, in_t (by rw [nI_m2 (by omega), z0]; exact c2), Option.bind_some, if_neg (by decide), len_M (by omega) (by omega) (by omega), slope_M (by omega) (by omega) (a10 i hi).1, nI_1, turn_M (by omega) a1 (by omega) a3 (fun j hj => (a10 j hj).1), Option.bind_some, Option.bind_some, Option.bind_some]
      by_cases q0 : p3 = 0
      · refine ⟨(lnO mxs mys (10 * k + i)).toInt32, ?_, ?_, h⟩
        · rw [hcl, if_pos q0]
        · rw [hcm, in_t (by rw [q0]; decide), Option.bind_some, if_neg (by decide), if_pos q0]
      · by_cases q1 : p3 = 1
        · refine ⟨slO mxs mys (10 * k + i), ?_, ?_, h⟩
          · rw [hcl, if_neg q0, if_pos q1]
          · rw [hcm, in_t (by rw [q1]; decide), Option.bind_some, if_neg (by decide), if_neg q0, if_pos q1]
        · by_cases q2 : p3 = 2
          · refine ⟨trO mxs mys k n (i + 1), ?_, ?_, h⟩
            · rw [hcl, if_neg q0, if_neg q1, if_pos q2]
            · rw [hcm, in_t (by rw [q2]; decide), Option.bind_some, if_neg (by decide), if_neg q0, if_neg q1]
          · refine ⟨-1, ?_, ?_, h⟩
            · rw [hcl, if_neg q0, if_neg q1, if_neg q2]
            · have t0 := lv_neT q0 (show (0 : Int32).toInt = 0 from rfl)
              have t1 := lv_neT q1 (show (1 : Int32).toInt = 1 from rfl)
              have t2 := lv_neT q2 (show (2 : Int32).toInt = 2 from rfl)
              rw [hcm, in_f (by rw [z0, show (2 : Int32).toInt = 2 from rfl]; omega), Option.bind_some, if_pos rfl]
    · refine ⟨-1, ?_, ?_, h⟩
      · unfold fL_piece
        rw [if_pos (z_ok hk (by omega)), if_pos (z_rg hk (by omega)), z_cl (k := k) (by omega), a2]
        unfold fD_hasPiece
        rw [iw_f (by rw [nI_m2 (by omega), z0]; exact c2), Option.bind_some, if_pos (by decide), Option.bind_some, if_pos rfl]
      · unfold fM_piece
        rw [isT_t h6 hk, Option.bind_some, if_neg (by decide), if_pos (z_ok (by omega) (by omega)), z_cl (k := k) (by omega), a3, in_f (by rw [nI_m2 (by omega), z0]; exact c2), Option.bind_some, if_pos rfl]
  · refine ⟨-1, ?_, ?_, h⟩
    · unfold fL_piece
      rw [if_neg c]
    · unfold fM_piece
      rw [isT_f h6 c, Option.bind_some, if_pos rfl]
