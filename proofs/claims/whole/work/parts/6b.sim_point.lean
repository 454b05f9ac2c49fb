theorem sim_point {fu : Nat} (hfu : 2000 ≤ fu) {N : Nat} {lc : Int32} {dc : Int32} {sp : Int32} {sh : Int32} {fd : Int32} {lo : Nat → Int32} {rough : Int32} {mu : Int32} {Rs : Nat → kR} {thr : Int32} {ten : Int32} {loc : Int32} {rou : Int32} {mum : Int32} {sli : Int32} {sha : Int32} {fad : Int32} {day : Int32} {mar : Nat → Int32} {msi : Nat → Int32} {mst : Nat → Int32} {men : Nat → Int32} {mpu : Nat → Int32} {mxs : Nat → Int32} {mys : Nat → Int32} {mfo : Nat → Int64} {mor : Nat → Int32} {mo1 : Nat → Int64} {mo2 : Nat → Int64} (h : Rl N lc dc sp sh fd lo rough mu Rs thr ten loc rou mum sli sha fad day mar msi mst men mpu mxs mys mfo mor mo1 mo2) (p1 p2 p3 : Int32) : ∃ (r : Int32) (Rs' : Nat → kR) (msi' : Nat → Int32) (mxs' : Nat → Int32) (mys' : Nat → Int32), fL_point fu N lc dc sp sh fd lo rough mu Rs p1 p2 p3 = some (r, Rs') ∧ fM_point fu thr ten loc rou mum sli sha fad day mar msi mst men mpu mxs mys mfo mor mo1 mo2 p1 p2 p3 = some (r, msi', mxs', mys') ∧ Rl N lc dc sp sh fd lo rough mu Rs' thr ten loc rou mum sli sha fad day mar msi' mst men mpu mxs' mys' mfo mor mo1 mo2 := by
  obtain ⟨h6, rfl, rfl, rfl, rfl, rfl, rfl, rfl, rfl, hb, ⟨K, hK⟩, hT, hU⟩ := id h
  rcases z_ix p1 (N := N) (by omega) with ⟨k, hk, rfl⟩ | c
  · obtain ⟨n, a1, a2, a3, a4, a5, a6, a7, a8, a9, a10, a11⟩ := hT k hk
    have zk : (nI k).toNatClampNeg = k := z_cl (by omega)
    by_cases c2 : (Rs k).2.1 = 0
    · have hm0 : ¬ (0 : Int32) < mst k := by rw [a6, c2]; decide
      by_cases c3 : n = 10
      · subst c3
        refine ⟨-1, Rs, _, _, _, ?_, ?_, h⟩
        · unfold fL_point
          rw [if_pos (z_ok hk (by omega)), if_pos (z_rg hk (by omega)), zk, if_pos c2, a2]
          unfold fD_mayGoOnTo
          rw [if_pos (by decide), Option.bind_some, if_pos rfl]
        · unfold fM_point
          rw [isT_t h6 hk, Option.bind_some, if_neg (by decide), zk, if_pos (z_ok2 (by omega) (by omega)), if_neg hm0, if_pos (z_ok2 (by omega) (by omega)), if_pos (by rw [a3]; decide)]
      · have hn : n < 10 := by omega
        have hne : ¬ msi k = (10 : Int32) := by
          rw [a3]
          intro q
          have := (nI_eq (a := n) (b := 10) (by omega) (by omega)).mp q
          omega
        -- what the class answers, and what it does
        have hcl : ∀ ok : Bool, fD_mayGoOnTo fu (nI n) (Rs k).2.2.2.2.2.1 (Rs k).2.2.2.2.2.2.1 (Rs k).2.2.2.2.2.2.2.1 (Rs k).2.2.2.2.2.2.2.2.1 p2 p3 = some (if ok then 1 else 0) → fL_point fu N loc day sli sha fad lo rou mum Rs (nI k) p2 p3 = (if ok then ((fD_goOnTo fu (nI n) (Rs k).2.2.2.2.2.1 (Rs k).2.2.2.2.2.2.1 (Rs k).2.2.2.2.2.2.2.1 (Rs k).2.2.2.2.2.2.2.2.1 p2 p3).bind fun r_42 => some ((r_42.1), (va_up Rs k (((Rs k).1), ((Rs k).2.1), ((Rs k).2.2.1), ((Rs k).2.2.2.1), (r_42.1), (r_42.2.1), (r_42.2.2.1), (r_42.2.2.2.1), (r_42.2.2.2.2), ((Rs k).2.2.2.2.2.2.2.2.2.1), ((Rs k).2.2.2.2.2.2.2.2.2.2))))) else some ((-1 : Int32), Rs)) := by
          intro ok hok
          unfold fL_point
          rw [if_pos (z_ok hk (by omega)), if_pos (z_rg hk (by omega)), zk, if_pos c2, a2, hok, Option.bind_some]
          cases ok
          · rfl
          · rfl
        have hbad : fD_mayGoOnTo fu (nI n) (Rs k).2.2.2.2.2.1 (Rs k).2.2.2.2.2.2.1 (Rs k).2.2.2.2.2.2.2.1 (Rs k).2.2.2.2.2.2.2.2.1 p2 p3 = some 0 → fL_point fu N loc day sli sha fad lo rou mum Rs (nI k) p2 p3 = some ((-1 : Int32), Rs) := fun q => by rw [hcl false q]; rfl
        have hgood : fD_mayGoOnTo fu (nI n) (Rs k).2.2.2.2.2.1 (Rs k).2.2.2.2.2.2.1 (Rs k).2.2.2.2.2.2.2.1 (Rs k).2.2.2.2.2.2.2.2.1 p2 p3 = some 1 → ∀ g, fD_goOnTo fu (nI n) (Rs k).2.2.2.2.2.1 (Rs k).2.2.2.2.2.2.1 (Rs k).2.2.2.2.2.2.2.1 (Rs k).2.2.2.2.2.2.2.2.1 p2 p3 = some g → fL_point fu N loc day sli sha fad lo rou mum Rs (nI k) p2 p3 = some (g.1, (va_up Rs k (((Rs k).1), ((Rs k).2.1), ((Rs k).2.2.1), ((Rs k).2.2.2.1), (g.1), (g.2.1), (g.2.2.1), (g.2.2.2.1), (g.2.2.2.2), ((Rs k).2.2.2.2.2.2.2.2.2.1), ((Rs k).2.2.2.2.2.2.2.2.2.2)))) := fun q g hg => by rw [hcl true q, hg]; rfl
        -- the relation behind it
        have hrel : ∀ (ln' sl' : Nat → Int32), 0 ≤ p2.toInt → p2.toInt ≤ 100000 → -3000 ≤ p3.toInt → p3.toInt ≤ 3000 →
            (∀ i, i + 1 < n + 1 → (upd mxs (10 * k + n) p2 (10 * k + i)).toInt + 100 ≤ (upd mxs (10 * k + n) p2 (10 * k + i + 1)).toInt ∧ ln' i = (lnO (upd mxs (10 * k + n) p2) (upd mys (10 * k + n) p3) (10 * k + i)).toInt32 ∧ sl' i = slO (upd mxs (10 * k + n) p2) (upd mys (10 * k + n) p3) (10 * k + i)) →
            Rl N loc day sli sha fad lo rou mum (va_up Rs k (((Rs k).1), ((Rs k).2.1), ((Rs k).2.2.1), ((Rs k).2.2.2.1), nI (n + 1), upd (Rs k).2.2.2.2.2.1 n p2, upd (Rs k).2.2.2.2.2.2.1 n p3, ln', sl', ((Rs k).2.2.2.2.2.2.2.2.2.1), ((Rs k).2.2.2.2.2.2.2.2.2.2))) thr (nI N) loc rou mum sli sha fad day mar (upd msi k (nI (n + 1))) mst men mpu (upd mxs (10 * k + n) p2) (upd mys (10 * k + n) p3) mfo mor mo1 mo2 := by
          intro ln' sl' hx1 hx2 hy1 hy2 hp
          refine ⟨h6, rfl, rfl, rfl, rfl, rfl, rfl, rfl, rfl, hb, ⟨K, hK.1, hK.2.1, ?_, hK.2.2.2⟩, ?_, ?_⟩
          · intro j
            rw [hK.2.2.1 j]
            by_cases e : j = k
            · subst e
              simp [va_up]
            · simp [va_up, e]
          · intro j hj
            by_cases e : j = k
            · subst e
              rw [show va_up Rs j _ j = _ from by unfold va_up; exact if_pos rfl]
              refine ⟨n + 1, by omega, rfl, upd_at, a4, a5, a6, a7, fun q => absurd c2 q, ?_, hp, a11⟩
              intro i hi
              dsimp only
              by_cases ei : i = n
              · subst ei
                rw [upd_at, upd_at, upd_at, upd_at]
                exact ⟨rfl, rfl, ⟨hx1, hx2⟩, hy1, hy2⟩
              · rw [upd_ne ei, upd_ne ei, upd_ne (by omega), upd_ne (by omega)]
                exact a9 i (by omega)
            · rw [show va_up Rs k _ j = Rs j from by unfold va_up; exact if_neg e]
              exact RlT_congr (hT j hj) rfl (upd_ne e) rfl rfl rfl (fun i hi => upd_ne (by omega)) (fun i hi => upd_ne (by omega)) (fun i hi => rfl)
          · intro j h1 h2
            have hu := hU j h1 h2
            exact ⟨by rw [upd_ne (by omega)]; exact hu.1, hu.2⟩
        by_cases c4 : 0 ≤ p2.toInt ∧ p2.toInt ≤ 100000
        · by_cases c5 : -3000 ≤ p3.toInt ∧ p3.toInt ≤ 3000
          · by_cases c6 : n = 0
            · subst c6
              refine ⟨nI 1, _, _, _, _, hgood (by rw [may_0, if_pos ⟨c5, c4⟩]) _ go_0, ?_, hrel _ _ c4.1 c4.2 c5.1 c5.2 (fun i hi => absurd hi (by omega))⟩
              unfold fM_point
              rw [isT_t h6 hk, Option.bind_some, if_neg (by decide), zk, if_pos (z_ok2 (by omega) (by omega)), if_neg hm0, if_pos (z_ok2 (by omega) (by omega)), if_neg hne, if_pos (z_ok2 (by omega) (by omega)), in_t (by exact c4), Option.bind_some, if_neg (by decide), in_t (by exact c5), Option.bind_some, if_neg (by decide), a3, if_pos (by decide), ix10, if_pos (z_ok (by omega) (by omega)), if_pos (z_ok (by omega) (by omega)), if_pos (z_ok2 (by omega) (by omega)), if_pos (z_ok2 (by omega) (by omega)), if_pos (z_ok2 (by omega) (by omega)), z_cl (by omega), nI_1, upd_at]
            · have hl := a9 (n - 1) (by omega)
              have hxe : (10 * k + n - 1) = 10 * k + (n - 1) := by omega
              have hsub : (p2 - mxs (10 * k + (n - 1))).toInt = p2.toInt - (mxs (10 * k + (n - 1))).toInt := i_sub (by omega) (by omega)
              have hsy : (p3 - mys (10 * k + (n - 1))).toInt = p3.toInt - (mys (10 * k + (n - 1))).toInt := i_sub (by omega) (by omega)
              have hpos : ¬ msi k ≤ (0 : Int32) := by
                rw [a3]
                intro q
                have := (nI_leI (a := n) (b := 0) (by omega) (by omega)).mp q
                omega
              have hmx : (10 : Int32) * nI k + msi k - (1 : Int32) = nI (10 * k + (n - 1)) := by
                rw [a3, ix10, show nI (10 * k + n) - (1 : Int32) = nI (10 * k + n - 1) from pk_sub (a := 10 * k + n) (b := 1) (by omega), hxe]
              by_cases c7 : (mxs (10 * k + (n - 1))).toInt + 100 ≤ p2.toInt
              · have h100 : (100 : Int32) ≤ p2 - mxs (10 * k + (n - 1)) := by
                  rw [Int32.le_iff_toInt_le, hsub, show (100 : Int32).toInt = 100 from rfl]
                  omega
                refine ⟨nI (n + 1), _, _, _, _, hgood (by rw [may_s (by omega) hn (by rw [hl.1]; exact hl.2.2.1), hl.1, if_pos ⟨c5, c7, c4.2⟩]) _ (go_s (by omega) (by omega) hn (by rw [hl.1, hsub]; omega)), ?_, hrel _ _ c4.1 c4.2 c5.1 c5.2 ?_⟩
                · unfold fM_point
                  rw [isT_t h6 hk, Option.bind_some, if_neg (by decide), zk, if_pos (z_ok2 (by omega) (by omega)), if_neg hm0, if_pos (z_ok2 (by omega) (by omega)), if_neg hne, if_pos (z_ok2 (by omega) (by omega)), in_t (by exact c4), Option.bind_some, if_neg (by decide), in_t (by exact c5), Option.bind_some, if_neg (by decide), if_neg hpos, hmx, if_pos (z_ok (by omega) (by omega)), z_cl (k := 10 * k + (n - 1)) (by omega), if_pos h100, a3, ix10, if_pos (z_ok (by omega) (by omega)), if_pos (z_ok (by omega) (by omega)), if_pos (z_ok2 (by omega) (by omega)), if_pos (z_ok2 (by omega) (by omega)), if_pos (z_ok2 (by omega) (by omega)), z_cl (by omega), nI_1, upd_at]
                · intro i hi
                  dsimp only
                  by_cases ei : i = n - 1
                  · subst ei
                    have e1 : 10 * k + (n - 1) + 1 = 10 * k + n := by omega
                    unfold lnO slO
                    rw [e1, upd_at, upd_at, upd_at, upd_at, upd_ne (show 10 * k + (n - 1) ≠ 10 * k + n by omega), upd_ne (show 10 * k + (n - 1) ≠ 10 * k + n by omega), hl.1, hl.2.1]
                    refine ⟨c7, rfl, slope_same ?_ ?_ ?_⟩
                    · rw [hsub]; omega
                    · rw [hsy]; omega
                    · rw [hsy]; omega
                  · have e2 := a10 i (by omega)
                    unfold lnO slO at e2 ⊢
                    rw [upd_ne ei, upd_ne ei, upd_ne (show 10 * k + i ≠ 10 * k + n by omega), upd_ne (show 10 * k + i ≠ 10 * k + n by omega), upd_ne (show 10 * k + i + 1 ≠ 10 * k + n by omega), upd_ne (show 10 * k + i + 1 ≠ 10 * k + n by omega)]
                    exact e2
              · have h100 : ¬ (100 : Int32) ≤ p2 - mxs (10 * k + (n - 1)) := by
                  rw [Int32.le_iff_toInt_le, hsub, show (100 : Int32).toInt = 100 from rfl]
                  omega
                refine ⟨-1, Rs, _, _, _, hbad (by rw [may_s (by omega) hn (by rw [hl.1]; exact hl.2.2.1), hl.1, if_neg (fun q => c7 q.2.1)]), ?_, h⟩
                unfold fM_point
                rw [isT_t h6 hk, Option.bind_some, if_neg (by decide), zk, if_pos (z_ok2 (by omega) (by omega)), if_neg hm0, if_pos (z_ok2 (by omega) (by omega)), if_neg hne, if_pos (z_ok2 (by omega) (by omega)), in_t (by exact c4), Option.bind_some, if_neg (by decide), in_t (by exact c5), Option.bind_some, if_neg (by decide), if_neg hpos, hmx, if_pos (z_ok (by omega) (by omega)), z_cl (k := 10 * k + (n - 1)) (by omega), if_neg h100]
          · refine ⟨-1, Rs, _, _, _, hbad ?_, ?_, h⟩
            · by_cases c6 : n = 0
              · subst c6
                rw [may_0, if_neg (fun q => c5 q.1)]
              · have hl := a9 (n - 1) (by omega)
                rw [may_s (by omega) hn (by rw [hl.1]; exact hl.2.2.1), if_neg (fun q => c5 q.1)]
            · unfold fM_point
              rw [isT_t h6 hk, Option.bind_some, if_neg (by decide), zk, if_pos (z_ok2 (by omega) (by omega)), if_neg hm0, if_pos (z_ok2 (by omega) (by omega)), if_neg hne, if_pos (z_ok2 (by omega) (by omega)), in_t (by exact c4), Option.bind_some, if_neg (by decide), in_f (by exact c5), Option.bind_some, if_pos rfl]
        · refine ⟨-1, Rs, _, _, _, hbad ?_, ?_, h⟩
          · by_cases c6 : n = 0
            · subst c6
              rw [may_0, if_neg (fun q => c4 q.2)]
            · have hl := a9 (n - 1) (by omega)
              rw [may_s (by omega) hn (by rw [hl.1]; exact hl.2.2.1), hl.1, if_neg (fun q => c4 (by omega))]
          · unfold fM_point
            rw [isT_t h6 hk, Option.bind_some, if_neg (by decide), zk, if_pos (z_ok2 (by omega) (by omega)), if_neg hm0, if_pos (z_ok2 (by omega) (by omega)), if_neg hne, if_pos (z_ok2 (by omega) (by omega)), in_f (by exact c4), Option.bind_some, if_pos rfl]
    · have hm1 : (0 : Int32) < mst k := by
        rw [a6]
        rcases a7 with q | q | q
        · exact absurd q c2
        · rw [q]; decide
        · rw [q]; decide
      refine ⟨-1, Rs, _, _, _, ?_, ?_, h⟩
      · unfold fL_point
        rw [if_pos (z_ok hk (by omega)), if_pos (z_rg hk (by omega)), zk, if_neg c2]
      · unfold fM_point
        rw [isT_t h6 hk, Option.bind_some, if_neg (by decide), if_pos (z_ok (by omega) (by omega)), zk, if_pos hm1]
  · refine ⟨-1, Rs, _, _, _, ?_, ?_, h⟩
    · unfold fL_point
      rw [if_neg c]
    · unfold fM_point
      rw [isT_f h6 c, Option.bind_some, if_pos rfl]
