theorem hasP_D {fu n : Nat} {xs ys ln sl : Nat → Int32} (hn : n ≤ 10) : fD_hasPieces fu (nI n) xs ys ln sl = some (if 2 ≤ n then 1 else 0) := by
  unfold fD_hasPieces
  by_cases c : 2 ≤ n
  · rw [if_neg (by rw [Int32.lt_iff_toInt_lt, nI_toInt (by omega), show (2 : Int32).toInt = 2 from rfl]; omega), if_pos c]
  · rw [if_pos (by rw [Int32.lt_iff_toInt_lt, nI_toInt (by omega), show (2 : Int32).toInt = 2 from rfl]; omega), if_neg c]
theorem pull_60 {fu n k : Nat} {thr ten loc rou mum sli sha fad day p2 p3 : Int32} {mar msi mst men mpu mxs mys : Nat → Int32} {mor : Nat → Int32} {o1 o2 : Nat → Int64} (hf : 2000 ≤ fu) (hk : k < 6) (hn : n ≤ 10) (hs : msi k = nI n) (ha1 : 50 ≤ (mar k).toInt) (ha2 : (mar k).toInt ≤ 10000) : ∀ m i q (arr : Nat → Int64), i + m = n → m < q → ∃ g : Nat → Int64, (∀ x, g x = if 10 * k + i ≤ x ∧ x < 10 * k + n then o1 (x - 10 * k) else arr x) ∧
    fM_pull_L60 fu thr ten loc rou mum sli sha fad day mar msi mst men mpu mxs mys mor (nI k) p2 p3 (o1, o2) q (nI i) arr = some ((sm (fun i => pcO (mar k) mxs mys k i (g (10 * k + i) + g (10 * k + i + 1))) (n - 1)).toInt32, upd mst k 1, upd men k p2, upd mpu k p3, g, o1, o2) := by
  intro m
  induction m with
  | zero =>
    intro i q arr hi hq
    obtain ⟨q, rfl⟩ : ∃ z, q = z + 1 := ⟨q - 1, by omega⟩
    refine ⟨arr, fun x => by rw [if_neg (by omega)], ?_⟩
    rw [fM_pull_L60_s, if_pos (z_ok (by omega) (by omega)), z_cl (k := k) (by omega), hs, if_pos (nI_le (by omega) (by omega)), if_pos (z_ok2 (by omega) (by omega)), if_pos (z_ok2 (by omega) (by omega)), if_pos (z_ok2 (by omega) (by omega)), str_M (by omega) hk ha1 ha2 hn hs, Option.bind_some]
  | succ m ih =>
    intro i q arr hi hq
    obtain ⟨q, rfl⟩ : ∃ z, q = z + 1 := ⟨q - 1, by omega⟩
    obtain ⟨g, g1, g2⟩ := ih (i + 1) q (vp_updL arr (10 * k + i) (o1 i)) (by omega) (by omega)
    refine ⟨g, ?_, ?_⟩
    · intro x
      rw [g1 x]
      by_cases ex : x = 10 * k + i
      · rw [ex, if_neg (by omega), if_pos (by omega), updL_at, Nat.add_sub_cancel_left]
      · rw [updL_ne ex]
        by_cases c : 10 * k + i ≤ x ∧ x < 10 * k + n
        · rw [if_pos (by omega), if_pos c]
        · rw [if_neg (by omega), if_neg c]
    · rw [fM_pull_L60_s, if_pos (z_ok (by omega) (by omega)), z_cl (k := k) (by omega), hs, if_neg (nI_ge (by omega) (by omega)), if_pos (z_ok (by omega) (by omega)), ix10, if_pos (z_ok (by omega) (by omega)), z_cl (by omega), z_cl (by omega), nI_1]
      exact g2
theorem sim_pull {fu : Nat} (hfu : 2000 ≤ fu) {N : Nat} {lc : Int32} {dc : Int32} {sp : Int32} {sh : Int32} {fd : Int32} {lo : Nat → Int32} {rough : Int32} {mu : Int32} {Rs : Nat → kR} {thr : Int32} {ten : Int32} {loc : Int32} {rou : Int32} {mum : Int32} {sli : Int32} {sha : Int32} {fad : Int32} {day : Int32} {mar : Nat → Int32} {msi : Nat → Int32} {mst : Nat → Int32} {men : Nat → Int32} {mpu : Nat → Int32} {mxs : Nat → Int32} {mys : Nat → Int32} {mfo : Nat → Int64} {mor : Nat → Int32} {mo1 : Nat → Int64} {mo2 : Nat → Int64} (h : Rl N lc dc sp sh fd lo rough mu Rs thr ten loc rou mum sli sha fad day mar msi mst men mpu mxs mys mfo mor mo1 mo2) (p1 p2 p3 : Int32) : ∃ (r : Int32) (Rs' : Nat → kR) (mst' : Nat → Int32) (men' : Nat → Int32) (mpu' : Nat → Int32) (mfo' : Nat → Int64) (mo1' : Nat → Int64) (mo2' : Nat → Int64), fL_pull fu N lc dc sp sh fd lo rough mu Rs p1 p2 p3 = some (r, Rs') ∧ fM_pull fu thr ten loc rou mum sli sha fad day mar msi mst men mpu mxs mys mfo mor mo1 mo2 p1 p2 p3 = some (r, mst', men', mpu', mfo', mo1', mo2') ∧ Rl N lc dc sp sh fd lo rough mu Rs' thr ten loc rou mum sli sha fad day mar msi mst' men' mpu' mxs mys mfo' mor mo1' mo2' := by
  obtain ⟨h6, rfl, rfl, rfl, rfl, rfl, rfl, rfl, rfl, hb, ⟨K, hK⟩, hT, hU⟩ := id h
  rcases z_ix p1 (N := N) (by omega) with ⟨k, hk, rfl⟩ | c
  · obtain ⟨n, a1, a2, a3, a4, a5, a6, a7, a8, a9, a10, a11⟩ := hT k hk
    have zk : (nI k).toNatClampNeg = k := z_cl (by omega)
    by_cases c1 : (Rs k).2.1 = 2
    · refine ⟨-1, Rs, _, _, _, _, _, _, ?_, ?_, h⟩
      · unfold fL_pull
        rw [if_pos (z_ok hk (by omega)), if_pos (z_rg hk (by omega)), zk, if_pos c1]
      · unfold fM_pull
        rw [isT_t h6 hk, Option.bind_some, if_neg (by decide), zk, if_pos (z_ok2 (by omega) (by omega)), if_pos (by rw [a6]; exact c1)]
    · have c1m : ¬ mst k = 2 := by rw [a6]; exact c1
      by_cases c2 : 2 ≤ n
      · have c2m : ¬ msi k < (2 : Int32) := by rw [a3, Int32.lt_iff_toInt_lt, nI_toInt (by omega), show (2 : Int32).toInt = 2 from rfl]; omega
        by_cases c3 : 1 ≤ p2.toInt ∧ p2.toInt ≤ 3
        · by_cases c4 : 1 ≤ p3.toInt ∧ p3.toInt ≤ 10000000
          · have hp2 : p2 = 1 ∨ p2 = 2 ∨ p2 = 3 := by
              rcases (show p2.toInt = 1 ∨ p2.toInt = 2 ∨ p2.toInt = 3 by omega) with q | q | q
              · exact Or.inl (Int32.toInt_inj.mp q)
              · exact Or.inr (Or.inl (Int32.toInt_inj.mp q))
              · exact Or.inr (Or.inr (Int32.toInt_inj.mp q))
            have hg : GeO mxs mys k n := ⟨fun i hi => (a9 i hi).2.2, fun i hi => (a10 i hi).1⟩
            obtain ⟨o1, o2, hd, ho⟩ := dAll (fu := fu) (thr := thr) (ten := nI N) (loc := loc) (rou := rou) (mum := mum) (sli := sli) (sha := sha) (fad := fad) (day := day) (mar := mar) (mst := mst) (men := men) (mpu := mpu) (mfo := mfo) (mor := mor) (mo1 := mo1) (mo2 := mo2) (F := p3.toInt64) hfu (by omega) a1 a3 hg hp2
            obtain ⟨g, g1, g2⟩ := pull_60 (fu := fu) (thr := thr) (ten := nI N) (loc := loc) (rou := rou) (mum := mum) (sli := sli) (sha := sha) (fad := fad) (day := day) (p2 := p2) (p3 := p3) (mar := mar) (mst := mst) (men := men) (mpu := mpu) (mxs := mxs) (mys := mys) (mor := mor) (o1 := o1) (o2 := o2) hfu (show k < 6 by omega) a1 a3 (by rw [a4]; exact a5.1) (by rw [a4]; exact a5.2) n 0 fu mfo (by omega) (by omega)
            have hst := strain_f (fu := fu) (k := k) (n := n) (xs := (Rs k).2.2.2.2.2.1) (ys := (Rs k).2.2.2.2.2.2.1) (ln := (Rs k).2.2.2.2.2.2.2.1) (sl := (Rs k).2.2.2.2.2.2.2.2.1) (mxs := mxs) (mys := mys) (rough := rou) (mu := mum) (area := (Rs k).1) (state := (Rs k).2.1) (pf := (Rs k).2.2.1) (pw := (Rs k).2.2.2.1) (p2 := p2) (p3 := p3) (fo := (Rs k).2.2.2.2.2.2.2.2.2.1) (tr := (Rs k).2.2.2.2.2.2.2.2.2.2) hfu a1 hb.1 hb.2.1 hg ⟨by omega, c4.2⟩ (fun i hi => (a10 i hi).2.1) (fun i hi => (a10 i hi).2.2) hp2
            have hgi : ∀ i, i < 10 → (if i < n then frO rou mum mxs mys k n p2 p3.toInt64 i else (Rs k).2.2.2.2.2.2.2.2.2.1 i) = g (10 * k + i) ∧ 0 ≤ (g (10 * k + i)).toInt ∧ (g (10 * k + i)).toInt ≤ 10000000 := by
              intro i hi
              have hF' : 0 ≤ (p3.toInt64).toInt ∧ (p3.toInt64).toInt ≤ 10000000 := by rw [Int32.toInt_toInt64]; omega
              rw [g1]
              by_cases q : i < n
              · have hfr := frO_in (from_ := p2) hb.1 hb.2.1 hg hF' q
                rw [if_pos q, if_pos (by omega), Nat.add_sub_cancel_left, ho i q]
                exact ⟨rfl, hfr.1, by omega⟩
              · rw [if_neg q, if_neg (by omega)]
                exact a11 i hi
            have hsum : sm (fun i => pcO (Rs k).1 mxs mys k i ((if i < n then frO rou mum mxs mys k n p2 p3.toInt64 i else (Rs k).2.2.2.2.2.2.2.2.2.1 i) + (if i + 1 < n then frO rou mum mxs mys k n p2 p3.toInt64 (i + 1) else (Rs k).2.2.2.2.2.2.2.2.2.1 (i + 1)))) (n - 1) = sm (fun i => pcO (mar k) mxs mys k i (g (10 * k + i) + g (10 * k + i + 1))) (n - 1) := sm_congr (fun i hi => by rw [(hgi i (by omega)).1, (hgi (i + 1) (by omega)).1, a4, Nat.add_assoc])
            refine ⟨(sm (fun i => pcO (mar k) mxs mys k i (g (10 * k + i) + g (10 * k + i + 1))) (n - 1)).toInt32, va_up Rs k ((Rs k).1, 1, p2, p3, (Rs k).2.2.2.2.1, (Rs k).2.2.2.2.2.1, (Rs k).2.2.2.2.2.2.1, (Rs k).2.2.2.2.2.2.2.1, (Rs k).2.2.2.2.2.2.2.2.1, (fun j => if j < n then frO rou mum mxs mys k n p2 p3.toInt64 j else (Rs k).2.2.2.2.2.2.2.2.2.1 j), (Rs k).2.2.2.2.2.2.2.2.2.2), upd mst k 1, upd men k p2, upd mpu k p3, g, o1, o2, ?_, ?_, h6, rfl, rfl, rfl, rfl, rfl, rfl, rfl, rfl, hb, ⟨K, hK.1, hK.2.1, ?_, hK.2.2.2⟩, ?_, ?_⟩
            · unfold fL_pull
              rw [if_pos (z_ok hk (by omega)), if_pos (z_rg hk (by omega)), zk, if_neg c1, a2, hasP_D a1, Option.bind_some, if_pos c2, if_neg (by decide), iw_t (by exact c3), Option.bind_some, if_neg (by decide), iw_t (by exact c4), Option.bind_some, if_neg (by decide)]
              unfold fT_startPulling
              rw [hst, Option.bind_some, Option.bind_some, str_D (k := k) (mxs := mxs) (mys := mys) (by omega) a5.1 a5.2 a1 (fun i hi => (a10 i hi).2.1), Option.bind_some]
              dsimp only
              rw [hsum]
            · unfold fM_pull
              rw [isT_t h6 hk, Option.bind_some, if_neg (by decide), zk, if_pos (z_ok2 (by omega) (by omega)), if_neg c1m, if_pos (z_ok2 (by omega) (by omega)), if_neg c2m, in_t (by exact c3), Option.bind_some, if_neg (by decide), in_t (by exact c4), Option.bind_some, if_neg (by decide), hd, Option.bind_some]
              exact g2
            · intro j
              rw [hK.2.2.1 j]
              by_cases e : j = k
              · subst e
                constructor
                · intro q; exact absurd q.2 c1
                · intro q
                  have q2 := q.2
                  simp [va_up] at q2
              · simp [va_up, e]
            · intro j hj
              by_cases e : j = k
              · subst e
                rw [show va_up Rs j _ j = _ from by unfold va_up; exact if_pos rfl]
                exact ⟨n, a1, a2, a3, a4, a5, upd_at, Or.inr (Or.inl rfl), fun _ => ⟨c2, upd_at, upd_at, hp2, c4.1, c4.2⟩, a9, a10, fun i hi => hgi i hi⟩
              · rw [show va_up Rs k _ j = Rs j from by unfold va_up; exact if_neg e]
                refine RlT_congr (hT j hj) rfl rfl (upd_ne e) (upd_ne e) (upd_ne e) (fun i hi => rfl) (fun i hi => rfl) (fun i hi => ?_)
                rw [g1, if_neg (by omega)]
            · intro j q1 q2
              have hu := hU j q1 q2
              refine ⟨hu.1, by rw [upd_ne (by omega)]; exact hu.2.1, fun i hi => ?_⟩
              rw [g1, if_neg (by omega)]
              exact hu.2.2 i hi
          · refine ⟨-1, Rs, _, _, _, _, _, _, ?_, ?_, h⟩
            · unfold fL_pull
              rw [if_pos (z_ok hk (by omega)), if_pos (z_rg hk (by omega)), zk, if_neg c1, a2, hasP_D a1, Option.bind_some, if_pos c2, if_neg (by decide), iw_t (by exact c3), Option.bind_some, if_neg (by decide), iw_f (by exact c4), Option.bind_some, if_pos rfl]
            · unfold fM_pull
              rw [isT_t h6 hk, Option.bind_some, if_neg (by decide), zk, if_pos (z_ok2 (by omega) (by omega)), if_neg c1m, if_pos (z_ok2 (by omega) (by omega)), if_neg c2m, in_t (by exact c3), Option.bind_some, if_neg (by decide), in_f (by exact c4), Option.bind_some, if_pos rfl]
        · refine ⟨-1, Rs, _, _, _, _, _, _, ?_, ?_, h⟩
          · unfold fL_pull
            rw [if_pos (z_ok hk (by omega)), if_pos (z_rg hk (by omega)), zk, if_neg c1, a2, hasP_D a1, Option.bind_some, if_pos c2, if_neg (by decide), iw_f (by exact c3), Option.bind_some, if_pos rfl]
          · unfold fM_pull
            rw [isT_t h6 hk, Option.bind_some, if_neg (by decide), zk, if_pos (z_ok2 (by omega) (by omega)), if_neg c1m, if_pos (z_ok2 (by omega) (by omega)), if_neg c2m, in_f (by exact c3), Option.bind_some, if_pos rfl]
      · have c2m : msi k < (2 : Int32) := by rw [a3, Int32.lt_iff_toInt_lt, nI_toInt (by omega), show (2 : Int32).toInt = 2 from rfl]; omega
        refine ⟨-1, Rs, _, _, _, _, _, _, ?_, ?_, h⟩
        · unfold fL_pull
          rw [if_pos (z_ok hk (by omega)), if_pos (z_rg hk (by omega)), zk, if_neg c1, a2, hasP_D a1, Option.bind_some, if_neg c2, if_pos rfl]
        · unfold fM_pull
          rw [isT_t h6 hk, Option.bind_some, if_neg (by decide), zk, if_pos (z_ok2 (by omega) (by omega)), if_neg c1m, if_pos (z_ok2 (by omega) (by omega)), if_pos c2m]
  · refine ⟨-1, Rs, _, _, _, _, _, _, ?_, ?_, h⟩
    · unfold fL_pull
      rw [if_neg c]
    · unfold fM_pull
      rw [isT_f h6 c, Option.bind_some, if_pos rfl]
