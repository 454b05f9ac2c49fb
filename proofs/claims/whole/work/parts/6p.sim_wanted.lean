def mn (a : Int64) (f : Nat → Int64) : Nat → Int64
  | 0 => a
  | i + 1 => if f i < mn a f i then f i else mn a f i
theorem mn_1 {a : Int64} {f : Nat → Int64} (h : (f 0).toInt ≤ a.toInt) : mn a f 1 = f 0 := by
  show (if f 0 < a then f 0 else a) = f 0
  by_cases c : f 0 < a
  · rw [if_pos c]
  · rw [if_neg c]
    rw [Int64.lt_iff_toInt_lt] at c
    exact Int64.toInt_inj.mp (by omega)
theorem least_18 {fu n : Nat} {a : Int64} {arr f : Nat → Int64} (hn : n ≤ 10) (hf : ∀ j, j < n → arr j = f j) : ∀ m i q, i + m = n → m < q → fT_leastForceIfPulled_L18 fu (nI n) arr q (nI i) (mn a f i) = some (mn a f n, arr) := by
  intro m
  induction m with
  | zero =>
    intro i q hi hq
    obtain ⟨q, rfl⟩ : ∃ z, q = z + 1 := ⟨q - 1, by omega⟩
    rw [fT_leastForceIfPulled_L18_s, if_pos (nI_le (by omega) (by omega)), show i = n by omega]
  | succ m ih =>
    intro i q hi hq
    obtain ⟨q, rfl⟩ : ∃ z, q = z + 1 := ⟨q - 1, by omega⟩
    rw [fT_leastForceIfPulled_L18_s, if_neg (nI_ge (by omega) (by omega)), if_pos (z_ok (by omega) (by omega)), z_cl (by omega), nI_1, hf i (by omega)]
    exact ih (i + 1) q (by omega) (by omega)
theorem want_72 {fu n k : Nat} {a : Int64} {msi : Nat → Int32} {p3 p4 zz : Int32} {o1 o2 f : Nat → Int64} {kont : Int32 → (Nat → Int64) → (Nat → Int64) → Option (Int32 × (Nat → Int64) × (Nat → Int64))} (hk : k < 6) (hn : n ≤ 10) (hs : msi k = nI n) (hf : ∀ j, j < n → o1 j = f j) : ∀ m i q, i + m = n → m < q →
    fM_wanted_L72 fu msi (nI k) p3 p4 zz (o1, o2) kont q (nI i) (mn a f i) = if mn a f n < p4.toInt64 then kont (zz + 1) o1 o2 else some (zz * p3, o1, o2) := by
  intro m
  induction m with
  | zero =>
    intro i q hi hq
    obtain ⟨q, rfl⟩ : ∃ z, q = z + 1 := ⟨q - 1, by omega⟩
    rw [fM_wanted_L72_s, if_pos (z_ok (by omega) (by omega)), z_cl (by omega), hs, if_pos (nI_le (by omega) (by omega)), show i = n by omega]
  | succ m ih =>
    intro i q hi hq
    obtain ⟨q, rfl⟩ : ∃ z, q = z + 1 := ⟨q - 1, by omega⟩
    have h2 := ih (i + 1) q (by omega) (by omega)
    have hj : (if mn a f i ≤ f i then some (mn a f i) else (if ¬ (nI i < 0 ∨ 10 ≤ i) then some (f i) else none)) = some (mn a f (i + 1)) := by
      show _ = some (if f i < mn a f i then f i else mn a f i)
      by_cases c : mn a f i ≤ f i
      · rw [if_pos c, if_neg (by rw [Int64.lt_iff_toInt_lt]; rw [Int64.le_iff_toInt_le] at c; omega)]
      · rw [if_neg c, if_pos (z_ok2 (by omega) (by omega)), if_pos (by rw [Int64.lt_iff_toInt_lt]; rw [Int64.le_iff_toInt_le] at c; omega)]
    rw [fM_wanted_L72_s, if_pos (z_ok (by omega) (by omega)), z_cl (k := k) (by omega), hs, if_neg (nI_ge (by omega) (by omega)), if_pos (z_ok (by omega) (by omega)), z_cl (k := i) (by omega), show (o1, o2).fst i = f i from hf i (by omega), hj, Option.bind_some, nI_1]
    exact h2
/-- the tendons with another row of tried forces at k -/
def wR (Rs : Nat → kR) (k : Nat) (t : Nat → Int64) : Nat → kR := va_up Rs k ((Rs k).1, (Rs k).2.1, (Rs k).2.2.1, (Rs k).2.2.2.1, (Rs k).2.2.2.2.1, (Rs k).2.2.2.2.2.1, (Rs k).2.2.2.2.2.2.1, (Rs k).2.2.2.2.2.2.2.1, (Rs k).2.2.2.2.2.2.2.2.1, (Rs k).2.2.2.2.2.2.2.2.2.1, t)
theorem wR_at {Rs : Nat → kR} {k : Nat} {t : Nat → Int64} : wR Rs k t k = ((Rs k).1, (Rs k).2.1, (Rs k).2.2.1, (Rs k).2.2.2.1, (Rs k).2.2.2.2.1, (Rs k).2.2.2.2.2.1, (Rs k).2.2.2.2.2.2.1, (Rs k).2.2.2.2.2.2.2.1, (Rs k).2.2.2.2.2.2.2.2.1, (Rs k).2.2.2.2.2.2.2.2.2.1, t) := by
  unfold wR va_up
  exact if_pos rfl
theorem wR_ne {Rs : Nat → kR} {k j : Nat} {t : Nat → Int64} (h : j ≠ k) : wR Rs k t j = Rs j := by
  unfold wR va_up
  exact if_neg h
theorem wR_self {Rs : Nat → kR} {k : Nat} : wR Rs k (Rs k).2.2.2.2.2.2.2.2.2.2 = Rs := by
  funext j
  by_cases h : j = k
  · subst h; rw [wR_at]
  · rw [wR_ne h]
theorem wR_again {Rs : Nat → kR} {k : Nat} {t t' : Nat → Int64} : va_up (wR Rs k t) k ((Rs k).1, (Rs k).2.1, (Rs k).2.2.1, (Rs k).2.2.2.1, (Rs k).2.2.2.2.1, (Rs k).2.2.2.2.2.1, (Rs k).2.2.2.2.2.2.1, (Rs k).2.2.2.2.2.2.2.1, (Rs k).2.2.2.2.2.2.2.2.1, (Rs k).2.2.2.2.2.2.2.2.2.1, t') = wR Rs k t' := by
  funext j
  by_cases h : j = k
  · subst h
    rw [wR_at]
    unfold va_up
    exact if_pos rfl
  · rw [wR_ne h]
    unfold va_up
    rw [if_neg h]
    exact wR_ne h
theorem mul_same {z : Nat} {p : Int32} (hz : z ≤ 50) (h1 : 1 ≤ p.toInt) (h2 : p.toInt ≤ 200000) : (nI z * p).toInt64 = (nI z).toInt64 * p.toInt64 ∧ 0 ≤ (nI z * p).toInt ∧ (nI z * p).toInt ≤ 10000000 := by
  have b1 : 0 ≤ (z : Int) * p.toInt := Int.mul_nonneg (by omega) (by omega)
  have b2 : (z : Int) * p.toInt ≤ 50 * 200000 := Int.mul_le_mul (by omega) h2 (by omega) (by omega)
  have e1 : (nI z * p).toInt = (z : Int) * p.toInt := by
    rw [i_mul, nI_toInt (by omega)] <;> rw [nI_toInt (by omega)] <;> omega
  refine ⟨?_, by omega, by omega⟩
  apply Int64.toInt_inj.mp
  rw [Int32.toInt_toInt64, e1, l_mul, Int32.toInt_toInt64, Int32.toInt_toInt64, nI_toInt (by omega)]
  · rw [Int32.toInt_toInt64, Int32.toInt_toInt64, nI_toInt (by omega)]; omega
  · rw [Int32.toInt_toInt64, Int32.toInt_toInt64, nI_toInt (by omega)]; omega
theorem sim_wanted {fu : Nat} (hfu : 2000 ≤ fu) {N : Nat} {lc : Int32} {dc : Int32} {sp : Int32} {sh : Int32} {fd : Int32} {lo : Nat → Int32} {rough : Int32} {mu : Int32} {Rs : Nat → kR} {thr : Int32} {ten : Int32} {loc : Int32} {rou : Int32} {mum : Int32} {sli : Int32} {sha : Int32} {fad : Int32} {day : Int32} {mar : Nat → Int32} {msi : Nat → Int32} {mst : Nat → Int32} {men : Nat → Int32} {mpu : Nat → Int32} {mxs : Nat → Int32} {mys : Nat → Int32} {mfo : Nat → Int64} {mor : Nat → Int32} {mo1 : Nat → Int64} {mo2 : Nat → Int64} (h : Rl N lc dc sp sh fd lo rough mu Rs thr ten loc rou mum sli sha fad day mar msi mst men mpu mxs mys mfo mor mo1 mo2) (p1 p2 p3 p4 : Int32) : ∃ (r : Int32) (Rs' : Nat → kR) (mo1' : Nat → Int64) (mo2' : Nat → Int64), fL_wanted fu N lc dc sp sh fd lo rough mu Rs p1 p2 p3 p4 = some (r, Rs') ∧ fM_wanted fu thr ten loc rou mum sli sha fad day mar msi mst men mpu mxs mys mfo mor mo1 mo2 p1 p2 p3 p4 = some (r, mo1', mo2') ∧ Rl N lc dc sp sh fd lo rough mu Rs' thr ten loc rou mum sli sha fad day mar msi mst men mpu mxs mys mfo mor mo1' mo2' := by
  obtain ⟨h6, rfl, rfl, rfl, rfl, rfl, rfl, rfl, rfl, hb, ⟨K, hK⟩, hT, hU⟩ := id h
  rcases z_ix p1 (N := N) (by omega) with ⟨k, hk, rfl⟩ | c
  · obtain ⟨n, a1, a2, a3, a4, a5, a6, a7, a8, a9, a10, a11⟩ := hT k hk
    have zk : (nI k).toNatClampNeg = k := z_cl (by omega)
    by_cases c2 : 2 ≤ n
    · have c2m : ¬ msi k < (2 : Int32) := by rw [a3, Int32.lt_iff_toInt_lt, nI_toInt (by omega), show (2 : Int32).toInt = 2 from rfl]; omega
      by_cases c3 : 1 ≤ p2.toInt ∧ p2.toInt ≤ 3
      · by_cases c4 : 1 ≤ p3.toInt ∧ p3.toInt ≤ 200000
        · have hp2 : p2 = 1 ∨ p2 = 2 ∨ p2 = 3 := by
            rcases (show p2.toInt = 1 ∨ p2.toInt = 2 ∨ p2.toInt = 3 by omega) with q | q | q
            · exact Or.inl (Int32.toInt_inj.mp q)
            · exact Or.inr (Or.inl (Int32.toInt_inj.mp q))
            · exact Or.inr (Or.inr (Int32.toInt_inj.mp q))
          have hg : GeO mxs mys k n := ⟨fun i hi => (a9 i hi).2.2, fun i hi => (a10 i hi).1⟩
          have main : ∀ m z (t o1 o2 : Nat → Int64), z + m = 51 → ∃ (r : Int32) (t' o1' o2' : Nat → Int64), (∀ q, m < q → fL_wanted_L47 fu N rou mum (nI k) p2 p3 p4 q (nI z) (wR Rs k t) = some (r, wR Rs k t')) ∧ ∀ q, m < q → fM_wanted_L42 fu thr (nI N) loc rou mum sli sha fad day mar msi mst men mpu mxs mys mfo mor (nI k) p2 p3 p4 q (nI z) o1 o2 = some (r, o1', o2') := by
            intro m
            induction m with
            | zero =>
              intro z t o1 o2 hz
              have ez : z = 51 := by omega
              subst ez
              refine ⟨-1, t, o1, o2, ?_, ?_⟩
              · intro q hq
                obtain ⟨q, rfl⟩ : ∃ z, q = z + 1 := ⟨q - 1, by omega⟩
                rw [fL_wanted_L47_s, if_pos (by decide)]
              · intro q hq
                obtain ⟨q, rfl⟩ : ∃ z, q = z + 1 := ⟨q - 1, by omega⟩
                rw [fM_wanted_L42_s, if_pos (by decide)]
            | succ m ih =>
              intro z t o1 o2 hz
              obtain ⟨e1, e2, e3⟩ := mul_same (z := z) (p := p3) (by omega) c4.1 c4.2
              have hF' : 0 ≤ ((nI z * p3).toInt64).toInt ∧ ((nI z * p3).toInt64).toInt ≤ 10000000 := by rw [Int32.toInt_toInt64]; omega
              obtain ⟨w1, w2, hd, ho⟩ := dAll (fu := fu) (thr := thr) (ten := nI N) (loc := loc) (rou := rou) (mum := mum) (sli := sli) (sha := sha) (fad := fad) (day := day) (mar := mar) (mst := mst) (men := men) (mpu := mpu) (mfo := mfo) (mor := mor) (mo1 := o1) (mo2 := o2) (F := (nI z * p3).toInt64) hfu (by omega) a1 a3 hg hp2
              have hst := strain_t (fu := fu) (k := k) (n := n) (xs := (Rs k).2.2.2.2.2.1) (ys := (Rs k).2.2.2.2.2.2.1) (ln := (Rs k).2.2.2.2.2.2.2.1) (sl := (Rs k).2.2.2.2.2.2.2.2.1) (mxs := mxs) (mys := mys) (rough := rou) (mu := mum) (area := (Rs k).1) (state := (Rs k).2.1) (pf := (Rs k).2.2.1) (pw := (Rs k).2.2.2.1) (p2 := p2) (p3 := nI z * p3) (fo := (Rs k).2.2.2.2.2.2.2.2.2.1) (tr := t) hfu a1 hb.1 hb.2.1 hg ⟨e2, e3⟩ (fun i hi => (a10 i hi).2.1) (fun i hi => (a10 i hi).2.2) hp2
              have hz0 : ¬ (50 : Int32) < nI z := by rw [Int32.lt_iff_toInt_lt, nI_toInt (by omega), show (50 : Int32).toInt = 50 from rfl]; omega
              have hz1 : ¬ (51 : Int32) ≤ nI z := by rw [Int32.le_iff_toInt_le, nI_toInt (by omega), show (51 : Int32).toInt = 51 from rfl]; omega
              have hl18 := least_18 (fu := fu) (a := (nI z * p3).toInt64) (arr := fun j => if j < n then frO rou mum mxs mys k n p2 (nI z * p3).toInt64 j else t j) (f := frO rou mum mxs mys k n p2 (nI z * p3).toInt64) a1 (fun j hj => if_pos hj) n 0 fu (by omega) (by omega)
              have hcl : ∀ q, fL_wanted_L47 fu N rou mum (nI k) p2 p3 p4 (q + 1) (nI z) (wR Rs k t) = if mn (nI z * p3).toInt64 (frO rou mum mxs mys k n p2 (nI z * p3).toInt64) n < p4.toInt64 then fL_wanted_L47 fu N rou mum (nI k) p2 p3 p4 q (nI (z + 1)) (wR Rs k (fun j => if j < n then frO rou mum mxs mys k n p2 (nI z * p3).toInt64 j else t j)) else some (nI z * p3, wR Rs k (fun j => if j < n then frO rou mum mxs mys k n p2 (nI z * p3).toInt64 j else t j)) := fun q => by
                rw [fL_wanted_L47_s, if_neg hz0, zk, if_pos (List.mem_range.mpr hk), wR_at]
                unfold fT_leastForceIfPulled
                rw [a2, hst, Option.bind_some]
                have hl18' : fT_leastForceIfPulled_L18 fu (nI n) (fun j => if j < n then frO rou mum mxs mys k n p2 (nI z * p3).toInt64 j else t j) fu 0 (nI z * p3).toInt64 = some (mn (nI z * p3).toInt64 (frO rou mum mxs mys k n p2 (nI z * p3).toInt64) n, (fun j => if j < n then frO rou mum mxs mys k n p2 (nI z * p3).toInt64 j else t j)) := hl18
                rw [hl18', Option.bind_some]
                dsimp only
                rw [← a2, wR_again, nI_1]
              have hm1 : mn (nI z * p3).toInt64 (frO rou mum mxs mys k n p2 (nI z * p3).toInt64) 1 = w1 0 := by
                rw [mn_1 (frO_in hb.1 hb.2.1 hg hF' (by omega)).2, ho 0 (by omega)]
              have hcm : ∀ q, fM_wanted_L42 fu thr (nI N) loc rou mum sli sha fad day mar msi mst men mpu mxs mys mfo mor (nI k) p2 p3 p4 (q + 1) (nI z) o1 o2 = if mn (nI z * p3).toInt64 (frO rou mum mxs mys k n p2 (nI z * p3).toInt64) n < p4.toInt64 then fM_wanted_L42 fu thr (nI N) loc rou mum sli sha fad day mar msi mst men mpu mxs mys mfo mor (nI k) p2 p3 p4 q (nI (z + 1)) w1 w2 else some (nI z * p3, w1, w2) := fun q => by
                rw [fM_wanted_L42_s, if_neg hz1, ← e1, hd, Option.bind_some, if_pos (by decide)]
                dsimp only
                rw [show ((0 : Int32)).toNatClampNeg = 0 from rfl, ← hm1]
                refine (want_72 (show k < 6 by omega) a1 a3 ho (n - 1) 1 fu (by omega) (by omega)).trans ?_
                rw [nI_1]
              by_cases q9 : mn (nI z * p3).toInt64 (frO rou mum mxs mys k n p2 (nI z * p3).toInt64) n < p4.toInt64
              · obtain ⟨r, t', o1', o2', g1, g2⟩ := ih (z + 1) (fun j => if j < n then frO rou mum mxs mys k n p2 (nI z * p3).toInt64 j else t j) w1 w2 (by omega)
                refine ⟨r, t', o1', o2', ?_, ?_⟩
                · intro q hq
                  obtain ⟨q, rfl⟩ : ∃ z, q = z + 1 := ⟨q - 1, by omega⟩
                  rw [hcl, if_pos q9]
                  exact g1 q (by omega)
                · intro q hq
                  obtain ⟨q, rfl⟩ : ∃ z, q = z + 1 := ⟨q - 1, by omega⟩
                  rw [hcm, if_pos q9]
                  exact g2 q (by omega)
              · refine ⟨nI z * p3, (fun j => if j < n then frO rou mum mxs mys k n p2 (nI z * p3).toInt64 j else t j), w1, w2, ?_, ?_⟩
                · intro q hq
                  obtain ⟨q, rfl⟩ : ∃ z, q = z + 1 := ⟨q - 1, by omega⟩
                  rw [hcl, if_neg q9]
                · intro q hq
                  obtain ⟨q, rfl⟩ : ∃ z, q = z + 1 := ⟨q - 1, by omega⟩
                  rw [hcm, if_neg q9]
          obtain ⟨r, t', o1', o2', g1, g2⟩ := main 51 0 (Rs k).2.2.2.2.2.2.2.2.2.2 mo1 mo2 (by omega)
          refine ⟨r, wR Rs k t', o1', o2', ?_, ?_, h6, rfl, rfl, rfl, rfl, rfl, rfl, rfl, rfl, hb, ⟨K, hK.1, hK.2.1, ?_, hK.2.2.2⟩, ?_, hU⟩
          · have g1' := g1 fu (by omega)
            rw [wR_self] at g1'
            unfold fL_wanted
            rw [if_pos (z_ok hk (by omega)), if_pos (z_rg hk (by omega)), zk, a2, hasP_D a1, Option.bind_some, if_pos c2, if_neg (by decide), iw_t (by exact c3), Option.bind_some, if_neg (by decide), iw_t (by exact c4), Option.bind_some, if_neg (by decide)]
            exact g1'
          · unfold fM_wanted
            rw [isT_t h6 hk, Option.bind_some, if_neg (by decide), zk, if_pos (z_ok2 (by omega) (by omega)), if_neg c2m, in_t (by exact c3), Option.bind_some, if_neg (by decide), in_t (by exact c4), Option.bind_some, if_neg (by decide)]
            exact g2 fu (by omega)
          · intro j
            rw [hK.2.2.1 j]
            by_cases e : j = k
            · subst e
              rw [wR_at]
            · rw [wR_ne e]
          · intro j hj
            by_cases e : j = k
            · subst e
              rw [wR_at]
              exact ⟨n, a1, a2, a3, a4, a5, a6, a7, a8, a9, a10, a11⟩
            · rw [wR_ne e]
              exact hT j hj
        · refine ⟨-1, Rs, _, _, ?_, ?_, h⟩
          · unfold fL_wanted
            rw [if_pos (z_ok hk (by omega)), if_pos (z_rg hk (by omega)), zk, a2, hasP_D a1, Option.bind_some, if_pos c2, if_neg (by decide), iw_t (by exact c3), Option.bind_some, if_neg (by decide), iw_f (by exact c4), Option.bind_some, if_pos rfl]
          · unfold fM_wanted
            rw [isT_t h6 hk, Option.bind_some, if_neg (by decide), zk, if_pos (z_ok2 (by omega) (by omega)), if_neg c2m, in_t (by exact c3), Option.bind_some, if_neg (by decide), in_f (by exact c4), Option.bind_some, if_pos rfl]
      · refine ⟨-1, Rs, _, _, ?_, ?_, h⟩
        · unfold fL_wanted
          rw [if_pos (z_ok hk (by omega)), if_pos (z_rg hk (by omega)), zk, a2, hasP_D a1, Option.bind_some, if_pos c2, if_neg (by decide), iw_f (by exact c3), Option.bind_some, if_pos rfl]
        · unfold fM_wanted
          rw [isT_t h6 hk, Option.bind_some, if_neg (by decide), zk, if_pos (z_ok2 (by omega) (by omega)), if_neg c2m, in_f (by exact c3), Option.bind_some, if_pos rfl]
    · have c2m : msi k < (2 : Int32) := by rw [a3, Int32.lt_iff_toInt_lt, nI_toInt (by omega), show (2 : Int32).toInt = 2 from rfl]; omega
      refine ⟨-1, Rs, _, _, ?_, ?_, h⟩
      · unfold fL_wanted
        rw [if_pos (z_ok hk (by omega)), if_pos (z_rg hk (by omega)), zk, a2, hasP_D a1, Option.bind_some, if_neg c2, if_pos rfl]
      · unfold fM_wanted
        rw [isT_t h6 hk, Option.bind_some, if_neg (by decide), zk, if_pos (z_ok2 (by omega) (by omega)), if_pos c2m]
  · refine ⟨-1, Rs, _, _, ?_, ?_, h⟩
    · unfold fL_wanted
      rw [if_neg c]
    · unfold fM_wanted
      rw [isT_f h6 c, Option.bind_some, if_pos rfl]
