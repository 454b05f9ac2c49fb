/-! Where two ducts come near: the reference's side. -/
theorem pa_L {fu k n : Nat} {msi mxs : Nat → Int32} {x : Int32} (hk : k < 6) (hn : n ≤ 10) (hs : msi k = nI n) (hx : x.toInt ≤ (mxs (10 * k + (n - 1))).toInt) : ∀ t i q, i + t + 2 = n → t < q → (mxs (10 * k + i)).toInt ≤ x.toInt → ∃ i', fM_pieceAt_L2 fu msi mxs (nI k) x q (nI i) = some (nI (10 * k + i')) ∧ Pc (wI fun i => mxs (10 * k + i)) n i' x.toInt := by
  intro t
  induction t with
  | zero =>
    intro i q hi hq hxi
    obtain ⟨q, rfl⟩ : ∃ z, q = z + 1 := ⟨q - 1, by omega⟩
    rw [show n - 1 = i + 1 by omega] at hx
    refine ⟨i, ?_, by omega, hxi, hx⟩
    rw [fM_pieceAt_L2_s, if_pos (z_ok (by omega) (by omega)), z_cl (by omega), hs, show nI i + (2 : Int32) = nI (i + 2) from nI_add i 2, if_pos (nI_le (by omega) (by omega)), ix10]
  | succ t ih =>
    intro i q hi hq hxi
    obtain ⟨q, rfl⟩ : ∃ z, q = z + 1 := ⟨q - 1, by omega⟩
    rw [fM_pieceAt_L2_s, if_pos (z_ok (by omega) (by omega)), z_cl (k := k) (by omega), hs, show nI i + (2 : Int32) = nI (i + 2) from nI_add i 2, if_neg (nI_ge (by omega) (by omega)), ix10, nI_1, nI_1, if_pos (z_ok (by omega) (by omega)), z_cl (by omega)]
    by_cases c : x ≤ mxs (10 * k + i + 1)
    · rw [if_pos c]
      exact ⟨i, rfl, by omega, hxi, Int32.le_iff_toInt_le.mp c⟩
    · rw [if_neg c]
      have c' : ¬ x.toInt ≤ (mxs (10 * k + i + 1)).toInt := fun z => c (Int32.le_iff_toInt_le.mpr z)
      exact ih (i + 1) q (by omega) (by omega) (show (mxs (10 * k + i + 1)).toInt ≤ x.toInt by omega)
section pt
variable {fu k1 k2 n m : Nat} {thr ten loc rou mum sli sha fad day p : Int32} {mar msi mst men mpu mxs mys : Nat → Int32} {mfo : Nat → Int64} {mor : Nat → Int32} {mo1 mo2 : Nat → Int64}
theorem pa_M {k n : Nat} {x : Int32} (hf : 2000 ≤ fu) (hk : k < 6) (h2 : 2 ≤ n) (hn : n ≤ 10) (hs : msi k = nI n) (hx0 : (mxs (10 * k)).toInt ≤ x.toInt) (hx : x.toInt ≤ (mxs (10 * k + (n - 1))).toInt) : ∃ i, fM_pieceAt fu thr ten loc rou mum sli sha fad day mar msi mst men mpu mxs mys mfo mor mo1 mo2 (nI k) x = some (nI (10 * k + i)) ∧ Pc (wI fun i => mxs (10 * k + i)) n i x.toInt :=
  pa_L hk hn hs hx (n - 2) 0 fu (by omega) (by omega) hx0
theorem ap_M {i j : Nat} {x : Int32} (hk1 : k1 < 6) (hk2 : k2 < 6) (hi : i + 1 < 10) (hj : j + 1 < 10) (e1 : fM_pieceAt fu thr ten loc rou mum sli sha fad day mar msi mst men mpu mxs mys mfo mor mo1 mo2 (nI k1) x = some (nI (10 * k1 + i))) (e2 : fM_pieceAt fu thr ten loc rou mum sli sha fad day mar msi mst men mpu mxs mys mfo mor mo1 mo2 (nI k2) x = some (nI (10 * k2 + j))) : fM_apart fu thr ten loc rou mum sli sha fad day mar msi mst men mpu mxs mys mfo mor mo1 mo2 (nI k1) (nI k2) x = some (dW (fun i => mxs (10 * k1 + i)) (fun i => mys (10 * k1 + i)) (fun i => mxs (10 * k2 + i)) (fun i => mys (10 * k2 + i)) i j x) := by
  have g1 : ¬ (nI (10 * k1 + i) < 0 ∨ 60 ≤ (nI (10 * k1 + i)).toNatClampNeg) := z_ok (by omega) (by omega)
  have g2 : ¬ (nI (10 * k1 + i + 1) < 0 ∨ 60 ≤ (nI (10 * k1 + i + 1)).toNatClampNeg) := z_ok (by omega) (by omega)
  have g3 : ¬ (nI (10 * k2 + j) < 0 ∨ 60 ≤ (nI (10 * k2 + j)).toNatClampNeg) := z_ok (by omega) (by omega)
  have g4 : ¬ (nI (10 * k2 + j + 1) < 0 ∨ 60 ≤ (nI (10 * k2 + j + 1)).toNatClampNeg) := z_ok (by omega) (by omega)
  unfold fM_apart
  rw [e1, Option.bind_some, e2, Option.bind_some, nI_1 (10 * k1 + i), nI_1 (10 * k2 + j), if_pos g2, if_pos g1, if_pos g4, if_pos g3, if_pos g1, if_pos g2, if_pos g1, if_pos g1, if_pos g3, if_pos g4, if_pos g3, if_pos g3, z_cl (k := 10 * k1 + i) (by omega), z_cl (k := 10 * k1 + i + 1) (by omega), z_cl (k := 10 * k2 + j) (by omega), z_cl (k := 10 * k2 + j + 1) (by omega)]
  rfl
theorem un_M {i j : Nat} {x : Int32} (hk1 : k1 < 6) (hk2 : k2 < 6) (hi : i + 1 < 10) (hj : j + 1 < 10) (e1 : fM_pieceAt fu thr ten loc rou mum sli sha fad day mar msi mst men mpu mxs mys mfo mor mo1 mo2 (nI k1) x = some (nI (10 * k1 + i))) (e2 : fM_pieceAt fu thr ten loc rou mum sli sha fad day mar msi mst men mpu mxs mys mfo mor mo1 mo2 (nI k2) x = some (nI (10 * k2 + j))) : fM_unit fu thr ten loc rou mum sli sha fad day mar msi mst men mpu mxs mys mfo mor mo1 mo2 (nI k1) (nI k2) x = some ((mxs (10 * k1 + i + 1) - mxs (10 * k1 + i)).toInt64 * (mxs (10 * k2 + j + 1) - mxs (10 * k2 + j)).toInt64) := by
  have g1 : ¬ (nI (10 * k1 + i) < 0 ∨ 60 ≤ (nI (10 * k1 + i)).toNatClampNeg) := z_ok (by omega) (by omega)
  have g2 : ¬ (nI (10 * k1 + i + 1) < 0 ∨ 60 ≤ (nI (10 * k1 + i + 1)).toNatClampNeg) := z_ok (by omega) (by omega)
  have g3 : ¬ (nI (10 * k2 + j) < 0 ∨ 60 ≤ (nI (10 * k2 + j)).toNatClampNeg) := z_ok (by omega) (by omega)
  have g4 : ¬ (nI (10 * k2 + j + 1) < 0 ∨ 60 ≤ (nI (10 * k2 + j + 1)).toNatClampNeg) := z_ok (by omega) (by omega)
  unfold fM_unit
  rw [e1, Option.bind_some, e2, Option.bind_some, nI_1 (10 * k1 + i), nI_1 (10 * k2 + j), if_pos g2, if_pos g1, if_pos g4, if_pos g3, z_cl (k := 10 * k1 + i) (by omega), z_cl (k := 10 * k1 + i + 1) (by omega), z_cl (k := 10 * k2 + j) (by omega), z_cl (k := 10 * k2 + j + 1) (by omega)]
theorem ab_M {d : Int64} (h1 : -180000000000000 ≤ d.toInt) (h2 : d.toInt ≤ 180000000000000) : ∃ w : Int64, (if (0 : Int64) ≤ d then some d else some (-d)) = some w ∧ (0 ≤ d.toInt → w.toInt = d.toInt) ∧ (d.toInt < 0 → w.toInt = -d.toInt) := by
  by_cases c : (0 : Int64) ≤ d
  · have c' : 0 ≤ d.toInt := Int64.le_iff_toInt_le.mp c
    exact ⟨d, if_pos c, fun _ => rfl, fun z => by omega⟩
  · have c' : ¬ 0 ≤ d.toInt := fun z => c (Int64.le_iff_toInt_le.mpr z)
    exact ⟨-d, if_neg c, fun z => absurd z c', fun _ => l_neg h1 h2⟩
theorem pt_M {x : Int32} (hf : 2000 ≤ fu) (hk1 : k1 < 6) (hk2 : k2 < 6) (n2 : 2 ≤ n) (m2 : 2 ≤ m) (hn : n ≤ 10) (hm : m ≤ 10) (hs1 : msi k1 = nI n) (hs2 : msi k2 = nI m)
    (ra : Ro (fun i => mxs (10 * k1 + i)) (fun i => mys (10 * k1 + i)) n) (rb : Ro (fun i => mxs (10 * k2 + i)) (fun i => mys (10 * k2 + i)) m) (ua : Up (wI fun i => mxs (10 * k1 + i)) n) (ub : Up (wI fun i => mxs (10 * k2 + i)) m) (hp : 0 ≤ p.toInt ∧ p.toInt ≤ 1000)
    (h1 : (mxs (10 * k1)).toInt ≤ x.toInt) (h2 : (mxs (10 * k2)).toInt ≤ x.toInt) (h3 : x.toInt ≤ (mxs (10 * k1 + (n - 1))).toInt) (h4 : x.toInt ≤ (mxs (10 * k2 + (m - 1))).toInt) :
    ∃ d u w : Int64, fM_apart fu thr ten loc rou mum sli sha fad day mar msi mst men mpu mxs mys mfo mor mo1 mo2 (nI k1) (nI k2) x = some d ∧ fM_unit fu thr ten loc rou mum sli sha fad day mar msi mst men mpu mxs mys mfo mor mo1 mo2 (nI k1) (nI k2) x = some u ∧ (if (0 : Int64) ≤ d then some d else some (-d)) = some w ∧
      (d.toInt < 0 ↔ ngP (wI fun i => mxs (10 * k1 + i)) (wI fun i => mys (10 * k1 + i)) (wI fun i => mxs (10 * k2 + i)) (wI fun i => mys (10 * k2 + i)) n m x.toInt) ∧
      (0 < d.toInt ↔ psP (wI fun i => mxs (10 * k1 + i)) (wI fun i => mys (10 * k1 + i)) (wI fun i => mxs (10 * k2 + i)) (wI fun i => mys (10 * k2 + i)) n m x.toInt) ∧
      (nrP (wI fun i => mxs (10 * k1 + i)) (wI fun i => mys (10 * k1 + i)) (wI fun i => mxs (10 * k2 + i)) (wI fun i => mys (10 * k2 + i)) n m p.toInt x.toInt ↔ ¬ p.toInt64 * u ≤ w) := by
  obtain ⟨i, e1, q1⟩ := pa_M (fu := fu) (thr := thr) (ten := ten) (loc := loc) (rou := rou) (mum := mum) (sli := sli) (sha := sha) (fad := fad) (day := day) (mar := mar) (mst := mst) (men := men) (mpu := mpu) (mys := mys) (mfo := mfo) (mor := mor) (mo1 := mo1) (mo2 := mo2) hf hk1 n2 hn hs1 h1 h3
  obtain ⟨j, e2, q2⟩ := pa_M (fu := fu) (thr := thr) (ten := ten) (loc := loc) (rou := rou) (mum := mum) (sli := sli) (sha := sha) (fad := fad) (day := day) (mar := mar) (mst := mst) (men := men) (mpu := mpu) (mys := mys) (mfo := mfo) (mor := mor) (mo1 := mo1) (mo2 := mo2) hf hk2 m2 hm hs2 h2 h4
  have hi := q1.1
  have hj := q2.1
  have hxb : 0 ≤ x.toInt ∧ x.toInt ≤ 100000 := by
    have z1 := (ra 0 (by omega)).1.1
    have z2 := (ra (n - 1) (by omega)).1.2
    have z3 : (mxs (10 * k1 + 0)).toInt = (mxs (10 * k1)).toInt := rfl
    dsimp only at z1 z2
    omega
  obtain ⟨d1, d2, d3⟩ := dW_in (x := x) ra rb hi hj hxb
  have hu := uW_in (p := p) ra rb hi hj hp
  obtain ⟨w, w1, w2, w3⟩ := ab_M d2 d3
  refine ⟨_, _, w, ap_M hk1 hk2 (by omega) (by omega) e1 e2, un_M hk1 hk2 (by omega) (by omega) e1 e2, w1, ?_, ?_, ?_⟩
  · rw [d1]
    exact ⟨fun z => ⟨i, j, q1, q2, z⟩, fun ⟨a, b, z1, z2, z3⟩ => ng_same ua ub z1 q1 z2 q2 z3⟩
  · rw [d1]
    exact ⟨fun z => ⟨i, j, q1, q2, z⟩, fun ⟨a, b, z1, z2, z3⟩ => ps_same ua ub z1 q1 z2 q2 z3⟩
  · have hu' : (p.toInt64 * ((mxs (10 * k1 + i + 1) - mxs (10 * k1 + i)).toInt64 * (mxs (10 * k2 + j + 1) - mxs (10 * k2 + j)).toInt64)).toInt = p.toInt * uU (wI fun i => mxs (10 * k1 + i)) (wI fun i => mxs (10 * k2 + i)) i j := hu
    rw [Int64.le_iff_toInt_le, hu']
    have key : nr (wI fun i => mxs (10 * k1 + i)) (wI fun i => mys (10 * k1 + i)) (wI fun i => mxs (10 * k2 + i)) (wI fun i => mys (10 * k2 + i)) p.toInt i j x.toInt ↔ ¬ p.toInt * uU (wI fun i => mxs (10 * k1 + i)) (wI fun i => mxs (10 * k2 + i)) i j ≤ w.toInt := by
      unfold nr
      rw [← d1]
      generalize (dW (fun i => mxs (10 * k1 + i)) (fun i => mys (10 * k1 + i)) (fun i => mxs (10 * k2 + i)) (fun i => mys (10 * k2 + i)) i j x).toInt = D at w2 w3 ⊢
      omega
    rw [← key]
    exact ⟨fun ⟨a, b, z1, z2, z3⟩ => nr_same ua ub z1 q1 z2 q2 z3, fun z => ⟨i, j, q1, q2, z⟩⟩
theorem ex_s {P : Nat → Prop} {i n : Nat} (h : i < n) : (∃ i', i ≤ i' ∧ i' < n ∧ P i') ↔ P i ∨ ∃ i', i + 1 ≤ i' ∧ i' < n ∧ P i' := by
  constructor
  · rintro ⟨i', h1, h2, h3⟩
    rcases Nat.lt_or_ge i i' with z | z
    · exact Or.inr ⟨i', z, h2, h3⟩
    · rw [show i' = i by omega] at h3; exact Or.inl h3
  · rintro (h3 | ⟨i', h1, h2, h3⟩)
    · exact ⟨i, Nat.le_refl _, h, h3⟩
    · exact ⟨i', by omega, h2, h3⟩
theorem fl_M {f : Int32} {P Q : Prop} [Decidable P] (hPQ : ¬ P ↔ Q) : ∃ b : Int32, (if f = (0 : Int32) then (if P then some (0 : Int32) else some (1 : Int32)) else some (1 : Int32)) = some b ∧ (¬ b = 0 ↔ ¬ f = 0 ∨ Q) := by
  by_cases c : f = 0
  · by_cases c2 : P
    · exact ⟨0, by rw [if_pos c, if_pos c2], fun z => absurd rfl z, fun z => z.elim (fun y => absurd c y) (fun y => absurd c2 (hPQ.mpr y))⟩
    · exact ⟨1, by rw [if_pos c, if_neg c2], fun _ => Or.inr (hPQ.mp c2), fun _ => by decide⟩
  · exact ⟨1, by rw [if_neg c], fun _ => Or.inl c, fun _ => by decide⟩
theorem cl_184 {p1 p2 lo hi z : Int32} {k : Nat} {NR NG PS : Int → Prop} {k163 : Int32 → Int32 → Int32 → Option Int32} (hk : k < 6) (hn : n ≤ 10) (hs : msi k = nI n)
    (hin : ∀ x : Int32, lo.toInt ≤ x.toInt ∧ x.toInt ≤ hi.toInt → ∃ d u w : Int64, fM_apart fu thr ten loc rou mum sli sha fad day mar msi mst men mpu mxs mys mfo mor mo1 mo2 p1 p2 x = some d ∧ fM_unit fu thr ten loc rou mum sli sha fad day mar msi mst men mpu mxs mys mfo mor mo1 mo2 p1 p2 x = some u ∧ (if (0 : Int64) ≤ d then some d else some (-d)) = some w ∧ (d.toInt < 0 ↔ NG x.toInt) ∧ (0 < d.toInt ↔ PS x.toInt) ∧ (NR x.toInt ↔ ¬ p.toInt64 * u ≤ w))
    (hout : ∀ x : Int32, ¬ (lo.toInt ≤ x.toInt ∧ x.toInt ≤ hi.toInt) → ¬ NG x.toInt ∧ ¬ PS x.toInt ∧ ¬ NR x.toInt) : ∀ t i q un ab, i + t = n → t < q →
    ((∃ i', i ≤ i' ∧ i' < n ∧ NR (mxs (10 * k + i')).toInt) ∧ fM_clash_L184 fu thr ten loc rou mum sli sha fad day mar msi mst men mpu mxs mys mfo mor mo1 mo2 p1 p2 p lo hi z (nI k) k163 q (nI i) un ab = some 1) ∨
    ((¬ ∃ i', i ≤ i' ∧ i' < n ∧ NR (mxs (10 * k + i')).toInt) ∧ ∃ un' ab', fM_clash_L184 fu thr ten loc rou mum sli sha fad day mar msi mst men mpu mxs mys mfo mor mo1 mo2 p1 p2 p lo hi z (nI k) k163 q (nI i) un ab = k163 (z + 1) un' ab' ∧
      (¬ un' = 0 ↔ ¬ un = 0 ∨ ∃ i', i ≤ i' ∧ i' < n ∧ NG (mxs (10 * k + i')).toInt) ∧ (¬ ab' = 0 ↔ ¬ ab = 0 ∨ ∃ i', i ≤ i' ∧ i' < n ∧ PS (mxs (10 * k + i')).toInt)) := by
  intro t
  induction t with
  | zero =>
    intro i q un ab hi hq
    obtain ⟨q, rfl⟩ : ∃ z, q = z + 1 := ⟨q - 1, by omega⟩
    have no : ∀ P : Nat → Prop, ¬ ∃ i', i ≤ i' ∧ i' < n ∧ P i' := fun P ⟨i', y1, y2, _⟩ => by omega
    refine Or.inr ⟨no _, un, ab, ?_, ?_, ?_⟩
    · rw [fM_clash_L184_s, if_pos (z_ok (by omega) (by omega)), z_cl (by omega), hs, if_pos (nI_le (by omega) (by omega))]
    · exact ⟨Or.inl, fun y => y.elim id (fun y => absurd y (no _))⟩
    · exact ⟨Or.inl, fun y => y.elim id (fun y => absurd y (no _))⟩
  | succ t ih =>
    intro i q un ab hti hq
    obtain ⟨q, rfl⟩ : ∃ z, q = z + 1 := ⟨q - 1, by omega⟩
    have hin' : i < n := by omega
    rw [fM_clash_L184_s, if_pos (z_ok (by omega) (by omega)), z_cl (k := k) (by omega), hs, if_neg (nI_ge (by omega) (by omega)), ix10, if_pos (z_ok (by omega) (by omega)), z_cl (k := 10 * k + i) (by omega), nI_1]
    rw [ex_s (P := fun i' => NR (mxs (10 * k + i')).toInt) hin', ex_s (P := fun i' => NG (mxs (10 * k + i')).toInt) hin', ex_s (P := fun i' => PS (mxs (10 * k + i')).toInt) hin']
    by_cases c : lo.toInt ≤ (mxs (10 * k + i)).toInt ∧ (mxs (10 * k + i)).toInt ≤ hi.toInt
    · obtain ⟨d, u, w, e1, e2, e3, g1, g2, g3⟩ := hin _ c
      obtain ⟨ab2, f1, f2⟩ := fl_M (f := ab) (P := d ≤ (0 : Int64)) (Q := PS (mxs (10 * k + i)).toInt) (by
        rw [← g2, Int64.le_iff_toInt_le, show (0 : Int64).toInt = 0 from rfl]; omega)
      obtain ⟨un2, f3, f4⟩ := fl_M (f := un) (P := (0 : Int64) ≤ d) (Q := NG (mxs (10 * k + i)).toInt) (by
        rw [← g1, Int64.le_iff_toInt_le, show (0 : Int64).toInt = 0 from rfl]; omega)
      rw [in_t c, Option.bind_some, if_neg (by decide), e1, Option.bind_some, f1, Option.bind_some, f3, Option.bind_some, e3, Option.bind_some, e2, Option.bind_some]
      by_cases c2 : p.toInt64 * u ≤ w
      · rw [if_pos c2]
        have nn : ¬ NR (mxs (10 * k + i)).toInt := fun y => g3.mp y c2
        rcases ih (i + 1) q un2 ab2 (by omega) (by omega) with ⟨h1, h2⟩ | ⟨h1, un', ab', h2, h3, h4⟩
        · exact Or.inl ⟨Or.inr h1, h2⟩
        · refine Or.inr ⟨fun y => y.elim nn h1, un', ab', h2, ?_, ?_⟩
          · rw [h3, f4, or_assoc]
          · rw [h4, f2, or_assoc]
      · rw [if_neg c2]
        exact Or.inl ⟨Or.inl (g3.mpr c2), rfl⟩
    · obtain ⟨o1, o2, o3⟩ := hout _ c
      rw [in_f c, Option.bind_some, if_pos rfl]
      rcases ih (i + 1) q un ab (by omega) (by omega) with ⟨h1, h2⟩ | ⟨h1, un', ab', h2, h3, h4⟩
      · exact Or.inl ⟨Or.inr h1, h2⟩
      · refine Or.inr ⟨fun y => y.elim o3 h1, un', ab', h2, ?_, ?_⟩
        · rw [h3]
          exact ⟨fun y => y.elim Or.inl (fun y => Or.inr (Or.inr y)), fun y => y.elim Or.inl (fun y => y.elim (fun y => absurd y o1) Or.inr)⟩
        · rw [h4]
          exact ⟨fun y => y.elim Or.inl (fun y => Or.inr (Or.inr y)), fun y => y.elim Or.inl (fun y => y.elim (fun y => absurd y o2) Or.inr)⟩
theorem cl_163 {lo hi : Int32} {NR NG PS : Int → Prop} (hf : 2000 ≤ fu) (hk1 : k1 < 6) (hk2 : k2 < 6) (hn : n ≤ 10) (hm : m ≤ 10) (hs1 : msi k1 = nI n) (hs2 : msi k2 = nI m)
    (hin : ∀ x : Int32, lo.toInt ≤ x.toInt ∧ x.toInt ≤ hi.toInt → ∃ d u w : Int64, fM_apart fu thr ten loc rou mum sli sha fad day mar msi mst men mpu mxs mys mfo mor mo1 mo2 (nI k1) (nI k2) x = some d ∧ fM_unit fu thr ten loc rou mum sli sha fad day mar msi mst men mpu mxs mys mfo mor mo1 mo2 (nI k1) (nI k2) x = some u ∧ (if (0 : Int64) ≤ d then some d else some (-d)) = some w ∧ (d.toInt < 0 ↔ NG x.toInt) ∧ (0 < d.toInt ↔ PS x.toInt) ∧ (NR x.toInt ↔ ¬ p.toInt64 * u ≤ w))
    (hout : ∀ x : Int32, ¬ (lo.toInt ≤ x.toInt ∧ x.toInt ≤ hi.toInt) → ¬ NG x.toInt ∧ ¬ PS x.toInt ∧ ¬ NR x.toInt) (q : Nat) (hq : 3 ≤ q) :
    (fM_clash_L163 fu thr ten loc rou mum sli sha fad day mar msi mst men mpu mxs mys mfo mor mo1 mo2 (nI k1) (nI k2) p lo hi q (0 : Int32) (0 : Int32) (0 : Int32) = some 1 ∧ ((∃ x, bp (wI fun i => mxs (10 * k1 + i)) (wI fun i => mxs (10 * k2 + i)) n m x ∧ NR x) ∨ ((∃ x, bp (wI fun i => mxs (10 * k1 + i)) (wI fun i => mxs (10 * k2 + i)) n m x ∧ NG x) ∧ ∃ x, bp (wI fun i => mxs (10 * k1 + i)) (wI fun i => mxs (10 * k2 + i)) n m x ∧ PS x))) ∨
    (fM_clash_L163 fu thr ten loc rou mum sli sha fad day mar msi mst men mpu mxs mys mfo mor mo1 mo2 (nI k1) (nI k2) p lo hi q (0 : Int32) (0 : Int32) (0 : Int32) = some 0 ∧ ¬ ((∃ x, bp (wI fun i => mxs (10 * k1 + i)) (wI fun i => mxs (10 * k2 + i)) n m x ∧ NR x) ∨ ((∃ x, bp (wI fun i => mxs (10 * k1 + i)) (wI fun i => mxs (10 * k2 + i)) n m x ∧ NG x) ∧ ∃ x, bp (wI fun i => mxs (10 * k1 + i)) (wI fun i => mxs (10 * k2 + i)) n m x ∧ PS x))) := by
  have hbp : ∀ P : Int → Prop, (∃ x, bp (wI fun i => mxs (10 * k1 + i)) (wI fun i => mxs (10 * k2 + i)) n m x ∧ P x) ↔ ((∃ i', 0 ≤ i' ∧ i' < n ∧ P (mxs (10 * k1 + i')).toInt) ∨ ∃ j', 0 ≤ j' ∧ j' < m ∧ P (mxs (10 * k2 + j')).toInt) := fun P => by
    constructor
    · rintro ⟨x, ⟨i, h1, h2⟩ | ⟨i, h1, h2⟩, h3⟩
      · rw [h2] at h3; exact Or.inl ⟨i, Nat.zero_le _, h1, h3⟩
      · rw [h2] at h3; exact Or.inr ⟨i, Nat.zero_le _, h1, h3⟩
    · rintro (⟨i, _, h1, h3⟩ | ⟨i, _, h1, h3⟩)
      · exact ⟨_, Or.inl ⟨i, h1, rfl⟩, h3⟩
      · exact ⟨_, Or.inr ⟨i, h1, rfl⟩, h3⟩
  rw [hbp NR, hbp NG, hbp PS]
  obtain ⟨q, rfl⟩ : ∃ z, q = z + 3 := ⟨q - 3, by omega⟩
  rw [fM_clash_L163_s, if_neg (by decide), if_pos rfl, Option.bind_some]
  rcases cl_184 (z := (0 : Int32)) (k := k1) (k163 := fun a0 a1 a2 => fM_clash_L163 fu thr ten loc rou mum sli sha fad day mar msi mst men mpu mxs mys mfo mor mo1 mo2 (nI k1) (nI k2) p lo hi (q + 2) a0 a1 a2) hk1 hn hs1 hin hout n 0 fu 0 0 (by omega) (by omega) with ⟨h1, h2⟩ | ⟨h1, un', ab', h2, h3, h4⟩
  · exact Or.inl ⟨h2, Or.inl (Or.inl h1)⟩
  · have e2 : fM_clash_L163 fu thr ten loc rou mum sli sha fad day mar msi mst men mpu mxs mys mfo mor mo1 mo2 (nI k1) (nI k2) p lo hi (q + 2) ((0 : Int32) + 1) un' ab' = fM_clash_L184 fu thr ten loc rou mum sli sha fad day mar msi mst men mpu mxs mys mfo mor mo1 mo2 (nI k1) (nI k2) p lo hi ((0 : Int32) + 1) (nI k2) (fun a0 a1 a2 => fM_clash_L163 fu thr ten loc rou mum sli sha fad day mar msi mst men mpu mxs mys mfo mor mo1 mo2 (nI k1) (nI k2) p lo hi (q + 1) a0 a1 a2) fu (0 : Int32) un' ab' := by
      rw [fM_clash_L163_s, if_neg (by decide), if_neg (by decide), Option.bind_some]
    replace h2 := h2.trans e2
    rcases cl_184 (z := (0 : Int32) + 1) (k := k2) (k163 := fun a0 a1 a2 => fM_clash_L163 fu thr ten loc rou mum sli sha fad day mar msi mst men mpu mxs mys mfo mor mo1 mo2 (nI k1) (nI k2) p lo hi (q + 1) a0 a1 a2) hk2 hm hs2 hin hout m 0 fu un' ab' (by omega) (by omega) with ⟨g1, g2⟩ | ⟨g1, un2, ab2, g2, g3, g4⟩
    · exact Or.inl ⟨h2.trans g2, Or.inl (Or.inr g1)⟩
    · have e3 : fM_clash_L163 fu thr ten loc rou mum sli sha fad day mar msi mst men mpu mxs mys mfo mor mo1 mo2 (nI k1) (nI k2) p lo hi (q + 1) ((0 : Int32) + 1 + 1) un2 ab2 = (if ab2 = (0 : Int32) then some (0 : Int32) else (if un2 = (0 : Int32) then some (0 : Int32) else some (1 : Int32))) := by
        rw [fM_clash_L163_s, if_pos (by decide)]
      have hall := h2.trans (g2.trans e3)
      rw [show nI 0 = (0 : Int32) from rfl] at hall
      rw [h3] at g3
      rw [h4] at g4
      have u0 : (¬ un2 = 0) ↔ ((∃ i', 0 ≤ i' ∧ i' < n ∧ NG (mxs (10 * k1 + i')).toInt) ∨ ∃ j', 0 ≤ j' ∧ j' < m ∧ NG (mxs (10 * k2 + j')).toInt) :=
        g3.trans ⟨fun y => y.elim (fun y => y.elim (fun y => absurd rfl y) Or.inl) Or.inr, fun y => y.elim (fun y => Or.inl (Or.inr y)) Or.inr⟩
      have a0 : (¬ ab2 = 0) ↔ ((∃ i', 0 ≤ i' ∧ i' < n ∧ PS (mxs (10 * k1 + i')).toInt) ∨ ∃ j', 0 ≤ j' ∧ j' < m ∧ PS (mxs (10 * k2 + j')).toInt) :=
        g4.trans ⟨fun y => y.elim (fun y => y.elim (fun y => absurd rfl y) Or.inl) Or.inr, fun y => y.elim (fun y => Or.inl (Or.inr y)) Or.inr⟩
      rw [hall, ← u0, ← a0]
      have nn : ¬ ((∃ i', 0 ≤ i' ∧ i' < n ∧ NR (mxs (10 * k1 + i')).toInt) ∨ ∃ j', 0 ≤ j' ∧ j' < m ∧ NR (mxs (10 * k2 + j')).toInt) := fun y => y.elim h1 g1
      by_cases c1 : ab2 = 0
      · rw [if_pos c1]
        exact Or.inr ⟨rfl, fun y => y.elim nn (fun y => y.2 c1)⟩
      · rw [if_neg c1]
        by_cases c2 : un2 = 0
        · rw [if_pos c2]
          exact Or.inr ⟨rfl, fun y => y.elim nn (fun y => y.1 c2)⟩
        · rw [if_neg c2]
          exact Or.inl ⟨rfl, Or.inr ⟨c2, c1⟩⟩
end pt
