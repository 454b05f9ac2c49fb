theorem Ro_of {k n : Nat} {mxs mys : Nat → Int32} (h : ∀ i, i < n → (0 ≤ (mxs (10 * k + i)).toInt ∧ (mxs (10 * k + i)).toInt ≤ 100000) ∧ (-3000 ≤ (mys (10 * k + i)).toInt ∧ (mys (10 * k + i)).toInt ≤ 3000)) : Ro (fun i => mxs (10 * k + i)) (fun i => mys (10 * k + i)) n := h
theorem pN_congr {Xa Ya Xb Yb Xa' Ya' Xb' Yb' : Nat → Int} {N : Int} {i j : Nat} (a0 : Xa i = Xa' i) (a1 : Xa (i + 1) = Xa' (i + 1)) (b0 : Xb j = Xb' j) (b1 : Xb (j + 1) = Xb' (j + 1)) (c0 : Ya i = Ya' i) (c1 : Ya (i + 1) = Ya' (i + 1)) (d0 : Yb j = Yb' j) (d1 : Yb (j + 1) = Yb' (j + 1)) (h : pN Xa Ya Xb Yb N i j) : pN Xa' Ya' Xb' Yb' N i j := by
  unfold pN nr fI lI dD hH uU at h ⊢
  rw [← a0, ← a1, ← b0, ← b1, ← c0, ← c1, ← d0, ← d1]
  exact h
theorem clash_both {fu k1 k2 n m : Nat} {thr ten loc rou mum sli sha fad day p : Int32} {mar msi mst men mpu mxs mys : Nat → Int32} {mfo : Nat → Int64} {mor : Nat → Int32} {mo1 mo2 : Nat → Int64} {axs ays aln asl bxs bys bln bsl : Nat → Int32} {lw hw : Int32} (hf : 2000 ≤ fu) (hk1 : k1 < 6) (hk2 : k2 < 6) (n2 : 2 ≤ n) (m2 : 2 ≤ m) (hn : n ≤ 10) (hm : m ≤ 10) (hs1 : msi k1 = nI n) (hs2 : msi k2 = nI m)
    (ra : Ro (fun i => mxs (10 * k1 + i)) (fun i => mys (10 * k1 + i)) n) (rb : Ro (fun i => mxs (10 * k2 + i)) (fun i => mys (10 * k2 + i)) m) (ua : Up (wI fun i => mxs (10 * k1 + i)) n) (ub : Up (wI fun i => mxs (10 * k2 + i)) m) (hp : 1 ≤ p.toInt ∧ p.toInt ≤ 1000)
    (ea : ∀ i, i < n → axs i = mxs (10 * k1 + i) ∧ ays i = mys (10 * k1 + i)) (eb : ∀ i, i < m → bxs i = mxs (10 * k2 + i) ∧ bys i = mys (10 * k2 + i))
    (hlw : lw.toInt = if (mxs (10 * k1)).toInt ≤ (mxs (10 * k2)).toInt then (mxs (10 * k2)).toInt else (mxs (10 * k1)).toInt)
    (hhw : hw.toInt = if (mxs (10 * k2 + (m - 1))).toInt ≤ (mxs (10 * k1 + (n - 1))).toInt then (mxs (10 * k2 + (m - 1))).toInt else (mxs (10 * k1 + (n - 1))).toInt) :
    ∃ r : Int32, (r = 0 ∨ r = 1) ∧ fD_comeNearer fu (nI n) axs ays aln asl (nI m) bxs bys bln bsl p = some r ∧ fM_clash_L163 fu thr ten loc rou mum sli sha fad day mar msi mst men mpu mxs mys mfo mor mo1 mo2 (nI k1) (nI k2) p lw hw fu (0 : Int32) (0 : Int32) (0 : Int32) = some r := by
  have rca : Ro axs ays n := fun i hi => by rw [(ea i hi).1, (ea i hi).2]; exact ra i hi
  have rcb : Ro bxs bys m := fun i hi => by rw [(eb i hi).1, (eb i hi).2]; exact rb i hi
  have hin0 : ∀ x : Int32, (lw.toInt ≤ x.toInt ∧ x.toInt ≤ hw.toInt) ↔ ((mxs (10 * k1)).toInt ≤ x.toInt ∧ (mxs (10 * k2)).toInt ≤ x.toInt ∧ x.toInt ≤ (mxs (10 * k1 + (n - 1))).toInt ∧ x.toInt ≤ (mxs (10 * k2 + (m - 1))).toInt) := fun x => by
    rw [hlw, hhw]
    split <;> split <;> omega
  have hpc : ∀ (x : Int32) (i j : Nat), Pc (wI fun i => mxs (10 * k1 + i)) n i x.toInt → Pc (wI fun i => mxs (10 * k2 + i)) m j x.toInt → lw.toInt ≤ x.toInt ∧ x.toInt ≤ hw.toInt := fun x i j y1 y2 => by
    have q1 := pc_in ua y1
    have q2 := pc_in ub y2
    exact (hin0 x).mpr ⟨q1.1, q2.1, q1.2, q2.2⟩
  have hR := cl_163 (fu := fu) (k1 := k1) (k2 := k2) (n := n) (m := m) (thr := thr) (ten := ten) (loc := loc) (rou := rou) (mum := mum) (sli := sli) (sha := sha) (fad := fad) (day := day) (p := p) (mar := mar) (msi := msi) (mst := mst) (men := men) (mpu := mpu) (mxs := mxs) (mys := mys) (mfo := mfo) (mor := mor) (mo1 := mo1) (mo2 := mo2) (lo := lw) (hi := hw)
    (NR := nrP (wI fun i => mxs (10 * k1 + i)) (wI fun i => mys (10 * k1 + i)) (wI fun i => mxs (10 * k2 + i)) (wI fun i => mys (10 * k2 + i)) n m p.toInt)
    (NG := ngP (wI fun i => mxs (10 * k1 + i)) (wI fun i => mys (10 * k1 + i)) (wI fun i => mxs (10 * k2 + i)) (wI fun i => mys (10 * k2 + i)) n m)
    (PS := psP (wI fun i => mxs (10 * k1 + i)) (wI fun i => mys (10 * k1 + i)) (wI fun i => mxs (10 * k2 + i)) (wI fun i => mys (10 * k2 + i)) n m)
    hf hk1 hk2 hn hm hs1 hs2 (fun x hx => by
      obtain ⟨y1, y2, y3, y4⟩ := (hin0 x).mp hx
      exact pt_M hf hk1 hk2 n2 m2 hn hm hs1 hs2 ra rb ua ub ⟨by omega, hp.2⟩ y1 y2 y3 y4)
    (fun x hx => ⟨fun ⟨i, j, y1, y2, _⟩ => hx (hpc x i j y1 y2), fun ⟨i, j, y1, y2, _⟩ => hx (hpc x i j y1 y2), fun ⟨i, j, y1, y2, _⟩ => hx (hpc x i j y1 y2)⟩) fu (by omega)
  have hC := cn_2 (fu := fu) (p := p) (aln := aln) (asl := asl) (bln := bln) (bsl := bsl) hf rca rcb hn hm ⟨by omega, hp.2⟩ 10 0 fu (by omega) (by omega) (by omega)
  have hto : ∀ i j, i + 1 < n → j + 1 < m → pN (wI axs) (wI ays) (wI bxs) (wI bys) p.toInt i j → pN (wI fun i => mxs (10 * k1 + i)) (wI fun i => mys (10 * k1 + i)) (wI fun i => mxs (10 * k2 + i)) (wI fun i => mys (10 * k2 + i)) p.toInt i j := fun i j hi hj y =>
    pN_congr (congrArg Int32.toInt (ea i (by omega)).1) (congrArg Int32.toInt (ea (i + 1) hi).1) (congrArg Int32.toInt (eb j (by omega)).1) (congrArg Int32.toInt (eb (j + 1) hj).1) (congrArg Int32.toInt (ea i (by omega)).2) (congrArg Int32.toInt (ea (i + 1) hi).2) (congrArg Int32.toInt (eb j (by omega)).2) (congrArg Int32.toInt (eb (j + 1) hj).2) y
  have hfr : ∀ i j, i + 1 < n → j + 1 < m → pN (wI fun i => mxs (10 * k1 + i)) (wI fun i => mys (10 * k1 + i)) (wI fun i => mxs (10 * k2 + i)) (wI fun i => mys (10 * k2 + i)) p.toInt i j → pN (wI axs) (wI ays) (wI bxs) (wI bys) p.toInt i j := fun i j hi hj y =>
    pN_congr (congrArg Int32.toInt (ea i (by omega)).1).symm (congrArg Int32.toInt (ea (i + 1) hi).1).symm (congrArg Int32.toInt (eb j (by omega)).1).symm (congrArg Int32.toInt (eb (j + 1) hj).1).symm (congrArg Int32.toInt (ea i (by omega)).2).symm (congrArg Int32.toInt (ea (i + 1) hi).2).symm (congrArg Int32.toInt (eb j (by omega)).2).symm (congrArg Int32.toInt (eb (j + 1) hj).2).symm y
  rcases hC with ⟨⟨i, j, _, hi, hj, _, hp'⟩, hc⟩ | ⟨hno, hc⟩
  · rcases hR with ⟨hr, _⟩ | ⟨_, hnr⟩
    · exact ⟨1, Or.inr rfl, hc, hr⟩
    · exact absurd (pN_bp ⟨i, j, hi, hj, hto i j hi hj hp'⟩) hnr
  · rcases hR with ⟨hr, hyes⟩ | ⟨hr, _⟩
    · obtain ⟨i, j, hi, hj, y⟩ := bp_pN (show (0 : Int) < p.toInt by omega) ua ub hyes
      exact absurd ⟨by omega, hfr i j hi hj y⟩ (hno i j (Nat.zero_le _) hi hj)
    · exact ⟨0, Or.inl rfl, hc, hr⟩
theorem cn_few {fu n m : Nat} {p : Int32} {axs ays aln asl bxs bys bln bsl : Nat → Int32} (hf : 2000 ≤ fu) (ha : Ro axs ays n) (hb : Ro bxs bys m) (hn : n ≤ 10) (hm : m ≤ 10) (hp : 0 ≤ p.toInt ∧ p.toInt ≤ 1000) (h : n < 2 ∨ m < 2 ∨ p.toInt = 0) : fD_comeNearer fu (nI n) axs ays aln asl (nI m) bxs bys bln bsl p = some 0 := by
  rcases cn_2 (fu := fu) (p := p) (aln := aln) (asl := asl) (bln := bln) (bsl := bsl) hf ha hb hn hm hp 10 0 fu (by omega) (by omega) (by omega) with ⟨⟨i, j, _, hi, hj, h0, _⟩, _⟩ | ⟨_, hc⟩
  · omega
  · exact hc
theorem sim_clash {fu : Nat} (hfu : 2000 ≤ fu) {N : Nat} {lc : Int32} {dc : Int32} {sp : Int32} {sh : Int32} {fd : Int32} {lo : Nat → Int32} {rough : Int32} {mu : Int32} {Rs : Nat → kR} {thr : Int32} {ten : Int32} {loc : Int32} {rou : Int32} {mum : Int32} {sli : Int32} {sha : Int32} {fad : Int32} {day : Int32} {mar : Nat → Int32} {msi : Nat → Int32} {mst : Nat → Int32} {men : Nat → Int32} {mpu : Nat → Int32} {mxs : Nat → Int32} {mys : Nat → Int32} {mfo : Nat → Int64} {mor : Nat → Int32} {mo1 : Nat → Int64} {mo2 : Nat → Int64} (h : Rl N lc dc sp sh fd lo rough mu Rs thr ten loc rou mum sli sha fad day mar msi mst men mpu mxs mys mfo mor mo1 mo2) (p1 p2 p3 : Int32) : ∃ (r : Int32), fL_clash fu N lc dc sp sh fd lo rough mu Rs p1 p2 p3 = some r ∧ fM_clash fu thr ten loc rou mum sli sha fad day mar msi mst men mpu mxs mys mfo mor mo1 mo2 p1 p2 p3 = some r ∧ Rl N lc dc sp sh fd lo rough mu Rs thr ten loc rou mum sli sha fad day mar msi mst men mpu mxs mys mfo mor mo1 mo2 := by
  obtain ⟨h6, rfl, rfl, rfl, rfl, rfl, rfl, rfl, rfl, hb, hK, hT, hU⟩ := id h
  rcases z_ix p1 (N := N) (by omega) with ⟨k1, hk1, rfl⟩ | c1
  · rcases z_ix p2 (N := N) (by omega) with ⟨k2, hk2, rfl⟩ | c2
    · have z1 : (nI k1).toNatClampNeg = k1 := z_cl (by omega)
      have z2 : (nI k2).toNatClampNeg = k2 := z_cl (by omega)
      by_cases ce : nI k1 = nI k2
      · refine ⟨0, ?_, ?_, h⟩
        · unfold fL_clash
          rw [if_pos (z_ok hk1 (by omega)), if_pos (z_ok hk2 (by omega)), if_pos ce]
        · unfold fM_clash
          rw [isT_t h6 hk1, Option.bind_some, if_neg (by decide), isT_t h6 hk2, Option.bind_some, if_neg (by decide), if_pos ce]
      · have hne : ¬ k2 = k1 := fun e => ce (by rw [e])
        obtain ⟨n, a1, a2, a3, a4, a5, a6, a7, a8, a9, a10, a11⟩ := hT k1 hk1
        obtain ⟨m, b1, b2, b3, b4, b5, b6, b7, b8, b9, b10, b11⟩ := hT k2 hk2
        have ra : Ro (fun i => mxs (10 * k1 + i)) (fun i => mys (10 * k1 + i)) n := fun i hi => ⟨(a9 i hi).2.2.1, (a9 i hi).2.2.2⟩
        have rb : Ro (fun i => mxs (10 * k2 + i)) (fun i => mys (10 * k2 + i)) m := fun i hi => ⟨(b9 i hi).2.2.1, (b9 i hi).2.2.2⟩
        have rca : Ro (Rs k1).2.2.2.2.2.1 (Rs k1).2.2.2.2.2.2.1 n := fun i hi => by rw [(a9 i hi).1, (a9 i hi).2.1]; exact ra i hi
        have rcb : Ro (Rs k2).2.2.2.2.2.1 (Rs k2).2.2.2.2.2.2.1 m := fun i hi => by rw [(b9 i hi).1, (b9 i hi).2.1]; exact rb i hi
        have ua : Up (wI fun i => mxs (10 * k1 + i)) n := fun i hi => by
          have : (mxs (10 * k1 + i)).toInt + 100 ≤ (mxs (10 * k1 + i + 1)).toInt := (a10 i hi).1
          show (mxs (10 * k1 + i)).toInt < (mxs (10 * k1 + i + 1)).toInt
          omega
        have ub : Up (wI fun i => mxs (10 * k2 + i)) m := fun i hi => by
          have : (mxs (10 * k2 + i)).toInt + 100 ≤ (mxs (10 * k2 + i + 1)).toInt := (b10 i hi).1
          show (mxs (10 * k2 + i)).toInt < (mxs (10 * k2 + i + 1)).toInt
          omega
        have hmem : k2 ∈ (List.range N).erase k1 := (List.mem_erase_of_ne hne).mpr (List.mem_range.mpr hk2)
        have hL : ∀ r : Int32, (r = 0 ∨ r = 1) → 0 ≤ p3.toInt ∧ p3.toInt ≤ 1000 → fD_comeNearer fu (nI n) (Rs k1).2.2.2.2.2.1 (Rs k1).2.2.2.2.2.2.1 (Rs k1).2.2.2.2.2.2.2.1 (Rs k1).2.2.2.2.2.2.2.2.1 (nI m) (Rs k2).2.2.2.2.2.1 (Rs k2).2.2.2.2.2.2.1 (Rs k2).2.2.2.2.2.2.2.1 (Rs k2).2.2.2.2.2.2.2.2.1 p3 = some r → fL_clash fu N loc day sli sha fad lo rou mum Rs (nI k1) (nI k2) p3 = some r := fun r hr hp e => by
          unfold fL_clash
          rw [if_pos (z_ok hk1 (by omega)), if_pos (z_ok hk2 (by omega)), if_neg ce, iw_t (a := p3) (b := 0) (c := 1000) hp, Option.bind_some, if_neg (by decide), z1, z2, if_pos (List.mem_range.mpr hk1), if_pos hmem, a2, b2, e, Option.bind_some, if_pos]
          rcases hr with q | q <;> rw [q] <;> decide
        by_cases cn : n < 2
        · have l1 : msi k1 < (2 : Int32) := by rw [a3]; exact nI_lt (b := 2) cn (by omega)
          have m0 : fM_clash fu thr (nI N) loc rou mum sli sha fad day mar msi mst men mpu mxs mys mfo mor mo1 mo2 (nI k1) (nI k2) p3 = some 0 := by
            unfold fM_clash
            rw [isT_t h6 hk1, Option.bind_some, if_neg (by decide), isT_t h6 hk2, Option.bind_some, if_neg (by decide), if_neg ce, if_pos (z_ok (by omega) (by omega)), z1, if_pos l1]
          by_cases cp : 0 ≤ p3.toInt ∧ p3.toInt ≤ 1000
          · exact ⟨0, hL 0 (Or.inl rfl) cp (cn_few hfu rca rcb a1 b1 cp (Or.inl cn)), m0, h⟩
          · refine ⟨0, ?_, m0, h⟩
            unfold fL_clash
            rw [if_pos (z_ok hk1 (by omega)), if_pos (z_ok hk2 (by omega)), if_neg ce, iw_f (a := p3) (b := 0) (c := 1000) cp, Option.bind_some, if_pos rfl]
        · have l1 : ¬ msi k1 < (2 : Int32) := by
            rw [a3, Int32.lt_iff_toInt_lt, nI_toInt (by omega), show (2 : Int32).toInt = 2 from rfl]; omega
          by_cases cm : m < 2
          · have l2 : msi k2 < (2 : Int32) := by rw [b3]; exact nI_lt (b := 2) cm (by omega)
            have m0 : fM_clash fu thr (nI N) loc rou mum sli sha fad day mar msi mst men mpu mxs mys mfo mor mo1 mo2 (nI k1) (nI k2) p3 = some 0 := by
              unfold fM_clash
              rw [isT_t h6 hk1, Option.bind_some, if_neg (by decide), isT_t h6 hk2, Option.bind_some, if_neg (by decide), if_neg ce, if_pos (z_ok (by omega) (by omega)), z1, if_neg l1, if_pos (z_ok (by omega) (by omega)), z2, if_pos l2]
            by_cases cp : 0 ≤ p3.toInt ∧ p3.toInt ≤ 1000
            · exact ⟨0, hL 0 (Or.inl rfl) cp (cn_few hfu rca rcb a1 b1 cp (Or.inr (Or.inl cm))), m0, h⟩
            · refine ⟨0, ?_, m0, h⟩
              unfold fL_clash
              rw [if_pos (z_ok hk1 (by omega)), if_pos (z_ok hk2 (by omega)), if_neg ce, iw_f (a := p3) (b := 0) (c := 1000) cp, Option.bind_some, if_pos rfl]
          · have l2 : ¬ msi k2 < (2 : Int32) := by
              rw [b3, Int32.lt_iff_toInt_lt, nI_toInt (by omega), show (2 : Int32).toInt = 2 from rfl]; omega
            by_cases cq : 1 ≤ p3.toInt ∧ p3.toInt ≤ 1000
            · have t1 : (10 : Int32) * nI k1 = nI (10 * k1) := (Int32.ofNat_mul 10 k1).symm
              have t2 : (10 : Int32) * nI k2 = nI (10 * k2) := (Int32.ofNat_mul 10 k2).symm
              have t3 : nI (10 * k1) + nI n - (1 : Int32) = nI (10 * k1 + (n - 1)) := by
                rw [nI_add, show nI (10 * k1 + n) - (1 : Int32) = nI (10 * k1 + n - 1) from pk_sub (a := 10 * k1 + n) (b := 1) (by omega)]
                congr 1; omega
              have t4 : nI (10 * k2) + nI m - (1 : Int32) = nI (10 * k2 + (m - 1)) := by
                rw [nI_add, show nI (10 * k2 + m) - (1 : Int32) = nI (10 * k2 + m - 1) from pk_sub (a := 10 * k2 + m) (b := 1) (by omega)]
                congr 1; omega
              have jl : ∃ lw : Int32, (if mxs (10 * k1) ≤ mxs (10 * k2) then some (mxs (10 * k2)) else some (mxs (10 * k1))) = some lw ∧ lw.toInt = if (mxs (10 * k1)).toInt ≤ (mxs (10 * k2)).toInt then (mxs (10 * k2)).toInt else (mxs (10 * k1)).toInt := by
                by_cases y : mxs (10 * k1) ≤ mxs (10 * k2)
                · exact ⟨_, if_pos y, by rw [if_pos (Int32.le_iff_toInt_le.mp y)]⟩
                · exact ⟨_, if_neg y, by rw [if_neg (fun w => y (Int32.le_iff_toInt_le.mpr w))]⟩
              have jh : ∃ hw : Int32, (if mxs (10 * k2 + (m - 1)) ≤ mxs (10 * k1 + (n - 1)) then some (mxs (10 * k2 + (m - 1))) else some (mxs (10 * k1 + (n - 1)))) = some hw ∧ hw.toInt = if (mxs (10 * k2 + (m - 1))).toInt ≤ (mxs (10 * k1 + (n - 1))).toInt then (mxs (10 * k2 + (m - 1))).toInt else (mxs (10 * k1 + (n - 1))).toInt := by
                by_cases y : mxs (10 * k2 + (m - 1)) ≤ mxs (10 * k1 + (n - 1))
                · exact ⟨_, if_pos y, by rw [if_pos (Int32.le_iff_toInt_le.mp y)]⟩
                · exact ⟨_, if_neg y, by rw [if_neg (fun w => y (Int32.le_iff_toInt_le.mpr w))]⟩
              obtain ⟨lw, jl1, jl2⟩ := jl
              obtain ⟨hw, jh1, jh2⟩ := jh
              obtain ⟨r, r1, r2, r3⟩ := clash_both (fu := fu) (k1 := k1) (k2 := k2) (n := n) (m := m) (thr := thr) (ten := nI N) (loc := loc) (rou := rou) (mum := mum) (sli := sli) (sha := sha) (fad := fad) (day := day) (p := p3) (mar := mar) (msi := msi) (mst := mst) (men := men) (mpu := mpu) (mxs := mxs) (mys := mys) (mfo := mfo) (mor := mor) (mo1 := mo1) (mo2 := mo2) (axs := (Rs k1).2.2.2.2.2.1) (ays := (Rs k1).2.2.2.2.2.2.1) (aln := (Rs k1).2.2.2.2.2.2.2.1) (asl := (Rs k1).2.2.2.2.2.2.2.2.1) (bxs := (Rs k2).2.2.2.2.2.1) (bys := (Rs k2).2.2.2.2.2.2.1) (bln := (Rs k2).2.2.2.2.2.2.2.1) (bsl := (Rs k2).2.2.2.2.2.2.2.2.1) (lw := lw) (hw := hw) hfu (by omega) (by omega) (by omega) (by omega) a1 b1 a3 b3 ra rb ua ub cq (fun i hi => ⟨(a9 i hi).1, (a9 i hi).2.1⟩) (fun i hi => ⟨(b9 i hi).1, (b9 i hi).2.1⟩) jl2 jh2
              refine ⟨r, hL r r1 ⟨by omega, cq.2⟩ r2, ?_, h⟩
              have g1 : ¬ (nI k1 < 0 ∨ 6 ≤ k1) := z_ok2 (by omega) (by omega)
              have g2 : ¬ (nI k2 < 0 ∨ 6 ≤ k2) := z_ok2 (by omega) (by omega)
              have g3 : ¬ (nI (10 * k1) < 0 ∨ 60 ≤ 10 * k1) := z_ok2 (by omega) (by omega)
              have g4 : ¬ (nI (10 * k2) < 0 ∨ 60 ≤ 10 * k2) := z_ok2 (by omega) (by omega)
              have g5 : ¬ (nI (10 * k1 + (n - 1)) < 0 ∨ 60 ≤ 10 * k1 + (n - 1)) := z_ok2 (by omega) (by omega)
              have g6 : ¬ (nI (10 * k2 + (m - 1)) < 0 ∨ 60 ≤ 10 * k2 + (m - 1)) := z_ok2 (by omega) (by omega)
              unfold fM_clash
              rw [isT_t h6 hk1, Option.bind_some, if_neg (by decide), isT_t h6 hk2, Option.bind_some, if_neg (by decide), if_neg ce, z1, z2, if_pos g1, if_neg l1, if_pos g2, if_neg l2, in_t (a := p3) (b := 1) (c := 1000) cq, Option.bind_some, if_neg (by decide), t1, t2, a3, b3, t3, t4, z_cl (k := 10 * k1) (by omega), z_cl (k := 10 * k2) (by omega), z_cl (k := 10 * k1 + (n - 1)) (by omega), z_cl (k := 10 * k2 + (m - 1)) (by omega), if_pos g3, if_pos g4, if_pos g4, if_pos g3, jl1, Option.bind_some, if_pos g1, if_pos g5, if_pos g2, if_pos g6, jh1, Option.bind_some]
              exact r3
            · have m0 : fM_clash fu thr (nI N) loc rou mum sli sha fad day mar msi mst men mpu mxs mys mfo mor mo1 mo2 (nI k1) (nI k2) p3 = some 0 := by
                unfold fM_clash
                rw [isT_t h6 hk1, Option.bind_some, if_neg (by decide), isT_t h6 hk2, Option.bind_some, if_neg (by decide), if_neg ce, if_pos (z_ok (by omega) (by omega)), z1, if_neg l1, if_pos (z_ok (by omega) (by omega)), z2, if_neg l2, in_f (a := p3) (b := 1) (c := 1000) cq, Option.bind_some, if_pos rfl]
              by_cases cp : 0 ≤ p3.toInt ∧ p3.toInt ≤ 1000
              · exact ⟨0, hL 0 (Or.inl rfl) cp (cn_few hfu rca rcb a1 b1 cp (Or.inr (Or.inr (by omega)))), m0, h⟩
              · refine ⟨0, ?_, m0, h⟩
                unfold fL_clash
                rw [if_pos (z_ok hk1 (by omega)), if_pos (z_ok hk2 (by omega)), if_neg ce, iw_f (a := p3) (b := 0) (c := 1000) cp, Option.bind_some, if_pos rfl]
    · refine ⟨0, ?_, ?_, h⟩
      · unfold fL_clash
        rw [if_pos (z_ok hk1 (by omega)), if_neg c2]
      · unfold fM_clash
        rw [isT_t h6 hk1, Option.bind_some, if_neg (by decide), isT_f h6 c2, Option.bind_some, if_pos rfl]
  · refine ⟨0, ?_, ?_, h⟩
    · unfold fL_clash
      rw [if_neg c1, ite_self]
    · unfold fM_clash
      rw [isT_f h6 c1, Option.bind_some, if_pos rfl]
