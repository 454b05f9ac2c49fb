theorem slip_one {fu n k P : Nat} {thr ten loc rou mum sli sha fad day : Int32} {mar msi mst men mpu mxs mys : Nat → Int32} {mfo : Nat → Int64} {mor : Nat → Int32} {mo1 mo2 : Nat → Int64} (e : Bool) {xs ys ln sl : Nat → Int32} {fo tr : Nat → Int64} {area state pf : Int32} (hf : 2000 ≤ fu) (hk : k < 6) (hn : n ≤ 10) (hs : msi k = nI n) (hg : GeO mxs mys k n) (ha1 : 50 ≤ (mar k).toInt) (ha2 : (mar k).toInt ≤ 10000) (har : area = mar k) (hr : 0 ≤ rou.toInt ∧ rou.toInt ≤ 1000) (hm : 0 ≤ mum.toInt ∧ mum.toInt ≤ 500) (hP : P ≤ 10000000) (hpu : mpu k = nI P) (hfo : ∀ j, j < 10 → fo j = mfo (10 * k + j) ∧ 0 ≤ (mfo (10 * k + j)).toInt ∧ (mfo (10 * k + j)).toInt ≤ 10000000) (hln : ∀ i, i + 1 < n → ln i = (lnO mxs mys (10 * k + i)).toInt32) (hsl : ∀ i, i + 1 < n → sl i = slO mxs mys (10 * k + i)) :
    ∃ fo2 tr2 mfo2 o2, fT_slipAtEnd fu area state pf (nI P) (nI n) xs ys ln sl fo tr rou mum (ec e) sli = some (fo2, tr2) ∧ fM_letSlip fu thr ten loc rou mum sli sha fad day mar msi mst men mpu mxs mys mfo mor mo1 mo2 (nI k) (eb e) = some (mfo2, o2) ∧ (∀ j, j < 10 → fo2 j = mfo2 (10 * k + j) ∧ 0 ≤ (mfo2 (10 * k + j)).toInt ∧ (mfo2 (10 * k + j)).toInt ≤ 10000000) ∧ ∀ x, ¬ (10 * k ≤ x ∧ x < 10 * k + n) → mfo2 x = mfo x := by
  obtain ⟨Xn, x1, x2, x3⟩ := slip_both (fu := fu) (n := n) (k := k) (thr := thr) (ten := ten) (loc := loc) (rou := rou) (mum := mum) (sli := sli) (sha := sha) (fad := fad) (day := day) (mar := mar) (msi := msi) (mst := mst) (men := men) (mpu := mpu) (mxs := mxs) (mys := mys) (mfo := mfo) (mor := mor) (mo2 := mo2) (e := e) (f := fun j => mfo (10 * k + j)) (xs := xs) (ys := ys) (ln := ln) (sl := sl) (fo := fo) (area := area) (state := state) (pf := pf) (pw := nI P) hf hk hn hs hg ha1 ha2 har (fun j hj => rfl) (fun j hj => (hfo j (by omega)).1) hln hsl 24 0 P (by omega) hP (by omega)
  obtain ⟨tr2, h1⟩ := x2 tr fu 0 (by omega) (by omega)
  obtain ⟨o2, h2⟩ := x3 mo1 fu (by omega)
  refine ⟨fun j => if j < n then rsO rou mum mxs mys k n e (lN Xn) (fun j => mfo (10 * k + j)) j else fo j, tr2, fun x => if 10 * k ≤ x ∧ x < 10 * k + n then rsO rou mum mxs mys k n e (lN Xn) (fun j => mfo (10 * k + j)) (x - 10 * k) else mfo x, o2, h1, ?_, ?_, ?_⟩
  · unfold fM_letSlip
    rw [if_pos (z_ok (by omega) (by omega)), z_cl (by omega), hpu, nI_l (by omega)]
    exact h2
  · intro j hj
    dsimp only
    by_cases c : j < n
    · rw [if_pos c, if_pos (by omega), Nat.add_sub_cancel_left]
      exact ⟨rfl, rs_in hr hm hg (by rw [lN_toInt (by omega)]; omega) (fun j hj => (hfo j (by omega)).2) c⟩
    · rw [if_neg c, if_neg (by omega)]
      exact hfo j hj
  · intro x hx
    dsimp only
    rw [if_neg hx]
theorem mean_4 {fu n : Nat} {fo : Nat → Int64} (hf : 2000 ≤ fu) (h1 : 1 ≤ n) (hn : n ≤ 10) : ∀ m i q, i + m = n → m < q → fT_meanForce_L4 fu (nI n) fo q (nI i) (sm fo i) = some (sm fo n / (nI n).toInt64) := by
  intro m
  induction m with
  | zero =>
    intro i q hi hq
    obtain ⟨q, rfl⟩ : ∃ z, q = z + 1 := ⟨q - 1, by omega⟩
    rw [fT_meanForce_L4_s, if_pos (nI_le (by omega) (by omega)), quo_ne (i64_ne (by rw [nI_toInt (by omega)]; omega)), Option.bind_some, show i = n by omega]
  | succ m ih =>
    intro i q hi hq
    obtain ⟨q, rfl⟩ : ∃ z, q = z + 1 := ⟨q - 1, by omega⟩
    rw [fT_meanForce_L4_s, if_neg (nI_ge (by omega) (by omega)), if_pos (z_ok (by omega) (by omega)), z_cl (by omega), nI_1]
    exact ih (i + 1) q (by omega) (by omega)
theorem lock_63 {fu n k : Nat} {thr ten loc rou mum sli sha fad day r22 : Int32} {mar msi mst men mpu mxs mys : Nat → Int32} {mor : Nat → Int32} {mo2 m2 o2 : Nat → Int64} (hf : 2000 ≤ fu) (hk : k < 6) (h1 : 1 ≤ n) (hn : n ≤ 10) (hs : msi k = nI n) : ∀ m i q, i + m = n → m < q → fM_lock_L63 fu thr ten loc rou mum sli sha fad day mar msi mst men mpu mxs mys mor mo2 (nI k) r22 (m2, o2) q (nI i) (sm (fun i => m2 (10 * k + i)) i) = fM_lock_L119 fu thr ten loc rou mum sli sha fad day mar msi mst men mpu mxs mys mor mo2 (nI k) r22 (m2, o2) (sm (fun i => m2 (10 * k + i)) n) fu (0 : Int32) m2 := by
  intro m
  induction m with
  | zero =>
    intro i q hi hq
    obtain ⟨q, rfl⟩ : ∃ z, q = z + 1 := ⟨q - 1, by omega⟩
    rw [fM_lock_L63_s, if_pos (z_ok (by omega) (by omega)), z_cl (by omega), hs, if_pos (nI_le (by omega) (by omega)), if_pos (z_ok2 (by omega) (by omega)), if_pos (i64_ne (by rw [nI_toInt (by omega)]; omega)), show i = n by omega]
  | succ m ih =>
    intro i q hi hq
    obtain ⟨q, rfl⟩ : ∃ z, q = z + 1 := ⟨q - 1, by omega⟩
    rw [fM_lock_L63_s, if_pos (z_ok (by omega) (by omega)), z_cl (k := k) (by omega), hs, if_neg (nI_ge (by omega) (by omega)), ix10, if_pos (z_ok (by omega) (by omega)), z_cl (by omega), nI_1]
    exact ih (i + 1) q (by omega) (by omega)
theorem sm_in {f : Nat → Int64} : ∀ {m : Nat}, m ≤ 10 → (∀ i, i < m → 0 ≤ (f i).toInt ∧ (f i).toInt ≤ 10000000) → 0 ≤ (sm f m).toInt ∧ (sm f m).toInt ≤ m * 10000000
  | 0, _, _ => by rw [show sm f 0 = 0 from rfl]; decide
  | m + 1, hm, h => by
    have h1 := sm_in (f := f) (m := m) (by omega) (fun i hi => h i (by omega))
    have h2 := h m (by omega)
    show 0 ≤ (sm f m + f m).toInt ∧ (sm f m + f m).toInt ≤ _
    rw [l_add (by omega) (by omega)]
    omega
theorem loss_in {f : Nat → Int64} {n : Nat} {sh : Int32} (h1 : 1 ≤ n) (hn : n ≤ 10) (hs : 0 ≤ sh.toInt ∧ sh.toInt ≤ 100) (h : ∀ i, i < n → 0 ≤ (f i).toInt ∧ (f i).toInt ≤ 10000000) : 0 ≤ (sm f n / (nI n).toInt64 * sh.toInt64 / (1000 : Int64)).toInt ∧ (sm f n / (nI n).toInt64 * sh.toInt64 / (1000 : Int64)).toInt ≤ 10000000 := by
  have h2 := sm_in hn h
  have e0 : ((nI n).toInt64).toInt = (n : Int) := by rw [Int32.toInt_toInt64, nI_toInt (by omega)]
  have e1 : (sm f n / (nI n).toInt64).toInt = (sm f n).toInt / (n : Int) := by
    rw [l_div (by rw [e0]; omega), e0, Int.tdiv_eq_ediv_of_nonneg h2.1]
  have b1 : 0 ≤ (sm f n).toInt / (n : Int) := Int.ediv_nonneg h2.1 (by omega)
  have b2 : (sm f n).toInt / (n : Int) ≤ 100000000 := Int.le_trans (Int.ediv_le_self _ h2.1) (by omega)
  generalize (sm f n).toInt / (n : Int) = Mv at e1 b1 b2
  have b3 : Mv * sh.toInt ≤ 100000000 * 100 := Int.mul_le_mul b2 hs.2 hs.1 (by omega)
  have b4 : 0 ≤ Mv * sh.toInt := Int.mul_nonneg b1 hs.1
  have e2 : (sm f n / (nI n).toInt64 * sh.toInt64).toInt = Mv * sh.toInt := by
    rw [l_mul, e1, Int32.toInt_toInt64] <;> rw [e1, Int32.toInt_toInt64] <;> omega
  rw [l_div (by decide), e2, show (1000 : Int64).toInt = 1000 from rfl, Int.tdiv_eq_ediv_of_nonneg b4]
  omega
theorem sim_lock {fu : Nat} (hfu : 2000 ≤ fu) {N : Nat} {lc : Int32} {dc : Int32} {sp : Int32} {sh : Int32} {fd : Int32} {lo : Nat → Int32} {rough : Int32} {mu : Int32} {Rs : Nat → kR} {thr : Int32} {ten : Int32} {loc : Int32} {rou : Int32} {mum : Int32} {sli : Int32} {sha : Int32} {fad : Int32} {day : Int32} {mar : Nat → Int32} {msi : Nat → Int32} {mst : Nat → Int32} {men : Nat → Int32} {mpu : Nat → Int32} {mxs : Nat → Int32} {mys : Nat → Int32} {mfo : Nat → Int64} {mor : Nat → Int32} {mo1 : Nat → Int64} {mo2 : Nat → Int64} (h : Rl N lc dc sp sh fd lo rough mu Rs thr ten loc rou mum sli sha fad day mar msi mst men mpu mxs mys mfo mor mo1 mo2) (p1 : Int32) : ∃ (r : Int32) (lc' : Int32) (lo' : Nat → Int32) (Rs' : Nat → kR) (loc' : Int32) (mst' : Nat → Int32) (mfo' : Nat → Int64) (mor' : Nat → Int32) (mo1' : Nat → Int64), fL_lock fu N lc dc sp sh fd lo rough mu Rs p1 = some (r, lc', lo', Rs') ∧ fM_lock fu thr ten loc rou mum sli sha fad day mar msi mst men mpu mxs mys mfo mor mo1 mo2 p1 = some (r, loc', mst', mfo', mor', mo1') ∧ Rl N lc' dc sp sh fd lo' rough mu Rs' thr ten loc' rou mum sli sha fad day mar msi mst' men mpu mxs mys mfo' mor' mo1' mo2 := by
  obtain ⟨h6, rfl, rfl, rfl, rfl, rfl, rfl, rfl, rfl, hb, ⟨K, hK⟩, hT, hU⟩ := id h
  obtain ⟨rfl, k2, k3, k4⟩ := id hK
  rcases z_ix p1 (N := N) (by omega) with ⟨k, hk, rfl⟩ | c
  · obtain ⟨n, a1, a2, a3, a4, a5, a6, a7, a8, a9, a10, a11⟩ := hT k hk
    have zk : (nI k).toNatClampNeg = k := z_cl (by omega)
    by_cases c1 : (Rs k).2.1 = 1
    · have c1m : mst k = 1 := by rw [a6]; exact c1
      obtain ⟨n2, e1, e2, hpf, w1, w2⟩ := a8 (by rw [c1]; decide)
      have hkK : k ∉ K := fun q => by have := ((k3 k).mp q).2; rw [c1] at this; exact absurd this (by decide)
      have kl : K.length < 6 := by
        have := nd_len N (k :: K) (List.nodup_cons.mpr ⟨hkK, k2⟩) (fun j hj => by
          rcases List.mem_cons.mp hj with q | q
          · rw [q]; exact hk
          · exact ((k3 j).mp q).1)
        rw [List.length_cons] at this
        omega
      obtain ⟨P, hP, hPe⟩ : ∃ P, P ≤ 10000000 ∧ (Rs k).2.2.2.1 = nI P := by
        obtain ⟨P, q1, q2⟩ := vp_in_of (x := (Rs k).2.2.2.1) (n := 10000001) (vp_in_iff.mpr (by omega)) (by omega)
        exact ⟨P, by omega, q2⟩
      have hg : GeO mxs mys k n := ⟨fun i hi => (a9 i hi).2.2, fun i hi => (a10 i hi).1⟩
      -- slip, at one end or at both
      have hslip : ∃ fo2 tr2 mf1 q1 mfo2 o2, fT_slipBack fu (Rs k).1 (Rs k).2.1 (Rs k).2.2.1 (Rs k).2.2.2.1 (nI n) (Rs k).2.2.2.2.2.1 (Rs k).2.2.2.2.2.2.1 (Rs k).2.2.2.2.2.2.2.1 (Rs k).2.2.2.2.2.2.2.2.1 (Rs k).2.2.2.2.2.2.2.2.2.1 (Rs k).2.2.2.2.2.2.2.2.2.2 rou mum sli = some (fo2, tr2) ∧
          (if (men k) = (2 : Int32) then some (mfo, mo1) else ((fM_letSlip fu thr (nI N) (nI K.length) rou mum sli sha fad day mar msi mst men mpu mxs mys mfo mor mo1 mo2 (nI k) (0 : Int32)).bind fun r_39 => some ((r_39.1), (r_39.2)))) = some (mf1, q1) ∧
          (if (men k) = (1 : Int32) then some (mf1, q1) else ((fM_letSlip fu thr (nI N) (nI K.length) rou mum sli sha fad day mar msi mst men mpu mxs mys mf1 mor q1 mo2 (nI k) (1 : Int32)).bind fun r_55 => some ((r_55.1), (r_55.2)))) = some (mfo2, o2) ∧
          (∀ j, j < 10 → fo2 j = mfo2 (10 * k + j) ∧ 0 ≤ (mfo2 (10 * k + j)).toInt ∧ (mfo2 (10 * k + j)).toInt ≤ 10000000) ∧ ∀ x, ¬ (10 * k ≤ x ∧ x < 10 * k + n) → mfo2 x = mfo x := by
        have one : ∀ (e : Bool) (fo tr m1 q1 : Nat → Int64), (∀ j, j < 10 → fo j = m1 (10 * k + j) ∧ 0 ≤ (m1 (10 * k + j)).toInt ∧ (m1 (10 * k + j)).toInt ≤ 10000000) → ∃ fo2 tr2 mfo2 o2, fT_slipAtEnd fu (Rs k).1 (Rs k).2.1 (Rs k).2.2.1 (nI P) (nI n) (Rs k).2.2.2.2.2.1 (Rs k).2.2.2.2.2.2.1 (Rs k).2.2.2.2.2.2.2.1 (Rs k).2.2.2.2.2.2.2.2.1 fo tr rou mum (ec e) sli = some (fo2, tr2) ∧ fM_letSlip fu thr (nI N) (nI K.length) rou mum sli sha fad day mar msi mst men mpu mxs mys m1 mor q1 mo2 (nI k) (eb e) = some (mfo2, o2) ∧ (∀ j, j < 10 → fo2 j = mfo2 (10 * k + j) ∧ 0 ≤ (mfo2 (10 * k + j)).toInt ∧ (mfo2 (10 * k + j)).toInt ≤ 10000000) ∧ ∀ x, ¬ (10 * k ≤ x ∧ x < 10 * k + n) → mfo2 x = m1 x := fun e fo tr m1 q1 hfo =>
          slip_one e hfu (by omega) a1 a3 hg (by rw [a4]; exact a5.1) (by rw [a4]; exact a5.2) a4.symm hb.1 hb.2.1 hP (by rw [e2]; exact hPe) hfo (fun i hi => (a10 i hi).2.1) (fun i hi => (a10 i hi).2.2)
        rw [e1, hPe]
        unfold fT_slipBack
        rcases hpf with q | q | q
        · obtain ⟨f2, t2, m2, o2, s1, s2, s3, s4⟩ := one false _ (Rs k).2.2.2.2.2.2.2.2.2.2 mfo mo1 a11
          rw [q, show ec false = (1 : Int32) from rfl] at s1
          rw [show eb false = (0 : Int32) from rfl] at s2
          rw [q]
          refine ⟨f2, t2, m2, o2, m2, o2, ?_, ?_, ?_, s3, s4⟩
          · rw [if_neg (by decide), s1, Option.bind_some, Option.bind_some, if_pos (by decide)]
          · rw [if_neg (by decide), s2, Option.bind_some]
          · rw [if_pos rfl]
        · obtain ⟨f2, t2, m2, o2, s1, s2, s3, s4⟩ := one true _ (Rs k).2.2.2.2.2.2.2.2.2.2 mfo mo1 a11
          rw [q, show ec true = (2 : Int32) from rfl] at s1
          rw [show eb true = (1 : Int32) from rfl] at s2
          rw [q]
          refine ⟨f2, t2, mfo, mo1, m2, o2, ?_, ?_, ?_, s3, s4⟩
          · rw [if_pos (by decide), Option.bind_some, if_neg (by decide)]
            dsimp only
            rw [s1, Option.bind_some]
          · rw [if_pos rfl]
          · rw [if_neg (by decide), s2, Option.bind_some]
        · obtain ⟨f1, t1, m1, o1, s1, s2, s3, s4⟩ := one false _ (Rs k).2.2.2.2.2.2.2.2.2.2 mfo mo1 a11
          obtain ⟨f2, t2, m2, o2, u1, u2, u3, u4⟩ := one true f1 t1 m1 o1 s3
          rw [q, show ec false = (1 : Int32) from rfl] at s1
          rw [show eb false = (0 : Int32) from rfl] at s2
          rw [q, show ec true = (2 : Int32) from rfl] at u1
          rw [show eb true = (1 : Int32) from rfl] at u2
          rw [q]
          refine ⟨f2, t2, m1, o1, m2, o2, ?_, ?_, ?_, u3, fun x hx => by rw [u4 x hx, s4 x hx]⟩
          · rw [if_neg (by decide), s1, Option.bind_some, Option.bind_some, if_neg (by decide)]
            dsimp only
            rw [u1, Option.bind_some]
          · rw [if_neg (by decide), s2, Option.bind_some]
          · rw [if_neg (by decide), u2, Option.bind_some]
      obtain ⟨fo2, tr2, mf1, q1, mfo2, o2, hsl1, hsl2, hsl3, hsl4, hsl5⟩ := hslip
      have hmean : sm fo2 n = sm (fun i => mfo2 (10 * k + i)) n := sm_congr (fun i hi => (hsl4 i (by omega)).1)
      generalize hls : sm (fun i => mfo2 (10 * k + i)) n / (nI n).toInt64 * sha.toInt64 / (1000 : Int64) = loss
      have hlb : 0 ≤ loss.toInt ∧ loss.toInt ≤ 10000000 := by rw [← hls]; exact loss_in (by omega) a1 hb.2.2.2.1 (fun i hi => (hsl4 i (by omega)).2)
      have hnb : ∀ j, (if j < N then (msi j).toNatClampNeg else 0) ≤ 10 := fun j => by
        by_cases q : j < N
        · obtain ⟨n', b1, b2, b3, b4⟩ := hT j q
          rw [if_pos q, b3, z_cl (by omega)]
          exact b1
        · rw [if_neg q]; omega
      have hM := lock_119 (fu := fu) (thr := thr) (ten := nI N) (rou := rou) (mum := mum) (sli := sli) (sha := sha) (fad := fad) (day := day) (mar := mar) (msi := msi) (mst := mst) (men := men) (mpu := mpu) (mxs := mxs) (mys := mys) (mor := mor) (mo2 := mo2) (K := K) (n := fun j => if j < N then (msi j).toNatClampNeg else 0) (z3 := sm (fun i => mfo2 (10 * k + i)) n) (r22 := (sm (fun i => pcO (mar k) mxs mys k i (mfo (10 * k + i) + mfo (10 * k + i + 1))) (n - 1)).toInt32) (j49 := (mfo2, o2)) (loss := loss) (k0 := k) (n0 := n) (by rw [a3]; exact hls) hfu (by omega) a1 a3 (by rw [a4]; exact a5.1) (by rw [a4]; exact a5.2) kl (fun j k' hjk => by
        have hm := (k3 k').mp (List.mem_of_getElem? hjk)
        obtain ⟨n', b1, b2, b3, b4⟩ := hT k' hm.1
        refine ⟨(k4 j k' hjk).2, by omega, ?_, hnb k'⟩
        rw [if_pos hm.1, b3, z_cl (by omega)]) K.length 0 fu mfo2 (by omega) (by omega)
      have hgk : ∀ i, i < 10 → gL (wkM loss) (fun j => if j < N then (msi j).toNatClampNeg else 0) (K.drop 0) mfo2 (10 * k + i) = mfo2 (10 * k + i) := fun i hi => by
        rw [gL_at hnb hi (K.drop 0) mfo2 k2, if_neg (fun z => hkK z.1)]
      have hsum2 : sm (fun i => pcO (mar k) mxs mys k i (gL (wkM loss) (fun j => if j < N then (msi j).toNatClampNeg else 0) (K.drop 0) mfo2 (10 * k + i) + gL (wkM loss) (fun j => if j < N then (msi j).toNatClampNeg else 0) (K.drop 0) mfo2 (10 * k + i + 1))) (n - 1) = sm (fun i => pcO (mar k) mxs mys k i (mfo2 (10 * k + i) + mfo2 (10 * k + i + 1))) (n - 1) := sm_congr (fun i hi => by rw [hgk i (by omega), Nat.add_assoc, hgk (i + 1) (by omega)])
      rw [hsum2] at hM
      -- the class
      have hR1 : ∀ j, va_up Rs k ((Rs k).1, (2 : Int32), (Rs k).2.2.1, (Rs k).2.2.2.1, (Rs k).2.2.2.2.1, (Rs k).2.2.2.2.2.1, (Rs k).2.2.2.2.2.2.1, (Rs k).2.2.2.2.2.2.2.1, (Rs k).2.2.2.2.2.2.2.2.1, fo2, tr2) j = if j = k then ((Rs k).1, (2 : Int32), (Rs k).2.2.1, (Rs k).2.2.2.1, (Rs k).2.2.2.2.1, (Rs k).2.2.2.2.2.1, (Rs k).2.2.2.2.2.2.1, (Rs k).2.2.2.2.2.2.2.1, (Rs k).2.2.2.2.2.2.2.2.1, fo2, tr2) else Rs j := fun j => rfl
      generalize hRe : va_up Rs k ((Rs k).1, (2 : Int32), (Rs k).2.2.1, (Rs k).2.2.2.1, (Rs k).2.2.2.2.1, (Rs k).2.2.2.2.2.1, (Rs k).2.2.2.2.2.2.1, (Rs k).2.2.2.2.2.2.2.1, (Rs k).2.2.2.2.2.2.2.2.1, fo2, tr2) = R1 at hR1
      have hR1k : R1 k = ((Rs k).1, (2 : Int32), (Rs k).2.2.1, (Rs k).2.2.2.1, (Rs k).2.2.2.2.1, (Rs k).2.2.2.2.2.1, (Rs k).2.2.2.2.2.2.1, (Rs k).2.2.2.2.2.2.2.1, (Rs k).2.2.2.2.2.2.2.2.1, fo2, tr2) := by rw [hR1, if_pos rfl]
      have hwC := weak_C (fu := fu) (loss := loss) (lo := lo) (K := K) h6 hfu (by omega) k2 (fun i k' hk' => ⟨(k4 i k' hk').1, ((k3 k').mp (List.mem_of_getElem? hk')).1⟩) K.length 0 R1 (by omega) (fun j hj => by
        by_cases q : j = k
        · subst q; rw [hR1k]; exact ⟨n, a1, a2⟩
        · obtain ⟨n', b1, b2, b3⟩ := hT j hj
          rw [hR1, if_neg q]; exact ⟨n', b1, b2⟩) fu (by omega)
      have hkd : k ∉ K.drop 0 := hkK
      have hst1 : sm (fun i => pcO (Rs k).1 mxs mys k i ((Rs k).2.2.2.2.2.2.2.2.2.1 i + (Rs k).2.2.2.2.2.2.2.2.2.1 (i + 1))) (n - 1) = sm (fun i => pcO (mar k) mxs mys k i (mfo (10 * k + i) + mfo (10 * k + i + 1))) (n - 1) := sm_congr (fun i hi => by rw [(a11 i (by omega)).1, (a11 (i + 1) (by omega)).1, a4, Nat.add_assoc])
      have hst2 : sm (fun i => pcO (Rs k).1 mxs mys k i (fo2 i + fo2 (i + 1))) (n - 1) = sm (fun i => pcO (mar k) mxs mys k i (mfo2 (10 * k + i) + mfo2 (10 * k + i + 1))) (n - 1) := sm_congr (fun i hi => by rw [(hsl4 i (by omega)).1, (hsl4 (i + 1) (by omega)).1, a4, Nat.add_assoc])
      have hlc : nI K.length < (6 : Int32) := (nI_ltI (a := K.length) (b := 6) (by omega) (by omega)).mpr kl
      refine ⟨(sm (fun i => pcO (mar k) mxs mys k i (mfo (10 * k + i) + mfo (10 * k + i + 1))) (n - 1) - sm (fun i => pcO (mar k) mxs mys k i (mfo2 (10 * k + i) + mfo2 (10 * k + i + 1))) (n - 1)).toInt32, nI (K.length + 1), upd lo K.length (nI k), (fun j => if j ∈ K.drop 0 then wkR loss (R1 j) else R1 j), nI (K.length + 1), upd mst k 2, gL (wkM loss) (fun j => if j < N then (msi j).toNatClampNeg else 0) (K.drop 0) mfo2, upd mor K.length (nI k), o2, ?_, ?_, h6, rfl, rfl, rfl, rfl, rfl, rfl, rfl, rfl, hb, ⟨K ++ [k], ?_, ?_, ?_, ?_⟩, ?_, ?_⟩
      · have hmean2 : fT_meanForce fu (Rs k).1 (2 : Int32) (Rs k).2.2.1 (Rs k).2.2.2.1 (nI n) (Rs k).2.2.2.2.2.1 (Rs k).2.2.2.2.2.2.1 (Rs k).2.2.2.2.2.2.2.1 (Rs k).2.2.2.2.2.2.2.2.1 fo2 tr2 = some (sm fo2 n / (nI n).toInt64) := mean_4 hfu (by omega) a1 n 0 fu (by omega) (by omega)
        have hwk : fL_weakenLockedOnes fu N (nI K.length) day sli sha fad lo rou mum R1 loss = some (fun j => if j ∈ K.drop 0 then wkR loss (R1 j) else R1 j) := hwC
        unfold fL_lock
        rw [if_pos (z_ok hk (by omega)), if_pos (z_rg hk (by omega)), zk, if_pos c1, if_pos hlc, a2, str_D (k := k) (mxs := mxs) (mys := mys) (by omega) a5.1 a5.2 a1 (fun i hi => (a10 i hi).2.1), Option.bind_some, hsl1, Option.bind_some, hst1]
        dsimp only
        rw [hmean2, Option.bind_some, hmean, hls, ← a2, hRe, hwk, Option.bind_some, if_pos (z_ok (by omega) (by omega)), if_pos (List.mem_range.mpr hk)]
        dsimp only
        rw [if_neg hkd, hR1k]
        dsimp only
        rw [a2, str_D (k := k) (mxs := mxs) (mys := mys) (by omega) a5.1 a5.2 a1 (fun i hi => (a10 i hi).2.1), Option.bind_some, hst2, nI_1, z_cl (by omega)]
      · unfold fM_lock
        rw [isT_t h6 hk, Option.bind_some, if_neg (by decide), zk, if_pos (z_ok2 (by omega) (by omega)), if_pos c1m, str_M (by omega) (by omega) (by rw [a4]; exact a5.1) (by rw [a4]; exact a5.2) a1 a3, Option.bind_some, if_pos (z_ok2 (by omega) (by omega)), hsl2, Option.bind_some, if_pos (z_ok2 (by omega) (by omega))]
        dsimp only
        rw [hsl3, Option.bind_some]
        refine (lock_63 hfu (by omega) (by omega) a1 a3 n 0 fu (by omega) (by omega)).trans ?_
        refine hM.trans ?_
        rw [Int64.toInt32_sub]
      · rw [List.length_append]; rfl
      · exact List.nodup_append.mpr ⟨k2, List.nodup_cons.mpr ⟨List.not_mem_nil, List.nodup_nil⟩, fun x hx y hy hxy => by
          rw [List.mem_singleton] at hy
          rw [hxy, hy] at hx
          exact hkK hx⟩
      · intro j
        rw [List.mem_append, List.mem_singleton]
        by_cases q : j = k
        · subst q
          dsimp only
          rw [if_neg hkd, hR1k]
          exact ⟨fun _ => ⟨hk, rfl⟩, fun _ => Or.inr rfl⟩
        · dsimp only
          rw [k3 j, hR1, if_neg q]
          by_cases q2 : j ∈ K.drop 0
          · rw [if_pos q2]
            exact ⟨fun z => z.elim id (fun z => absurd z q), fun z => Or.inl z⟩
          · rw [if_neg q2]
            exact ⟨fun z => z.elim id (fun z => absurd z q), fun z => Or.inl z⟩
      · intro i k' hik
        by_cases q : i = K.length
        · subst q
          rw [List.getElem?_append_right (Nat.le_refl _), Nat.sub_self] at hik
          have ex : k = k' := Option.some.inj hik
          rw [upd_at, upd_at, ex]
          exact ⟨rfl, rfl⟩
        · have hil : i < K.length := by
            have := (List.getElem?_eq_some_iff.mp hik).1
            rw [List.length_append] at this
            simp at this
            omega
          rw [List.getElem?_append_left hil] at hik
          rw [upd_ne q, upd_ne q]
          exact k4 i k' hik
      · intro j hj
        dsimp only
        by_cases q : j = k
        · subst q
          rw [if_neg hkd, hR1k]
          refine ⟨n, a1, a2, a3, a4, a5, upd_at, Or.inr (Or.inr rfl), fun _ => ⟨n2, e1, e2, hpf, w1, w2⟩, a9, a10, fun i hi => ?_⟩
          rw [hgk i hi]
          exact hsl4 i hi
        · have hx9 : ∀ i, i < 10 → mfo2 (10 * j + i) = mfo (10 * j + i) := fun i hi => hsl5 _ (by omega)
          obtain ⟨n', b1, b2, b3, b4, b5, b6, b7, b8, b9, b10, b11⟩ := hT j hj
          rw [hR1, if_neg q]
          by_cases q2 : j ∈ K.drop 0
          · rw [if_pos q2]
            refine ⟨n', b1, b2, b3, b4, b5, by rw [upd_ne q]; exact b6, b7, b8, b9, b10, fun i hi => ?_⟩
            have h11 := b11 i hi
            have hw := wk_same h11.2.1 h11.2.2 hlb.1 hlb.2
            rw [gL_at hnb hi (K.drop 0) mfo2 k2, hx9 i hi]
            show (if 0 ≤ i ∧ i < (Rs j).2.2.2.2.1.toNatClampNeg then wkC loss ((Rs j).2.2.2.2.2.2.2.2.2.1 i) else (Rs j).2.2.2.2.2.2.2.2.2.1 i) = _ ∧ _
            rw [b2, z_cl (by omega), if_pos hj, b3, z_cl (by omega), h11.1]
            by_cases q3 : i < n'
            · rw [if_pos (by omega), if_pos ⟨q2, q3⟩]
              exact ⟨hw.1, hw.2⟩
            · rw [if_neg (by omega), if_neg (fun z => q3 z.2)]
              exact ⟨rfl, h11.2⟩
          · rw [if_neg q2]
            refine ⟨n', b1, b2, b3, b4, b5, by rw [upd_ne q]; exact b6, b7, b8, b9, b10, fun i hi => ?_⟩
            rw [gL_at hnb hi (K.drop 0) mfo2 k2, if_neg (fun z => q2 z.1), hx9 i hi]
            exact b11 i hi
      · intro j q1 q2
        have hu := hU j q1 q2
        refine ⟨hu.1, by rw [upd_ne (by omega)]; exact hu.2.1, fun i hi => ?_⟩
        rw [gL_at hnb hi (K.drop 0) mfo2 k2, if_neg (fun z => absurd ((k3 j).mp z.1).1 (by omega)), hsl5 _ (by omega)]
        exact hu.2.2 i hi
    · have c1m : ¬ mst k = 1 := by rw [a6]; exact c1
      refine ⟨-1, _, _, Rs, _, _, _, _, _, ?_, ?_, h⟩
      · unfold fL_lock
        rw [if_pos (z_ok hk (by omega)), if_pos (z_rg hk (by omega)), zk, if_neg c1]
      · unfold fM_lock
        rw [isT_t h6 hk, Option.bind_some, if_neg (by decide), zk, if_pos (z_ok2 (by omega) (by omega)), if_neg c1m]
  · refine ⟨-1, _, _, Rs, _, _, _, _, _, ?_, ?_, h⟩
    · unfold fL_lock
      rw [if_neg c]
    · unfold fM_lock
      rw [isT_f h6 c, Option.bind_some, if_pos rfl]
