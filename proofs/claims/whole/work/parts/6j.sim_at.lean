/-- the force at x of the piece j -/
def atO (mxs : Nat → Int32) (mfo : Nat → Int64) (k : Nat) (x : Int32) (j : Nat) : Int64 := mfo (10 * k + j) + (mfo (10 * k + j + 1) - mfo (10 * k + j)) * (x - mxs (10 * k + j)).toInt64 / (mxs (10 * k + j + 1) - mxs (10 * k + j)).toInt64
theorem at_both {fu n k : Nat} {xs msi mxs : Nat → Int32} {mfo : Nat → Int64} {x : Int32} (hk : k < 6) (hn : n ≤ 10) (hs : msi k = nI n) (hx : ∀ i, i < n → xs i = mxs (10 * k + i)) (hd : ∀ i, i + 1 < n → (mxs (10 * k + i)).toInt + 100 ≤ (mxs (10 * k + i + 1)).toInt ∧ (0 ≤ (mxs (10 * k + i)).toInt ∧ (mxs (10 * k + i + 1)).toInt ≤ 100000)) : ∀ m i, i + m + 1 = n →
    (∃ j, j + 1 < n ∧ (∀ q, m < q → fD_pieceOver_L2 fu (nI n) xs x q (nI i) = some (nI j)) ∧ ∀ q, m < q → fM_at_L12 fu msi mxs mfo (nI k) x q (nI i) = some (atO mxs mfo k x j).toInt32) ∨
    ((∀ q, m < q → fD_pieceOver_L2 fu (nI n) xs x q (nI i) = some (-1)) ∧ ∀ q, m < q → fM_at_L12 fu msi mxs mfo (nI k) x q (nI i) = some (-1)) := by
  intro m
  induction m with
  | zero =>
    intro i hi
    refine Or.inr ⟨?_, ?_⟩
    · intro q hq
      obtain ⟨q, rfl⟩ : ∃ z, q = z + 1 := ⟨q - 1, by omega⟩
      rw [fD_pieceOver_L2_s, if_pos (by rw [Int32.le_iff_toInt_le, nI_m1 (by omega), nI_toInt (by omega)]; omega)]
    · intro q hq
      obtain ⟨q, rfl⟩ : ∃ z, q = z + 1 := ⟨q - 1, by omega⟩
      rw [fM_at_L12_s, if_pos (z_ok (by omega) (by omega)), z_cl (by omega), if_pos (by rw [hs, nI_1, Int32.le_iff_toInt_le, nI_toInt (by omega), nI_toInt (by omega)]; omega)]
  | succ m ih =>
    intro i hi
    have c1 : ¬ nI n - (1 : Int32) ≤ nI i := by rw [Int32.le_iff_toInt_le, nI_m1 (by omega), nI_toInt (by omega)]; omega
    have c2 : ¬ msi k ≤ nI i + (1 : Int32) := by rw [hs, nI_1, Int32.le_iff_toInt_le, nI_toInt (by omega), nI_toInt (by omega)]; omega
    have hdi := hd i (by omega)
    have hne : ¬ (mxs (10 * k + i + 1) - mxs (10 * k + i)).toInt64 = 0 := i64_ne (by rw [i_sub (by omega) (by omega)]; omega)
    by_cases c3 : (mxs (10 * k + i)).toInt ≤ x.toInt ∧ x.toInt ≤ (mxs (10 * k + i + 1)).toInt
    · refine Or.inl ⟨i, by omega, ?_, ?_⟩
      · intro q hq
        obtain ⟨q, rfl⟩ : ∃ z, q = z + 1 := ⟨q - 1, by omega⟩
        rw [fD_pieceOver_L2_s, if_neg c1, if_pos (z_ok (by omega) (by omega)), nI_1, if_pos (z_ok (by omega) (by omega)), z_cl (by omega), z_cl (by omega), hx i (by omega), hx (i + 1) (by omega), iw_t (by rw [← Nat.add_assoc]; exact c3), Option.bind_some, if_neg (by decide)]
      · intro q hq
        obtain ⟨q, rfl⟩ : ∃ z, q = z + 1 := ⟨q - 1, by omega⟩
        rw [fM_at_L12_s, if_pos (z_ok (by omega) (by omega)), z_cl (k := k) (by omega), if_neg c2, ix10, if_pos (z_ok (by omega) (by omega)), nI_1, if_pos (z_ok (by omega) (by omega)), z_cl (by omega), z_cl (by omega), in_t c3, Option.bind_some, if_neg (by decide), if_pos (z_ok2 (by omega) (by omega)), if_pos (z_ok2 (by omega) (by omega)), if_pos (z_ok2 (by omega) (by omega)), if_pos (z_ok2 (by omega) (by omega)), if_pos (z_ok2 (by omega) (by omega)), if_pos (z_ok2 (by omega) (by omega)), if_pos hne]
        rfl
    · have s1 : ∀ q, fD_pieceOver_L2 fu (nI n) xs x (q + 1) (nI i) = fD_pieceOver_L2 fu (nI n) xs x q (nI (i + 1)) := fun q => by
        rw [fD_pieceOver_L2_s, if_neg c1, if_pos (z_ok (by omega) (by omega)), nI_1, if_pos (z_ok (by omega) (by omega)), z_cl (by omega), z_cl (by omega), hx i (by omega), hx (i + 1) (by omega), iw_f (by rw [← Nat.add_assoc]; exact c3), Option.bind_some, if_pos rfl]
      have s2 : ∀ q, fM_at_L12 fu msi mxs mfo (nI k) x (q + 1) (nI i) = fM_at_L12 fu msi mxs mfo (nI k) x q (nI (i + 1)) := fun q => by
        rw [fM_at_L12_s, if_pos (z_ok (by omega) (by omega)), z_cl (k := k) (by omega), if_neg c2, ix10, if_pos (z_ok (by omega) (by omega)), nI_1, if_pos (z_ok (by omega) (by omega)), z_cl (by omega), z_cl (by omega), in_f c3, Option.bind_some, if_pos rfl, nI_1]
      rcases ih (i + 1) (by omega) with ⟨j, h1, h2, h3⟩ | ⟨h2, h3⟩
      · refine Or.inl ⟨j, h1, ?_, ?_⟩
        · intro q hq
          obtain ⟨q, rfl⟩ : ∃ z, q = z + 1 := ⟨q - 1, by omega⟩
          rw [s1]
          exact h2 q (by omega)
        · intro q hq
          obtain ⟨q, rfl⟩ : ∃ z, q = z + 1 := ⟨q - 1, by omega⟩
          rw [s2]
          exact h3 q (by omega)
      · refine Or.inr ⟨?_, ?_⟩
        · intro q hq
          obtain ⟨q, rfl⟩ : ∃ z, q = z + 1 := ⟨q - 1, by omega⟩
          rw [s1]
          exact h2 q (by omega)
        · intro q hq
          obtain ⟨q, rfl⟩ : ∃ z, q = z + 1 := ⟨q - 1, by omega⟩
          rw [s2]
          exact h3 q (by omega)
theorem sim_at {fu : Nat} (hfu : 2000 ≤ fu) {N : Nat} {lc : Int32} {dc : Int32} {sp : Int32} {sh : Int32} {fd : Int32} {lo : Nat → Int32} {rough : Int32} {mu : Int32} {Rs : Nat → kR} {thr : Int32} {ten : Int32} {loc : Int32} {rou : Int32} {mum : Int32} {sli : Int32} {sha : Int32} {fad : Int32} {day : Int32} {mar : Nat → Int32} {msi : Nat → Int32} {mst : Nat → Int32} {men : Nat → Int32} {mpu : Nat → Int32} {mxs : Nat → Int32} {mys : Nat → Int32} {mfo : Nat → Int64} {mor : Nat → Int32} {mo1 : Nat → Int64} {mo2 : Nat → Int64} (h : Rl N lc dc sp sh fd lo rough mu Rs thr ten loc rou mum sli sha fad day mar msi mst men mpu mxs mys mfo mor mo1 mo2) (p1 p2 : Int32) : ∃ (r : Int32), fL_at fu N lc dc sp sh fd lo rough mu Rs p1 p2 = some r ∧ fM_at fu thr ten loc rou mum sli sha fad day mar msi mst men mpu mxs mys mfo mor mo1 mo2 p1 p2 = some r ∧ Rl N lc dc sp sh fd lo rough mu Rs thr ten loc rou mum sli sha fad day mar msi mst men mpu mxs mys mfo mor mo1 mo2 := by
  obtain ⟨h6, rfl, rfl, rfl, rfl, rfl, rfl, rfl, rfl, hb, hK, hT, hU⟩ := id h
  rcases z_ix p1 (N := N) (by omega) with ⟨k, hk, rfl⟩ | c
  · obtain ⟨n, a1, a2, a3, a4, a5, a6, a7, a8, a9, a10, a11⟩ := hT k hk
    by_cases c2 : (Rs k).2.1 = 0
    · refine ⟨-1, ?_, ?_, h⟩
      · unfold fL_at
        rw [z_cl (by omega), if_neg (fun q => q.2 c2)]
      · unfold fM_at
        rw [hasF_0 h6 hk (by rw [a6, c2]; decide), Option.bind_some, if_pos rfl]
    · have hc : (¬ ((nI k) < 0 ∨ N ≤ (nI k).toNatClampNeg)) ∧ ¬ (Rs (nI k).toNatClampNeg).2.1 = 0 := ⟨z_ok hk (by omega), by rw [z_cl (by omega)]; exact c2⟩
      have hm : ¬ mst k ≤ 0 := by rw [a6, st_le a7]; exact c2
      have hn2 := (a8 c2).1
      have hd : ∀ i, i + 1 < n → (mxs (10 * k + i)).toInt + 100 ≤ (mxs (10 * k + i + 1)).toInt ∧ (0 ≤ (mxs (10 * k + i)).toInt ∧ (mxs (10 * k + i + 1)).toInt ≤ 100000) := fun i hi => ⟨(a10 i hi).1, (a9 i (by omega)).2.2.1.1, (a9 (i + 1) hi).2.2.1.2⟩
      rcases at_both (fu := fu) (x := p2) (mfo := mfo) (k := k) (by omega) a1 a3 (fun i hi => (a9 i hi).1) hd (n - 1) 0 (by omega) with ⟨j, h1, h2, h3⟩ | ⟨h2, h3⟩
      · refine ⟨(atO mxs mfo k p2 j).toInt32, ?_, ?_, h⟩
        · have hdj := hd j h1
          have hne : ¬ (mxs (10 * k + j + 1) - mxs (10 * k + j)).toInt64 = 0 := i64_ne (by rw [i_sub (by omega) (by omega)]; omega)
          unfold fL_at
          rw [if_pos hc, if_pos (z_rg hk (by omega)), z_cl (k := k) (by omega), a2]
          unfold fD_pieceOver
          rw [show (0 : Int32) = nI 0 from rfl, h2 fu (by omega), Option.bind_some, if_pos (by rw [Int32.le_iff_toInt_le, nI_toInt (by omega), nI_toInt (by omega)]; omega)]
          unfold fT_forceOn fD_widthOf
          rw [nI_1, if_pos (z_ok (by omega) (by omega)), if_pos (z_ok (by omega) (by omega)), if_pos (z_ok (by omega) (by omega)), if_pos (z_ok (by omega) (by omega)), if_pos (z_ok (by omega) (by omega)), if_pos (z_ok (by omega) (by omega)), Option.bind_some, z_cl (by omega), z_cl (by omega), (a9 j (by omega)).1, (a9 (j + 1) (by omega)).1, (a11 j (by omega)).1, (a11 (j + 1) (by omega)).1, ← Nat.add_assoc, quo_ne hne, Option.bind_some, Option.bind_some]
          rfl
        · unfold fM_at
          rw [hasF_t h6 hk hm, Option.bind_some, if_neg (by decide)]
          exact h3 fu (by omega)
      · refine ⟨-1, ?_, ?_, h⟩
        · unfold fL_at
          rw [if_pos hc, if_pos (z_rg hk (by omega)), z_cl (k := k) (by omega), a2]
          unfold fD_pieceOver
          rw [show (0 : Int32) = nI 0 from rfl, h2 fu (by omega), Option.bind_some, if_neg (by decide)]
        · unfold fM_at
          rw [hasF_t h6 hk hm, Option.bind_some, if_neg (by decide)]
          exact h3 fu (by omega)
  · refine ⟨-1, ?_, ?_, h⟩
    · unfold fL_at
      rw [if_neg (fun q => c q.1)]
    · unfold fM_at
      rw [hasF_f h6 c, Option.bind_some, if_pos rfl]
