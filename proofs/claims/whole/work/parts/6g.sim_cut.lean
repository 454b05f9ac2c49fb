/-- both compactions, row by row: F is what is kept of the first i -/
theorem cut_both {fu k : Nat} {K : List Nat} {mst : Nat → Int32} (hk : k < 6) (hl : K.length ≤ 6) (hK : ∀ j ∈ K, j < 6) : ∀ m i (arr arr' : Nat → Int32), i + m = K.length →
    (∀ j x, ((K.take i).filter (fun z => z ≠ k))[j]? = some x → arr j = nI x ∧ arr' j = nI x) → (∀ j x, i ≤ j → K[j]? = some x → arr j = nI x ∧ arr' j = nI x) →
    ∃ a2 a2' : Nat → Int32, (∀ q, m < q → fL_forgetLocked_L4 fu (nI K.length) (nI k) q (nI i) (nI ((K.take i).filter (fun z => z ≠ k)).length) arr = some (nI (K.filter (fun z => z ≠ k)).length, a2)) ∧
      (∀ q, m < q → fM_cut_L14 fu (nI K.length) mst (nI k) q (nI i) (nI ((K.take i).filter (fun z => z ≠ k)).length) arr' = some (1, nI (K.filter (fun z => z ≠ k)).length, upd mst k 0, a2')) ∧
      ∀ j x, (K.filter (fun z => z ≠ k))[j]? = some x → a2 j = nI x ∧ a2' j = nI x := by
  intro m
  induction m with
  | zero =>
    intro i arr arr' hi h1 h2
    have e : K.take i = K := by rw [show i = K.length by omega, List.take_length]
    rw [e] at h1 ⊢
    refine ⟨arr, arr', ?_, ?_, h1⟩
    · intro q hq
      obtain ⟨q, rfl⟩ : ∃ z, q = z + 1 := ⟨q - 1, by omega⟩
      rw [fL_forgetLocked_L4_s, if_pos (nI_le (by omega) (by omega))]
    · intro q hq
      obtain ⟨q, rfl⟩ : ∃ z, q = z + 1 := ⟨q - 1, by omega⟩
      rw [fM_cut_L14_s, if_pos (nI_le (by omega) (by omega)), if_pos (z_ok (by omega) (by omega)), z_cl (by omega)]
  | succ m ih =>
    intro i arr arr' hi h1 h2
    have hiK : i < K.length := by omega
    obtain ⟨e1, e1'⟩ := h2 i K[i] (Nat.le_refl _) (List.getElem?_eq_getElem hiK)
    have htk : K.take (i + 1) = K.take i ++ [K[i]] := by rw [List.take_succ, List.getElem?_eq_getElem hiK]; rfl
    have hF : ((K.take i).filter (fun z => z ≠ k)).length ≤ i := Nat.le_trans (List.length_filter_le _ _) (by rw [List.length_take]; omega)
    have hKi : K[i] < 6 := hK _ (List.getElem_mem hiK)
    by_cases c : K[i] = k
    · have hf : (K.take (i + 1)).filter (fun z => z ≠ k) = (K.take i).filter (fun z => z ≠ k) := by
        rw [htk, List.filter_append]
        simp [c]
      obtain ⟨a2, a2', g1, g2, g3⟩ := ih (i + 1) arr arr' (by omega) (by rw [hf]; exact h1) (fun j x hj hx => h2 j x (by omega) hx)
      rw [hf] at g1 g2
      refine ⟨a2, a2', ?_, ?_, g3⟩
      · intro q hq
        obtain ⟨q, rfl⟩ : ∃ z, q = z + 1 := ⟨q - 1, by omega⟩
        rw [fL_forgetLocked_L4_s, if_neg (nI_ge (by omega) (by omega)), if_pos (z_ok (by omega) (by omega)), z_cl (k := i) (by omega), e1, c, if_pos rfl, Option.bind_some, nI_1]
        exact g1 q (by omega)
      · intro q hq
        obtain ⟨q, rfl⟩ : ∃ z, q = z + 1 := ⟨q - 1, by omega⟩
        rw [fM_cut_L14_s, if_neg (nI_ge (by omega) (by omega)), if_pos (z_ok (by omega) (by omega)), z_cl (k := i) (by omega), e1', c, if_pos rfl, Option.bind_some, nI_1]
        exact g2 q (by omega)
    · have hf : (K.take (i + 1)).filter (fun z => z ≠ k) = (K.take i).filter (fun z => z ≠ k) ++ [K[i]] := by
        rw [htk, List.filter_append]
        simp [c]
      have hne : ¬ nI K[i] = nI k := fun e => c ((nI_eq (by omega) (by omega)).mp e)
      generalize hFe : (K.take i).filter (fun z => z ≠ k) = F at h1 hF hf ⊢
      obtain ⟨a2, a2', g1, g2, g3⟩ := ih (i + 1) (upd arr F.length (nI K[i])) (upd arr' F.length (nI K[i])) (by omega) (by
        rw [hf]
        intro j x hx
        by_cases ej : j = F.length
        · subst ej
          rw [List.getElem?_append_right (Nat.le_refl _), Nat.sub_self] at hx
          have ex : K[i] = x := Option.some.inj hx
          rw [upd_at, upd_at, ex]
          exact ⟨rfl, rfl⟩
        · have hjl : j < F.length := by
            have := (List.getElem?_eq_some_iff.mp hx).1
            rw [List.length_append] at this
            simp at this
            omega
          rw [List.getElem?_append_left hjl] at hx
          rw [upd_ne ej, upd_ne ej]
          exact h1 j x hx) (fun j x hj hx => by
        rw [upd_ne (by omega), upd_ne (by omega)]
        exact h2 j x (by omega) hx)
      rw [hf, List.length_append] at g1 g2
      refine ⟨a2, a2', ?_, ?_, g3⟩
      · intro q hq
        obtain ⟨q, rfl⟩ : ∃ z, q = z + 1 := ⟨q - 1, by omega⟩
        rw [fL_forgetLocked_L4_s, if_neg (nI_ge (by omega) (by omega)), if_pos (z_ok (by omega) (by omega)), z_cl (k := i) (by omega), e1, if_neg hne, if_pos (z_ok2 (by omega) (by omega)), if_pos (z_ok (by omega) (by omega)), Option.bind_some, nI_1, nI_1, z_cl (by omega)]
        exact g1 q (by omega)
      · intro q hq
        obtain ⟨q, rfl⟩ : ∃ z, q = z + 1 := ⟨q - 1, by omega⟩
        rw [fM_cut_L14_s, if_neg (nI_ge (by omega) (by omega)), if_pos (z_ok (by omega) (by omega)), z_cl (k := i) (by omega), e1', if_neg hne, if_pos (z_ok2 (by omega) (by omega)), if_pos (z_ok (by omega) (by omega)), Option.bind_some, nI_1, nI_1, z_cl (by omega)]
        exact g2 q (by omega)
theorem sim_cut {fu : Nat} (hfu : 2000 ≤ fu) {N : Nat} {lc : Int32} {dc : Int32} {sp : Int32} {sh : Int32} {fd : Int32} {lo : Nat → Int32} {rough : Int32} {mu : Int32} {Rs : Nat → kR} {thr : Int32} {ten : Int32} {loc : Int32} {rou : Int32} {mum : Int32} {sli : Int32} {sha : Int32} {fad : Int32} {day : Int32} {mar : Nat → Int32} {msi : Nat → Int32} {mst : Nat → Int32} {men : Nat → Int32} {mpu : Nat → Int32} {mxs : Nat → Int32} {mys : Nat → Int32} {mfo : Nat → Int64} {mor : Nat → Int32} {mo1 : Nat → Int64} {mo2 : Nat → Int64} (h : Rl N lc dc sp sh fd lo rough mu Rs thr ten loc rou mum sli sha fad day mar msi mst men mpu mxs mys mfo mor mo1 mo2) (p1 : Int32) : ∃ (r : Int32) (lc' : Int32) (lo' : Nat → Int32) (Rs' : Nat → kR) (loc' : Int32) (mst' : Nat → Int32) (mor' : Nat → Int32), fL_cut fu N lc dc sp sh fd lo rough mu Rs p1 = some (r, lc', lo', Rs') ∧ fM_cut fu thr ten loc rou mum sli sha fad day mar msi mst men mpu mxs mys mfo mor mo1 mo2 p1 = some (r, loc', mst', mor') ∧ Rl N lc' dc sp sh fd lo' rough mu Rs' thr ten loc' rou mum sli sha fad day mar msi mst' men mpu mxs mys mfo mor' mo1 mo2 := by
  obtain ⟨h6, rfl, rfl, rfl, rfl, rfl, rfl, rfl, rfl, hb, ⟨K, hK⟩, hT, hU⟩ := id h
  obtain ⟨rfl, k2, k3, k4⟩ := id hK
  have kl : K.length ≤ 6 := Nat.le_trans (nd_len N K k2 (fun k hk => ((k3 k).mp hk).1)) h6
  rcases z_ix p1 (N := N) (by omega) with ⟨k, hk, rfl⟩ | c
  · obtain ⟨n, a1, a2, a3, a4, a5, a6, a7, a8, a9, a10, a11⟩ := hT k hk
    have zk : (nI k).toNatClampNeg = k := z_cl (by omega)
    by_cases c2 : (Rs k).2.1 = 0
    · refine ⟨0, _, _, Rs, _, _, _, ?_, ?_, h⟩
      · unfold fL_cut
        rw [if_pos (z_ok hk (by omega)), if_pos (z_rg hk (by omega)), zk, if_pos c2]
      · unfold fM_cut
        rw [hasF_0 h6 hk (by rw [a6, c2]; decide), Option.bind_some, if_pos rfl]
    · have hm : ¬ mst k ≤ 0 := by rw [a6, st_le a7]; exact c2
      obtain ⟨b1, b2, g1, g2, g3⟩ := cut_both (fu := fu) (k := k) (K := K) (mst := mst) (by omega) kl (fun j hj => by have := (k3 j).mp hj; omega) K.length 0 lo mor (by omega) (fun j x hx => by simp at hx) (fun j x _ hx => k4 j x hx)
      have hrel : ∀ lo' : Nat → Int32, (∀ j x, (K.filter (fun z => z ≠ k))[j]? = some x → lo' j = nI x ∧ b2 j = nI x) → Rl N (nI (K.filter (fun z => z ≠ k)).length) day sli sha fad lo' rou mum (va_up Rs k (((Rs k).1), (0 : Int32), ((Rs k).2.2.1), ((Rs k).2.2.2.1), ((Rs k).2.2.2.2.1), ((Rs k).2.2.2.2.2.1), ((Rs k).2.2.2.2.2.2.1), ((Rs k).2.2.2.2.2.2.2.1), ((Rs k).2.2.2.2.2.2.2.2.1), ((Rs k).2.2.2.2.2.2.2.2.2.1), ((Rs k).2.2.2.2.2.2.2.2.2.2))) thr (nI N) (nI (K.filter (fun z => z ≠ k)).length) rou mum sli sha fad day mar msi (upd mst k 0) men mpu mxs mys mfo b2 mo1 mo2 := by
        intro lo' hlo
        refine ⟨h6, rfl, rfl, rfl, rfl, rfl, rfl, rfl, rfl, hb, ⟨K.filter (fun z => z ≠ k), rfl, k2.filter _, ?_, hlo⟩, ?_, ?_⟩
        · intro j
          rw [List.mem_filter, k3 j]
          by_cases e : j = k
          · subst e
            simp [va_up]
          · simp [va_up, e]
        · intro j hj
          by_cases e : j = k
          · subst e
            rw [show va_up Rs j _ j = _ from by unfold va_up; exact if_pos rfl]
            exact ⟨n, a1, a2, a3, a4, a5, upd_at, Or.inl rfl, fun q => absurd rfl q, a9, a10, a11⟩
          · rw [show va_up Rs k _ j = Rs j from by unfold va_up; exact if_neg e]
            exact RlT_congr (hT j hj) rfl rfl (upd_ne e) rfl rfl (fun i hi => rfl) (fun i hi => rfl) (fun i hi => rfl)
        · intro j q1 q2
          have hu := hU j q1 q2
          exact ⟨hu.1, by rw [upd_ne (by omega)]; exact hu.2.1, hu.2.2⟩
      have hM : fM_cut fu thr (nI N) (nI K.length) rou mum sli sha fad day mar msi mst men mpu mxs mys mfo mor mo1 mo2 (nI k) = some (1, nI (K.filter (fun z => z ≠ k)).length, upd mst k 0, b2) := by
        unfold fM_cut
        rw [hasF_t h6 hk hm, Option.bind_some, if_neg (by decide)]
        exact g2 fu (by omega)
      by_cases c3 : (Rs k).2.1 = 2
      · refine ⟨1, nI (K.filter (fun z => z ≠ k)).length, b1, _, _, _, _, ?_, hM, hrel b1 g3⟩
        have hg : fL_forgetLocked fu N (nI K.length) day sli sha fad lo rou mum Rs (nI k) = some (nI (K.filter (fun z => z ≠ k)).length, b1) := g1 fu (by omega)
        unfold fL_cut
        rw [if_pos (z_ok hk (by omega)), if_pos (z_rg hk (by omega)), zk, if_neg c2, if_pos c3, hg, Option.bind_some, Option.bind_some, if_pos (List.mem_range.mpr hk)]
      · have hfil : K.filter (fun z => z ≠ k) = K := List.filter_eq_self.mpr (fun x hx => by
          have : x ≠ k := fun e => by subst e; exact c3 ((k3 x).mp hx).2
          simp [this])
        rw [hfil] at hrel hM g3
        refine ⟨1, nI K.length, lo, _, _, _, _, ?_, hM, hrel lo (fun j x hx => ⟨(k4 j x hx).1, (g3 j x hx).2⟩)⟩
        unfold fL_cut
        rw [if_pos (z_ok hk (by omega)), if_pos (z_rg hk (by omega)), zk, if_neg c2, if_neg c3, Option.bind_some, if_pos (List.mem_range.mpr hk)]
  · refine ⟨0, _, _, Rs, _, _, _, ?_, ?_, h⟩
    · unfold fL_cut
      rw [if_neg c]
    · unfold fM_cut
      rw [hasF_f h6 c, Option.bind_some, if_pos rfl]
