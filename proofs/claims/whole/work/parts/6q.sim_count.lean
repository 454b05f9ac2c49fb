def cPu (f : Nat → Int32) : Nat → Int32
  | 0 => 0
  | i + 1 => if f i = 1 then cPu f i + 1 else cPu f i
def cPo (f : Nat → Int32) : Nat → Int32
  | 0 => 0
  | i + 1 => cPo f i + f i
theorem pu_L {fu N : Nat} {Rs : Nat → kR} {mst : Nat → Int32} (hN : N ≤ 6) (hs : ∀ k, k < N → (Rs k).2.1 = mst k) : ∀ m i q, i + m = N → m < q → fL_countPulled_L4 fu N Rs q (nI i) (cPu mst i) = some (cPu mst N) := by
  intro m
  induction m with
  | zero =>
    intro i q hi hq
    obtain ⟨q, rfl⟩ : ∃ z, q = z + 1 := ⟨q - 1, by omega⟩
    rw [fL_countPulled_L4_s, if_pos (nI_le (by omega) (by omega)), show i = N by omega]
  | succ m ih =>
    intro i q hi hq
    obtain ⟨q, rfl⟩ : ∃ z, q = z + 1 := ⟨q - 1, by omega⟩
    rw [fL_countPulled_L4_s, if_neg (nI_ge (by omega) (by omega)), if_pos (z_ok (by omega) (by omega)), if_pos (z_rg (by omega) (by omega)), z_cl (by omega), hs i (by omega), nI_1]
    have h2 := ih (i + 1) q (by omega) (by omega)
    by_cases c : mst i = 1
    · rw [if_pos c, Option.bind_some]
      rw [show cPu mst (i + 1) = cPu mst i + 1 from if_pos c] at h2
      exact h2
    · rw [if_neg c, Option.bind_some]
      rw [show cPu mst (i + 1) = cPu mst i from if_neg c] at h2
      exact h2
theorem po_L {fu N : Nat} {Rs : Nat → kR} {msi : Nat → Int32} (hN : N ≤ 6) (hs : ∀ k, k < N → (Rs k).2.2.2.2.1 = msi k) : ∀ m i q, i + m = N → m < q → fL_countPoints_L4 fu N Rs q (nI i) (cPo msi i) = some (cPo msi N) := by
  intro m
  induction m with
  | zero =>
    intro i q hi hq
    obtain ⟨q, rfl⟩ : ∃ z, q = z + 1 := ⟨q - 1, by omega⟩
    rw [fL_countPoints_L4_s, if_pos (nI_le (by omega) (by omega)), show i = N by omega]
  | succ m ih =>
    intro i q hi hq
    obtain ⟨q, rfl⟩ : ∃ z, q = z + 1 := ⟨q - 1, by omega⟩
    rw [fL_countPoints_L4_s, if_neg (nI_ge (by omega) (by omega)), if_pos (z_ok (by omega) (by omega)), if_pos (z_rg (by omega) (by omega)), z_cl (by omega), hs i (by omega), nI_1]
    exact ih (i + 1) q (by omega) (by omega)
def cnO (N : Nat) (loc day pu po p : Int32) : Int32 := if p = 0 then nI N else if p = 1 then loc else if p = 2 then pu else if p = 3 then day else if p = 4 then po else -1
theorem cn_M {fu N : Nat} {loc day p : Int32} {msi mst : Nat → Int32} (hN : N ≤ 6) : ∀ m i q, i + m = N → m < q → fM_count_L7 fu (nI N) loc day msi mst p q (nI i) (cPo msi i) (cPu mst i) = some (cnO N loc day (cPu mst N) (cPo msi N) p) := by
  intro m
  induction m with
  | zero =>
    intro i q hi hq
    obtain ⟨q, rfl⟩ : ∃ z, q = z + 1 := ⟨q - 1, by omega⟩
    have e : i = N := by omega
    subst e
    rw [fM_count_L7_s, if_pos (nI_le (by omega) (by omega))]
    unfold cnO
    by_cases q0 : p = 0
    · rw [if_pos q0, if_pos q0]
    · rw [if_neg q0, if_neg q0]
      by_cases q1 : p = 1
      · rw [if_pos q1, if_pos q1]
      · rw [if_neg q1, if_neg q1]
        by_cases q2 : p = 2
        · rw [if_pos q2, if_pos q2]
        · rw [if_neg q2, if_neg q2]
          by_cases q3 : p = 3
          · rw [if_pos q3, if_pos q3]
          · rw [if_neg q3, if_neg q3]
            by_cases q4 : p = 4
            · rw [if_pos q4, if_pos q4]
            · rw [if_neg q4, if_neg q4]
  | succ m ih =>
    intro i q hi hq
    obtain ⟨q, rfl⟩ : ∃ z, q = z + 1 := ⟨q - 1, by omega⟩
    have h2 := ih (i + 1) q (by omega) (by omega)
    rw [fM_count_L7_s, if_neg (nI_ge (by omega) (by omega)), if_pos (z_ok (by omega) (by omega)), z_cl (by omega), nI_1]
    by_cases c : mst i = 1
    · rw [if_pos c, Option.bind_some, if_pos (z_ok2 (by omega) (by omega))]
      rw [show cPu mst (i + 1) = cPu mst i + 1 from if_pos c] at h2
      exact h2
    · rw [if_neg c, Option.bind_some, if_pos (z_ok2 (by omega) (by omega))]
      rw [show cPu mst (i + 1) = cPu mst i from if_neg c] at h2
      exact h2
theorem sim_count {fu : Nat} (hfu : 2000 ≤ fu) {N : Nat} {lc : Int32} {dc : Int32} {sp : Int32} {sh : Int32} {fd : Int32} {lo : Nat → Int32} {rough : Int32} {mu : Int32} {Rs : Nat → kR} {thr : Int32} {ten : Int32} {loc : Int32} {rou : Int32} {mum : Int32} {sli : Int32} {sha : Int32} {fad : Int32} {day : Int32} {mar : Nat → Int32} {msi : Nat → Int32} {mst : Nat → Int32} {men : Nat → Int32} {mpu : Nat → Int32} {mxs : Nat → Int32} {mys : Nat → Int32} {mfo : Nat → Int64} {mor : Nat → Int32} {mo1 : Nat → Int64} {mo2 : Nat → Int64} (h : Rl N lc dc sp sh fd lo rough mu Rs thr ten loc rou mum sli sha fad day mar msi mst men mpu mxs mys mfo mor mo1 mo2) (p1 : Int32) : ∃ (r : Int32), fL_count fu N lc dc sp sh fd lo rough mu Rs p1 = some r ∧ fM_count fu thr ten loc rou mum sli sha fad day mar msi mst men mpu mxs mys mfo mor mo1 mo2 p1 = some r ∧ Rl N lc dc sp sh fd lo rough mu Rs thr ten loc rou mum sli sha fad day mar msi mst men mpu mxs mys mfo mor mo1 mo2 := by
  obtain ⟨h6, rfl, rfl, rfl, rfl, rfl, rfl, rfl, rfl, hb, hK, hT, hU⟩ := id h
  refine ⟨cnO N loc day (cPu mst N) (cPo msi N) p1, ?_, ?_, h⟩
  · have e1 : fL_countPulled fu N loc day sli sha fad lo rou mum Rs = some (cPu mst N) := pu_L h6 (fun k hk => by obtain ⟨n, a1, a2, a3, a4, a5, a6, a7⟩ := hT k hk; exact a6.symm) N 0 fu (by omega) (by omega)
    have e2 : fL_countPoints fu N loc day sli sha fad lo rou mum Rs = some (cPo msi N) := po_L h6 (fun k hk => by obtain ⟨n, a1, a2, a3, a4⟩ := hT k hk; rw [a2, a3]) N 0 fu (by omega) (by omega)
    unfold fL_count cnO
    rw [e1, e2, Option.bind_some, Option.bind_some]
    by_cases q0 : p1 = 0
    · rw [if_pos q0, if_pos q0]
    · rw [if_neg q0, if_neg q0]
      by_cases q1 : p1 = 1
      · rw [if_pos q1, if_pos q1]
      · rw [if_neg q1, if_neg q1]
        by_cases q2 : p1 = 2
        · rw [if_pos q2, if_pos q2]
        · rw [if_neg q2, if_neg q2]
          by_cases q3 : p1 = 3
          · rw [if_pos q3, if_pos q3]
          · rw [if_neg q3, if_neg q3]
            by_cases q4 : p1 = 4
            · rw [if_pos q4, if_pos q4]
            · rw [if_neg q4, if_neg q4]
  · exact cn_M h6 N 0 fu (by omega) (by omega)
