/-! Slip: forces that go up from an anchor, as far as they stay below. -/
def upO (rou mum : Int32) (f ln : Int64) (t : Int32) : Int64 := (f + f * rou.toInt64 * ln / (1000000000 : Int64)) + ((f + f * rou.toInt64 * ln / (1000000000 : Int64)) * mum.toInt64 * t.toInt64) / (1000000 : Int64)
def usO (rou mum : Int32) (mxs mys : Nat → Int32) (k n : Nat) (e : Bool) (X : Int64) : Nat → Int64
  | 0 => X
  | i + 1 => upO rou mum (usO rou mum mxs mys k n e X i) (lnO mxs mys (10 * k + pcx e n (i + 1))) (trO mxs mys k n (ps e n (i + 1)))
def blO (rou mum : Int32) (mxs mys : Nat → Int32) (k n : Nat) (e : Bool) (X : Int64) (f : Nat → Int64) : Nat → Bool
  | 0 => decide (X < f (ps e n 0))
  | i + 1 => blO rou mum mxs mys k n e X f i && decide (usO rou mum mxs mys k n e X (i + 1) < f (ps e n (i + 1)))
def rsO (rou mum : Int32) (mxs mys : Nat → Int32) (k n : Nat) (e : Bool) (X : Int64) (f : Nat → Int64) (j : Nat) : Int64 := if blO rou mum mxs mys k n e X f (ps e n j) = true then usO rou mum mxs mys k n e X (ps e n j) else f j
section SL
variable {fu n k : Nat} {rou mum : Int32} {mxs mys : Nat → Int32} {e : Bool} {X : Int64} {f : Nat → Int64}
theorem bl_mono {i : Nat} (h : blO rou mum mxs mys k n e X f i = false) : ∀ m, blO rou mum mxs mys k n e X f (i + m) = false
  | 0 => h
  | m + 1 => by
    show (blO rou mum mxs mys k n e X f (i + m) && _) = false
    rw [bl_mono h m]
    rfl
theorem bl_at {i : Nat} (h : i = 0 ∨ blO rou mum mxs mys k n e X f (i - 1) = true) : blO rou mum mxs mys k n e X f i = decide (usO rou mum mxs mys k n e X i < f (ps e n i)) := by
  cases i with
  | zero => rfl
  | succ i =>
    show (blO rou mum mxs mys k n e X f i && _) = _
    rcases h with h | h
    · omega
    · rw [show blO rou mum mxs mys k n e X f i = true from h, Bool.true_and]
theorem up_in {t : Int32} {g ln : Int64} (hr : 0 ≤ rou.toInt ∧ rou.toInt ≤ 1000) (hm : 0 ≤ mum.toInt ∧ mum.toInt ≤ 500) (hl : 0 ≤ ln.toInt ∧ ln.toInt ≤ 200000) (ht : 0 ≤ t.toInt ∧ t.toInt ≤ 12000000) (hg : 0 ≤ g.toInt ∧ g.toInt ≤ 10000000) : 0 ≤ (upO rou mum g ln t).toInt := by
  have m1 : 0 ≤ g.toInt * rou.toInt := Int.mul_nonneg hg.1 hr.1
  have m2 : g.toInt * rou.toInt ≤ 10000000 * 1000 := Int.mul_le_mul hg.2 hr.2 hr.1 (by omega)
  have m3 : 0 ≤ g.toInt * rou.toInt * ln.toInt := Int.mul_nonneg m1 hl.1
  have m4 : g.toInt * rou.toInt * ln.toInt ≤ 10000000 * 1000 * 200000 := Int.mul_le_mul m2 hl.2 hl.1 (by omega)
  have e1 : (g * rou.toInt64).toInt = g.toInt * rou.toInt := by
    rw [l_mul, Int32.toInt_toInt64] <;> rw [Int32.toInt_toInt64] <;> omega
  have e2 : (g * rou.toInt64 * ln).toInt = g.toInt * rou.toInt * ln.toInt := by
    rw [l_mul, e1] <;> rw [e1] <;> omega
  have e3 : (g * rou.toInt64 * ln / (1000000000 : Int64)).toInt = g.toInt * rou.toInt * ln.toInt / 1000000000 := by
    rw [l_div (by decide), e2, show (1000000000 : Int64).toInt = 1000000000 from rfl, Int.tdiv_eq_ediv_of_nonneg m3]
  have e4 : (g + g * rou.toInt64 * ln / (1000000000 : Int64)).toInt = g.toInt + g.toInt * rou.toInt * ln.toInt / 1000000000 := by
    rw [l_add, e3] <;> rw [e3] <;> omega
  generalize hG : g.toInt + g.toInt * rou.toInt * ln.toInt / 1000000000 = G at e4
  have g1 : 0 ≤ G := by omega
  have g2 : G ≤ 20000000 := by omega
  unfold upO
  generalize g + g * rou.toInt64 * ln / (1000000000 : Int64) = Gv at e4 ⊢
  have n1 : 0 ≤ G * mum.toInt := Int.mul_nonneg g1 hm.1
  have n2 : G * mum.toInt ≤ 20000000 * 500 := Int.mul_le_mul g2 hm.2 hm.1 (by omega)
  have n3 : 0 ≤ G * mum.toInt * t.toInt := Int.mul_nonneg n1 ht.1
  have n4 : G * mum.toInt * t.toInt ≤ 20000000 * 500 * 12000000 := Int.mul_le_mul n2 ht.2 ht.1 (by omega)
  have d1 : (Gv * mum.toInt64).toInt = G * mum.toInt := by
    rw [l_mul, Int32.toInt_toInt64, e4] <;> rw [Int32.toInt_toInt64, e4] <;> omega
  have d2 : (Gv * mum.toInt64 * t.toInt64).toInt = G * mum.toInt * t.toInt := by
    rw [l_mul, Int32.toInt_toInt64, d1] <;> rw [Int32.toInt_toInt64, d1] <;> omega
  have d3 : (Gv * mum.toInt64 * t.toInt64 / (1000000 : Int64)).toInt = G * mum.toInt * t.toInt / 1000000 := by
    rw [l_div (by decide), d2, show (1000000 : Int64).toInt = 1000000 from rfl, Int.tdiv_eq_ediv_of_nonneg n3]
  rw [l_add, e4, d3]
  · omega
  · rw [e4, d3]; omega
  · rw [e4, d3]; omega
theorem us_in (hr : 0 ≤ rou.toInt ∧ rou.toInt ≤ 1000) (hm : 0 ≤ mum.toInt ∧ mum.toInt ≤ 500) (hg : GeO mxs mys k n) (hX : 0 ≤ X.toInt) (hf : ∀ j, j < n → (f j).toInt ≤ 10000000) : ∀ i, i < n → blO rou mum mxs mys k n e X f i = true → 0 ≤ (usO rou mum mxs mys k n e X i).toInt ∧ (usO rou mum mxs mys k n e X i).toInt ≤ 10000000
  | 0, hi, hb => by
    have h1 := hf _ (ps_lt (e := e) hi)
    have h2 : X < f (ps e n 0) := of_decide_eq_true hb
    rw [Int64.lt_iff_toInt_lt] at h2
    exact ⟨hX, by show X.toInt ≤ _; omega⟩
  | i + 1, hi, hb => by
    have hb' : (blO rou mum mxs mys k n e X f i && decide (usO rou mum mxs mys k n e X (i + 1) < f (ps e n (i + 1)))) = true := hb
    rw [Bool.and_eq_true] at hb'
    have h0 := us_in hr hm hg hX hf i (by omega) hb'.1
    have h1 := hf _ (ps_lt (e := e) hi)
    have h2 := of_decide_eq_true hb'.2
    rw [Int64.lt_iff_toInt_lt] at h2
    exact ⟨up_in hr hm (lnO_in mxs mys _) (trO_in hg (ps_lt (e := e) hi)) h0, by omega⟩
theorem rs_in (hr : 0 ≤ rou.toInt ∧ rou.toInt ≤ 1000) (hm : 0 ≤ mum.toInt ∧ mum.toInt ≤ 500) (hg : GeO mxs mys k n) (hX : 0 ≤ X.toInt) (hf : ∀ j, j < n → 0 ≤ (f j).toInt ∧ (f j).toInt ≤ 10000000) {j : Nat} (hj : j < n) : 0 ≤ (rsO rou mum mxs mys k n e X f j).toInt ∧ (rsO rou mum mxs mys k n e X f j).toInt ≤ 10000000 := by
  unfold rsO
  by_cases c : blO rou mum mxs mys k n e X f (ps e n j) = true
  · rw [if_pos c]
    exact us_in hr hm hg hX (fun j hj => (hf j hj).2) _ (ps_lt hj) c
  · rw [if_neg c]
    exact hf j hj
variable {xs ys ln sl : Nat → Int32} {fo : Nat → Int64}
theorem anch_42 (hn : n ≤ 10) (hfo : ∀ j, j < n → fo j = f j) (hln : ∀ i, i + 1 < n → ln i = (lnO mxs mys (10 * k + i)).toInt32) (hsl : ∀ i, i + 1 < n → sl i = slO mxs mys (10 * k + i)) : ∀ m i q (arr : Nat → Int64), i + m = n → m < q → (i = 0 ∨ blO rou mum mxs mys k n e X f (i - 1) = true) →
    fT_tryAnchor_L42 fu (nI n) xs ys ln sl fo rou mum (ec e) q (nI i) (usO rou mum mxs mys k n e X (i - 1)) arr = some (fun j => if (j < n ∧ i ≤ ps e n j) ∧ blO rou mum mxs mys k n e X f (ps e n j) = true then usO rou mum mxs mys k n e X (ps e n j) else arr j) := by
  intro m
  induction m with
  | zero =>
    intro i q arr hi hq hbl
    obtain ⟨q, rfl⟩ : ∃ z, q = z + 1 := ⟨q - 1, by omega⟩
    rw [fT_tryAnchor_L42_s, if_pos (nI_le (by omega) (by omega))]
    congr 1
    funext j
    rw [if_neg (fun z => by have := ps_lt (e := e) z.1.1; omega)]
  | succ m ih =>
    intro i q arr hi hq hbl
    obtain ⟨q, rfl⟩ : ∃ z, q = z + 1 := ⟨q - 1, by omega⟩
    have hin : i < n := by omega
    have hpl := ps_lt (e := e) hin
    have hstep : (if nI i ≤ (0 : Int32) then some (usO rou mum mxs mys k n e X (i - 1)) else ((fD_lengthBefore fu (nI n) xs ys ln sl (ec e) (nI i)).bind fun r_83 => ((fF_alongPiece fu rou mum (usO rou mum mxs mys k n e X (i - 1)) r_83).bind fun r_86 => ((fD_turnAt fu (nI n) xs ys ln sl (nI (ps e n i))).bind fun r_103 => ((fF_atTurn fu rou mum (usO rou mum mxs mys k n e X (i - 1) + r_86) r_103).bind fun r_106 => some ((usO rou mum mxs mys k n e X (i - 1) + r_86) + r_106)))))) = some (usO rou mum mxs mys k n e X i) := by
      by_cases c0 : i = 0
      · subst c0
        rw [if_pos (by decide)]
      · have hne : ¬ nI i ≤ (0 : Int32) := fun z => by have := (nI_leI (a := i) (b := 0) (by omega) (by omega)).mp z; omega
        have hpx := pcx_lt (e := e) (i := i) (by omega) hin
        rw [if_neg hne, lb_D hn (by omega) hin, Option.bind_some]
        unfold fF_alongPiece fF_atTurn
        rw [Option.bind_some, turn_D (k := k) (mxs := mxs) (mys := mys) hn hpl hsl, Option.bind_some, Option.bind_some, hln _ hpx, show (lnO mxs mys (10 * k + pcx e n i)).toInt32.toInt64 = lnO mxs mys (10 * k + pcx e n i) from rt_back _]
        obtain ⟨i', rfl⟩ : ∃ z, i = z + 1 := ⟨i - 1, by omega⟩
        rfl
    rw [fT_tryAnchor_L42_s, if_neg (nI_ge (by omega) (by omega)), pow_D hn hin, Option.bind_some, hstep, Option.bind_some, if_pos (z_ok (by omega) (by omega)), z_cl (by omega), hfo _ hpl]
    have hb9 := bl_at hbl
    by_cases c : usO rou mum mxs mys k n e X i < f (ps e n i)
    · have hbt : blO rou mum mxs mys k n e X f i = true := by rw [hb9]; exact decide_eq_true c
      rw [if_pos c, if_pos (z_ok2 (by omega) (by omega)), nI_1]
      have h2 := ih (i + 1) q (vp_updL arr (ps e n i) (usO rou mum mxs mys k n e X i)) (by omega) (by omega) (Or.inr (by rw [Nat.add_sub_cancel]; exact hbt))
      rw [Nat.add_sub_cancel] at h2
      rw [h2]
      congr 1
      funext j
      by_cases ej : j = ps e n i
      · subst ej
        rw [ps_ps hin, if_neg (show ¬ ((ps e n i < n ∧ i + 1 ≤ i) ∧ blO rou mum mxs mys k n e X f i = true) by omega), if_pos (show (ps e n i < n ∧ i ≤ i) ∧ blO rou mum mxs mys k n e X f i = true from ⟨⟨hpl, Nat.le_refl _⟩, hbt⟩), updL_at]
      · rw [updL_ne ej]
        by_cases c9 : (j < n ∧ i ≤ ps e n j) ∧ blO rou mum mxs mys k n e X f (ps e n j) = true
        · have : ps e n j ≠ i := fun z => ej (by rw [← z]; exact (ps_ps c9.1.1).symm)
          rw [if_pos c9, if_pos ⟨⟨c9.1.1, by omega⟩, c9.2⟩]
        · rw [if_neg c9, if_neg (fun z => c9 ⟨⟨z.1.1, by omega⟩, z.2⟩)]
    · have hbf : blO rou mum mxs mys k n e X f i = false := by rw [hb9]; exact decide_eq_false c
      rw [if_neg c]
      congr 1
      funext j
      rw [if_neg (fun z => by
        have h9 := bl_mono hbf (ps e n j - i)
        rw [show i + (ps e n j - i) = ps e n j by omega, z.2] at h9
        cases h9)]
theorem anch {area state pf pw p2 : Int32} {tr : Nat → Int64} (hf : 2000 ≤ fu) (hn : n ≤ 10) (hfo : ∀ j, j < n → fo j = f j) (hln : ∀ i, i + 1 < n → ln i = (lnO mxs mys (10 * k + i)).toInt32) (hsl : ∀ i, i + 1 < n → sl i = slO mxs mys (10 * k + i)) :
    fT_tryAnchor fu area state pf pw (nI n) xs ys ln sl fo tr rou mum (ec e) p2 = some (fun j => if j < n then rsO rou mum mxs mys k n e p2.toInt64 f j else tr j) := by
  have hgo : ∀ m p q (arr : Nat → Int64), p + m = n → m < q → fT_tryAnchor_L3 fu (nI n) xs ys ln sl fo rou mum (ec e) p2 q (nI p) arr = fT_tryAnchor_L42 fu (nI n) xs ys ln sl fo rou mum (ec e) fu (0 : Int32) p2.toInt64 (fun j => if p ≤ j ∧ j < n then fo j else arr j) := by
    intro m
    induction m with
    | zero =>
      intro p q arr hp hq
      obtain ⟨q, rfl⟩ : ∃ z, q = z + 1 := ⟨q - 1, by omega⟩
      have e9 : (fun j => if p ≤ j ∧ j < n then fo j else arr j) = arr := by
        funext j
        rw [if_neg (by omega)]
      rw [fT_tryAnchor_L3_s, if_pos (nI_le (by omega) (by omega)), e9]
    | succ m ih =>
      intro p q arr hp hq
      obtain ⟨q, rfl⟩ : ∃ z, q = z + 1 := ⟨q - 1, by omega⟩
      rw [fT_tryAnchor_L3_s, if_neg (nI_ge (by omega) (by omega)), if_pos (z_ok (by omega) (by omega)), if_pos (z_ok (by omega) (by omega)), z_cl (by omega), nI_1, ih (p + 1) q _ (by omega) (by omega)]
      congr 1
      funext j
      by_cases ej : j = p
      · rw [ej, if_neg (by omega), if_pos (by omega), updL_at]
      · rw [updL_ne ej]
        by_cases c : p ≤ j ∧ j < n
        · rw [if_pos (by omega), if_pos c]
        · rw [if_neg (by omega), if_neg c]
  unfold fT_tryAnchor
  refine (hgo n 0 fu tr (by omega) (by omega)).trans ?_
  refine (anch_42 (X := p2.toInt64) hn hfo hln hsl n 0 fu _ (by omega) (by omega) (Or.inl rfl)).trans ?_
  congr 1
  funext j
  by_cases c : j < n
  · rw [if_pos c]
    unfold rsO
    by_cases c2 : blO rou mum mxs mys k n e p2.toInt64 f (ps e n j) = true
    · rw [if_pos ⟨⟨c, Nat.zero_le _⟩, c2⟩, if_pos c2]
    · rw [if_neg (fun z => c2 z.2), if_neg c2, if_pos ⟨Nat.zero_le _, c⟩, hfo j c]
  · rw [if_neg (fun z => c z.1.1), if_neg (fun z => c z.2), if_neg c]
/-- the sum that slip is held against -/
def shO (area : Int32) (mxs mys : Nat → Int32) (k n : Nat) (f g : Nat → Int64) : Int64 := sm (fun i => pcO area mxs mys k i (((f i - g i) + f (i + 1)) - g (i + 1))) (n - 1)
theorem short_D {area state pf pw : Int32} {tr g : Nat → Int64} (hf : 2000 ≤ fu) (ha1 : 50 ≤ area.toInt) (ha2 : area.toInt ≤ 10000) (hn : n ≤ 10) (hl : ∀ i, i + 1 < n → ln i = (lnO mxs mys (10 * k + i)).toInt32) (hfo : ∀ j, j < n → fo j = f j) (htr : ∀ j, j < n → tr j = g j) : fT_shortening fu area state pf pw (nI n) xs ys ln sl fo tr = some (shO area mxs mys k n f g) := by
  have hgo : ∀ m i q, i + m = n - 1 → m < q → fT_shortening_L4 fu area state pf pw (nI n) xs ys ln sl fo tr q (nI i) (sm (fun i => pcO area mxs mys k i (((f i - g i) + f (i + 1)) - g (i + 1))) i) = some (sm (fun i => pcO area mxs mys k i (((f i - g i) + f (i + 1)) - g (i + 1))) (n - 1)) := by
    intro m
    induction m with
    | zero =>
      intro i q hi hq
      obtain ⟨q, rfl⟩ : ∃ z, q = z + 1 := ⟨q - 1, by omega⟩
      have c : nI n - (1 : Int32) ≤ nI i := by rw [Int32.le_iff_toInt_le, nI_m1 (by omega), nI_toInt (by omega)]; omega
      rw [fT_shortening_L4_s, if_pos c, show i = n - 1 by omega]
    | succ m ih =>
      intro i q hi hq
      obtain ⟨q, rfl⟩ : ∃ z, q = z + 1 := ⟨q - 1, by omega⟩
      have c : ¬ nI n - (1 : Int32) ≤ nI i := by rw [Int32.le_iff_toInt_le, nI_m1 (by omega), nI_toInt (by omega)]; omega
      rw [fT_shortening_L4_s, if_neg c, if_pos (z_ok (by omega) (by omega)), if_pos (z_ok (by omega) (by omega)), nI_1, if_pos (z_ok (by omega) (by omega)), if_pos (z_ok (by omega) (by omega)), z_cl (by omega), z_cl (by omega), stOf_D (k := k) (mxs := mxs) (mys := mys) ha1 ha2 (by omega) (hl i (by omega)), Option.bind_some, hfo i (by omega), hfo (i + 1) (by omega), htr i (by omega), htr (i + 1) (by omega)]
      exact ih (i + 1) q (by omega) (by omega)
  exact hgo (n - 1) 0 fu (by omega) (by omega)
end SL
