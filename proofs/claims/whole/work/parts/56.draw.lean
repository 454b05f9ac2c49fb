/-! Drawing: the forces along a tendon that is pulled from one end. -/
def stp (rou mum : Int32) (f ln : Int64) (t : Int32) : Int64 :=
  if ((f - f * rou.toInt64 * ln / (1000000000 : Int64)) * mum.toInt64 * t.toInt64) / (1000000 : Int64) ≤ f - f * rou.toInt64 * ln / (1000000000 : Int64) then (f - f * rou.toInt64 * ln / (1000000000 : Int64)) - ((f - f * rou.toInt64 * ln / (1000000000 : Int64)) * mum.toInt64 * t.toInt64) / (1000000 : Int64) else 0
def ps (e : Bool) (n i : Nat) : Nat := if e then n - 1 - i else i
def pcx (e : Bool) (n i : Nat) : Nat := if e then n - 1 - i else i - 1
def drO (rou mum : Int32) (mxs mys : Nat → Int32) (k n : Nat) (e : Bool) (F : Int64) : Nat → Int64
  | 0 => F
  | i + 1 => stp rou mum (drO rou mum mxs mys k n e F i) (lnO mxs mys (10 * k + pcx e n (i + 1))) (trO mxs mys k n (ps e n (i + 1)))
theorem lnO_in (mxs mys : Nat → Int32) (p : Nat) : 0 ≤ (lnO mxs mys p).toInt ∧ (lnO mxs mys p).toInt ≤ 200000 := by
  obtain ⟨r, h1, h2, -, -⟩ := rt_is ((mxs (p + 1) - mxs p).toInt64 * (mxs (p + 1) - mxs p).toInt64 + (mys (p + 1) - mys p).toInt64 * (mys (p + 1) - mys p).toInt64)
  unfold lnO
  rw [h2, lN_toInt (by omega)]
  omega
/-- the points of a tendon, as far as geometry needs them -/
def GeO (mxs mys : Nat → Int32) (k n : Nat) : Prop := (∀ i, i < n → (0 ≤ (mxs (10 * k + i)).toInt ∧ (mxs (10 * k + i)).toInt ≤ 100000) ∧ (-3000 ≤ (mys (10 * k + i)).toInt ∧ (mys (10 * k + i)).toInt ≤ 3000)) ∧ ∀ i, i + 1 < n → (mxs (10 * k + i)).toInt + 100 ≤ (mxs (10 * k + i + 1)).toInt
theorem slO_in {mxs mys : Nat → Int32} {k n i : Nat} (h : GeO mxs mys k n) (hi : i + 1 < n) : -6000000 ≤ (slO mxs mys (10 * k + i)).toInt ∧ (slO mxs mys (10 * k + i)).toInt ≤ 6000000 := by
  have a := h.1 i (by omega)
  have b := h.1 (i + 1) hi
  have c := h.2 i hi
  rw [← Nat.add_assoc] at b
  have e1 : (mys (10 * k + i + 1) - mys (10 * k + i)).toInt = (mys (10 * k + i + 1)).toInt - (mys (10 * k + i)).toInt := i_sub (by omega) (by omega)
  have e2 : (mxs (10 * k + i + 1) - mxs (10 * k + i)).toInt = (mxs (10 * k + i + 1)).toInt - (mxs (10 * k + i)).toInt := i_sub (by omega) (by omega)
  have e3 : ((1000 : Int32) * (mys (10 * k + i + 1) - mys (10 * k + i))).toInt = 1000 * ((mys (10 * k + i + 1)).toInt - (mys (10 * k + i)).toInt) := by
    rw [i_mul, e1, show (1000 : Int32).toInt = 1000 from rfl] <;> rw [e1, show (1000 : Int32).toInt = 1000 from rfl] <;> omega
  unfold slO
  rw [i_div (by rw [e2]; omega), e3, e2]
  have h9 := td_bound (a := 1000 * ((mys (10 * k + i + 1)).toInt - (mys (10 * k + i)).toInt)) (b := (mxs (10 * k + i + 1)).toInt - (mxs (10 * k + i)).toInt) (by omega)
  rcases Int.lt_or_le (1000 * ((mys (10 * k + i + 1)).toInt - (mys (10 * k + i)).toInt)) 0 with q | q
  · have := h9.2 q; omega
  · have := h9.1 q; omega
theorem trO_in {mxs mys : Nat → Int32} {k n i : Nat} (h : GeO mxs mys k n) (hi : i < n) : 0 ≤ (trO mxs mys k n i).toInt ∧ (trO mxs mys k n i).toInt ≤ 12000000 := by
  unfold trO
  by_cases c : i = 0 ∨ i + 1 = n
  · rw [if_pos c]; decide
  · rw [if_neg c]
    have s1 := slO_in h (i := i) (by omega)
    have s2 := slO_in h (i := i - 1) (by omega)
    have e : (slO mxs mys (10 * k + i) - slO mxs mys (10 * k + (i - 1))).toInt = (slO mxs mys (10 * k + i)).toInt - (slO mxs mys (10 * k + (i - 1))).toInt := i_sub (by omega) (by omega)
    by_cases q : (0 : Int32) ≤ slO mxs mys (10 * k + i) - slO mxs mys (10 * k + (i - 1))
    · rw [if_pos q, e]
      rw [Int32.le_iff_toInt_le, e, z0] at q
      omega
    · rw [if_neg q, ← Int32.zero_sub, i_sub (by rw [e, z0]; omega) (by rw [e, z0]; omega), e, z0]
      rw [Int32.le_iff_toInt_le, e, z0] at q
      omega
/-- the numbers of one step -/
theorem stp_num {rou mum t : Int32} {f ln : Int64} (hr : 0 ≤ rou.toInt ∧ rou.toInt ≤ 1000) (hm : 0 ≤ mum.toInt ∧ mum.toInt ≤ 500) (hl : 0 ≤ ln.toInt ∧ ln.toInt ≤ 200000) (ht : 0 ≤ t.toInt ∧ t.toInt ≤ 12000000) (hf : 0 ≤ f.toInt ∧ f.toInt ≤ 10000000) :
    ∃ g w : Int, (f - f * rou.toInt64 * ln / (1000000000 : Int64)).toInt = g ∧ 0 ≤ g ∧ g ≤ f.toInt ∧ (((f - f * rou.toInt64 * ln / (1000000000 : Int64)) * mum.toInt64 * t.toInt64) / (1000000 : Int64)).toInt = w ∧ 0 ≤ w ∧ w ≤ 60000000000 := by
  have m1 : 0 ≤ f.toInt * rou.toInt := Int.mul_nonneg hf.1 hr.1
  have m2 : f.toInt * rou.toInt ≤ 10000000 * 1000 := Int.mul_le_mul hf.2 hr.2 hr.1 (by omega)
  have m3 : 0 ≤ f.toInt * rou.toInt * ln.toInt := Int.mul_nonneg m1 hl.1
  have m4 : f.toInt * rou.toInt * ln.toInt ≤ 10000000 * 1000 * 200000 := Int.mul_le_mul m2 hl.2 hl.1 (by omega)
  have m5 : f.toInt * rou.toInt * ln.toInt ≤ f.toInt * 1000 * 200000 := Int.mul_le_mul (Int.mul_le_mul_of_nonneg_left hr.2 hf.1) hl.2 hl.1 (by omega)
  have e1 : (f * rou.toInt64).toInt = f.toInt * rou.toInt := by
    rw [l_mul, Int32.toInt_toInt64] <;> rw [Int32.toInt_toInt64] <;> omega
  have e2 : (f * rou.toInt64 * ln).toInt = f.toInt * rou.toInt * ln.toInt := by
    rw [l_mul, e1] <;> rw [e1] <;> omega
  have e3 : (f * rou.toInt64 * ln / (1000000000 : Int64)).toInt = f.toInt * rou.toInt * ln.toInt / 1000000000 := by
    rw [l_div (by decide), e2, show (1000000000 : Int64).toInt = 1000000000 from rfl, Int.tdiv_eq_ediv_of_nonneg m3]
  have e4 : (f - f * rou.toInt64 * ln / (1000000000 : Int64)).toInt = f.toInt - f.toInt * rou.toInt * ln.toInt / 1000000000 := by
    rw [l_sub, e3] <;> rw [e3] <;> omega
  generalize hg : f.toInt - f.toInt * rou.toInt * ln.toInt / 1000000000 = g at e4
  have g1 : 0 ≤ g := by omega
  have g2 : g ≤ f.toInt := by omega
  generalize f - f * rou.toInt64 * ln / (1000000000 : Int64) = G at e4 ⊢
  have n1 : 0 ≤ g * mum.toInt := Int.mul_nonneg g1 hm.1
  have n2 : g * mum.toInt ≤ 10000000 * 500 := Int.mul_le_mul (by omega) hm.2 hm.1 (by omega)
  have n3 : 0 ≤ g * mum.toInt * t.toInt := Int.mul_nonneg n1 ht.1
  have n4 : g * mum.toInt * t.toInt ≤ 10000000 * 500 * 12000000 := Int.mul_le_mul n2 ht.2 ht.1 (by omega)
  have d1 : (G * mum.toInt64).toInt = g * mum.toInt := by
    rw [l_mul, Int32.toInt_toInt64, e4] <;> rw [Int32.toInt_toInt64, e4] <;> omega
  have d2 : (G * mum.toInt64 * t.toInt64).toInt = g * mum.toInt * t.toInt := by
    rw [l_mul, Int32.toInt_toInt64, d1] <;> rw [Int32.toInt_toInt64, d1] <;> omega
  refine ⟨g, g * mum.toInt * t.toInt / 1000000, e4, g1, g2, ?_, ?_, ?_⟩
  · rw [l_div (by decide), d2, show (1000000 : Int64).toInt = 1000000 from rfl, Int.tdiv_eq_ediv_of_nonneg n3]
  · omega
  · omega
theorem stp_in {rou mum t : Int32} {f ln : Int64} (hr : 0 ≤ rou.toInt ∧ rou.toInt ≤ 1000) (hm : 0 ≤ mum.toInt ∧ mum.toInt ≤ 500) (hl : 0 ≤ ln.toInt ∧ ln.toInt ≤ 200000) (ht : 0 ≤ t.toInt ∧ t.toInt ≤ 12000000) (hf : 0 ≤ f.toInt ∧ f.toInt ≤ 10000000) :
    (0 ≤ (stp rou mum f ln t).toInt ∧ (stp rou mum f ln t).toInt ≤ f.toInt) ∧ (if (f - f * rou.toInt64 * ln / (1000000000 : Int64)) - ((f - f * rou.toInt64 * ln / (1000000000 : Int64)) * mum.toInt64 * t.toInt64) / (1000000 : Int64) < 0 then (0 : Int64) else (f - f * rou.toInt64 * ln / (1000000000 : Int64)) - ((f - f * rou.toInt64 * ln / (1000000000 : Int64)) * mum.toInt64 * t.toInt64) / (1000000 : Int64)) = stp rou mum f ln t := by
  obtain ⟨g, w, h1, h2, h3, h4, h5, h6⟩ := stp_num hr hm hl ht hf
  unfold stp
  generalize ((f - f * rou.toInt64 * ln / (1000000000 : Int64)) * mum.toInt64 * t.toInt64) / (1000000 : Int64) = Wv at h4 ⊢
  generalize f - f * rou.toInt64 * ln / (1000000000 : Int64) = Gv at h1 ⊢
  have e : (Gv - Wv).toInt = g - w := by rw [l_sub, h1, h4] <;> rw [h1, h4] <;> omega
  by_cases c : Wv ≤ Gv
  · have c' : w ≤ g := by rw [Int64.le_iff_toInt_le, h1, h4] at c; exact c
    rw [if_pos c, if_neg (by rw [Int64.lt_iff_toInt_lt, e, show (0 : Int64).toInt = 0 from rfl]; omega), e]
    exact ⟨by omega, rfl⟩
  · have c' : ¬ w ≤ g := by rw [Int64.le_iff_toInt_le, h1, h4] at c; exact c
    rw [if_neg c, if_pos (by rw [Int64.lt_iff_toInt_lt, e, show (0 : Int64).toInt = 0 from rfl]; omega)]
    exact ⟨by rw [show (0 : Int64).toInt = 0 from rfl]; omega, rfl⟩
theorem ps_lt {e : Bool} {n i : Nat} (h : i < n) : ps e n i < n := by
  unfold ps
  cases e
  · exact h
  · show n - 1 - i < n; omega
theorem drO_in {rou mum : Int32} {mxs mys : Nat → Int32} {k n : Nat} {e : Bool} {F : Int64} (hr : 0 ≤ rou.toInt ∧ rou.toInt ≤ 1000) (hm : 0 ≤ mum.toInt ∧ mum.toInt ≤ 500) (hg : GeO mxs mys k n) (hF : 0 ≤ F.toInt ∧ F.toInt ≤ 10000000) : ∀ i, i < n → 0 ≤ (drO rou mum mxs mys k n e F i).toInt ∧ (drO rou mum mxs mys k n e F i).toInt ≤ F.toInt
  | 0, _ => ⟨hF.1, Int.le_refl _⟩
  | i + 1, hi => by
    have h1 := drO_in (e := e) hr hm hg hF i (by omega)
    have h2 := (stp_in hr hm (lnO_in mxs mys (10 * k + pcx e n (i + 1))) (trO_in hg (ps_lt (e := e) hi)) (f := drO rou mum mxs mys k n e F i) ⟨h1.1, by omega⟩).1
    exact ⟨h2.1, Int.le_trans h2.2 h1.2⟩
