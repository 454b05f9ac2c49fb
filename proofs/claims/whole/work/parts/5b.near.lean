/-! Two rows of points, and where they come near to each other: only numbers, no words. -/
def Pc (X : Nat → Int) (n i : Nat) (x : Int) : Prop := i + 1 < n ∧ X i ≤ x ∧ x ≤ X (i + 1)
def hH (X Y : Nat → Int) (i : Nat) (x : Int) : Int := Y i * (X (i + 1) - X i) + (Y (i + 1) - Y i) * (x - X i)
def dD (Xa Ya Xb Yb : Nat → Int) (i j : Nat) (x : Int) : Int := hH Xa Ya i x * (Xb (j + 1) - Xb j) - hH Xb Yb j x * (Xa (i + 1) - Xa i)
def uU (Xa Xb : Nat → Int) (i j : Nat) : Int := (Xa (i + 1) - Xa i) * (Xb (j + 1) - Xb j)
def Up (X : Nat → Int) (n : Nat) : Prop := ∀ i, i + 1 < n → X i < X (i + 1)
theorem up_d {X : Nat → Int} {n : Nat} (h : Up X n) : ∀ (d i : Nat), i + d + 1 < n → X i < X (i + d + 1)
  | 0, i, q => h i q
  | d + 1, i, q => Int.lt_trans (up_d h d i (by omega)) (h (i + d + 1) (by omega))
theorem up_lt {X : Nat → Int} {n i j : Nat} (h : Up X n) (hij : i < j) (hj : j < n) : X i < X j := by
  have := up_d h (j - i - 1) i (by omega)
  rwa [show i + (j - i - 1) + 1 = j by omega] at this
theorem up_le {X : Nat → Int} {n i j : Nat} (h : Up X n) (hij : i ≤ j) (hj : j < n) : X i ≤ X j := by
  rcases Nat.lt_or_ge i j with q | q
  · exact Int.le_of_lt (up_lt h q hj)
  · rw [show i = j by omega]; exact Int.le_refl _
theorem hH_l {X Y : Nat → Int} {i : Nat} : hH X Y i (X i) = Y i * (X (i + 1) - X i) := by unfold hH; rw [Int.sub_self, Int.mul_zero, Int.add_zero]
theorem hH_r {X Y : Nat → Int} {i : Nat} : hH X Y i (X (i + 1)) = Y (i + 1) * (X (i + 1) - X i) := by
  unfold hH
  rw [← Int.add_mul, show Y i + (Y (i + 1) - Y i) = Y (i + 1) by omega]
theorem pc_next {X Y : Nat → Int} {n i i' : Nat} {x : Int} (h : Up X n) (hi : i < i') (p : Pc X n i x) (p' : Pc X n i' x) : hH X Y i x * (X (i' + 1) - X i') = hH X Y i' x * (X (i + 1) - X i) := by
  have e : i' = i + 1 := by
    rcases Nat.lt_or_ge (i + 1) i' with q | q
    · have h1 := up_lt h q (by have := p'.1; omega)
      have h2 := p.2.2
      have h3 := p'.2.1
      omega
    · omega
  subst e
  have ex : x = X (i + 1) := by
    have h2 := p.2.2
    have h3 := p'.2.1
    omega
  rw [ex, hH_r, hH_l, Int.mul_assoc, Int.mul_assoc, Int.mul_comm (X (i + 1) - X i)]
theorem pc_same {X Y : Nat → Int} {n i i' : Nat} {x : Int} (h : Up X n) (p : Pc X n i x) (p' : Pc X n i' x) : hH X Y i x * (X (i' + 1) - X i') = hH X Y i' x * (X (i + 1) - X i) := by
  rcases Nat.lt_trichotomy i i' with q | q | q
  · exact pc_next h q p p'
  · subst q; rfl
  · exact (pc_next h q p' p).symm
theorem dd_alg {Ha Wb Hb Wa Wa' Wb' Ha' Hb' : Int} (ea : Ha * Wa' = Ha' * Wa) (eb : Hb * Wb' = Hb' * Wb) : (Ha * Wb - Hb * Wa) * (Wa' * Wb') = (Ha' * Wb' - Hb' * Wa') * (Wa * Wb) := by
  have e1 : Ha * Wb * (Wa' * Wb') = Ha' * Wb' * (Wa * Wb) := by
    have q1 : Ha * Wb * (Wa' * Wb') = (Ha * Wa') * (Wb * Wb') := by ac_rfl
    rw [q1, ea]; ac_rfl
  have e2 : Hb * Wa * (Wa' * Wb') = Hb' * Wa' * (Wa * Wb) := by
    have q1 : Hb * Wa * (Wa' * Wb') = (Hb * Wb') * (Wa * Wa') := by ac_rfl
    rw [q1, eb]; ac_rfl
  rw [Int.sub_mul, Int.sub_mul, e1, e2]
theorem sc {d d' U U' N : Int} (hU : 0 < U) (hU' : 0 < U') (e : d * U' = d' * U) (h : d < N * U) : d' < N * U' := by
  have h1 : d * U' < N * U * U' := Int.mul_lt_mul_of_pos_right h hU'
  rw [e, show N * U * U' = N * U' * U by ac_rfl] at h1
  exact Int.lt_of_mul_lt_mul_right h1 (Int.le_of_lt hU)
theorem sc_n {d d' U U' N : Int} (hU : 0 < U) (hU' : 0 < U') (e : d * U' = d' * U) (h : -(N * U) < d) : -(N * U') < d' := by
  have := sc (d := -d) (d' := -d') (N := N) hU hU' (by rw [Int.neg_mul, Int.neg_mul, e]) (by omega)
  omega
theorem sc_0 {d d' U U' : Int} (hU : 0 < U) (hU' : 0 < U') (e : d * U' = d' * U) (h : d < 0) : d' < 0 := by
  have := sc (N := 0) hU hU' e (by rw [Int.zero_mul]; exact h)
  rwa [Int.zero_mul] at this
theorem sc_p {d d' U U' : Int} (hU : 0 < U) (hU' : 0 < U') (e : d * U' = d' * U) (h : 0 < d) : 0 < d' := by
  have := sc_0 (d := -d) (d' := -d') hU hU' (by rw [Int.neg_mul, Int.neg_mul, e]) (by omega)
  omega
theorem aff_p {A B f l x : Int} (h1 : f ≤ x) (h2 : x ≤ l) (p : 0 < A + B * f) (q : 0 < A + B * l) : 0 < A + B * x := by
  rcases Int.le_total 0 B with c | c
  · have := Int.mul_le_mul_of_nonneg_left h1 c
    omega
  · have := Int.mul_le_mul_of_nonpos_left c h2
    omega
theorem aff_n {A B f l x : Int} (h1 : f ≤ x) (h2 : x ≤ l) (p : A + B * f < 0) (q : A + B * l < 0) : A + B * x < 0 := by
  have := aff_p (A := -A) (B := -B) h1 h2 (by rw [Int.neg_mul]; omega) (by rw [Int.neg_mul]; omega)
  rw [Int.neg_mul] at this
  omega
section near
variable {Xa Ya Xb Yb : Nat → Int} {n m : Nat} {N : Int}
theorem dD_aff (i j : Nat) : ∃ A B : Int, ∀ x, dD Xa Ya Xb Yb i j x = A + B * x := by
  have e : ∀ (X Y : Nat → Int) (i : Nat), ∃ c s : Int, ∀ x, hH X Y i x = c + s * x := fun X Y i => ⟨Y i * (X (i + 1) - X i) - (Y (i + 1) - Y i) * X i, Y (i + 1) - Y i, fun x => by unfold hH; rw [Int.mul_sub (Y (i + 1) - Y i)]; omega⟩
  obtain ⟨c, s, e1⟩ := e Xa Ya i
  obtain ⟨c', s', e2⟩ := e Xb Yb j
  refine ⟨c * (Xb (j + 1) - Xb j) - c' * (Xa (i + 1) - Xa i), s * (Xb (j + 1) - Xb j) - s' * (Xa (i + 1) - Xa i), fun x => ?_⟩
  unfold dD
  rw [e1, e2, Int.add_mul, Int.add_mul, Int.sub_mul, Int.mul_right_comm s, Int.mul_right_comm s']
  omega
theorem dD_same {i i' j j' : Nat} {x : Int} (ha : Up Xa n) (hb : Up Xb m) (p : Pc Xa n i x) (p' : Pc Xa n i' x) (q : Pc Xb m j x) (q' : Pc Xb m j' x) : dD Xa Ya Xb Yb i j x * uU Xa Xb i' j' = dD Xa Ya Xb Yb i' j' x * uU Xa Xb i j :=
  dd_alg (pc_same ha p p') (pc_same hb q q')
theorem uU_pos {i j : Nat} (ha : Up Xa n) (hb : Up Xb m) (hi : i + 1 < n) (hj : j + 1 < m) : 0 < uU Xa Xb i j := by
  have h1 := ha i hi
  have h2 := hb j hj
  exact Int.mul_pos (by omega) (by omega)
def fI (Xa Xb : Nat → Int) (i j : Nat) : Int := if Xa i < Xb j then Xb j else Xa i
def lI (Xa Xb : Nat → Int) (i j : Nat) : Int := if Xb (j + 1) < Xa (i + 1) then Xb (j + 1) else Xa (i + 1)
def nr (Xa Ya Xb Yb : Nat → Int) (N : Int) (i j : Nat) (x : Int) : Prop := -(N * uU Xa Xb i j) < dD Xa Ya Xb Yb i j x ∧ dD Xa Ya Xb Yb i j x < N * uU Xa Xb i j
def pN (Xa Ya Xb Yb : Nat → Int) (N : Int) (i j : Nat) : Prop :=
  fI Xa Xb i j ≤ lI Xa Xb i j ∧ (((dD Xa Ya Xb Yb i j (fI Xa Xb i j) < 0 ∧ 0 < dD Xa Ya Xb Yb i j (lI Xa Xb i j)) ∨ (0 < dD Xa Ya Xb Yb i j (fI Xa Xb i j) ∧ dD Xa Ya Xb Yb i j (lI Xa Xb i j) < 0)) ∨ nr Xa Ya Xb Yb N i j (fI Xa Xb i j) ∨ nr Xa Ya Xb Yb N i j (lI Xa Xb i j))
def bp (Xa Xb : Nat → Int) (n m : Nat) (x : Int) : Prop := (∃ i, i < n ∧ x = Xa i) ∨ ∃ j, j < m ∧ x = Xb j
def nrP (Xa Ya Xb Yb : Nat → Int) (n m : Nat) (N x : Int) : Prop := ∃ i j, Pc Xa n i x ∧ Pc Xb m j x ∧ nr Xa Ya Xb Yb N i j x
def ngP (Xa Ya Xb Yb : Nat → Int) (n m : Nat) (x : Int) : Prop := ∃ i j, Pc Xa n i x ∧ Pc Xb m j x ∧ dD Xa Ya Xb Yb i j x < 0
def psP (Xa Ya Xb Yb : Nat → Int) (n m : Nat) (x : Int) : Prop := ∃ i j, Pc Xa n i x ∧ Pc Xb m j x ∧ 0 < dD Xa Ya Xb Yb i j x
theorem fI_a {i j : Nat} : Xa i ≤ fI Xa Xb i j := by unfold fI; split <;> omega
theorem fI_b {i j : Nat} : Xb j ≤ fI Xa Xb i j := by unfold fI; split <;> omega
theorem fI_or {i j : Nat} : fI Xa Xb i j = Xa i ∨ fI Xa Xb i j = Xb j := by unfold fI; split <;> omega
theorem lI_a {i j : Nat} : lI Xa Xb i j ≤ Xa (i + 1) := by unfold lI; split <;> omega
theorem lI_b {i j : Nat} : lI Xa Xb i j ≤ Xb (j + 1) := by unfold lI; split <;> omega
theorem lI_or {i j : Nat} : lI Xa Xb i j = Xa (i + 1) ∨ lI Xa Xb i j = Xb (j + 1) := by unfold lI; split <;> omega
theorem nr_same {i i' j j' : Nat} {x : Int} (ha : Up Xa n) (hb : Up Xb m) (p : Pc Xa n i x) (p' : Pc Xa n i' x) (q : Pc Xb m j x) (q' : Pc Xb m j' x) (h : nr Xa Ya Xb Yb N i j x) : nr Xa Ya Xb Yb N i' j' x :=
  have e := dD_same (Ya := Ya) (Yb := Yb) ha hb p p' q q'
  have u := uU_pos ha hb p.1 q.1
  have u' := uU_pos ha hb p'.1 q'.1
  ⟨sc_n u u' e h.1, sc u u' e h.2⟩
theorem ng_same {i i' j j' : Nat} {x : Int} (ha : Up Xa n) (hb : Up Xb m) (p : Pc Xa n i x) (p' : Pc Xa n i' x) (q : Pc Xb m j x) (q' : Pc Xb m j' x) (h : dD Xa Ya Xb Yb i j x < 0) : dD Xa Ya Xb Yb i' j' x < 0 :=
  sc_0 (uU_pos ha hb p.1 q.1) (uU_pos ha hb p'.1 q'.1) (dD_same ha hb p p' q q') h
theorem ps_same {i i' j j' : Nat} {x : Int} (ha : Up Xa n) (hb : Up Xb m) (p : Pc Xa n i x) (p' : Pc Xa n i' x) (q : Pc Xb m j x) (q' : Pc Xb m j' x) (h : 0 < dD Xa Ya Xb Yb i j x) : 0 < dD Xa Ya Xb Yb i' j' x :=
  sc_p (uU_pos ha hb p.1 q.1) (uU_pos ha hb p'.1 q'.1) (dD_same ha hb p p' q q') h
theorem pN_bp (h : ∃ i j, i + 1 < n ∧ j + 1 < m ∧ pN Xa Ya Xb Yb N i j) : (∃ x, bp Xa Xb n m x ∧ nrP Xa Ya Xb Yb n m N x) ∨ ((∃ x, bp Xa Xb n m x ∧ ngP Xa Ya Xb Yb n m x) ∧ ∃ x, bp Xa Xb n m x ∧ psP Xa Ya Xb Yb n m x) := by
  obtain ⟨i, j, hi, hj, hfl, h⟩ := h
  have f1 := fI_a (Xa := Xa) (Xb := Xb) (i := i) (j := j)
  have f2 := fI_b (Xa := Xa) (Xb := Xb) (i := i) (j := j)
  have l1 := lI_a (Xa := Xa) (Xb := Xb) (i := i) (j := j)
  have l2 := lI_b (Xa := Xa) (Xb := Xb) (i := i) (j := j)
  have pf : Pc Xa n i (fI Xa Xb i j) := ⟨hi, f1, by omega⟩
  have qf : Pc Xb m j (fI Xa Xb i j) := ⟨hj, f2, by omega⟩
  have pl : Pc Xa n i (lI Xa Xb i j) := ⟨hi, by omega, l1⟩
  have ql : Pc Xb m j (lI Xa Xb i j) := ⟨hj, by omega, l2⟩
  have bf : bp Xa Xb n m (fI Xa Xb i j) := by
    rcases fI_or (Xa := Xa) (Xb := Xb) (i := i) (j := j) with e | e
    · exact Or.inl ⟨i, by omega, e⟩
    · exact Or.inr ⟨j, by omega, e⟩
  have bl : bp Xa Xb n m (lI Xa Xb i j) := by
    rcases lI_or (Xa := Xa) (Xb := Xb) (i := i) (j := j) with e | e
    · exact Or.inl ⟨i + 1, hi, e⟩
    · exact Or.inr ⟨j + 1, hj, e⟩
  rcases h with (h | h) | h | h
  · exact Or.inr ⟨⟨_, bf, i, j, pf, qf, h.1⟩, ⟨_, bl, i, j, pl, ql, h.2⟩⟩
  · exact Or.inr ⟨⟨_, bl, i, j, pl, ql, h.2⟩, ⟨_, bf, i, j, pf, qf, h.1⟩⟩
  · exact Or.inl ⟨_, bf, i, j, pf, qf, h⟩
  · exact Or.inl ⟨_, bl, i, j, pl, ql, h⟩
theorem bp_no (ha : Up Xa n) (hb : Up Xb m) (hno : ∀ i j, i + 1 < n → j + 1 < m → ¬ pN Xa Ya Xb Yb N i j) {x : Int} (hx : bp Xa Xb n m x) {i j : Nat} (p : Pc Xa n i x) (q : Pc Xb m j x) : ¬ nr Xa Ya Xb Yb N i j x := by
  intro hn
  rcases hx with ⟨i0, h0, e⟩ | ⟨j0, h0, e⟩
  · rcases Nat.lt_or_ge (i0 + 1) n with c | c
    · have hu := ha i0 c
      have p0 : Pc Xa n i0 x := ⟨c, by omega, by omega⟩
      have ef : fI Xa Xb i0 j = x := by
        have := q.2.1
        unfold fI; rw [if_neg (by omega)]; exact e.symm
      have el : x ≤ lI Xa Xb i0 j := by
        have := q.2.2
        rcases lI_or (Xa := Xa) (Xb := Xb) (i := i0) (j := j) with z | z <;> omega
      refine hno i0 j c q.1 ⟨by rw [ef]; exact el, Or.inr (Or.inl ?_)⟩
      rw [ef]
      exact nr_same ha hb p p0 q q hn
    · have hp := p.1
      obtain ⟨i1, rfl⟩ : ∃ z, i0 = z + 1 := ⟨i0 - 1, by omega⟩
      have hu := ha i1 (by omega)
      have p0 : Pc Xa n i1 x := ⟨by omega, by omega, by omega⟩
      have el : lI Xa Xb i1 j = x := by
        have := q.2.2
        unfold lI; rw [if_neg (by omega)]; exact e.symm
      have ef : fI Xa Xb i1 j ≤ x := by
        have := q.2.1
        rcases fI_or (Xa := Xa) (Xb := Xb) (i := i1) (j := j) with z | z <;> omega
      refine hno i1 j (by omega) q.1 ⟨by rw [el]; exact ef, Or.inr (Or.inr ?_)⟩
      rw [el]
      exact nr_same ha hb p p0 q q hn
  · rcases Nat.lt_or_ge (j0 + 1) m with c | c
    · have hu := hb j0 c
      have q0 : Pc Xb m j0 x := ⟨c, by omega, by omega⟩
      have ef : fI Xa Xb i j0 = x := by
        have := p.2.1
        rcases fI_or (Xa := Xa) (Xb := Xb) (i := i) (j := j0) with z | z
        · have := fI_b (Xa := Xa) (Xb := Xb) (i := i) (j := j0)
          omega
        · omega
      have el : x ≤ lI Xa Xb i j0 := by
        have := p.2.2
        rcases lI_or (Xa := Xa) (Xb := Xb) (i := i) (j := j0) with z | z <;> omega
      refine hno i j0 p.1 c ⟨by rw [ef]; exact el, Or.inr (Or.inl ?_)⟩
      rw [ef]
      exact nr_same ha hb p p q q0 hn
    · have hq := q.1
      obtain ⟨j1, rfl⟩ : ∃ z, j0 = z + 1 := ⟨j0 - 1, by omega⟩
      have hu := hb j1 (by omega)
      have q0 : Pc Xb m j1 x := ⟨by omega, by omega, by omega⟩
      have el : lI Xa Xb i j1 = x := by
        have := p.2.2
        rcases lI_or (Xa := Xa) (Xb := Xb) (i := i) (j := j1) with z | z
        · have := lI_b (Xa := Xa) (Xb := Xb) (i := i) (j := j1)
          omega
        · omega
      have ef : fI Xa Xb i j1 ≤ x := by
        have := p.2.1
        rcases fI_or (Xa := Xa) (Xb := Xb) (i := i) (j := j1) with z | z <;> omega
      refine hno i j1 p.1 (by omega) ⟨by rw [el]; exact ef, Or.inr (Or.inr ?_)⟩
      rw [el]
      exact nr_same ha hb p p q q0 hn
theorem two_pc {X : Nat → Int} {n i i' : Nat} {x : Int} (h : Up X n) (p : Pc X n i x) (p' : Pc X n i' (x + 1)) : ∃ k, Pc X n k x ∧ Pc X n k (x + 1) := by
  obtain ⟨p1, p2, p3⟩ := p
  obtain ⟨q1, q2, q3⟩ := p'
  by_cases c : x + 1 ≤ X (i + 1)
  · exact ⟨i, ⟨p1, p2, p3⟩, ⟨p1, by omega, c⟩⟩
  · have hi : i + 1 < i' + 1 := by
      rcases Nat.lt_or_ge (i + 1) (i' + 1) with z | z
      · exact z
      · have := up_le h z p1
        omega
    have hu := h (i + 1) (by omega)
    exact ⟨i + 1, ⟨by omega, by omega, by omega⟩, ⟨by omega, by omega, by omega⟩⟩
theorem pc_in {X : Nat → Int} {n i : Nat} {x : Int} (h : Up X n) (p : Pc X n i x) : X 0 ≤ x ∧ x ≤ X (n - 1) := by
  obtain ⟨p1, p2, p3⟩ := p
  have h1 := up_le h (Nat.zero_le i) (by omega)
  have h2 := up_le (j := n - 1) h (show i + 1 ≤ n - 1 by omega) (by omega)
  omega
theorem pc_ex {X : Nat → Int} {x : Int} : ∀ {n : Nat}, 2 ≤ n → X 0 ≤ x → x ≤ X (n - 1) → ∃ i, Pc X n i x
  | 0, h, _, _ => absurd h (by omega)
  | 1, h, _, _ => absurd h (by omega)
  | 2, _, h1, h2 => ⟨0, by omega, h1, h2⟩
  | n + 3, _, h1, h2 => by
    by_cases c : x ≤ X (n + 1)
    · obtain ⟨i, p⟩ := pc_ex (n := n + 2) (by omega) h1 c
      exact ⟨i, by have := p.1; omega, p.2⟩
    · exact ⟨n + 1, by omega, by omega, h2⟩
theorem one_sign (hN : 0 < N) (ha : Up Xa n) (hb : Up Xb m) (hno : ∀ i j, i + 1 < n → j + 1 < m → ¬ pN Xa Ya Xb Yb N i j) {i j : Nat} {x y : Int} (px : Pc Xa n i x) (qx : Pc Xb m j x) (py : Pc Xa n i y) (qy : Pc Xb m j y) (h : 0 < dD Xa Ya Xb Yb i j x) : 0 < dD Xa Ya Xb Yb i j y := by
  have u := uU_pos ha hb px.1 qx.1
  have nu : 0 < N * uU Xa Xb i j := Int.mul_pos hN u
  have fx : fI Xa Xb i j ≤ x := by
    have := px.2.1
    have := qx.2.1
    rcases fI_or (Xa := Xa) (Xb := Xb) (i := i) (j := j) with z | z <;> omega
  have fy : fI Xa Xb i j ≤ y := by
    have := py.2.1
    have := qy.2.1
    rcases fI_or (Xa := Xa) (Xb := Xb) (i := i) (j := j) with z | z <;> omega
  have lx : x ≤ lI Xa Xb i j := by
    have := px.2.2
    have := qx.2.2
    rcases lI_or (Xa := Xa) (Xb := Xb) (i := i) (j := j) with z | z <;> omega
  have ly : y ≤ lI Xa Xb i j := by
    have := py.2.2
    have := qy.2.2
    rcases lI_or (Xa := Xa) (Xb := Xb) (i := i) (j := j) with z | z <;> omega
  have no := hno i j px.1 qx.1
  unfold pN nr at no
  obtain ⟨A, B, e⟩ := dD_aff (Xa := Xa) (Ya := Ya) (Xb := Xb) (Yb := Yb) i j
  generalize N * uU Xa Xb i j = U at no nu
  generalize fI Xa Xb i j = f at no fx fy
  generalize lI Xa Xb i j = l at no lx ly
  have hs : (0 < dD Xa Ya Xb Yb i j f ∧ 0 < dD Xa Ya Xb Yb i j l) ∨ (dD Xa Ya Xb Yb i j f < 0 ∧ dD Xa Ya Xb Yb i j l < 0) := by omega
  rw [e] at h
  rw [e, e] at hs
  rw [e]
  rcases hs with s | s
  · exact aff_p fy ly s.1 s.2
  · have := aff_n fx lx s.1 s.2
    omega
theorem ps_step (hN : 0 < N) (ha : Up Xa n) (hb : Up Xb m) (hno : ∀ i j, i + 1 < n → j + 1 < m → ¬ pN Xa Ya Xb Yb N i j) {i j i' j' : Nat} {x : Int} (p : Pc Xa n i x) (q : Pc Xb m j x) (p' : Pc Xa n i' (x + 1)) (q' : Pc Xb m j' (x + 1)) : psP Xa Ya Xb Yb n m x ↔ psP Xa Ya Xb Yb n m (x + 1) := by
  obtain ⟨k, k1, k2⟩ := two_pc ha p p'
  obtain ⟨r, r1, r2⟩ := two_pc hb q q'
  constructor
  · rintro ⟨a, b, h1, h2, h3⟩
    exact ⟨k, r, k2, r2, one_sign hN ha hb hno k1 r1 k2 r2 (ps_same ha hb h1 k1 h2 r1 h3)⟩
  · rintro ⟨a, b, h1, h2, h3⟩
    exact ⟨k, r, k1, r1, one_sign hN ha hb hno k2 r2 k1 r1 (ps_same ha hb h1 k2 h2 r2 h3)⟩
theorem ps_walk (hn : 2 ≤ n) (hm : 2 ≤ m) (hN : 0 < N) (ha : Up Xa n) (hb : Up Xb m) (hno : ∀ i j, i + 1 < n → j + 1 < m → ¬ pN Xa Ya Xb Yb N i j) : ∀ (d : Nat) (x : Int), (Xa 0 ≤ x ∧ Xb 0 ≤ x) → (x + d ≤ Xa (n - 1) ∧ x + d ≤ Xb (m - 1)) → (psP Xa Ya Xb Yb n m x ↔ psP Xa Ya Xb Yb n m (x + d))
  | 0, x, _, _ => by rw [show x + ((0 : Nat) : Int) = x by omega]
  | d + 1, x, h1, h2 => by
    have ih := ps_walk hn hm hN ha hb hno d (x + 1) (by omega) (by omega)
    rw [show x + 1 + (d : Int) = x + ((d + 1 : Nat) : Int) by omega] at ih
    obtain ⟨i, p⟩ := pc_ex (X := Xa) (x := x) hn h1.1 (by omega)
    obtain ⟨j, q⟩ := pc_ex (X := Xb) (x := x) hm h1.2 (by omega)
    obtain ⟨i', p'⟩ := pc_ex (X := Xa) (x := x + 1) hn (by omega) (by omega)
    obtain ⟨j', q'⟩ := pc_ex (X := Xb) (x := x + 1) hm (by omega) (by omega)
    exact (ps_step hN ha hb hno p q p' q').trans ih
theorem bp_pN (hN : 0 < N) (ha : Up Xa n) (hb : Up Xb m) (h : (∃ x, bp Xa Xb n m x ∧ nrP Xa Ya Xb Yb n m N x) ∨ ((∃ x, bp Xa Xb n m x ∧ ngP Xa Ya Xb Yb n m x) ∧ ∃ x, bp Xa Xb n m x ∧ psP Xa Ya Xb Yb n m x)) : ∃ i j, i + 1 < n ∧ j + 1 < m ∧ pN Xa Ya Xb Yb N i j := by
  refine Classical.byContradiction fun hc => ?_
  have hno : ∀ i j, i + 1 < n → j + 1 < m → ¬ pN Xa Ya Xb Yb N i j := fun i j h1 h2 h3 => hc ⟨i, j, h1, h2, h3⟩
  rcases h with ⟨x, hx, i, j, p, q, hn⟩ | ⟨⟨x, _, i, j, p, q, hg⟩, ⟨y, _, i', j', p', q', hp⟩⟩
  · exact bp_no ha hb hno hx p q hn
  · have n2 : 2 ≤ n := by have := p.1; omega
    have m2 : 2 ≤ m := by have := q.1; omega
    have a1 := pc_in ha p
    have a2 := pc_in ha p'
    have b1 := pc_in hb q
    have b2 := pc_in hb q'
    have hps : psP Xa Ya Xb Yb n m x := by
      rcases Int.le_total x y with c | c
      · have := ps_walk n2 m2 hN ha hb hno (y - x).toNat x (by omega) (by omega)
        rw [show x + ((y - x).toNat : Int) = y by omega] at this
        exact this.mpr ⟨i', j', p', q', hp⟩
      · have := ps_walk n2 m2 hN ha hb hno (x - y).toNat y (by omega) (by omega)
        rw [show y + ((x - y).toNat : Int) = x by omega] at this
        exact this.mp ⟨i', j', p', q', hp⟩
    obtain ⟨i2, j2, p2, q2, h2⟩ := hps
    have := ng_same ha hb p p2 q q2 hg
    omega
end near
