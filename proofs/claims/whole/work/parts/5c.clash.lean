/-! Where two ducts come near, in words: the class's side. -/
theorem kab {a b A B : Int} (h1 : -A ≤ a) (h2 : a ≤ A) (h3 : -B ≤ b) (h4 : b ≤ B) : -(A * B) ≤ a * b ∧ a * b ≤ A * B := by
  have q1 := Int.mul_nonneg (show 0 ≤ A - a by omega) (show 0 ≤ B + b by omega)
  have q2 := Int.mul_nonneg (show 0 ≤ A + a by omega) (show 0 ≤ B - b by omega)
  have q3 := Int.mul_nonneg (show 0 ≤ A - a by omega) (show 0 ≤ B - b by omega)
  have q4 := Int.mul_nonneg (show 0 ≤ A + a by omega) (show 0 ≤ B + b by omega)
  rw [Int.sub_mul, Int.mul_add, Int.mul_add] at q1
  rw [Int.add_mul, Int.mul_sub, Int.mul_sub] at q2
  rw [Int.sub_mul, Int.mul_sub, Int.mul_sub] at q3
  rw [Int.add_mul, Int.mul_add, Int.mul_add] at q4
  omega
def hW (xs ys : Nat → Int32) (i : Nat) (x : Int32) : Int64 := (ys i).toInt64 * (xs (i + 1) - xs i).toInt64 + (ys (i + 1) - ys i).toInt64 * (x - xs i).toInt64
def dW (axs ays bxs bys : Nat → Int32) (i j : Nat) (x : Int32) : Int64 := hW axs ays i x * (bxs (j + 1) - bxs j).toInt64 - hW bxs bys j x * (axs (i + 1) - axs i).toInt64
/-- a row of points, in words -/
def Ro (xs ys : Nat → Int32) (n : Nat) : Prop := ∀ i, i < n → (0 ≤ (xs i).toInt ∧ (xs i).toInt ≤ 100000) ∧ (-3000 ≤ (ys i).toInt ∧ (ys i).toInt ≤ 3000)
def wI (f : Nat → Int32) : Nat → Int := fun i => (f i).toInt
theorem hW_in {xs ys : Nat → Int32} {n i : Nat} {x : Int32} (h : Ro xs ys n) (hi : i + 1 < n) (hx : 0 ≤ x.toInt ∧ x.toInt ≤ 100000) : (hW xs ys i x).toInt = hH (wI xs) (wI ys) i x.toInt ∧ -900000000 ≤ (hW xs ys i x).toInt ∧ (hW xs ys i x).toInt ≤ 900000000 := by
  have a0 := h i (by omega)
  have a1 := h (i + 1) hi
  have e1 : (xs (i + 1) - xs i).toInt = (xs (i + 1)).toInt - (xs i).toInt := i_sub (by omega) (by omega)
  have e2 : (ys (i + 1) - ys i).toInt = (ys (i + 1)).toInt - (ys i).toInt := i_sub (by omega) (by omega)
  have e3 : (x - xs i).toInt = x.toInt - (xs i).toInt := i_sub (by omega) (by omega)
  have b1 := kab (a := (ys i).toInt) (b := (xs (i + 1)).toInt - (xs i).toInt) (A := 3000) (B := 100000) (by omega) (by omega) (by omega) (by omega)
  have b2 := kab (a := (ys (i + 1)).toInt - (ys i).toInt) (b := x.toInt - (xs i).toInt) (A := 6000) (B := 100000) (by omega) (by omega) (by omega) (by omega)
  have m1 : ((ys i).toInt64 * (xs (i + 1) - xs i).toInt64).toInt = (ys i).toInt * ((xs (i + 1)).toInt - (xs i).toInt) := by
    rw [l_mul, Int32.toInt_toInt64, Int32.toInt_toInt64, e1] <;> rw [Int32.toInt_toInt64, Int32.toInt_toInt64, e1] <;> omega
  have m2 : ((ys (i + 1) - ys i).toInt64 * (x - xs i).toInt64).toInt = ((ys (i + 1)).toInt - (ys i).toInt) * (x.toInt - (xs i).toInt) := by
    rw [l_mul, Int32.toInt_toInt64, Int32.toInt_toInt64, e2, e3] <;> rw [Int32.toInt_toInt64, Int32.toInt_toInt64, e2, e3] <;> omega
  have s : (hW xs ys i x).toInt = (ys i).toInt * ((xs (i + 1)).toInt - (xs i).toInt) + ((ys (i + 1)).toInt - (ys i).toInt) * (x.toInt - (xs i).toInt) := by
    unfold hW
    rw [l_add, m1, m2] <;> rw [m1, m2] <;> omega
  refine ⟨s, ?_⟩
  rw [s]
  omega
theorem wd_in {xs ys : Nat → Int32} {n i : Nat} (h : Ro xs ys n) (hi : i + 1 < n) : (xs (i + 1) - xs i).toInt = wI xs (i + 1) - wI xs i ∧ -100000 ≤ (xs (i + 1) - xs i).toInt ∧ (xs (i + 1) - xs i).toInt ≤ 100000 := by
  have a0 := h i (by omega)
  have a1 := h (i + 1) hi
  have e1 : (xs (i + 1) - xs i).toInt = (xs (i + 1)).toInt - (xs i).toInt := i_sub (by omega) (by omega)
  exact ⟨e1, by omega, by omega⟩
theorem dW_in {axs ays bxs bys : Nat → Int32} {n m i j : Nat} {x : Int32} (ha : Ro axs ays n) (hb : Ro bxs bys m) (hi : i + 1 < n) (hj : j + 1 < m) (hx : 0 ≤ x.toInt ∧ x.toInt ≤ 100000) : (dW axs ays bxs bys i j x).toInt = dD (wI axs) (wI ays) (wI bxs) (wI bys) i j x.toInt ∧ -180000000000000 ≤ (dW axs ays bxs bys i j x).toInt ∧ (dW axs ays bxs bys i j x).toInt ≤ 180000000000000 := by
  obtain ⟨p1, p2, p3⟩ := hW_in ha hi hx
  obtain ⟨q1, q2, q3⟩ := hW_in hb hj hx
  obtain ⟨r1, r2, r3⟩ := wd_in ha hi
  obtain ⟨s1, s2, s3⟩ := wd_in hb hj
  have b1 := kab (A := 900000000) (B := 100000) p2 p3 s2 s3
  have b2 := kab (A := 900000000) (B := 100000) q2 q3 r2 r3
  have m1 : (hW axs ays i x * (bxs (j + 1) - bxs j).toInt64).toInt = (hW axs ays i x).toInt * (bxs (j + 1) - bxs j).toInt := by
    rw [l_mul, Int32.toInt_toInt64] <;> rw [Int32.toInt_toInt64] <;> omega
  have m2 : (hW bxs bys j x * (axs (i + 1) - axs i).toInt64).toInt = (hW bxs bys j x).toInt * (axs (i + 1) - axs i).toInt := by
    rw [l_mul, Int32.toInt_toInt64] <;> rw [Int32.toInt_toInt64] <;> omega
  have s : (dW axs ays bxs bys i j x).toInt = (hW axs ays i x).toInt * (bxs (j + 1) - bxs j).toInt - (hW bxs bys j x).toInt * (axs (i + 1) - axs i).toInt := by
    unfold dW
    rw [l_sub, m1, m2] <;> rw [m1, m2] <;> omega
  refine ⟨?_, by rw [s]; omega, by rw [s]; omega⟩
  rw [s, p1, q1, r1, s1]
  rfl
theorem uW_in {axs ays bxs bys : Nat → Int32} {n m i j : Nat} {p : Int32} (ha : Ro axs ays n) (hb : Ro bxs bys m) (hi : i + 1 < n) (hj : j + 1 < m) (hp : 0 ≤ p.toInt ∧ p.toInt ≤ 1000) : (p.toInt64 * ((axs (i + 1) - axs i).toInt64 * (bxs (j + 1) - bxs j).toInt64)).toInt = p.toInt * uU (wI axs) (wI bxs) i j := by
  obtain ⟨r1, r2, r3⟩ := wd_in ha hi
  obtain ⟨s1, s2, s3⟩ := wd_in hb hj
  have b1 := kab (A := 100000) (B := 100000) r2 r3 s2 s3
  have m1 : ((axs (i + 1) - axs i).toInt64 * (bxs (j + 1) - bxs j).toInt64).toInt = (axs (i + 1) - axs i).toInt * (bxs (j + 1) - bxs j).toInt := by
    rw [l_mul, Int32.toInt_toInt64, Int32.toInt_toInt64] <;> rw [Int32.toInt_toInt64, Int32.toInt_toInt64] <;> omega
  have b2 := kab (a := p.toInt) (A := 1000) (B := 100000 * 100000) (by omega) (by omega) b1.1 b1.2
  have m2 : (p.toInt64 * ((axs (i + 1) - axs i).toInt64 * (bxs (j + 1) - bxs j).toInt64)).toInt = p.toInt * ((axs (i + 1) - axs i).toInt * (bxs (j + 1) - bxs j).toInt) := by
    rw [l_mul, Int32.toInt_toInt64, m1] <;> rw [Int32.toInt_toInt64, m1] <;> omega
  rw [m2, r1, s1]
  rfl
theorem l_neg {d : Int64} (h1 : -180000000000000 ≤ d.toInt) (h2 : d.toInt ≤ 180000000000000) : (-d).toInt = -d.toInt := by
  rw [Int64.toInt_neg, bm64 (by omega) (by omega)]
theorem wo_C {fu i : Nat} {s : Int32} {xs ys ln sl : Nat → Int32} (hi : i + 1 < 10) : fD_widthOf fu s xs ys ln sl (nI i) = some (xs (i + 1) - xs i) := by
  unfold fD_widthOf
  rw [nI_1, if_pos (z_ok (by omega) (by omega)), if_pos (z_ok (by omega) (by omega)), z_cl (k := i) (by omega), z_cl (k := i + 1) (by omega)]
theorem sh_C {fu i : Nat} {s x : Int32} {xs ys ln sl : Nat → Int32} (hi : i + 1 < 10) : fD_scaledHeight fu s xs ys ln sl (nI i) x = some (hW xs ys i x) := by
  unfold fD_scaledHeight
  rw [nI_1, if_pos (z_ok (by omega) (by omega)), if_pos (z_ok (by omega) (by omega)), if_pos (z_ok (by omega) (by omega)), wo_C hi, Option.bind_some, if_pos (z_ok (by omega) (by omega)), z_cl (k := i) (by omega), z_cl (k := i + 1) (by omega)]
  rfl
theorem sd_C {fu i j : Nat} {as bs x : Int32} {axs ays aln asl bxs bys bln bsl : Nat → Int32} (hi : i + 1 < 10) (hj : j + 1 < 10) : fD_scaledDistance fu as axs ays aln asl bs bxs bys bln bsl (nI i) (nI j) x = some (dW axs ays bxs bys i j x) := by
  unfold fD_scaledDistance
  rw [sh_C hi, Option.bind_some, wo_C hj, Option.bind_some, sh_C hj, Option.bind_some, wo_C hi, Option.bind_some]
  rfl
theorem fin_C {d1 d2 A1 A2 Bd : Int64} : ((((if (0 : Int64) ≤ d1 then (if d1 ≤ (0 : Int64) then some (0 : Int32) else (if (0 : Int64) ≤ d2 then some (0 : Int32) else some (1 : Int32))) else (if (0 : Int64) < d2 then some (1 : Int32) else (if d1 ≤ (0 : Int64) then some (0 : Int32) else (if (0 : Int64) ≤ d2 then some (0 : Int32) else some (1 : Int32)))))).bind fun j_77 => (if j_77 = (0 : Int32) then (if A1 < Bd then some (1 : Int32) else (if Bd ≤ A2 then some (0 : Int32) else some (1 : Int32))) else some (1 : Int32))) = some 1 ∧ (((d1.toInt < 0 ∧ 0 < d2.toInt) ∨ (0 < d1.toInt ∧ d2.toInt < 0)) ∨ A1.toInt < Bd.toInt ∨ A2.toInt < Bd.toInt)) ∨
    ((((if (0 : Int64) ≤ d1 then (if d1 ≤ (0 : Int64) then some (0 : Int32) else (if (0 : Int64) ≤ d2 then some (0 : Int32) else some (1 : Int32))) else (if (0 : Int64) < d2 then some (1 : Int32) else (if d1 ≤ (0 : Int64) then some (0 : Int32) else (if (0 : Int64) ≤ d2 then some (0 : Int32) else some (1 : Int32)))))).bind fun j_77 => (if j_77 = (0 : Int32) then (if A1 < Bd then some (1 : Int32) else (if Bd ≤ A2 then some (0 : Int32) else some (1 : Int32))) else some (1 : Int32))) = some 0 ∧ ¬ (((d1.toInt < 0 ∧ 0 < d2.toInt) ∨ (0 < d1.toInt ∧ d2.toInt < 0)) ∨ A1.toInt < Bd.toInt ∨ A2.toInt < Bd.toInt)) := by
  have z : (0 : Int64).toInt = 0 := rfl
  simp only [Int64.le_iff_toInt_le, Int64.lt_iff_toInt_lt, z]
  generalize d1.toInt = x
  generalize d2.toInt = y
  generalize A1.toInt = a
  generalize A2.toInt = c
  generalize Bd.toInt = b
  by_cases c1 : 0 ≤ x <;> by_cases c2 : x ≤ 0 <;> by_cases c3 : 0 ≤ y <;> by_cases c4 : 0 < y <;> by_cases c5 : a < b <;> by_cases c6 : b ≤ c <;> first
    | (exfalso; omega)
    | exact Or.inl ⟨by simp [c1, c2, c3, c4, c5, c6], by omega⟩
    | exact Or.inr ⟨by simp [c1, c2, c3, c4, c5, c6], by omega⟩
theorem ab_C {d : Int64} (h1 : -180000000000000 ≤ d.toInt) (h2 : d.toInt ≤ 180000000000000) : (if 0 < d then d else -d).toInt = if 0 < d.toInt then d.toInt else -d.toInt := by
  by_cases c : 0 < d
  · have c' : 0 < d.toInt := Int64.lt_iff_toInt_lt.mp c
    rw [if_pos c, if_pos c']
  · have c' : ¬ 0 < d.toInt := fun z => c (Int64.lt_iff_toInt_lt.mpr z)
    rw [if_neg c, if_neg c', l_neg h1 h2]
theorem pcn {fu n m i j : Nat} {as bs p : Int32} {axs ays aln asl bxs bys bln bsl : Nat → Int32} (ha : Ro axs ays n) (hb : Ro bxs bys m) (hn : n ≤ 10) (hm : m ≤ 10) (hi : i + 1 < n) (hj : j + 1 < m) (hp : 0 ≤ p.toInt ∧ p.toInt ≤ 1000) : (fD_piecesComeNearer fu as axs ays aln asl bs bxs bys bln bsl (nI i) (nI j) p = some 1 ∧ (0 < p.toInt ∧ pN (wI axs) (wI ays) (wI bxs) (wI bys) p.toInt i j)) ∨ (fD_piecesComeNearer fu as axs ays aln asl bs bxs bys bln bsl (nI i) (nI j) p = some 0 ∧ ¬ (0 < p.toInt ∧ pN (wI axs) (wI ays) (wI bxs) (wI bys) p.toInt i j)) := by
  unfold fD_piecesComeNearer
  rw [if_pos (z_ok (by omega) (by omega)), if_pos (z_ok (by omega) (by omega)), nI_1, nI_1, if_pos (z_ok (by omega) (by omega)), if_pos (z_ok (by omega) (by omega)), z_cl (k := i) (by omega), z_cl (k := j) (by omega), z_cl (k := i + 1) (by omega), z_cl (k := j + 1) (by omega)]
  generalize hF : (if axs i < bxs j then bxs j else axs i) = F
  generalize hL : (if bxs (j + 1) < axs (i + 1) then bxs (j + 1) else axs (i + 1)) = L
  have eF : F.toInt = fI (wI axs) (wI bxs) i j := by
    rw [← hF]
    unfold fI wI
    by_cases c : axs i < bxs j
    · rw [if_pos c, if_pos (Int32.lt_iff_toInt_lt.mp c)]
    · rw [if_neg c, if_neg (fun z => c (Int32.lt_iff_toInt_lt.mpr z))]
  have eL : L.toInt = lI (wI axs) (wI bxs) i j := by
    rw [← hL]
    unfold lI wI
    by_cases c : bxs (j + 1) < axs (i + 1)
    · rw [if_pos c, if_pos (Int32.lt_iff_toInt_lt.mp c)]
    · rw [if_neg c, if_neg (fun z => c (Int32.lt_iff_toInt_lt.mpr z))]
  have bF : 0 ≤ F.toInt ∧ F.toInt ≤ 100000 := by
    rw [← hF]
    split
    · exact (hb j (by omega)).1
    · exact (ha i (by omega)).1
  have bL : 0 ≤ L.toInt ∧ L.toInt ≤ 100000 := by
    rw [← hL]
    split
    · exact (hb (j + 1) (by omega)).1
    · exact (ha (i + 1) (by omega)).1
  by_cases c : L < F
  · rw [if_pos c]
    have := Int32.lt_iff_toInt_lt.mp c
    refine Or.inr ⟨rfl, fun z => ?_⟩
    have := z.2.1
    omega
  rw [if_neg c]
  have hFL : F.toInt ≤ L.toInt := by
    have : ¬ L.toInt < F.toInt := fun z => c (Int32.lt_iff_toInt_lt.mpr z)
    omega
  by_cases c2 : (0 : Int32) < p
  · have hp0 : 0 < p.toInt := Int32.lt_iff_toInt_lt.mp c2
    obtain ⟨d1, d2, d3⟩ := dW_in (x := F) ha hb hi hj bF
    obtain ⟨e1, e2, e3⟩ := dW_in (x := L) ha hb hi hj bL
    have hu := uW_in (p := p) ha hb hi hj hp
    rw [if_pos c2, sd_C (by omega) (by omega), Option.bind_some, sd_C (by omega) (by omega), Option.bind_some, wo_C (by omega), wo_C (by omega)]
    dsimp only [Option.bind_some]
    rw [Int64.mul_assoc]
    have g1 := ab_C d2 d3
    have g2 := ab_C e2 e3
    generalize (if 0 < dW axs ays bxs bys i j F then dW axs ays bxs bys i j F else -dW axs ays bxs bys i j F) = A1 at g1 ⊢
    generalize (if 0 < dW axs ays bxs bys i j L then dW axs ays bxs bys i j L else -dW axs ays bxs bys i j L) = A2 at g2 ⊢
    generalize dW axs ays bxs bys i j F = D1 at d1 d2 d3 g1 ⊢
    generalize dW axs ays bxs bys i j L = D2 at e1 e2 e3 g2 ⊢
    generalize p.toInt64 * ((axs (i + 1) - axs i).toInt64 * (bxs (j + 1) - bxs j).toInt64) = Bd at hu ⊢
    have key : (((D1.toInt < 0 ∧ 0 < D2.toInt) ∨ (0 < D1.toInt ∧ D2.toInt < 0)) ∨ A1.toInt < Bd.toInt ∨ A2.toInt < Bd.toInt) ↔ (0 < p.toInt ∧ pN (wI axs) (wI ays) (wI bxs) (wI bys) p.toInt i j) := by
      unfold pN nr
      rw [← eF, ← eL, ← d1, ← e1, ← hu]
      generalize A1.toInt = x1 at g1 ⊢
      generalize A2.toInt = x2 at g2 ⊢
      split at g1 <;> split at g2 <;> omega
    rcases fin_C (d1 := D1) (d2 := D2) (A1 := A1) (A2 := A2) (Bd := Bd) with ⟨q1, q2⟩ | ⟨q1, q2⟩
    · exact Or.inl ⟨q1, key.mp q2⟩
    · exact Or.inr ⟨q1, fun z => q2 (key.mpr z)⟩
  · rw [if_neg c2]
    exact Or.inr ⟨rfl, fun z => c2 (Int32.lt_iff_toInt_lt.mpr z.1)⟩
section cn
variable {fu n m : Nat} {p : Int32} {axs ays aln asl bxs bys bln bsl : Nat → Int32}
theorem cn_c {m j : Nat} (hm : m ≤ 10) (hj : j ≤ 20) : (nI m - (1 : Int32) ≤ nI j) ↔ m ≤ j + 1 := by
  rw [Int32.le_iff_toInt_le, nI_m1 (by omega), nI_toInt (by omega)]
  omega
theorem cn_15 (ha : Ro axs ays n) (hb : Ro bxs bys m) (hn : n ≤ 10) (hm : m ≤ 10) (hp : 0 ≤ p.toInt ∧ p.toInt ≤ 1000) {i : Nat} (hi : i + 1 < n) {k2 : Int32 → Option Int32} : ∀ t j q, j ≤ 20 → m ≤ j + t + 1 → t < q →
    ((∃ j', j ≤ j' ∧ j' + 1 < m ∧ (0 < p.toInt ∧ pN (wI axs) (wI ays) (wI bxs) (wI bys) p.toInt i j')) ∧ fD_comeNearer_L15 fu (nI n) axs ays aln asl (nI m) bxs bys bln bsl p (nI i) k2 q (nI j) = some 1) ∨
    ((∀ j', j ≤ j' → j' + 1 < m → ¬ (0 < p.toInt ∧ pN (wI axs) (wI ays) (wI bxs) (wI bys) p.toInt i j')) ∧ fD_comeNearer_L15 fu (nI n) axs ays aln asl (nI m) bxs bys bln bsl p (nI i) k2 q (nI j) = k2 (nI (i + 1))) := by
  intro t
  induction t with
  | zero =>
    intro j q hj hq hs
    obtain ⟨q, rfl⟩ : ∃ z, q = z + 1 := ⟨q - 1, by omega⟩
    refine Or.inr ⟨fun j' h1 h2 => by omega, ?_⟩
    rw [fD_comeNearer_L15_s, if_pos ((cn_c hm hj).mpr (by omega)), nI_1]
  | succ t ih =>
    intro j q hj hq hs
    obtain ⟨q, rfl⟩ : ∃ z, q = z + 1 := ⟨q - 1, by omega⟩
    by_cases c : m ≤ j + 1
    · refine Or.inr ⟨fun j' h1 h2 => by omega, ?_⟩
      rw [fD_comeNearer_L15_s, if_pos ((cn_c hm hj).mpr (by omega)), nI_1]
    · rcases pcn (fu := fu) (as := nI n) (bs := nI m) (aln := aln) (asl := asl) (bln := bln) (bsl := bsl) ha hb hn hm hi (show j + 1 < m by omega) hp with ⟨e, h⟩ | ⟨e, h⟩
      · refine Or.inl ⟨⟨j, by omega, by omega, h⟩, ?_⟩
        rw [fD_comeNearer_L15_s, if_neg (fun z => c ((cn_c hm hj).mp z)), e, Option.bind_some, if_neg (by decide)]
      · rw [fD_comeNearer_L15_s, if_neg (fun z => c ((cn_c hm hj).mp z)), e, Option.bind_some, if_pos rfl, nI_1]
        rcases ih (j + 1) q (by omega) (by omega) (by omega) with ⟨⟨j', h1, h2, h3⟩, h4⟩ | ⟨h1, h2⟩
        · exact Or.inl ⟨⟨j', by omega, h2, h3⟩, h4⟩
        · refine Or.inr ⟨fun j' z1 z2 z3 => ?_, h2⟩
          rcases Nat.lt_or_ge j j' with z | z
          · exact h1 j' z z2 z3
          · rw [show j' = j by omega] at z3; exact h z3
theorem cn_2 (hf : 2000 ≤ fu) (ha : Ro axs ays n) (hb : Ro bxs bys m) (hn : n ≤ 10) (hm : m ≤ 10) (hp : 0 ≤ p.toInt ∧ p.toInt ≤ 1000) : ∀ t i q, i ≤ 20 → n ≤ i + t + 1 → t < q →
    ((∃ i' j', i ≤ i' ∧ i' + 1 < n ∧ j' + 1 < m ∧ (0 < p.toInt ∧ pN (wI axs) (wI ays) (wI bxs) (wI bys) p.toInt i' j')) ∧ fD_comeNearer_L2 fu (nI n) axs ays aln asl (nI m) bxs bys bln bsl p q (nI i) = some 1) ∨
    ((∀ i' j', i ≤ i' → i' + 1 < n → j' + 1 < m → ¬ (0 < p.toInt ∧ pN (wI axs) (wI ays) (wI bxs) (wI bys) p.toInt i' j')) ∧ fD_comeNearer_L2 fu (nI n) axs ays aln asl (nI m) bxs bys bln bsl p q (nI i) = some 0) := by
  intro t
  induction t with
  | zero =>
    intro i q hj hq hs
    obtain ⟨q, rfl⟩ : ∃ z, q = z + 1 := ⟨q - 1, by omega⟩
    refine Or.inr ⟨fun i' j' h1 h2 => by omega, ?_⟩
    rw [fD_comeNearer_L2_s, if_pos ((cn_c hn hj).mpr (by omega))]
  | succ t ih =>
    intro i q hj hq hs
    obtain ⟨q, rfl⟩ : ∃ z, q = z + 1 := ⟨q - 1, by omega⟩
    by_cases c : n ≤ i + 1
    · refine Or.inr ⟨fun i' j' h1 h2 => by omega, ?_⟩
      rw [fD_comeNearer_L2_s, if_pos ((cn_c hn hj).mpr (by omega))]
    · rw [fD_comeNearer_L2_s, if_neg (fun z => c ((cn_c hn hj).mp z))]
      rcases cn_15 (fu := fu) (aln := aln) (asl := asl) (bln := bln) (bsl := bsl) ha hb hn hm hp (show i + 1 < n by omega) (k2 := fun a0 => fD_comeNearer_L2 fu (nI n) axs ays aln asl (nI m) bxs bys bln bsl p q a0) 10 0 fu (by omega) (by omega) (by omega) with ⟨⟨j', h1, h2, h3⟩, h4⟩ | ⟨h1, h2⟩
      · exact Or.inl ⟨⟨i, j', by omega, by omega, h2, h3⟩, h4⟩
      · rcases ih (i + 1) q (by omega) (by omega) (by omega) with ⟨⟨i', j', z1, z2, z3, z4⟩, z5⟩ | ⟨z1, z2⟩
        · exact Or.inl ⟨⟨i', j', by omega, z2, z3, z4⟩, h2.trans z5⟩
        · refine Or.inr ⟨fun i' j' y1 y2 y3 y4 => ?_, h2.trans z2⟩
          rcases Nat.lt_or_ge i i' with z | z
          · exact z1 i' j' z y2 y3 y4
          · rw [show i' = i by omega] at y4; exact h1 j' (Nat.zero_le _) y3 y4
end cn
