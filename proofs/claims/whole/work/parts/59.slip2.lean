/-! Slip, the reference's side; both searches come to one force at the anchor. -/
theorem r4 (a b c d : Int64) : a + b - c - d = a - c + b - d := by
  rw [Int64.sub_eq_add_neg (a := a + b), Int64.sub_eq_add_neg (a := a), Int64.add_assoc, Int64.add_assoc, Int64.add_comm b]
section SM
variable {fu n k : Nat} {thr ten loc rou mum sli sha fad day : Int32} {mar msi mst men mpu mxs mys : Nat → Int32} {mfo : Nat → Int64} {mor : Nat → Int32} {mo1 mo2 : Nat → Int64} {e : Bool} {X : Int64} {f : Nat → Int64}
theorem out_164 {g : Nat → Int64} (hf : 2000 ≤ fu) (hk : k < 6) (hn : n ≤ 10) (hs : msi k = nI n) (ha1 : 50 ≤ (mar k).toInt) (ha2 : (mar k).toInt ≤ 10000) (hfo : ∀ j, j < n → mfo (10 * k + j) = f j) : fM_tryOut_L164 fu thr ten loc rou mum sli sha fad day mar msi mst men mpu mxs mys mfo mor mo2 (nI k) g fu (0 : Int32) (0 : Int64) = some (shO (mar k) mxs mys k n f g, g) := by
  have hgo : ∀ m i q, i + m = n - 1 → m < q → fM_tryOut_L164 fu thr ten loc rou mum sli sha fad day mar msi mst men mpu mxs mys mfo mor mo2 (nI k) g q (nI i) (sm (fun i => pcO (mar k) mxs mys k i (((f i - g i) + f (i + 1)) - g (i + 1))) i) = some (sm (fun i => pcO (mar k) mxs mys k i (((f i - g i) + f (i + 1)) - g (i + 1))) (n - 1), g) := by
    intro m
    induction m with
    | zero =>
      intro i q hi hq
      obtain ⟨q, rfl⟩ : ∃ z, q = z + 1 := ⟨q - 1, by omega⟩
      have c : msi k ≤ nI i + (1 : Int32) := by rw [hs, nI_1, Int32.le_iff_toInt_le, nI_toInt (by omega), nI_toInt (by omega)]; omega
      rw [fM_tryOut_L164_s, z_cl (by omega), if_pos c, show i = n - 1 by omega]
    | succ m ih =>
      intro i q hi hq
      obtain ⟨q, rfl⟩ : ∃ z, q = z + 1 := ⟨q - 1, by omega⟩
      have c : ¬ msi k ≤ nI i + (1 : Int32) := by rw [hs, nI_1, Int32.le_iff_toInt_le, nI_toInt (by omega), nI_toInt (by omega)]; omega
      have h2 := ih (i + 1) q (by omega) (by omega)
      rw [fM_tryOut_L164_s, z_cl (k := k) (by omega), if_neg c, ix10, if_pos (z_ok (by omega) (by omega)), nI_1, nI_1, if_pos (z_ok (by omega) (by omega)), if_pos (z_ok (by omega) (by omega)), if_pos (z_ok (by omega) (by omega)), len_M (by omega) hk (by omega), Option.bind_some, if_pos (z_ok2 (by omega) (by omega)), if_pos (den_ne ha1 ha2), z_cl (k := 10 * k + i) (by omega), z_cl (k := 10 * k + i + 1) (by omega), z_cl (k := i) (by omega), z_cl (k := i + 1) (by omega), hfo i (by omega), Nat.add_assoc, hfo (i + 1) (by omega), r4]
      exact h2
  exact hgo (n - 1) 0 fu (by omega) (by omega)
theorem out_0 (hk : k < 6) (hn : n ≤ 10) (hs : msi k = nI n) (hfo : ∀ j, j < n → mfo (10 * k + j) = f j) : ∀ m i q (v : Int64) (arr : Nat → Int64), i + m = n → m < q → 1 ≤ i →
    fM_tryOut_L17 fu thr ten loc rou mum sli sha fad day mar msi mst men mpu mxs mys mfo mor mo2 (nI k) (eb e) q (nI i) (0 : Int32) v arr = fM_tryOut_L164 fu thr ten loc rou mum sli sha fad day mar msi mst men mpu mxs mys mfo mor mo2 (nI k) (fun j => if j < n ∧ i ≤ ps e n j then f j else arr j) fu (0 : Int32) (0 : Int64) := by
  intro m
  induction m with
  | zero =>
    intro i q v arr hi hq h1
    obtain ⟨q, rfl⟩ : ∃ z, q = z + 1 := ⟨q - 1, by omega⟩
    have e9 : (fun j => if j < n ∧ i ≤ ps e n j then f j else arr j) = arr := by
      funext j
      rw [if_neg (fun z => by have := ps_lt (e := e) z.1; omega)]
    rw [fM_tryOut_L17_s, z_cl (by omega), hs, if_pos (nI_le (by omega) (by omega)), e9]
  | succ m ih =>
    intro i q v arr hi hq h1
    obtain ⟨q, rfl⟩ : ∃ z, q = z + 1 := ⟨q - 1, by omega⟩
    have hin : i < n := by omega
    have hpl := ps_lt (e := e) hin
    have hne : ¬ nI i ≤ (0 : Int32) := fun z => by have := (nI_leI (a := i) (b := 0) (by omega) (by omega)).mp z; omega
    rw [fM_tryOut_L17_s, z_cl (k := k) (by omega), hs, if_neg (nI_ge (by omega) (by omega)), eb_pos hn hin, Option.bind_some, ix10, if_pos (z_ok (by omega) (by omega)), if_neg hne, if_pos rfl, Option.bind_some, if_pos rfl, Option.bind_some, if_pos rfl, Option.bind_some, if_pos (z_ok (by omega) (by omega)), z_cl (k := ps e n i) (by omega), z_cl (k := 10 * k + ps e n i) (by omega), nI_1, hfo _ hpl, ih (i + 1) q _ _ (by omega) (by omega) (by omega)]
    congr 1
    funext j
    by_cases ej : j = ps e n i
    · subst ej
      rw [ps_ps hin, if_neg (show ¬ (ps e n i < n ∧ i + 1 ≤ i) by omega), if_pos (show ps e n i < n ∧ i ≤ i from ⟨hpl, Nat.le_refl _⟩), updL_at]
    · rw [updL_ne ej]
      by_cases c : j < n ∧ i ≤ ps e n j
      · have : ps e n j ≠ i := fun z => ej (by rw [← z]; exact (ps_ps c.1).symm)
        rw [if_pos (by omega), if_pos c]
      · rw [if_neg (by omega), if_neg c]
theorem out_1 (hf : 2000 ≤ fu) (hk : k < 6) (hn : n ≤ 10) (hs : msi k = nI n) (hg : GeO mxs mys k n) (hfo : ∀ j, j < n → mfo (10 * k + j) = f j) : ∀ m i q (arr : Nat → Int64), i + m = n → m < q → (i = 0 ∨ blO rou mum mxs mys k n e X f (i - 1) = true) →
    fM_tryOut_L17 fu thr ten loc rou mum sli sha fad day mar msi mst men mpu mxs mys mfo mor mo2 (nI k) (eb e) q (nI i) (1 : Int32) (usO rou mum mxs mys k n e X (i - 1)) arr = fM_tryOut_L164 fu thr ten loc rou mum sli sha fad day mar msi mst men mpu mxs mys mfo mor mo2 (nI k) (fun j => if j < n ∧ i ≤ ps e n j then rsO rou mum mxs mys k n e X f j else arr j) fu (0 : Int32) (0 : Int64) := by
  intro m
  induction m with
  | zero =>
    intro i q arr hi hq hbl
    obtain ⟨q, rfl⟩ : ∃ z, q = z + 1 := ⟨q - 1, by omega⟩
    have e9 : (fun j => if j < n ∧ i ≤ ps e n j then rsO rou mum mxs mys k n e X f j else arr j) = arr := by
      funext j
      rw [if_neg (fun z => by have := ps_lt (e := e) z.1; omega)]
    rw [fM_tryOut_L17_s, z_cl (by omega), hs, if_pos (nI_le (by omega) (by omega)), e9]
  | succ m ih =>
    intro i q arr hi hq hbl
    obtain ⟨q, rfl⟩ : ∃ z, q = z + 1 := ⟨q - 1, by omega⟩
    have hin : i < n := by omega
    have hpl := ps_lt (e := e) hin
    have hb9 := bl_at hbl
    have hstep : ∀ o : Nat → Int64, (if nI i ≤ (0 : Int32) then some (usO rou mum mxs mys k n e X (i - 1)) else (if (1 : Int32) = (0 : Int32) then some (usO rou mum mxs mys k n e X (i - 1)) else (((if eb e = (0 : Int32) then some (nI (ps e n i) - (1 : Int32)) else some (nI (ps e n i)))).bind fun j_74 => ((fM_lengthOf fu thr ten loc rou mum sli sha fad day mar msi mst men mpu mxs mys mfo mor o mo2 (nI k) j_74).bind fun r_86 => ((fM_byRough fu thr ten loc rou mum sli sha fad day mar msi mst men mpu mxs mys mfo mor o mo2 (usO rou mum mxs mys k n e X (i - 1)) r_86).bind fun r_89 => ((fM_turnOf fu thr ten loc rou mum sli sha fad day mar msi mst men mpu mxs mys mfo mor o mo2 (nI k) (nI (ps e n i))).bind fun r_104 => ((fM_byTurn fu thr ten loc rou mum sli sha fad day mar msi mst men mpu mxs mys mfo mor o mo2 (usO rou mum mxs mys k n e X (i - 1) + r_89) r_104).bind fun r_107 => some ((usO rou mum mxs mys k n e X (i - 1) + r_89) + r_107)))))))) = some (usO rou mum mxs mys k n e X i) := by
      intro o
      by_cases c0 : i = 0
      · subst c0
        rw [if_pos (by decide)]
      · have hne : ¬ nI i ≤ (0 : Int32) := fun z => by have := (nI_leI (a := i) (b := 0) (by omega) (by omega)).mp z; omega
        have hpx := pcx_lt (e := e) (i := i) (by omega) hin
        rw [if_neg hne, if_neg (by decide), eb_pc hn (by omega) hin, Option.bind_some, len_M (by omega) hk (by omega), Option.bind_some]
        unfold fM_byRough fM_byTurn
        rw [Option.bind_some, turn_M hk hn hpl hs hg.2, Option.bind_some, Option.bind_some]
        obtain ⟨i', rfl⟩ : ∃ z, i = z + 1 := ⟨i - 1, by omega⟩
        rfl
    rw [fM_tryOut_L17_s, z_cl (k := k) (by omega), hs, if_neg (nI_ge (by omega) (by omega)), eb_pos hn hin, Option.bind_some, ix10, if_pos (z_ok (by omega) (by omega)), hstep, Option.bind_some, if_neg (show ¬ (1 : Int32) = 0 by decide), z_cl (k := 10 * k + ps e n i) (by omega), hfo _ hpl]
    by_cases c : usO rou mum mxs mys k n e X i < f (ps e n i)
    · have hbt : blO rou mum mxs mys k n e X f i = true := by rw [hb9]; exact decide_eq_true c
      have hnc : ¬ f (ps e n i) ≤ usO rou mum mxs mys k n e X i := by rw [Int64.le_iff_toInt_le]; rw [Int64.lt_iff_toInt_lt] at c; omega
      rw [if_neg hnc, Option.bind_some, if_neg (show ¬ (1 : Int32) = 0 by decide), Option.bind_some, if_pos (z_ok (by omega) (by omega)), z_cl (k := ps e n i) (by omega), nI_1]
      have h2 := ih (i + 1) q (vp_updL arr (ps e n i) (usO rou mum mxs mys k n e X i)) (by omega) (by omega) (Or.inr (by rw [Nat.add_sub_cancel]; exact hbt))
      rw [Nat.add_sub_cancel] at h2
      rw [h2]
      congr 1
      funext j
      by_cases ej : j = ps e n i
      · subst ej
        unfold rsO
        rw [ps_ps hin, if_neg (show ¬ (ps e n i < n ∧ i + 1 ≤ i) by omega), if_pos (show ps e n i < n ∧ i ≤ i from ⟨hpl, Nat.le_refl _⟩), updL_at, if_pos hbt]
      · rw [updL_ne ej]
        by_cases c9 : j < n ∧ i ≤ ps e n j
        · have : ps e n j ≠ i := fun z => ej (by rw [← z]; exact (ps_ps c9.1).symm)
          rw [if_pos (by omega), if_pos c9]
        · rw [if_neg (by omega), if_neg c9]
    · have hbf : blO rou mum mxs mys k n e X f i = false := by rw [hb9]; exact decide_eq_false c
      have hnc : f (ps e n i) ≤ usO rou mum mxs mys k n e X i := by rw [Int64.le_iff_toInt_le]; rw [Int64.lt_iff_toInt_lt] at c; omega
      rw [if_pos hnc, Option.bind_some, if_pos rfl, Option.bind_some, if_pos (z_ok (by omega) (by omega)), z_cl (k := ps e n i) (by omega), nI_1, out_0 hk hn hs hfo m (i + 1) q _ _ (by omega) (by omega) (by omega)]
      congr 1
      funext j
      have hrs : ∀ j, j < n → i ≤ ps e n j → rsO rou mum mxs mys k n e X f j = f j := fun j hj hij => by
        unfold rsO
        have h9 := bl_mono hbf (ps e n j - i)
        rw [show i + (ps e n j - i) = ps e n j by omega] at h9
        rw [if_neg (by rw [h9]; decide)]
      by_cases ej : j = ps e n i
      · subst ej
        rw [ps_ps hin, if_neg (show ¬ (ps e n i < n ∧ i + 1 ≤ i) by omega), if_pos (show ps e n i < n ∧ i ≤ i from ⟨hpl, Nat.le_refl _⟩), updL_at, hrs _ hpl (by rw [ps_ps hin]; exact Nat.le_refl _)]
      · rw [updL_ne ej]
        by_cases c9 : j < n ∧ i ≤ ps e n j
        · have : ps e n j ≠ i := fun z => ej (by rw [← z]; exact (ps_ps c9.1).symm)
          rw [if_pos (by omega), if_pos c9, hrs j c9.1 c9.2]
        · rw [if_neg (by omega), if_neg c9]
theorem tryOut_is (hf : 2000 ≤ fu) (hk : k < 6) (hn : n ≤ 10) (hs : msi k = nI n) (hg : GeO mxs mys k n) (ha1 : 50 ≤ (mar k).toInt) (ha2 : (mar k).toInt ≤ 10000) (hfo : ∀ j, j < n → mfo (10 * k + j) = f j) : ∃ g : Nat → Int64, (∀ j, j < n → g j = rsO rou mum mxs mys k n e X f j) ∧ fM_tryOut fu thr ten loc rou mum sli sha fad day mar msi mst men mpu mxs mys mfo mor mo1 mo2 (nI k) (eb e) X = some (shO (mar k) mxs mys k n f (rsO rou mum mxs mys k n e X f), g) := by
  refine ⟨fun j => if j < n ∧ 0 ≤ ps e n j then rsO rou mum mxs mys k n e X f j else mo1 j, fun j hj => if_pos ⟨hj, Nat.zero_le _⟩, ?_⟩
  unfold fM_tryOut
  rw [if_pos (z_ok (by omega) (by omega))]
  refine (out_1 (X := X) hf hk hn hs hg hfo n 0 fu mo1 (by omega) (by omega) (Or.inl rfl)).trans ?_
  rw [out_164 (f := f) hf hk hn hs ha1 ha2 hfo]
  have hs9 : shO (mar k) mxs mys k n f (fun j => if j < n ∧ 0 ≤ ps e n j then rsO rou mum mxs mys k n e X f j else mo1 j) = shO (mar k) mxs mys k n f (rsO rou mum mxs mys k n e X f) := by
    unfold shO
    refine sm_congr (fun i hi => ?_)
    dsimp only
    rw [if_pos (show i < n ∧ 0 ≤ ps e n i from ⟨by omega, Nat.zero_le _⟩), if_pos (show i + 1 < n ∧ 0 ≤ ps e n (i + 1) from ⟨by omega, Nat.zero_le _⟩)]
  rw [hs9]
theorem slip_74 {s9 : Int64} {g : Nat → Int64} (hk : k < 6) (hn : n ≤ 10) (hs : msi k = nI n) : ∀ m i q (arr : Nat → Int64), i + m = n → m < q → fM_letSlip_L74 fu msi (nI k) (s9, g) q (nI i) arr = some ((fun x => if 10 * k + i ≤ x ∧ x < 10 * k + n then g (x - 10 * k) else arr x), g) := by
  intro m
  induction m with
  | zero =>
    intro i q arr hi hq
    obtain ⟨q, rfl⟩ : ∃ z, q = z + 1 := ⟨q - 1, by omega⟩
    rw [fM_letSlip_L74_s, if_pos (z_ok (by omega) (by omega)), z_cl (by omega), hs, if_pos (nI_le (by omega) (by omega))]
    congr 2
    funext x
    rw [if_neg (by omega)]
  | succ m ih =>
    intro i q arr hi hq
    obtain ⟨q, rfl⟩ : ∃ z, q = z + 1 := ⟨q - 1, by omega⟩
    rw [fM_letSlip_L74_s, if_pos (z_ok (by omega) (by omega)), z_cl (k := k) (by omega), hs, if_neg (nI_ge (by omega) (by omega)), if_pos (z_ok (by omega) (by omega)), ix10, if_pos (z_ok (by omega) (by omega)), z_cl (by omega), z_cl (by omega), nI_1, ih (i + 1) q _ (by omega) (by omega)]
    congr 2
    funext x
    by_cases ex : x = 10 * k + i
    · rw [ex, if_neg (by omega), if_pos (by omega), updL_at, Nat.add_sub_cancel_left]
    · rw [updL_ne ex]
      by_cases c : 10 * k + i ≤ x ∧ x < 10 * k + n
      · rw [if_pos (by omega), if_pos c]
      · rw [if_neg (by omega), if_neg c]
variable {xs ys ln sl : Nat → Int32} {fo : Nat → Int64} {area state pf pw : Int32}
theorem slip_85 {g : Nat → Int64} (hn : n ≤ 10) : ∀ m i q (arr : Nat → Int64), i + m = n → m < q → fT_slipAtEnd_L85 fu (nI n) g q (nI i) arr = some ((fun j => if i ≤ j ∧ j < n then g j else arr j), g) := by
  intro m
  induction m with
  | zero =>
    intro i q arr hi hq
    obtain ⟨q, rfl⟩ : ∃ z, q = z + 1 := ⟨q - 1, by omega⟩
    rw [fT_slipAtEnd_L85_s, if_pos (nI_le (by omega) (by omega))]
    congr 2
    funext j
    rw [if_neg (by omega)]
  | succ m ih =>
    intro i q arr hi hq
    obtain ⟨q, rfl⟩ : ∃ z, q = z + 1 := ⟨q - 1, by omega⟩
    rw [fT_slipAtEnd_L85_s, if_neg (nI_ge (by omega) (by omega)), if_pos (z_ok (by omega) (by omega)), if_pos (z_ok (by omega) (by omega)), z_cl (by omega), nI_1, ih (i + 1) q _ (by omega) (by omega)]
    congr 2
    funext j
    by_cases ej : j = i
    · rw [ej, if_neg (by omega), if_pos (by omega), updL_at]
    · rw [updL_ne ej]
      by_cases c : i ≤ j ∧ j < n
      · rw [if_pos (by omega), if_pos c]
      · rw [if_neg (by omega), if_neg c]
theorem midI {a b : Nat} (h : a + b < 2 ^ 30) : ((nI a + nI b) + (1 : Int32)) / (2 : Int32) = nI ((a + b + 1) / 2) := by
  rw [nI_add, nI_1, show (2 : Int32) = nI 2 from rfl, pk_div (by omega) (by omega) (by omega)]
theorem slip_both (hf : 2000 ≤ fu) (hk : k < 6) (hn : n ≤ 10) (hs : msi k = nI n) (hg : GeO mxs mys k n) (ha1 : 50 ≤ (mar k).toInt) (ha2 : (mar k).toInt ≤ 10000) (har : area = mar k) (hfo : ∀ j, j < n → mfo (10 * k + j) = f j) (hfc : ∀ j, j < n → fo j = f j) (hln : ∀ i, i + 1 < n → ln i = (lnO mxs mys (10 * k + i)).toInt32) (hsl : ∀ i, i + 1 < n → sl i = slO mxs mys (10 * k + i)) :
    ∀ m a b, a ≤ b → b ≤ 10000000 → b - a < 2 ^ m → ∃ Xn : Nat, Xn ≤ 10000000 ∧
      (∀ (tr : Nat → Int64) q c, m < q → c + m ≤ 40 → ∃ tr', fT_slipAtEnd_L12 fu area state pf pw (nI n) xs ys ln sl fo rou mum (ec e) sli q (nI c) (nI b) (nI a) tr = some ((fun j => if j < n then rsO rou mum mxs mys k n e (lN Xn) f j else fo j), tr')) ∧
      (∀ (o : Nat → Int64) q, m < q → ∃ o', fM_letSlip_L11 fu thr ten loc rou mum sli sha fad day mar msi mst men mpu mxs mys mfo mor mo2 (nI k) (eb e) q (lN b) (lN a) o = some ((fun x => if 10 * k ≤ x ∧ x < 10 * k + n then rsO rou mum mxs mys k n e (lN Xn) f (x - 10 * k) else mfo x), o')) := by
  have hendC : ∀ (a : Nat) (tr : Nat → Int64), a ≤ 10000000 → ∃ tr', ((fT_tryAnchor fu area state pf pw (nI n) xs ys ln sl fo tr rou mum (ec e) (nI a)).bind fun r_79 => fT_slipAtEnd_L85 fu (nI n) r_79 fu (0 : Int32) fo) = some ((fun j => if j < n then rsO rou mum mxs mys k n e (lN a) f j else fo j), tr') := by
    intro a tr ha
    refine ⟨(fun j => if j < n then rsO rou mum mxs mys k n e (lN a) f j else tr j), ?_⟩
    rw [anch (k := k) (mxs := mxs) (mys := mys) (f := f) hf hn hfc hln hsl, Option.bind_some, nI_l (by omega), show (0 : Int32) = nI 0 from rfl, slip_85 hn n 0 fu _ (by omega) (by omega)]
    congr 2
    funext j
    by_cases c : j < n
    · rw [if_pos ⟨Nat.zero_le _, c⟩, if_pos c, if_pos c]
    · rw [if_neg (fun z => c z.2), if_neg c]
  have hendM : ∀ (a : Nat) (o : Nat → Int64), ∃ o', ((fM_tryOut fu thr ten loc rou mum sli sha fad day mar msi mst men mpu mxs mys mfo mor o mo2 (nI k) (eb e) (lN a)).bind fun r_66 => fM_letSlip_L74 fu msi (nI k) r_66 fu (0 : Int32) mfo) = some ((fun x => if 10 * k ≤ x ∧ x < 10 * k + n then rsO rou mum mxs mys k n e (lN a) f (x - 10 * k) else mfo x), o') := by
    intro a o
    obtain ⟨g, g1, g2⟩ := tryOut_is (fu := fu) (thr := thr) (ten := ten) (loc := loc) (rou := rou) (mum := mum) (sli := sli) (sha := sha) (fad := fad) (day := day) (mst := mst) (men := men) (mpu := mpu) (mor := mor) (mo1 := o) (mo2 := mo2) (e := e) (X := lN a) hf hk hn hs hg ha1 ha2 hfo
    refine ⟨g, ?_⟩
    rw [g2, Option.bind_some, show (0 : Int32) = nI 0 from rfl, slip_74 hk hn hs n 0 fu _ (by omega) (by omega)]
    congr 2
    funext x
    by_cases c : 10 * k ≤ x ∧ x < 10 * k + n
    · rw [if_pos (by omega), if_pos c, g1 _ (by omega)]
    · rw [if_neg (by omega), if_neg c]
  intro m
  induction m with
  | zero =>
    intro a b hab hb hm
    have e9 : a = b := by omega
    subst e9
    refine ⟨a, hb, ?_, ?_⟩
    · intro tr q c hq hc
      obtain ⟨q, rfl⟩ : ∃ z, q = z + 1 := ⟨q - 1, by omega⟩
      obtain ⟨tr', h9⟩ := hendC a tr hb
      refine ⟨tr', ?_⟩
      rw [fT_slipAtEnd_L12_s]
      by_cases q9 : (40 : Int32) ≤ nI c
      · rw [if_pos q9]; exact h9
      · rw [if_neg q9, if_pos (nI_le (Nat.le_refl _) (by omega))]; exact h9
    · intro o q hq
      obtain ⟨q, rfl⟩ : ∃ z, q = z + 1 := ⟨q - 1, by omega⟩
      obtain ⟨o', h9⟩ := hendM a o
      refine ⟨o', ?_⟩
      rw [fM_letSlip_L11_s, if_pos ((pk_lLE (by omega) (by omega)).mpr (Nat.le_refl _))]
      exact h9
  | succ m ih =>
    intro a b hab hb hm
    by_cases c0 : b ≤ a
    · refine ⟨a, by omega, ?_, ?_⟩
      · intro tr q c hq hc
        obtain ⟨q, rfl⟩ : ∃ z, q = z + 1 := ⟨q - 1, by omega⟩
        obtain ⟨tr', h9⟩ := hendC a tr (by omega)
        refine ⟨tr', ?_⟩
        rw [fT_slipAtEnd_L12_s]
        by_cases q9 : (40 : Int32) ≤ nI c
        · rw [if_pos q9]; exact h9
        · rw [if_neg q9, if_pos (nI_le c0 (by omega))]; exact h9
      · intro o q hq
        obtain ⟨q, rfl⟩ : ∃ z, q = z + 1 := ⟨q - 1, by omega⟩
        obtain ⟨o', h9⟩ := hendM a o
        refine ⟨o', ?_⟩
        rw [fM_letSlip_L11_s, if_pos ((pk_lLE (by omega) (by omega)).mpr c0)]
        exact h9
    · have hp : 2 ^ (m + 1) = 2 * 2 ^ m := by rw [Nat.pow_succ]; omega
      have hle : ¬ lN b ≤ lN a := fun z => c0 ((pk_lLE (by omega) (by omega)).mp z)
      have hleI : ¬ nI b ≤ nI a := nI_ge (by omega) (by omega)
      have hM1 : ∀ (o : Nat → Int64), ∃ o9, fM_tryOut fu thr ten loc rou mum sli sha fad day mar msi mst men mpu mxs mys mfo mor o mo2 (nI k) (eb e) (lN ((a + b + 1) / 2)) = some (shO (mar k) mxs mys k n f (rsO rou mum mxs mys k n e (lN ((a + b + 1) / 2)) f), o9) := fun o => by
        obtain ⟨g, g1, g2⟩ := tryOut_is (fu := fu) (thr := thr) (ten := ten) (loc := loc) (rou := rou) (mum := mum) (sli := sli) (sha := sha) (fad := fad) (day := day) (mst := mst) (men := men) (mpu := mpu) (mor := mor) (mo1 := o) (mo2 := mo2) (e := e) (X := lN ((a + b + 1) / 2)) hf hk hn hs hg ha1 ha2 hfo
        exact ⟨g, g2⟩
      have hC1 : ∀ (tr : Nat → Int64), fT_tryAnchor fu area state pf pw (nI n) xs ys ln sl fo tr rou mum (ec e) (nI ((a + b + 1) / 2)) = some (fun j => if j < n then rsO rou mum mxs mys k n e (lN ((a + b + 1) / 2)) f j else tr j) := fun tr => by
        rw [anch (k := k) (mxs := mxs) (mys := mys) (f := f) hf hn hfc hln hsl, nI_l (by omega)]
      have hC2 : ∀ (tr : Nat → Int64), fT_shortening fu area state pf pw (nI n) xs ys ln sl fo (fun j => if j < n then rsO rou mum mxs mys k n e (lN ((a + b + 1) / 2)) f j else tr j) = some (shO (mar k) mxs mys k n f (rsO rou mum mxs mys k n e (lN ((a + b + 1) / 2)) f)) := fun tr => by
        rw [short_D (k := k) (mxs := mxs) (mys := mys) (f := f) (g := rsO rou mum mxs mys k n e (lN ((a + b + 1) / 2)) f) hf (by rw [har]; exact ha1) (by rw [har]; exact ha2) hn hln hfc (fun j hj => if_pos hj), har]
      by_cases c1 : shO (mar k) mxs mys k n f (rsO rou mum mxs mys k n e (lN ((a + b + 1) / 2)) f) < sli.toInt64
      · obtain ⟨Xn, x1, x2, x3⟩ := ih a ((a + b + 1) / 2 - 1) (by omega) (by omega) (by omega)
        refine ⟨Xn, x1, ?_, ?_⟩
        · intro tr q c hq hc
          obtain ⟨q, rfl⟩ : ∃ z, q = z + 1 := ⟨q - 1, by omega⟩
          obtain ⟨tr', h9⟩ := x2 (fun j => if j < n then rsO rou mum mxs mys k n e (lN ((a + b + 1) / 2)) f j else tr j) q (c + 1) (by omega) (by omega)
          have hc40 : ¬ (40 : Int32) ≤ nI c := fun z => absurd ((nI_leI (a := 40) (b := c) (by decide) (by omega)).mp z) (by omega)
          refine ⟨tr', ?_⟩
          rw [fT_slipAtEnd_L12_s, if_neg hc40, if_neg hleI, midI (by omega), hC1, Option.bind_some, hC2, Option.bind_some, if_pos c1, Option.bind_some, nI_1, show nI ((a + b + 1) / 2) - (1 : Int32) = nI ((a + b + 1) / 2 - 1) from pk_sub (b := 1) (by omega)]
          exact h9
        · intro o q hq
          obtain ⟨q, rfl⟩ : ∃ z, q = z + 1 := ⟨q - 1, by omega⟩
          obtain ⟨o9, h8⟩ := hM1 o
          obtain ⟨o', h9⟩ := x3 o9 q (by omega)
          refine ⟨o', ?_⟩
          rw [fM_letSlip_L11_s, if_neg hle, mid_lN (by omega), h8, Option.bind_some]
          dsimp only
          rw [if_pos c1, Option.bind_some, lN_m1 (by omega)]
          exact h9
      · obtain ⟨Xn, x1, x2, x3⟩ := ih ((a + b + 1) / 2) b (by omega) (by omega) (by omega)
        refine ⟨Xn, x1, ?_, ?_⟩
        · intro tr q c hq hc
          obtain ⟨q, rfl⟩ : ∃ z, q = z + 1 := ⟨q - 1, by omega⟩
          obtain ⟨tr', h9⟩ := x2 (fun j => if j < n then rsO rou mum mxs mys k n e (lN ((a + b + 1) / 2)) f j else tr j) q (c + 1) (by omega) (by omega)
          have hc40 : ¬ (40 : Int32) ≤ nI c := fun z => absurd ((nI_leI (a := 40) (b := c) (by decide) (by omega)).mp z) (by omega)
          refine ⟨tr', ?_⟩
          rw [fT_slipAtEnd_L12_s, if_neg hc40, if_neg hleI, midI (by omega), hC1, Option.bind_some, hC2, Option.bind_some, if_neg c1, Option.bind_some, nI_1]
          exact h9
        · intro o q hq
          obtain ⟨q, rfl⟩ : ∃ z, q = z + 1 := ⟨q - 1, by omega⟩
          obtain ⟨o9, h8⟩ := hM1 o
          obtain ⟨o', h9⟩ := x3 o9 q (by omega)
          refine ⟨o', ?_⟩
          rw [fM_letSlip_L11_s, if_neg hle, mid_lN (by omega), h8, Option.bind_some]
          dsimp only
          rw [if_neg c1, Option.bind_some]
          exact h9
end SM
