/-! Drawing, as class and reference do it. -/
def ec (e : Bool) : Int32 := if e then 2 else 1
def eb (e : Bool) : Int32 := if e then 1 else 0
def mx (a d : Int64) : Int64 := if d < a then a else d
theorem ps_ps {e : Bool} {n j : Nat} (h : j < n) : ps e n (ps e n j) = j := by
  unfold ps
  cases e
  · rfl
  · show n - 1 - (n - 1 - j) = j; omega
theorem nI_sub3 {n i : Nat} (h : i < n) (hn : n ≤ 10) : nI n - (1 : Int32) - nI i = nI (n - 1 - i) := by
  rw [show nI n - (1 : Int32) = nI (n - 1) from pk_sub (a := n) (b := 1) (by omega), pk_sub (by omega)]
theorem pow_D {fu n i : Nat} {xs ys ln sl : Nat → Int32} {e : Bool} (hn : n ≤ 10) (hi : i < n) : fD_pointOnWay fu (nI n) xs ys ln sl (ec e) (nI i) = some (nI (ps e n i)) := by
  unfold fD_pointOnWay ps ec
  cases e
  · rw [if_neg (by decide)]; rfl
  · rw [if_pos rfl, nI_sub3 hi hn]; rfl
theorem pcx_lt {e : Bool} {n i : Nat} (h1 : 1 ≤ i) (hi : i < n) : pcx e n i + 1 < n := by
  unfold pcx
  cases e
  · show i - 1 + 1 < n; omega
  · show n - 1 - i + 1 < n; omega
theorem lb_D {fu n i : Nat} {xs ys ln sl : Nat → Int32} {e : Bool} (hn : n ≤ 10) (h1 : 1 ≤ i) (hi : i < n) : fD_lengthBefore fu (nI n) xs ys ln sl (ec e) (nI i) = some (ln (pcx e n i)) := by
  have hp := pcx_lt (e := e) h1 hi
  unfold fD_lengthBefore
  have : (if ec e = (2 : Int32) then some ((nI n - (1 : Int32)) - nI i) else some (nI i - (1 : Int32))) = some (nI (pcx e n i)) := by
    unfold ec pcx
    cases e
    · rw [if_neg (by decide), show nI i - (1 : Int32) = nI (i - 1) from pk_sub (a := i) (b := 1) h1]; rfl
    · rw [if_pos rfl, nI_sub3 hi hn]; rfl
  rw [this, Option.bind_some, if_pos (z_ok (by omega) (by omega)), z_cl (by omega)]
theorem updL_ne {f : Nat → Int64} {p j : Nat} {x : Int64} (h : j ≠ p) : vp_updL f p x j = f j := by simp [vp_updL, h]
section DW
variable {fu n k : Nat} {xs ys ln sl mxs mys : Nat → Int32} {rough mu : Int32} {e : Bool} {F : Int64}
theorem str7_f (hn : n ≤ 10) (hr : 0 ≤ rough.toInt ∧ rough.toInt ≤ 1000) (hm : 0 ≤ mu.toInt ∧ mu.toInt ≤ 500) (hg : GeO mxs mys k n) (hF : 0 ≤ F.toInt ∧ F.toInt ≤ 10000000) (hln : ∀ i, i + 1 < n → ln i = (lnO mxs mys (10 * k + i)).toInt32) (hsl : ∀ i, i + 1 < n → sl i = slO mxs mys (10 * k + i)) : ∀ m i q (arr : Nat → Int64), i + m = n → m < q →
    fT_strainFromEnd_f_L7 fu (nI n) xs ys ln sl rough mu (ec e) q (nI i) (drO rough mu mxs mys k n e F (i - 1)) arr = some (fun j => if j < n ∧ i ≤ ps e n j then mx (arr j) (drO rough mu mxs mys k n e F (ps e n j)) else arr j) := by
  intro m
  induction m with
  | zero =>
    intro i q arr hi hq
    obtain ⟨q, rfl⟩ : ∃ z, q = z + 1 := ⟨q - 1, by omega⟩
    rw [fT_strainFromEnd_f_L7_s, if_pos (nI_le (by omega) (by omega))]
    congr 1
    funext j
    rw [if_neg (fun z => by have := ps_lt (e := e) z.1; omega)]
  | succ m ih =>
    intro i q arr hi hq
    obtain ⟨q, rfl⟩ : ∃ z, q = z + 1 := ⟨q - 1, by omega⟩
    have hin : i < n := by omega
    have hpl := ps_lt (e := e) hin
    have hstep : (if nI i ≤ (0 : Int32) then some (drO rough mu mxs mys k n e F (i - 1)) else ((fD_lengthBefore fu (nI n) xs ys ln sl (ec e) (nI i)).bind fun r_49 => ((fF_alongPiece fu rough mu (drO rough mu mxs mys k n e F (i - 1)) r_49).bind fun r_52 => ((fD_turnAt fu (nI n) xs ys ln sl (nI (ps e n i))).bind fun r_71 => ((fF_atTurn fu rough mu (drO rough mu mxs mys k n e F (i - 1) - r_52) r_71).bind fun r_74 => some (if ((drO rough mu mxs mys k n e F (i - 1) - r_52) - r_74) < (0 : Int64) then (0 : Int64) else ((drO rough mu mxs mys k n e F (i - 1) - r_52) - r_74))))))) = some (drO rough mu mxs mys k n e F i) := by
      by_cases c0 : i = 0
      · subst c0
        rw [if_pos (by decide)]
      · have hne : ¬ nI i ≤ (0 : Int32) := fun z => by have := (nI_leI (a := i) (b := 0) (by omega) (by omega)).mp z; omega
        have hpx := pcx_lt (e := e) (i := i) (by omega) hin
        have hd := drO_in (e := e) hr hm hg hF (i - 1) (by omega)
        have hs := (stp_in hr hm (lnO_in mxs mys (10 * k + pcx e n i)) (trO_in hg hpl) (f := drO rough mu mxs mys k n e F (i - 1)) ⟨hd.1, by omega⟩).2
        rw [if_neg hne, lb_D hn (by omega) hin, Option.bind_some]
        unfold fF_alongPiece fF_atTurn
        rw [Option.bind_some, turn_D (k := k) (mxs := mxs) (mys := mys) hn hpl hsl, Option.bind_some, Option.bind_some, hln _ hpx, show (lnO mxs mys (10 * k + pcx e n i)).toInt32.toInt64 = lnO mxs mys (10 * k + pcx e n i) from rt_back _, hs]
        obtain ⟨i', rfl⟩ : ∃ z, i = z + 1 := ⟨i - 1, by omega⟩
        rfl
    rw [fT_strainFromEnd_f_L7_s, if_neg (nI_ge (by omega) (by omega)), pow_D hn hin, Option.bind_some, hstep, Option.bind_some, if_pos (z_ok (by omega) (by omega)), if_pos (z_ok (by omega) (by omega)), z_cl (by omega), nI_1]
    have h2 := ih (i + 1) q (vp_updL arr (ps e n i) (if drO rough mu mxs mys k n e F i < arr (ps e n i) then arr (ps e n i) else drO rough mu mxs mys k n e F i)) (by omega) (by omega)
    rw [Nat.add_sub_cancel] at h2
    rw [h2]
    congr 1
    funext j
    by_cases ej : j = ps e n i
    · subst ej
      rw [ps_ps hin, if_neg (show ¬ (ps e n i < n ∧ i + 1 ≤ i) by omega), if_pos (show ps e n i < n ∧ i ≤ i from ⟨hpl, Nat.le_refl _⟩), updL_at]
      rfl
    · rw [updL_ne ej]
      by_cases c : j < n ∧ i ≤ ps e n j
      · have : ps e n j ≠ i := fun z => ej (by rw [← z]; exact (ps_ps c.1).symm)
        rw [if_pos (by omega), if_pos c]
      · rw [if_neg (by omega), if_neg c]
theorem str7_t (hn : n ≤ 10) (hr : 0 ≤ rough.toInt ∧ rough.toInt ≤ 1000) (hm : 0 ≤ mu.toInt ∧ mu.toInt ≤ 500) (hg : GeO mxs mys k n) (hF : 0 ≤ F.toInt ∧ F.toInt ≤ 10000000) (hln : ∀ i, i + 1 < n → ln i = (lnO mxs mys (10 * k + i)).toInt32) (hsl : ∀ i, i + 1 < n → sl i = slO mxs mys (10 * k + i)) : ∀ m i q (arr : Nat → Int64), i + m = n → m < q →
    fT_strainFromEnd_t_L7 fu (nI n) xs ys ln sl rough mu (ec e) q (nI i) (drO rough mu mxs mys k n e F (i - 1)) arr = some (fun j => if j < n ∧ i ≤ ps e n j then mx (arr j) (drO rough mu mxs mys k n e F (ps e n j)) else arr j) := by
  intro m
  induction m with
  | zero =>
    intro i q arr hi hq
    obtain ⟨q, rfl⟩ : ∃ z, q = z + 1 := ⟨q - 1, by omega⟩
    rw [fT_strainFromEnd_t_L7_s, if_pos (nI_le (by omega) (by omega))]
    congr 1
    funext j
    rw [if_neg (fun z => by have := ps_lt (e := e) z.1; omega)]
  | succ m ih =>
    intro i q arr hi hq
    obtain ⟨q, rfl⟩ : ∃ z, q = z + 1 := ⟨q - 1, by omega⟩
    have hin : i < n := by omega
    have hpl := ps_lt (e := e) hin
    have hstep : (if nI i ≤ (0 : Int32) then some (drO rough mu mxs mys k n e F (i - 1)) else ((fD_lengthBefore fu (nI n) xs ys ln sl (ec e) (nI i)).bind fun r_49 => ((fF_alongPiece fu rough mu (drO rough mu mxs mys k n e F (i - 1)) r_49).bind fun r_52 => ((fD_turnAt fu (nI n) xs ys ln sl (nI (ps e n i))).bind fun r_71 => ((fF_atTurn fu rough mu (drO rough mu mxs mys k n e F (i - 1) - r_52) r_71).bind fun r_74 => some (if ((drO rough mu mxs mys k n e F (i - 1) - r_52) - r_74) < (0 : Int64) then (0 : Int64) else ((drO rough mu mxs mys k n e F (i - 1) - r_52) - r_74))))))) = some (drO rough mu mxs mys k n e F i) := by
      by_cases c0 : i = 0
      · subst c0
        rw [if_pos (by decide)]
      · have hne : ¬ nI i ≤ (0 : Int32) := fun z => by have := (nI_leI (a := i) (b := 0) (by omega) (by omega)).mp z; omega
        have hpx := pcx_lt (e := e) (i := i) (by omega) hin
        have hd := drO_in (e := e) hr hm hg hF (i - 1) (by omega)
        have hs := (stp_in hr hm (lnO_in mxs mys (10 * k + pcx e n i)) (trO_in hg hpl) (f := drO rough mu mxs mys k n e F (i - 1)) ⟨hd.1, by omega⟩).2
        rw [if_neg hne, lb_D hn (by omega) hin, Option.bind_some]
        unfold fF_alongPiece fF_atTurn
        rw [Option.bind_some, turn_D (k := k) (mxs := mxs) (mys := mys) hn hpl hsl, Option.bind_some, Option.bind_some, hln _ hpx, show (lnO mxs mys (10 * k + pcx e n i)).toInt32.toInt64 = lnO mxs mys (10 * k + pcx e n i) from rt_back _, hs]
        obtain ⟨i', rfl⟩ : ∃ z, i = z + 1 := ⟨i - 1, by omega⟩
        rfl
    rw [fT_strainFromEnd_t_L7_s, if_neg (nI_ge (by omega) (by omega)), pow_D hn hin, Option.bind_some, hstep, Option.bind_some, if_pos (z_ok (by omega) (by omega)), if_pos (z_ok (by omega) (by omega)), z_cl (by omega), nI_1]
    have h2 := ih (i + 1) q (vp_updL arr (ps e n i) (if drO rough mu mxs mys k n e F i < arr (ps e n i) then arr (ps e n i) else drO rough mu mxs mys k n e F i)) (by omega) (by omega)
    rw [Nat.add_sub_cancel] at h2
    rw [h2]
    congr 1
    funext j
    by_cases ej : j = ps e n i
    · subst ej
      rw [ps_ps hin, if_neg (show ¬ (ps e n i < n ∧ i + 1 ≤ i) by omega), if_pos (show ps e n i < n ∧ i ≤ i from ⟨hpl, Nat.le_refl _⟩), updL_at]
      rfl
    · rw [updL_ne ej]
      by_cases c : j < n ∧ i ≤ ps e n j
      · have : ps e n j ≠ i := fun z => ej (by rw [← z]; exact (ps_ps c.1).symm)
        rw [if_pos (by omega), if_pos c]
      · rw [if_neg (by omega), if_neg c]
/-- the forces before slipping -/
def frO (rough mu : Int32) (mxs mys : Nat → Int32) (k n : Nat) (from_ : Int32) (F : Int64) (j : Nat) : Int64 :=
  if from_ = 1 then drO rough mu mxs mys k n false F (ps false n j) else if from_ = 2 then drO rough mu mxs mys k n true F (ps true n j) else mx (drO rough mu mxs mys k n false F (ps false n j)) (drO rough mu mxs mys k n true F (ps true n j))
theorem frO_in {from_ : Int32} (hr : 0 ≤ rough.toInt ∧ rough.toInt ≤ 1000) (hm : 0 ≤ mu.toInt ∧ mu.toInt ≤ 500) (hg : GeO mxs mys k n) (hF : 0 ≤ F.toInt ∧ F.toInt ≤ 10000000) {j : Nat} (hj : j < n) : 0 ≤ (frO rough mu mxs mys k n from_ F j).toInt ∧ (frO rough mu mxs mys k n from_ F j).toInt ≤ F.toInt := by
  have h1 := drO_in (e := false) hr hm hg hF _ (ps_lt (e := false) hj)
  have h2 := drO_in (e := true) hr hm hg hF _ (ps_lt (e := true) hj)
  unfold frO mx
  by_cases c1 : from_ = 1
  · rw [if_pos c1]; exact h1
  · rw [if_neg c1]
    by_cases c2 : from_ = 2
    · rw [if_pos c2]; exact h2
    · rw [if_neg c2]
      by_cases c3 : drO rough mu mxs mys k n true F (ps true n j) < drO rough mu mxs mys k n false F (ps false n j)
      · rw [if_pos c3]; exact h1
      · rw [if_neg c3]; exact h2
theorem mx_0 {d : Int64} (h : 0 ≤ d.toInt) : mx 0 d = d := by
  unfold mx
  rw [if_neg (by rw [Int64.lt_iff_toInt_lt, show (0 : Int64).toInt = 0 from rfl]; omega)]
theorem strain_f {area state pf pw p2 p3 : Int32} {fo tr : Nat → Int64} (hf : 2000 ≤ fu) (hn : n ≤ 10) (hr : 0 ≤ rough.toInt ∧ rough.toInt ≤ 1000) (hm : 0 ≤ mu.toInt ∧ mu.toInt ≤ 500) (hg : GeO mxs mys k n) (hF : 0 ≤ p3.toInt ∧ p3.toInt ≤ 10000000) (hln : ∀ i, i + 1 < n → ln i = (lnO mxs mys (10 * k + i)).toInt32) (hsl : ∀ i, i + 1 < n → sl i = slO mxs mys (10 * k + i)) (h2 : p2 = 1 ∨ p2 = 2 ∨ p2 = 3) :
    fT_strain_f fu area state pf pw (nI n) xs ys ln sl fo tr rough mu p2 p3 = some (fun j => if j < n then frO rough mu mxs mys k n p2 p3.toInt64 j else fo j) := by
  have hF' : 0 ≤ (p3.toInt64).toInt ∧ (p3.toInt64).toInt ≤ 10000000 := by rw [Int32.toInt_toInt64]; exact hF
  have hone : ∀ (e : Bool) (z : Nat → Int64), fT_strainFromEnd_f fu area state pf pw (nI n) xs ys ln sl z tr rough mu (ec e) p3 = some (fun j => if j < n then mx (z j) (drO rough mu mxs mys k n e p3.toInt64 (ps e n j)) else z j) := fun e z => by
    have h9 := str7_f (fu := fu) (xs := xs) (ys := ys) (e := e) hn hr hm hg hF' hln hsl n 0 fu z (by omega) (by omega)
    unfold fT_strainFromEnd_f
    refine h9.trans ?_
    congr 1
    funext j
    by_cases c : j < n
    · rw [if_pos ⟨c, Nat.zero_le _⟩, if_pos c]
    · rw [if_neg (fun z => c z.1), if_neg c]
  have hone1 : ∀ (z : Nat → Int64), fT_strainFromEnd_f fu area state pf pw (nI n) xs ys ln sl z tr rough mu (1 : Int32) p3 = some (fun j => if j < n then mx (z j) (drO rough mu mxs mys k n false p3.toInt64 (ps false n j)) else z j) := hone false
  have hone2 : ∀ (z : Nat → Int64), fT_strainFromEnd_f fu area state pf pw (nI n) xs ys ln sl z tr rough mu (2 : Int32) p3 = some (fun j => if j < n then mx (z j) (drO rough mu mxs mys k n true p3.toInt64 (ps true n j)) else z j) := hone true
  have hz : ∀ q (arr : Nat → Int64), n < q → fT_strain_f_L3 fu area state pf pw (nI n) xs ys ln sl tr rough mu p2 p3 q (nI 0) arr = some (fun j => if j < n then frO rough mu mxs mys k n p2 p3.toInt64 j else arr j) := by
    have hend : ∀ (z : Nat → Int64), (∀ j, j < n → z j = 0) → (((if (p2 &&& (1 : Int32)) = (0 : Int32) then some z else ((fT_strainFromEnd_f fu area state pf pw (nI n) xs ys ln sl z tr rough mu (1 : Int32) p3).bind fun r_38 => some r_38))).bind fun j_29 => (if (p2 &&& (2 : Int32)) = (0 : Int32) then some j_29 else ((fT_strainFromEnd_f fu area state pf pw (nI n) xs ys ln sl j_29 tr rough mu (2 : Int32) p3).bind fun r_53 => some r_53))) = some (fun j => if j < n then frO rough mu mxs mys k n p2 p3.toInt64 j else z j) := by
      intro z hz0
      rcases h2 with rfl | rfl | rfl
      · rw [if_neg (by decide), hone1 z, Option.bind_some, Option.bind_some, if_pos (by decide)]
        congr 1
        funext j
        by_cases c : j < n
        · rw [if_pos c, if_pos c, hz0 j c, mx_0 (drO_in hr hm hg hF' _ (ps_lt c)).1]
          unfold frO
          rw [if_pos rfl]
        · rw [if_neg c, if_neg c]
      · rw [if_pos (by decide), Option.bind_some, if_neg (by decide), hone2 z, Option.bind_some]
        congr 1
        funext j
        by_cases c : j < n
        · rw [if_pos c, if_pos c, hz0 j c, mx_0 (drO_in hr hm hg hF' _ (ps_lt c)).1]
          unfold frO
          rw [if_neg (by decide), if_pos rfl]
        · rw [if_neg c, if_neg c]
      · rw [if_neg (by decide), hone1 z, Option.bind_some, Option.bind_some, if_neg (by decide)]
        have h8 := hone2 (fun j => if j < n then mx (z j) (drO rough mu mxs mys k n false p3.toInt64 (ps false n j)) else z j)
        rw [h8, Option.bind_some]
        congr 1
        funext j
        by_cases c : j < n
        · rw [if_pos c, if_pos c, if_pos c, hz0 j c, mx_0 (drO_in hr hm hg hF' _ (ps_lt c)).1]
          unfold frO
          rw [if_neg (by decide), if_neg (by decide)]
        · rw [if_neg c, if_neg c, if_neg c]
    have hgo : ∀ m p q (arr : Nat → Int64), p + m = n → m < q → fT_strain_f_L3 fu area state pf pw (nI n) xs ys ln sl tr rough mu p2 p3 q (nI p) arr = fT_strain_f_L3 fu area state pf pw (nI n) xs ys ln sl tr rough mu p2 p3 (q - m) (nI n) (fun j => if p ≤ j ∧ j < n then 0 else arr j) := by
      intro m
      induction m with
      | zero =>
        intro p q arr hp hq
        have e : (fun j => if p ≤ j ∧ j < n then 0 else arr j) = arr := by
          funext j
          rw [if_neg (by omega)]
        rw [e, show p = n by omega]
        rfl
      | succ m ih =>
        intro p q arr hp hq
        obtain ⟨q, rfl⟩ : ∃ z, q = z + 1 := ⟨q - 1, by omega⟩
        rw [fT_strain_f_L3_s, if_neg (nI_ge (by omega) (by omega)), if_pos (z_ok (by omega) (by omega)), z_cl (by omega), nI_1, ih (p + 1) q _ (by omega) (by omega), show q + 1 - (m + 1) = q - m by omega]
        congr 1
        funext j
        by_cases ej : j = p
        · rw [if_neg (by omega), if_pos (by omega), ej, updL_at]
        · rw [updL_ne ej]
          by_cases c : p ≤ j ∧ j < n
          · rw [if_pos (by omega), if_pos c]
          · rw [if_neg (by omega), if_neg c]
    intro q arr hq
    rw [hgo n 0 q arr (by omega) hq]
    obtain ⟨q', hq'⟩ : ∃ z, q - n = z + 1 := ⟨q - n - 1, by omega⟩
    rw [hq', fT_strain_f_L3_s, if_pos (nI_le (Nat.le_refl _) (by omega)), hend _ (fun j hj => by rw [if_pos (by omega)])]
    congr 1
    funext j
    by_cases c : j < n
    · rw [if_pos c, if_pos c]
    · rw [if_neg c, if_neg c, if_neg (by omega)]
  exact hz fu fo (by omega)
theorem strain_t {area state pf pw p2 p3 : Int32} {fo tr : Nat → Int64} (hf : 2000 ≤ fu) (hn : n ≤ 10) (hr : 0 ≤ rough.toInt ∧ rough.toInt ≤ 1000) (hm : 0 ≤ mu.toInt ∧ mu.toInt ≤ 500) (hg : GeO mxs mys k n) (hF : 0 ≤ p3.toInt ∧ p3.toInt ≤ 10000000) (hln : ∀ i, i + 1 < n → ln i = (lnO mxs mys (10 * k + i)).toInt32) (hsl : ∀ i, i + 1 < n → sl i = slO mxs mys (10 * k + i)) (h2 : p2 = 1 ∨ p2 = 2 ∨ p2 = 3) :
    fT_strain_t fu area state pf pw (nI n) xs ys ln sl fo tr rough mu p2 p3 = some (fun j => if j < n then frO rough mu mxs mys k n p2 p3.toInt64 j else tr j) := by
  have hF' : 0 ≤ (p3.toInt64).toInt ∧ (p3.toInt64).toInt ≤ 10000000 := by rw [Int32.toInt_toInt64]; exact hF
  have hone : ∀ (e : Bool) (z : Nat → Int64), fT_strainFromEnd_t fu area state pf pw (nI n) xs ys ln sl fo z rough mu (ec e) p3 = some (fun j => if j < n then mx (z j) (drO rough mu mxs mys k n e p3.toInt64 (ps e n j)) else z j) := fun e z => by
    have h9 := str7_t (fu := fu) (xs := xs) (ys := ys) (e := e) hn hr hm hg hF' hln hsl n 0 fu z (by omega) (by omega)
    unfold fT_strainFromEnd_t
    refine h9.trans ?_
    congr 1
    funext j
    by_cases c : j < n
    · rw [if_pos ⟨c, Nat.zero_le _⟩, if_pos c]
    · rw [if_neg (fun z => c z.1), if_neg c]
  have hone1 : ∀ (z : Nat → Int64), fT_strainFromEnd_t fu area state pf pw (nI n) xs ys ln sl fo z rough mu (1 : Int32) p3 = some (fun j => if j < n then mx (z j) (drO rough mu mxs mys k n false p3.toInt64 (ps false n j)) else z j) := hone false
  have hone2 : ∀ (z : Nat → Int64), fT_strainFromEnd_t fu area state pf pw (nI n) xs ys ln sl fo z rough mu (2 : Int32) p3 = some (fun j => if j < n then mx (z j) (drO rough mu mxs mys k n true p3.toInt64 (ps true n j)) else z j) := hone true
  have hz : ∀ q (arr : Nat → Int64), n < q → fT_strain_t_L3 fu area state pf pw (nI n) xs ys ln sl fo rough mu p2 p3 q (nI 0) arr = some (fun j => if j < n then frO rough mu mxs mys k n p2 p3.toInt64 j else arr j) := by
    have hend : ∀ (z : Nat → Int64), (∀ j, j < n → z j = 0) → (((if (p2 &&& (1 : Int32)) = (0 : Int32) then some z else ((fT_strainFromEnd_t fu area state pf pw (nI n) xs ys ln sl fo z rough mu (1 : Int32) p3).bind fun r_38 => some r_38))).bind fun j_29 => (if (p2 &&& (2 : Int32)) = (0 : Int32) then some j_29 else ((fT_strainFromEnd_t fu area state pf pw (nI n) xs ys ln sl fo j_29 rough mu (2 : Int32) p3).bind fun r_53 => some r_53))) = some (fun j => if j < n then frO rough mu mxs mys k n p2 p3.toInt64 j else z j) := by
      intro z hz0
      rcases h2 with rfl | rfl | rfl
      · rw [if_neg (by decide), hone1 z, Option.bind_some, Option.bind_some, if_pos (by decide)]
        congr 1
        funext j
        by_cases c : j < n
        · rw [if_pos c, if_pos c, hz0 j c, mx_0 (drO_in hr hm hg hF' _ (ps_lt c)).1]
          unfold frO
          rw [if_pos rfl]
        · rw [if_neg c, if_neg c]
      · rw [if_pos (by decide), Option.bind_some, if_neg (by decide), hone2 z, Option.bind_some]
        congr 1
        funext j
        by_cases c : j < n
        · rw [if_pos c, if_pos c, hz0 j c, mx_0 (drO_in hr hm hg hF' _ (ps_lt c)).1]
          unfold frO
          rw [if_neg (by decide), if_pos rfl]
        · rw [if_neg c, if_neg c]
      · rw [if_neg (by decide), hone1 z, Option.bind_some, Option.bind_some, if_neg (by decide)]
        have h8 := hone2 (fun j => if j < n then mx (z j) (drO rough mu mxs mys k n false p3.toInt64 (ps false n j)) else z j)
        rw [h8, Option.bind_some]
        congr 1
        funext j
        by_cases c : j < n
        · rw [if_pos c, if_pos c, if_pos c, hz0 j c, mx_0 (drO_in hr hm hg hF' _ (ps_lt c)).1]
          unfold frO
          rw [if_neg (by decide), if_neg (by decide)]
        · rw [if_neg c, if_neg c, if_neg c]
    have hgo : ∀ m p q (arr : Nat → Int64), p + m = n → m < q → fT_strain_t_L3 fu area state pf pw (nI n) xs ys ln sl fo rough mu p2 p3 q (nI p) arr = fT_strain_t_L3 fu area state pf pw (nI n) xs ys ln sl fo rough mu p2 p3 (q - m) (nI n) (fun j => if p ≤ j ∧ j < n then 0 else arr j) := by
      intro m
      induction m with
      | zero =>
        intro p q arr hp hq
        have e : (fun j => if p ≤ j ∧ j < n then 0 else arr j) = arr := by
          funext j
          rw [if_neg (by omega)]
        rw [e, show p = n by omega]
        rfl
      | succ m ih =>
        intro p q arr hp hq
        obtain ⟨q, rfl⟩ : ∃ z, q = z + 1 := ⟨q - 1, by omega⟩
        rw [fT_strain_t_L3_s, if_neg (nI_ge (by omega) (by omega)), if_pos (z_ok (by omega) (by omega)), z_cl (by omega), nI_1, ih (p + 1) q _ (by omega) (by omega), show q + 1 - (m + 1) = q - m by omega]
        congr 1
        funext j
        by_cases ej : j = p
        · rw [if_neg (by omega), if_pos (by omega), ej, updL_at]
        · rw [updL_ne ej]
          by_cases c : p ≤ j ∧ j < n
          · rw [if_pos (by omega), if_pos c]
          · rw [if_neg (by omega), if_neg c]
    intro q arr hq
    rw [hgo n 0 q arr (by omega) hq]
    obtain ⟨q', hq'⟩ : ∃ z, q - n = z + 1 := ⟨q - n - 1, by omega⟩
    rw [hq', fT_strain_t_L3_s, if_pos (nI_le (Nat.le_refl _) (by omega)), hend _ (fun j hj => by rw [if_pos (by omega)])]
    congr 1
    funext j
    by_cases c : j < n
    · rw [if_pos c, if_pos c]
    · rw [if_neg c, if_neg c, if_neg (by omega)]
  exact hz fu tr (by omega)
end DW
section DM2
variable {fu n k : Nat} {thr ten loc rou mum sli sha fad day : Int32} {mar msi mst men mpu mxs mys : Nat → Int32} {mfo : Nat → Int64} {mor : Nat → Int32} {mo1 mo2 : Nat → Int64} {e : Bool} {F : Int64}
theorem eb_pos {i : Nat} (hn : n ≤ 10) (hi : i < n) : (if eb e = (0 : Int32) then some (nI i) else some ((nI n - (1 : Int32)) - nI i)) = some (nI (ps e n i)) := by
  cases e
  · exact if_pos rfl
  · exact (if_neg (by decide)).trans (by rw [nI_sub3 hi hn]; rfl)
theorem eb_pc {i : Nat} (hn : n ≤ 10) (h1 : 1 ≤ i) (hi : i < n) : (if eb e = (0 : Int32) then some (nI (ps e n i) - (1 : Int32)) else some (nI (ps e n i))) = some (nI (pcx e n i)) := by
  cases e
  · exact (if_pos rfl).trans (congrArg some (pk_sub (a := i) (b := 1) h1))
  · exact if_neg (by decide)
theorem draw_1_L (hf : 2000 ≤ fu) (hk : k < 6) (hn : n ≤ 10) (hs : msi k = nI n) (hg : GeO mxs mys k n) : ∀ m i q (arr : Nat → Int64), i + m = n → m < q →
    fM_draw_1_L14 fu thr ten loc rou mum sli sha fad day mar msi mst men mpu mxs mys mfo mor mo2 (nI k) (eb e) q (nI i) (drO rou mum mxs mys k n e F (i - 1)) arr = some (fun j => if j < n ∧ i ≤ ps e n j then drO rou mum mxs mys k n e F (ps e n j) else arr j) := by
  intro m
  induction m with
  | zero =>
    intro i q arr hi hq
    obtain ⟨q, rfl⟩ : ∃ z, q = z + 1 := ⟨q - 1, by omega⟩
    rw [fM_draw_1_L14_s, z_cl (by omega), hs, if_pos (nI_le (by omega) (by omega))]
    congr 1
    funext j
    rw [if_neg (fun z => by have := ps_lt (e := e) z.1; omega)]
  | succ m ih =>
    intro i q arr hi hq
    obtain ⟨q, rfl⟩ : ∃ z, q = z + 1 := ⟨q - 1, by omega⟩
    have hin : i < n := by omega
    have hpl := ps_lt (e := e) hin
    have h2 := ih (i + 1) q (vp_updL arr (ps e n i) (drO rou mum mxs mys k n e F i)) (by omega) (by omega)
    rw [Nat.add_sub_cancel] at h2
    have hfun : (fun j => if j < n ∧ i + 1 ≤ ps e n j then drO rou mum mxs mys k n e F (ps e n j) else vp_updL arr (ps e n i) (drO rou mum mxs mys k n e F i) j) = (fun j => if j < n ∧ i ≤ ps e n j then drO rou mum mxs mys k n e F (ps e n j) else arr j) := by
      funext j
      by_cases ej : j = ps e n i
      · subst ej
        rw [ps_ps hin, if_neg (show ¬ (ps e n i < n ∧ i + 1 ≤ i) by omega), if_pos (show ps e n i < n ∧ i ≤ i from ⟨hpl, Nat.le_refl _⟩), updL_at]
      · rw [updL_ne ej]
        by_cases c : j < n ∧ i ≤ ps e n j
        · have : ps e n j ≠ i := fun z => ej (by rw [← z]; exact (ps_ps c.1).symm)
          rw [if_pos (by omega), if_pos c]
        · rw [if_neg (by omega), if_neg c]
    rw [hfun] at h2
    rw [fM_draw_1_L14_s, z_cl (k := k) (by omega), hs, if_neg (nI_ge (by omega) (by omega)), eb_pos hn hin, Option.bind_some]
    by_cases c0 : i = 0
    · subst c0
      rw [if_pos (show nI 0 ≤ (0 : Int32) by decide), Option.bind_some, if_pos (z_ok (by omega) (by omega)), z_cl (by omega), nI_1]
      exact h2
    · have hne : ¬ nI i ≤ (0 : Int32) := fun z => by have := (nI_leI (a := i) (b := 0) (by omega) (by omega)).mp z; omega
      have hpx := pcx_lt (e := e) (i := i) (by omega) hin
      rw [if_neg hne, eb_pc hn (by omega) hin, Option.bind_some, len_M (by omega) hk (by omega), Option.bind_some]
      unfold fM_byRough fM_byTurn
      rw [Option.bind_some, turn_M hk hn hpl hs hg.2, Option.bind_some, Option.bind_some]
      have hst : ((if (drO rou mum mxs mys k n e F (i - 1) - drO rou mum mxs mys k n e F (i - 1) * rou.toInt64 * lnO mxs mys (10 * k + pcx e n i) / (1000000000 : Int64)) * mum.toInt64 * (trO mxs mys k n (ps e n i)).toInt64 / (1000000 : Int64) ≤ drO rou mum mxs mys k n e F (i - 1) - drO rou mum mxs mys k n e F (i - 1) * rou.toInt64 * lnO mxs mys (10 * k + pcx e n i) / (1000000000 : Int64) then some (drO rou mum mxs mys k n e F (i - 1) - drO rou mum mxs mys k n e F (i - 1) * rou.toInt64 * lnO mxs mys (10 * k + pcx e n i) / (1000000000 : Int64) - (drO rou mum mxs mys k n e F (i - 1) - drO rou mum mxs mys k n e F (i - 1) * rou.toInt64 * lnO mxs mys (10 * k + pcx e n i) / (1000000000 : Int64)) * mum.toInt64 * (trO mxs mys k n (ps e n i)).toInt64 / (1000000 : Int64)) else some (0 : Int64)).bind fun j_92 => some j_92) = some (drO rou mum mxs mys k n e F i) := by
        obtain ⟨i', rfl⟩ : ∃ z, i = z + 1 := ⟨i - 1, by omega⟩
        show _ = some (stp rou mum (drO rou mum mxs mys k n e F i') (lnO mxs mys (10 * k + pcx e n (i' + 1))) (trO mxs mys k n (ps e n (i' + 1))))
        unfold stp
        rw [Nat.add_sub_cancel]
        by_cases q9 : (drO rou mum mxs mys k n e F i' - drO rou mum mxs mys k n e F i' * rou.toInt64 * lnO mxs mys (10 * k + pcx e n (i' + 1)) / (1000000000 : Int64)) * mum.toInt64 * (trO mxs mys k n (ps e n (i' + 1))).toInt64 / (1000000 : Int64) ≤ drO rou mum mxs mys k n e F i' - drO rou mum mxs mys k n e F i' * rou.toInt64 * lnO mxs mys (10 * k + pcx e n (i' + 1)) / (1000000000 : Int64)
        · rw [if_pos q9, if_pos q9, Option.bind_some]
        · rw [if_neg q9, if_neg q9, Option.bind_some]
      rw [hst, Option.bind_some, if_pos (z_ok (by omega) (by omega)), z_cl (by omega), nI_1]
      exact h2
theorem draw_1 (hf : 2000 ≤ fu) (hk : k < 6) (hn : n ≤ 10) (hs : msi k = nI n) (hg : GeO mxs mys k n) : fM_draw_1 fu thr ten loc rou mum sli sha fad day mar msi mst men mpu mxs mys mfo mor mo1 mo2 (nI k) (eb e) F = some (fun j => if j < n then drO rou mum mxs mys k n e F (ps e n j) else mo1 j) := by
  have h9 := draw_1_L (thr := thr) (ten := ten) (loc := loc) (rou := rou) (mum := mum) (sli := sli) (sha := sha) (fad := fad) (day := day) (mar := mar) (mst := mst) (men := men) (mpu := mpu) (mfo := mfo) (mor := mor) (mo2 := mo2) (e := e) (F := F) hf hk hn hs hg n 0 fu mo1 (by omega) (by omega)
  unfold fM_draw_1
  rw [if_pos (z_ok (by omega) (by omega))]
  refine h9.trans ?_
  congr 1
  funext j
  by_cases c : j < n
  · rw [if_pos ⟨c, Nat.zero_le _⟩, if_pos c]
  · rw [if_neg (fun z => c z.1), if_neg c]
theorem draw_2_L (hf : 2000 ≤ fu) (hk : k < 6) (hn : n ≤ 10) (hs : msi k = nI n) (hg : GeO mxs mys k n) : ∀ m i q (arr : Nat → Int64), i + m = n → m < q →
    fM_draw_2_L14 fu thr ten loc rou mum sli sha fad day mar msi mst men mpu mxs mys mfo mor mo1 (nI k) (eb e) q (nI i) (drO rou mum mxs mys k n e F (i - 1)) arr = some (fun j => if j < n ∧ i ≤ ps e n j then drO rou mum mxs mys k n e F (ps e n j) else arr j) := by
  intro m
  induction m with
  | zero =>
    intro i q arr hi hq
    obtain ⟨q, rfl⟩ : ∃ z, q = z + 1 := ⟨q - 1, by omega⟩
    rw [fM_draw_2_L14_s, z_cl (by omega), hs, if_pos (nI_le (by omega) (by omega))]
    congr 1
    funext j
    rw [if_neg (fun z => by have := ps_lt (e := e) z.1; omega)]
  | succ m ih =>
    intro i q arr hi hq
    obtain ⟨q, rfl⟩ : ∃ z, q = z + 1 := ⟨q - 1, by omega⟩
    have hin : i < n := by omega
    have hpl := ps_lt (e := e) hin
    have h2 := ih (i + 1) q (vp_updL arr (ps e n i) (drO rou mum mxs mys k n e F i)) (by omega) (by omega)
    rw [Nat.add_sub_cancel] at h2
    have hfun : (fun j => if j < n ∧ i + 1 ≤ ps e n j then drO rou mum mxs mys k n e F (ps e n j) else vp_updL arr (ps e n i) (drO rou mum mxs mys k n e F i) j) = (fun j => if j < n ∧ i ≤ ps e n j then drO rou mum mxs mys k n e F (ps e n j) else arr j) := by
      funext j
      by_cases ej : j = ps e n i
      · subst ej
        rw [ps_ps hin, if_neg (show ¬ (ps e n i < n ∧ i + 1 ≤ i) by omega), if_pos (show ps e n i < n ∧ i ≤ i from ⟨hpl, Nat.le_refl _⟩), updL_at]
      · rw [updL_ne ej]
        by_cases c : j < n ∧ i ≤ ps e n j
        · have : ps e n j ≠ i := fun z => ej (by rw [← z]; exact (ps_ps c.1).symm)
          rw [if_pos (by omega), if_pos c]
        · rw [if_neg (by omega), if_neg c]
    rw [hfun] at h2
    rw [fM_draw_2_L14_s, z_cl (k := k) (by omega), hs, if_neg (nI_ge (by omega) (by omega)), eb_pos hn hin, Option.bind_some]
    by_cases c0 : i = 0
    · subst c0
      rw [if_pos (show nI 0 ≤ (0 : Int32) by decide), Option.bind_some, if_pos (z_ok (by omega) (by omega)), z_cl (by omega), nI_1]
      exact h2
    · have hne : ¬ nI i ≤ (0 : Int32) := fun z => by have := (nI_leI (a := i) (b := 0) (by omega) (by omega)).mp z; omega
      have hpx := pcx_lt (e := e) (i := i) (by omega) hin
      rw [if_neg hne, eb_pc hn (by omega) hin, Option.bind_some, len_M (by omega) hk (by omega), Option.bind_some]
      unfold fM_byRough fM_byTurn
      rw [Option.bind_some, turn_M hk hn hpl hs hg.2, Option.bind_some, Option.bind_some]
      have hst : ((if (drO rou mum mxs mys k n e F (i - 1) - drO rou mum mxs mys k n e F (i - 1) * rou.toInt64 * lnO mxs mys (10 * k + pcx e n i) / (1000000000 : Int64)) * mum.toInt64 * (trO mxs mys k n (ps e n i)).toInt64 / (1000000 : Int64) ≤ drO rou mum mxs mys k n e F (i - 1) - drO rou mum mxs mys k n e F (i - 1) * rou.toInt64 * lnO mxs mys (10 * k + pcx e n i) / (1000000000 : Int64) then some (drO rou mum mxs mys k n e F (i - 1) - drO rou mum mxs mys k n e F (i - 1) * rou.toInt64 * lnO mxs mys (10 * k + pcx e n i) / (1000000000 : Int64) - (drO rou mum mxs mys k n e F (i - 1) - drO rou mum mxs mys k n e F (i - 1) * rou.toInt64 * lnO mxs mys (10 * k + pcx e n i) / (1000000000 : Int64)) * mum.toInt64 * (trO mxs mys k n (ps e n i)).toInt64 / (1000000 : Int64)) else some (0 : Int64)).bind fun j_92 => some j_92) = some (drO rou mum mxs mys k n e F i) := by
        obtain ⟨i', rfl⟩ : ∃ z, i = z + 1 := ⟨i - 1, by omega⟩
        show _ = some (stp rou mum (drO rou mum mxs mys k n e F i') (lnO mxs mys (10 * k + pcx e n (i' + 1))) (trO mxs mys k n (ps e n (i' + 1))))
        unfold stp
        rw [Nat.add_sub_cancel]
        by_cases q9 : (drO rou mum mxs mys k n e F i' - drO rou mum mxs mys k n e F i' * rou.toInt64 * lnO mxs mys (10 * k + pcx e n (i' + 1)) / (1000000000 : Int64)) * mum.toInt64 * (trO mxs mys k n (ps e n (i' + 1))).toInt64 / (1000000 : Int64) ≤ drO rou mum mxs mys k n e F i' - drO rou mum mxs mys k n e F i' * rou.toInt64 * lnO mxs mys (10 * k + pcx e n (i' + 1)) / (1000000000 : Int64)
        · rw [if_pos q9, if_pos q9, Option.bind_some]
        · rw [if_neg q9, if_neg q9, Option.bind_some]
      rw [hst, Option.bind_some, if_pos (z_ok (by omega) (by omega)), z_cl (by omega), nI_1]
      exact h2
theorem draw_2 (hf : 2000 ≤ fu) (hk : k < 6) (hn : n ≤ 10) (hs : msi k = nI n) (hg : GeO mxs mys k n) : fM_draw_2 fu thr ten loc rou mum sli sha fad day mar msi mst men mpu mxs mys mfo mor mo1 mo2 (nI k) (eb e) F = some (fun j => if j < n then drO rou mum mxs mys k n e F (ps e n j) else mo2 j) := by
  have h9 := draw_2_L (thr := thr) (ten := ten) (loc := loc) (rou := rou) (mum := mum) (sli := sli) (sha := sha) (fad := fad) (day := day) (mar := mar) (mst := mst) (men := men) (mpu := mpu) (mfo := mfo) (mor := mor) (mo1 := mo1) (e := e) (F := F) hf hk hn hs hg n 0 fu mo2 (by omega) (by omega)
  unfold fM_draw_2
  rw [if_pos (z_ok (by omega) (by omega))]
  refine h9.trans ?_
  congr 1
  funext j
  by_cases c : j < n
  · rw [if_pos ⟨c, Nat.zero_le _⟩, if_pos c]
  · rw [if_neg (fun z => c z.1), if_neg c]
theorem dAll_39 {r : Nat → Int64} (hk : k < 6) (hn : n ≤ 10) (hs : msi k = nI n) : ∀ m i q (arr : Nat → Int64), i + m = n → m < q → fM_drawAll_L39 fu msi (nI k) r q (nI i) arr = some ((fun j => if i ≤ j ∧ j < n then (if arr j ≤ r j then r j else arr j) else arr j), r) := by
  intro m
  induction m with
  | zero =>
    intro i q arr hi hq
    obtain ⟨q, rfl⟩ : ∃ z, q = z + 1 := ⟨q - 1, by omega⟩
    rw [fM_drawAll_L39_s, if_pos (z_ok (by omega) (by omega)), z_cl (by omega), hs, if_pos (nI_le (by omega) (by omega))]
    congr 2
    funext j
    rw [if_neg (by omega)]
  | succ m ih =>
    intro i q arr hi hq
    obtain ⟨q, rfl⟩ : ∃ z, q = z + 1 := ⟨q - 1, by omega⟩
    have hj : (if arr i ≤ r i then (if ¬ (nI i < 0 ∨ 10 ≤ i) then some (r i) else none) else (if ¬ (nI i < 0 ∨ 10 ≤ i) then some (arr i) else none)) = some (if arr i ≤ r i then r i else arr i) := by
      by_cases c : arr i ≤ r i
      · rw [if_pos c, if_pos c, if_pos (z_ok2 (by omega) (by omega))]
      · rw [if_neg c, if_neg c, if_pos (z_ok2 (by omega) (by omega))]
    rw [fM_drawAll_L39_s, if_pos (z_ok (by omega) (by omega)), z_cl (k := k) (by omega), hs, if_neg (nI_ge (by omega) (by omega)), z_cl (k := i) (by omega), if_pos (z_ok2 (by omega) (by omega)), if_pos (z_ok2 (by omega) (by omega)), hj, Option.bind_some, if_pos (z_ok2 (by omega) (by omega)), nI_1, ih (i + 1) q _ (by omega) (by omega)]
    congr 2
    funext j
    by_cases ej : j = i
    · rw [ej, if_neg (show ¬ (i + 1 ≤ i ∧ i < n) by omega), updL_at, if_pos (show i ≤ i ∧ i < n by omega)]
    · rw [updL_ne ej]
      by_cases c : i ≤ j ∧ j < n
      · rw [if_pos (by omega), if_pos c]
      · rw [if_neg (by omega), if_neg c]
theorem dAll {p2 : Int32} (hf : 2000 ≤ fu) (hk : k < 6) (hn : n ≤ 10) (hs : msi k = nI n) (hg : GeO mxs mys k n) (h2 : p2 = 1 ∨ p2 = 2 ∨ p2 = 3) : ∃ o1 o2, fM_drawAll fu thr ten loc rou mum sli sha fad day mar msi mst men mpu mxs mys mfo mor mo1 mo2 (nI k) p2 F = some (o1, o2) ∧ ∀ j, j < n → o1 j = frO rou mum mxs mys k n p2 F j := by
  rcases h2 with rfl | rfl | rfl
  · refine ⟨(fun j => if j < n then drO rou mum mxs mys k n false F (ps false n j) else mo1 j), mo2, ?_, ?_⟩
    · unfold fM_drawAll
      rw [if_neg (by decide), Option.bind_some, show (0 : Int32) = eb false from rfl, draw_1 hf hk hn hs hg, Option.bind_some, if_neg (by decide)]
    · intro j hj
      dsimp only
      unfold frO
      rw [if_pos hj, if_pos rfl]
  · refine ⟨(fun j => if j < n then drO rou mum mxs mys k n true F (ps true n j) else mo1 j), mo2, ?_, ?_⟩
    · unfold fM_drawAll
      rw [if_pos rfl, Option.bind_some, show (1 : Int32) = eb true from rfl, draw_1 hf hk hn hs hg, Option.bind_some, if_neg (by decide)]
    · intro j hj
      dsimp only
      unfold frO
      rw [if_pos hj, if_neg (by decide), if_pos rfl]
  · refine ⟨(fun j => if 0 ≤ j ∧ j < n then (if (fun j => if j < n then drO rou mum mxs mys k n false F (ps false n j) else mo1 j) j ≤ (fun j => if j < n then drO rou mum mxs mys k n true F (ps true n j) else mo2 j) j then (fun j => if j < n then drO rou mum mxs mys k n true F (ps true n j) else mo2 j) j else (fun j => if j < n then drO rou mum mxs mys k n false F (ps false n j) else mo1 j) j) else (fun j => if j < n then drO rou mum mxs mys k n false F (ps false n j) else mo1 j) j), (fun j => if j < n then drO rou mum mxs mys k n true F (ps true n j) else mo2 j), ?_, ?_⟩
    · unfold fM_drawAll
      rw [if_neg (by decide), Option.bind_some, show (0 : Int32) = eb false from rfl, draw_1 hf hk hn hs hg, Option.bind_some, if_pos rfl, show (1 : Int32) = eb true from rfl, draw_2 hf hk hn hs hg, Option.bind_some, show eb false = nI 0 from rfl, dAll_39 hk hn hs n 0 fu _ (by omega) (by omega)]
    · intro j hj
      dsimp only
      unfold frO mx
      rw [if_pos ⟨Nat.zero_le _, hj⟩]
      simp only [if_pos hj]
      rw [if_neg (show ¬ (3 : Int32) = 1 by decide), if_neg (show ¬ (3 : Int32) = 2 by decide)]
      by_cases c : drO rou mum mxs mys k n true F (ps true n j) < drO rou mum mxs mys k n false F (ps false n j)
      · rw [if_pos c, if_neg (by rw [Int64.le_iff_toInt_le]; rw [Int64.lt_iff_toInt_lt] at c; omega)]
      · rw [if_neg c, if_pos (by rw [Int64.le_iff_toInt_le]; rw [Int64.lt_iff_toInt_lt] at c; omega)]
end DM2
