/-! What later ones take from earlier ones. -/
def wkC (loss x : Int64) : Int64 := if x - loss < 0 then 0 else x - loss
def wkM (loss x : Int64) : Int64 := if loss ≤ x then x - loss else 0
theorem wk_same {loss x : Int64} (h1 : 0 ≤ x.toInt) (h2 : x.toInt ≤ 10000000) (h3 : 0 ≤ loss.toInt) (h4 : loss.toInt ≤ 10000000) : wkC loss x = wkM loss x ∧ 0 ≤ (wkM loss x).toInt ∧ (wkM loss x).toInt ≤ 10000000 := by
  have e : (x - loss).toInt = x.toInt - loss.toInt := l_sub (by omega) (by omega)
  unfold wkC wkM
  by_cases c : loss ≤ x
  · have c' := c
    rw [Int64.le_iff_toInt_le] at c'
    rw [if_neg (by rw [Int64.lt_iff_toInt_lt, e, show (0 : Int64).toInt = 0 from rfl]; omega), if_pos c, e]
    exact ⟨rfl, by omega, by omega⟩
  · have c' := c
    rw [Int64.le_iff_toInt_le] at c'
    rw [if_pos (by rw [Int64.lt_iff_toInt_lt, e, show (0 : Int64).toInt = 0 from rfl]; omega), if_neg c]
    exact ⟨rfl, by decide, by decide⟩
theorem lose_2 {fu n : Nat} {loss : Int64} (hn : n ≤ 10) : ∀ m p q (arr : Nat → Int64), p + m = n → m < q → fT_loseEverywhere_L2 fu (nI n) loss q (nI p) arr = some (fun j => if p ≤ j ∧ j < n then wkC loss (arr j) else arr j) := by
  intro m
  induction m with
  | zero =>
    intro p q arr hp hq
    obtain ⟨q, rfl⟩ : ∃ z, q = z + 1 := ⟨q - 1, by omega⟩
    rw [fT_loseEverywhere_L2_s, if_pos (nI_le (by omega) (by omega))]
    congr 1
    funext j
    rw [if_neg (by omega)]
  | succ m ih =>
    intro p q arr hp hq
    obtain ⟨q, rfl⟩ : ∃ z, q = z + 1 := ⟨q - 1, by omega⟩
    rw [fT_loseEverywhere_L2_s, if_neg (nI_ge (by omega) (by omega)), if_pos (z_ok (by omega) (by omega)), if_pos (z_ok (by omega) (by omega)), z_cl (by omega), nI_1, ih (p + 1) q _ (by omega) (by omega)]
    congr 1
    funext j
    by_cases ej : j = p
    · rw [ej, if_neg (show ¬ (p + 1 ≤ p ∧ p < n) by omega), if_pos (show p ≤ p ∧ p < n by omega), updL_at]
      rfl
    · rw [updL_ne ej]
      by_cases c : p ≤ j ∧ j < n
      · rw [if_pos (by omega), if_pos c]
      · rw [if_neg (by omega), if_neg c]
def wkR (loss : Int64) (r : kR) : kR := (r.1, r.2.1, r.2.2.1, r.2.2.2.1, r.2.2.2.2.1, r.2.2.2.2.2.1, r.2.2.2.2.2.2.1, r.2.2.2.2.2.2.2.1, r.2.2.2.2.2.2.2.2.1, (fun j => if 0 ≤ j ∧ j < r.2.2.2.2.1.toNatClampNeg then wkC loss (r.2.2.2.2.2.2.2.2.2.1 j) else r.2.2.2.2.2.2.2.2.2.1 j), r.2.2.2.2.2.2.2.2.2.2)
theorem weak_C {fu N : Nat} {loss : Int64} {lo : Nat → Int32} {K : List Nat} (hN : N ≤ 6) (hf : 2000 ≤ fu) (kl : K.length ≤ 6) (nd : K.Nodup) (hlo : ∀ i k, K[i]? = some k → lo i = nI k ∧ k < N) : ∀ m i (Rs : Nat → kR), i + m = K.length → (∀ k, k < N → ∃ n, n ≤ 10 ∧ (Rs k).2.2.2.2.1 = nI n) → ∀ q, m < q →
    fL_weakenLockedOnes_L2 fu N (nI K.length) lo loss q (nI i) Rs = some (fun k => if k ∈ K.drop i then wkR loss (Rs k) else Rs k) := by
  intro m
  induction m with
  | zero =>
    intro i Rs hi hn q hq
    obtain ⟨q, rfl⟩ : ∃ z, q = z + 1 := ⟨q - 1, by omega⟩
    rw [fL_weakenLockedOnes_L2_s, if_pos (nI_le (by omega) (by omega)), List.drop_of_length_le (by omega)]
    rfl
  | succ m ih =>
    intro i Rs hi hn q hq
    obtain ⟨q, rfl⟩ : ∃ z, q = z + 1 := ⟨q - 1, by omega⟩
    have hiK : i < K.length := by omega
    obtain ⟨e1, e2⟩ := hlo i K[i] (List.getElem?_eq_getElem hiK)
    generalize hke : K[i] = k at e1 e2
    obtain ⟨n, n1, n2⟩ := hn k e2
    have hdr : K.drop i = k :: K.drop (i + 1) := by rw [← hke]; exact List.drop_eq_getElem_cons hiK
    have hni : k ∉ K.drop (i + 1) := by
      have h9 := List.Nodup.sublist (List.drop_sublist i K) nd
      rw [hdr] at h9
      exact (List.nodup_cons.mp h9).1
    rw [fL_weakenLockedOnes_L2_s, if_neg (nI_ge (by omega) (by omega)), if_pos (z_ok (by omega) (by omega)), z_cl (k := i) (by omega), e1, if_pos (z_ok e2 (by omega)), if_pos (z_rg e2 (by omega)), z_cl (k := k) (by omega), n2]
    unfold fT_loseEverywhere
    rw [show (0 : Int32) = nI 0 from rfl, lose_2 n1 n 0 fu _ (by omega) (by omega), Option.bind_some, nI_1, ih (i + 1) _ (by omega) (fun j hj => by
      by_cases e : j = k
      · subst e
        exact ⟨n, n1, by simp [va_up]⟩
      · obtain ⟨n', q1, q2⟩ := hn j hj
        exact ⟨n', q1, by simp [va_up, e]; exact q2⟩) q (by omega)]
    congr 1
    funext j
    by_cases e : j = k
    · subst e
      rw [if_neg hni, if_pos (by rw [hdr]; exact List.mem_cons_self)]
      unfold wkR
      rw [n2, z_cl (by omega)]
      simp [va_up]
    · have e9 : va_up Rs k ((Rs k).1, (Rs k).2.1, (Rs k).2.2.1, (Rs k).2.2.2.1, nI n, (Rs k).2.2.2.2.2.1, (Rs k).2.2.2.2.2.2.1, (Rs k).2.2.2.2.2.2.2.1, (Rs k).2.2.2.2.2.2.2.2.1, (fun j => if 0 ≤ j ∧ j < n then wkC loss ((Rs k).2.2.2.2.2.2.2.2.2.1 j) else (Rs k).2.2.2.2.2.2.2.2.2.1 j), (Rs k).2.2.2.2.2.2.2.2.2.2) j = Rs j := by simp [va_up, e]
      rw [e9]
      by_cases c : j ∈ K.drop (i + 1)
      · rw [if_pos c, if_pos (by rw [hdr]; exact List.mem_cons_of_mem _ c)]
      · rw [if_neg c, if_neg (by rw [hdr]; intro q; rcases List.mem_cons.mp q with q | q; exact e q; exact c q)]
/-- one tendon's rows, changed by w; all of a list's -/
def gK (w : Int64 → Int64) (n : Nat → Nat) (k : Nat) (a : Nat → Int64) : Nat → Int64 := fun x => if 10 * k ≤ x ∧ x < 10 * k + n k then w (a x) else a x
def gL (w : Int64 → Int64) (n : Nat → Nat) : List Nat → (Nat → Int64) → (Nat → Int64)
  | [], a => a
  | k :: l, a => gL w n l (gK w n k a)
theorem gL_at {w : Int64 → Int64} {n : Nat → Nat} (hn : ∀ k, n k ≤ 10) {k i : Nat} (hi : i < 10) : ∀ (l : List Nat) (a : Nat → Int64), l.Nodup → gL w n l a (10 * k + i) = if k ∈ l ∧ i < n k then w (a (10 * k + i)) else a (10 * k + i)
  | [], a, _ => by rw [if_neg (fun q => absurd q.1 List.not_mem_nil)]; rfl
  | j :: l, a, nd => by
    have h1 := gL_at (w := w) hn (k := k) hi l (gK w n j a) (List.nodup_cons.mp nd).2
    show gL w n l (gK w n j a) (10 * k + i) = _
    rw [h1]
    have hj := (List.nodup_cons.mp nd).1
    have hnj := hn j
    by_cases e : k = j
    · subst e
      rw [if_neg (fun q => hj q.1)]
      unfold gK
      by_cases c : i < n k
      · rw [if_pos (by omega), if_pos ⟨List.mem_cons_self, c⟩]
      · rw [if_neg (by omega), if_neg (fun q => c q.2)]
    · have e2 : gK w n j a (10 * k + i) = a (10 * k + i) := by
        unfold gK
        rw [if_neg (by omega)]
      rw [e2]
      by_cases c : k ∈ l ∧ i < n k
      · rw [if_pos c, if_pos ⟨List.mem_cons_of_mem _ c.1, c.2⟩]
      · rw [if_neg c, if_neg (fun q => by
          rcases List.mem_cons.mp q.1 with q1 | q1
          · exact e q1
          · exact c ⟨q1, q.2⟩)]
section LM
variable {fu : Nat} {thr ten loc rou mum sli sha fad day : Int32} {mar msi mst men mpu mxs mys : Nat → Int32} {mor : Nat → Int32} {mo2 : Nat → Int64} {K : List Nat} {n : Nat → Nat} {p1 : Int32} {z3 : Int64}
theorem lock_131 {j k : Nat} {loss : Int64} {kont : Int32 → (Nat → Int64) → Option (Int32 × Int32 × (Nat → Int32) × (Nat → Int64) × (Nat → Int32) × (Nat → Int64))} (hloss : z3 / (msi p1.toNatClampNeg).toInt64 * sha.toInt64 / (1000 : Int64) = loss) (hj : j < 6) (hk : k < 6) (hor : mor j = nI k) (hs : msi k = nI (n k)) (hn : n k ≤ 10) : ∀ m i q (arr : Nat → Int64), i + m = n k → m < q → fM_lock_L131 fu sha msi mor p1 z3 (nI j) kont q (nI i) arr = kont (nI (j + 1)) (fun x => if 10 * k + i ≤ x ∧ x < 10 * k + n k then wkM loss (arr x) else arr x) := by
  intro m
  induction m with
  | zero =>
    intro i q arr hi hq
    obtain ⟨q, rfl⟩ : ∃ z, q = z + 1 := ⟨q - 1, by omega⟩
    rw [fM_lock_L131_s, if_pos (z_ok (by omega) (by omega)), z_cl (k := j) (by omega), hor, if_pos (z_ok (by omega) (by omega)), z_cl (k := k) (by omega), hs, if_pos (nI_le (by omega) (by omega)), nI_1]
    congr 1
    funext x
    rw [if_neg (by omega)]
  | succ m ih =>
    intro i q arr hi hq
    obtain ⟨q, rfl⟩ : ∃ z, q = z + 1 := ⟨q - 1, by omega⟩
    have hw : (if loss ≤ arr (10 * k + i) then (if ¬ (nI (10 * k + i) < 0 ∨ 60 ≤ 10 * k + i) then some (arr (10 * k + i) - loss) else none) else some (0 : Int64)) = some (wkM loss (arr (10 * k + i))) := by
      unfold wkM
      by_cases c : loss ≤ arr (10 * k + i)
      · rw [if_pos c, if_pos c, if_pos (z_ok2 (by omega) (by omega))]
      · rw [if_neg c, if_neg c]
    rw [fM_lock_L131_s, if_pos (z_ok (by omega) (by omega)), z_cl (k := j) (by omega), hor, if_pos (z_ok (by omega) (by omega)), z_cl (k := k) (by omega), hs, if_neg (nI_ge (by omega) (by omega)), if_pos (z_ok2 (by omega) (by omega)), ix10, if_pos (z_ok (by omega) (by omega)), z_cl (k := 10 * k + i) (by omega), hloss, hw, Option.bind_some, if_pos (z_ok2 (by omega) (by omega)), nI_1, ih (i + 1) q _ (by omega) (by omega)]
    congr 1
    funext x
    by_cases ex : x = 10 * k + i
    · rw [ex, if_neg (by omega), if_pos (by omega), updL_at]
    · rw [updL_ne ex]
      by_cases c : 10 * k + i ≤ x ∧ x < 10 * k + n k
      · rw [if_pos (by omega), if_pos c]
      · rw [if_neg (by omega), if_neg c]
theorem lock_119 {r22 : Int32} {j49 : (Nat → Int64) × (Nat → Int64)} {loss : Int64} {k0 n0 : Nat} (hloss : z3 / (msi k0).toInt64 * sha.toInt64 / (1000 : Int64) = loss) (hf : 2000 ≤ fu) (hk0 : k0 < 6) (hn0 : n0 ≤ 10) (hs0 : msi k0 = nI n0) (ha1 : 50 ≤ (mar k0).toInt) (ha2 : (mar k0).toInt ≤ 10000) (kl : K.length < 6) (hor : ∀ j k, K[j]? = some k → mor j = nI k ∧ k < 6 ∧ msi k = nI (n k) ∧ n k ≤ 10) : ∀ m j q (arr : Nat → Int64), j + m = K.length → m < q →
    fM_lock_L119 fu thr ten (nI K.length) rou mum sli sha fad day mar msi mst men mpu mxs mys mor mo2 (nI k0) r22 j49 z3 q (nI j) arr = some (r22 - (sm (fun i => pcO (mar k0) mxs mys k0 i (gL (wkM loss) n (K.drop j) arr (10 * k0 + i) + gL (wkM loss) n (K.drop j) arr (10 * k0 + i + 1))) (n0 - 1)).toInt32, nI (K.length + 1), upd mst k0 2, gL (wkM loss) n (K.drop j) arr, upd mor K.length (nI k0), j49.2) := by
  intro m
  induction m with
  | zero =>
    intro j q arr hj hq
    obtain ⟨q, rfl⟩ : ∃ z, q = z + 1 := ⟨q - 1, by omega⟩
    rw [fM_lock_L119_s, if_pos (nI_le (by omega) (by omega)), if_pos (z_ok (by omega) (by omega)), if_pos (z_ok (by omega) (by omega)), z_cl (k := k0) (by omega), z_cl (k := K.length) (by omega), nI_1, str_M (by omega) hk0 ha1 ha2 hn0 hs0, Option.bind_some, List.drop_of_length_le (by omega)]
    rfl
  | succ m ih =>
    intro j q arr hj hq
    obtain ⟨q, rfl⟩ : ∃ z, q = z + 1 := ⟨q - 1, by omega⟩
    have hjK : j < K.length := by omega
    obtain ⟨e1, e2, e3, e4⟩ := hor j K[j] (List.getElem?_eq_getElem hjK)
    rw [fM_lock_L119_s, if_neg (nI_ge (by omega) (by omega)), show (0 : Int32) = nI 0 from rfl, lock_131 (n := n) (loss := loss) (by rw [z_cl (by omega)]; exact hloss) (by omega) e2 e1 e3 e4 (n K[j]) 0 fu arr (by omega) (by omega)]
    show fM_lock_L119 fu thr ten (nI K.length) rou mum sli sha fad day mar msi mst men mpu mxs mys mor mo2 (nI k0) r22 j49 z3 q (nI (j + 1)) _ = _
    rw [ih (j + 1) q _ (by omega) (by omega), List.drop_eq_getElem_cons hjK]
    rfl
end LM
