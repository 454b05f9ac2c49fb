/-- what a force is behind one day, behind so many -/
def fs1 (fd : Int32) (f : Int64) : Int64 := f - f * fd.toInt64 / (1000000 : Int64)
def fsN (fd : Int32) : Nat → Int64 → Int64
  | 0, f => f
  | d + 1, f => fsN fd d (fs1 fd f)
theorem fs1_in {fd : Int32} {f : Int64} (h1 : 0 ≤ fd.toInt) (h2 : fd.toInt ≤ 1000) (h3 : 0 ≤ f.toInt) (h4 : f.toInt ≤ 10000000) : 0 ≤ (fs1 fd f).toInt ∧ (fs1 fd f).toInt ≤ 10000000 := by
  have hm : f.toInt * fd.toInt ≤ f.toInt * 1000 := Int.mul_le_mul_of_nonneg_left h2 h3
  have hm0 : 0 ≤ f.toInt * fd.toInt := Int.mul_nonneg h3 h1
  have e1 : (f * fd.toInt64).toInt = f.toInt * fd.toInt := by
    rw [l_mul, Int32.toInt_toInt64] <;> rw [Int32.toInt_toInt64] <;> omega
  have e2 : (f * fd.toInt64 / (1000000 : Int64)).toInt = f.toInt * fd.toInt / 1000000 := by
    rw [l_div (by decide), e1, show (1000000 : Int64).toInt = 1000000 from rfl, Int.tdiv_eq_ediv_of_nonneg hm0]
  unfold fs1
  rw [l_sub, e2]
  · omega
  · rw [e2]; omega
  · rw [e2]; omega
theorem fsN_in {fd : Int32} (h1 : 0 ≤ fd.toInt) (h2 : fd.toInt ≤ 1000) : ∀ (d : Nat) {f : Int64}, 0 ≤ f.toInt → f.toInt ≤ 10000000 → 0 ≤ (fsN fd d f).toInt ∧ (fsN fd d f).toInt ≤ 10000000
  | 0, _, h3, h4 => ⟨h3, h4⟩
  | d + 1, _, h3, h4 => fsN_in h1 h2 d (fs1_in h1 h2 h3 h4).1 (fs1_in h1 h2 h3 h4).2
theorem fade_16 {fu D p : Nat} {fd : Int32} {kont : Int32 → (Nat → Int64) → Option (Nat → Int64)} (hp : p < 10) (hD : D ≤ 1000) : ∀ m d q (arr : Nat → Int64), d + m = D → m < q → fT_fadeAway_L16 fu (nI D) fd (nI p) kont q (nI d) arr = kont (nI (p + 1)) (vp_updL arr p (fsN fd m (arr p))) := by
  intro m
  induction m with
  | zero =>
    intro d q arr hd hq
    obtain ⟨q, rfl⟩ : ∃ z, q = z + 1 := ⟨q - 1, by omega⟩
    rw [fT_fadeAway_L16_s, if_pos (nI_le (by omega) (by omega)), nI_1]
    show _ = kont (nI (p + 1)) (vp_updL arr p (arr p))
    rw [updL_self]
  | succ m ih =>
    intro d q arr hd hq
    obtain ⟨q, rfl⟩ : ∃ z, q = z + 1 := ⟨q - 1, by omega⟩
    rw [fT_fadeAway_L16_s, if_neg (nI_ge (by omega) (by omega)), if_pos (z_ok (by omega) (by omega)), if_pos (z_ok (by omega) (by omega)), if_pos (z_ok (by omega) (by omega)), z_cl (by omega), nI_1, ih (d + 1) q _ (by omega) (by omega), updL_twice, updL_at]
    rfl
theorem fade_2 {fu D n : Nat} {fd : Int32} (hn : n ≤ 10) (hD : D ≤ 1000) (hf : 2000 ≤ fu) : ∀ m p q (arr : Nat → Int64), p + m = n → m < q → fT_fadeAway_L2 fu (nI n) (nI D) fd q (nI p) arr = some (fun j => if p ≤ j ∧ j < n then fsN fd D (arr j) else arr j) := by
  intro m
  induction m with
  | zero =>
    intro p q arr hp hq
    obtain ⟨q, rfl⟩ : ∃ z, q = z + 1 := ⟨q - 1, by omega⟩
    rw [fT_fadeAway_L2_s, if_pos (nI_le (by omega) (by omega))]
    congr 1
    funext j
    rw [if_neg (by omega)]
  | succ m ih =>
    intro p q arr hp hq
    obtain ⟨q, rfl⟩ : ∃ z, q = z + 1 := ⟨q - 1, by omega⟩
    rw [fT_fadeAway_L2_s, if_neg (nI_ge (by omega) (by omega)), show (0 : Int32) = nI 0 from rfl, fade_16 (by omega) hD D 0 fu arr (by omega) (by omega)]
    show fT_fadeAway_L2 fu (nI n) (nI D) fd q (nI (p + 1)) (vp_updL arr p (fsN fd D (arr p))) = _
    rw [ih (p + 1) q _ (by omega) (by omega)]
    congr 1
    funext j
    by_cases e : j = p
    · subst e
      rw [if_neg (by omega), if_pos (by omega), updL_at]
    · have e2 : vp_updL arr p (fsN fd D (arr p)) j = arr j := by simp [vp_updL, e]
      rw [e2]
      by_cases c : p ≤ j ∧ j < n
      · rw [if_pos (by omega), if_pos c]
      · rw [if_neg (by omega), if_neg c]
/-- a tendon behind so many days -/
def fdR (fd : Int32) (D : Nat) (r : kR) : kR := (r.1, r.2.1, r.2.2.1, r.2.2.2.1, r.2.2.2.2.1, r.2.2.2.2.2.1, r.2.2.2.2.2.2.1, r.2.2.2.2.2.2.2.1, r.2.2.2.2.2.2.2.2.1, (fun j => if 0 ≤ j ∧ j < r.2.2.2.2.1.toNatClampNeg then fsN fd D (r.2.2.2.2.2.2.2.2.2.1 j) else r.2.2.2.2.2.2.2.2.2.1 j), r.2.2.2.2.2.2.2.2.2.2)
theorem days_C {fu N D : Nat} {dc fd : Int32} {lo : Nat → Int32} {K : List Nat} (hN : N ≤ 6) (hD : D ≤ 1000) (hf : 2000 ≤ fu) (kl : K.length ≤ 6) (nd : K.Nodup) (hlo : ∀ i k, K[i]? = some k → lo i = nI k ∧ k < N) : ∀ m i (Rs : Nat → kR), i + m = K.length → (∀ k, k < N → ∃ n, n ≤ 10 ∧ (Rs k).2.2.2.2.1 = nI n) → ∀ q, m < q →
    fL_days_L15 fu N (nI K.length) dc fd lo (nI D) q (nI i) Rs = some (dc + nI D, dc + nI D, fun k => if k ∈ K.drop i then fdR fd D (Rs k) else Rs k) := by
  intro m
  induction m with
  | zero =>
    intro i Rs hi hn q hq
    obtain ⟨q, rfl⟩ : ∃ z, q = z + 1 := ⟨q - 1, by omega⟩
    rw [fL_days_L15_s, if_pos (nI_le (by omega) (by omega)), List.drop_of_length_le (by omega)]
    rfl
  | succ m ih =>
    intro i Rs hi hn q hq
    obtain ⟨q, rfl⟩ : ∃ z, q = z + 1 := ⟨q - 1, by omega⟩
    have hiK : i < K.length := by omega
    obtain ⟨e1, e2⟩ := hlo i K[i] (List.getElem?_eq_getElem hiK)
    generalize hke : K[i] = k at e1 e2
    obtain ⟨n, n1, n2⟩ := hn k e2
    have hdr : K.drop i = k :: K.drop (i + 1) := by rw [← hke]; exact List.drop_eq_getElem_cons hiK
    have hni : k ∉ K.drop (i + 1) := by
      have h9 := List.Nodup.sublist (List.drop_sublist i K) nd
      rw [hdr] at h9
      exact (List.nodup_cons.mp h9).1
    rw [fL_days_L15_s, if_neg (nI_ge (by omega) (by omega)), if_pos (z_ok (by omega) (by omega)), z_cl (k := i) (by omega), e1, if_pos (z_ok e2 (by omega)), if_pos (z_rg e2 (by omega)), z_cl (k := k) (by omega), n2]
    unfold fT_fadeAway
    rw [show (0 : Int32) = nI 0 from rfl, fade_2 n1 hD hf n 0 fu _ (by omega) (by omega), Option.bind_some, nI_1, ih (i + 1) _ (by omega) (fun j hj => by
      by_cases e : j = k
      · subst e
        exact ⟨n, n1, by simp [va_up]⟩
      · obtain ⟨n', q1, q2⟩ := hn j hj
        exact ⟨n', q1, by simp [va_up, e]; exact q2⟩) q (by omega)]
    congr 3
    funext j
    by_cases e : j = k
    · subst e
      rw [if_neg hni, if_pos (by rw [hdr]; exact List.mem_cons_self)]
      unfold fdR
      rw [n2, z_cl (by omega)]
      simp [va_up]
    · have e9 : va_up Rs k ((Rs k).1, (Rs k).2.1, (Rs k).2.2.1, (Rs k).2.2.2.1, nI n, (Rs k).2.2.2.2.2.1, (Rs k).2.2.2.2.2.2.1, (Rs k).2.2.2.2.2.2.2.1, (Rs k).2.2.2.2.2.2.2.2.1, (fun j => if 0 ≤ j ∧ j < n then fsN fd D ((Rs k).2.2.2.2.2.2.2.2.2.1 j) else (Rs k).2.2.2.2.2.2.2.2.2.1 j), (Rs k).2.2.2.2.2.2.2.2.2.2) j = Rs j := by simp [va_up, e]
      rw [e9]
      by_cases c : j ∈ K.drop (i + 1)
      · rw [if_pos c, if_pos (by rw [hdr]; exact List.mem_cons_of_mem _ c)]
      · rw [if_neg c, if_neg (by rw [hdr]; intro q; rcases List.mem_cons.mp q with q | q; exact e q; exact c q)]
/-- one tendon's rows of the reference behind a day; all that are locked -/
def fdK (fd : Int32) (n : Nat → Nat) (k : Nat) (a : Nat → Int64) : Nat → Int64 := fun x => if 10 * k ≤ x ∧ x < 10 * k + n k then fs1 fd (a x) else a x
def fdL (fd : Int32) (n : Nat → Nat) : List Nat → (Nat → Int64) → (Nat → Int64)
  | [], a => a
  | k :: l, a => fdL fd n l (fdK fd n k a)
def fdD (fd : Int32) (n : Nat → Nat) (K : List Nat) : Nat → (Nat → Int64) → (Nat → Int64)
  | 0, a => a
  | d + 1, a => fdD fd n K d (fdL fd n K a)
theorem fdL_at {fd : Int32} {n : Nat → Nat} (hn : ∀ k, n k ≤ 10) {k i : Nat} (hi : i < 10) : ∀ (l : List Nat) (a : Nat → Int64), l.Nodup → fdL fd n l a (10 * k + i) = if k ∈ l ∧ i < n k then fs1 fd (a (10 * k + i)) else a (10 * k + i)
  | [], a, _ => by rw [if_neg (fun q => absurd q.1 List.not_mem_nil)]; rfl
  | j :: l, a, nd => by
    have h1 := fdL_at (fd := fd) hn (k := k) hi l (fdK fd n j a) (List.nodup_cons.mp nd).2
    show fdL fd n l (fdK fd n j a) (10 * k + i) = _
    rw [h1]
    have hj := (List.nodup_cons.mp nd).1
    have hnj := hn j
    by_cases e : k = j
    · subst e
      rw [if_neg (fun q => hj q.1)]
      unfold fdK
      by_cases c : i < n k
      · rw [if_pos (by omega), if_pos ⟨List.mem_cons_self, c⟩]
      · rw [if_neg (by omega), if_neg (fun q => c q.2)]
    · have e2 : fdK fd n j a (10 * k + i) = a (10 * k + i) := by
        unfold fdK
        rw [if_neg (by omega)]
      rw [e2]
      by_cases c : k ∈ l ∧ i < n k
      · rw [if_pos c, if_pos ⟨List.mem_cons_of_mem _ c.1, c.2⟩]
      · rw [if_neg c, if_neg (fun q => by
          rcases List.mem_cons.mp q.1 with q1 | q1
          · exact e q1
          · exact c ⟨q1, q.2⟩)]
theorem fdD_at {fd : Int32} {n : Nat → Nat} (hn : ∀ k, n k ≤ 10) {K : List Nat} (nd : K.Nodup) {k i : Nat} (hi : i < 10) : ∀ (d : Nat) (a : Nat → Int64), fdD fd n K d a (10 * k + i) = if k ∈ K ∧ i < n k then fsN fd d (a (10 * k + i)) else a (10 * k + i)
  | 0, a => by
    show a (10 * k + i) = _
    by_cases c : k ∈ K ∧ i < n k
    · rw [if_pos c]; rfl
    · rw [if_neg c]
  | d + 1, a => by
    show fdD fd n K d (fdL fd n K a) (10 * k + i) = _
    rw [fdD_at hn nd hi d, fdL_at hn hi K a nd]
    by_cases c : k ∈ K ∧ i < n k
    · rw [if_pos c, if_pos c, if_pos c]; rfl
    · rw [if_neg c, if_neg c, if_neg c]
section DM
variable {fu : Nat} {fad day : Int32} {msi mor : Nat → Int32} {K : List Nat} {n : Nat → Nat}
theorem days_33 {j k : Nat} {kont : Int32 → (Nat → Int64) → Option (Int32 × Int32 × (Nat → Int64))} (hj : j < 6) (hk : k < 6) (hor : mor j = nI k) (hs : msi k = nI (n k)) (hn : n k ≤ 10) : ∀ m i q (arr : Nat → Int64), i + m = n k → m < q → fM_days_L33 fu fad msi mor (nI j) kont q (nI i) arr = kont (nI (j + 1)) (fun x => if 10 * k + i ≤ x ∧ x < 10 * k + n k then fs1 fad (arr x) else arr x) := by
  intro m
  induction m with
  | zero =>
    intro i q arr hi hq
    obtain ⟨q, rfl⟩ : ∃ z, q = z + 1 := ⟨q - 1, by omega⟩
    rw [fM_days_L33_s, if_pos (z_ok (by omega) (by omega)), z_cl (k := j) (by omega), hor, if_pos (z_ok (by omega) (by omega)), z_cl (k := k) (by omega), hs, if_pos (nI_le (by omega) (by omega)), nI_1]
    congr 1
    funext x
    rw [if_neg (by omega)]
  | succ m ih =>
    intro i q arr hi hq
    obtain ⟨q, rfl⟩ : ∃ z, q = z + 1 := ⟨q - 1, by omega⟩
    rw [fM_days_L33_s, if_pos (z_ok (by omega) (by omega)), z_cl (k := j) (by omega), hor, if_pos (z_ok (by omega) (by omega)), z_cl (k := k) (by omega), hs, if_neg (nI_ge (by omega) (by omega)), if_pos (z_ok2 (by omega) (by omega)), ix10, if_pos (z_ok (by omega) (by omega)), if_pos (z_ok (by omega) (by omega)), if_pos (z_ok (by omega) (by omega)), z_cl (by omega), nI_1, ih (i + 1) q _ (by omega) (by omega)]
    congr 1
    funext x
    by_cases e : x = 10 * k + i
    · subst e
      rw [if_neg (by omega), if_pos (by omega), updL_at]
      rfl
    · have e2 : ∀ v, vp_updL arr (10 * k + i) v x = arr x := fun v => by simp [vp_updL, e]
      rw [e2]
      by_cases c : 10 * k + i ≤ x ∧ x < 10 * k + n k
      · rw [if_pos (by omega), if_pos c]
      · rw [if_neg (by omega), if_neg c]
theorem days_22 {d : Nat} {kont : Int32 → (Nat → Int64) → Option (Int32 × Int32 × (Nat → Int64))} (hf : 2000 ≤ fu) (kl : K.length ≤ 6) (hor : ∀ j k, K[j]? = some k → mor j = nI k ∧ k < 6 ∧ msi k = nI (n k) ∧ n k ≤ 10) : ∀ m j q (arr : Nat → Int64), j + m = K.length → m < q → fM_days_L22 fu (nI K.length) fad msi mor (nI d) kont q (nI j) arr = kont (nI (d + 1)) (fdL fad n (K.drop j) arr) := by
  intro m
  induction m with
  | zero =>
    intro j q arr hj hq
    obtain ⟨q, rfl⟩ : ∃ z, q = z + 1 := ⟨q - 1, by omega⟩
    rw [fM_days_L22_s, if_pos (nI_le (by omega) (by omega)), List.drop_of_length_le (by omega), nI_1]
    rfl
  | succ m ih =>
    intro j q arr hj hq
    obtain ⟨q, rfl⟩ : ∃ z, q = z + 1 := ⟨q - 1, by omega⟩
    have hjK : j < K.length := by omega
    obtain ⟨e1, e2, e3, e4⟩ := hor j K[j] (List.getElem?_eq_getElem hjK)
    rw [fM_days_L22_s, if_neg (nI_ge (by omega) (by omega)), show (0 : Int32) = nI 0 from rfl, days_33 (by omega) e2 e1 e3 e4 (n K[j]) 0 fu arr (by omega) (by omega)]
    show fM_days_L22 fu (nI K.length) fad msi mor (nI d) kont q (nI (j + 1)) _ = _
    rw [ih (j + 1) q _ (by omega) (by omega), List.drop_eq_getElem_cons hjK]
    rfl
theorem days_15 {D : Nat} (hf : 2000 ≤ fu) (hD : D ≤ 1000) (kl : K.length ≤ 6) (hor : ∀ j k, K[j]? = some k → mor j = nI k ∧ k < 6 ∧ msi k = nI (n k) ∧ n k ≤ 10) : ∀ m d q (arr : Nat → Int64), d + m = D → m < q → fM_days_L15 fu (nI K.length) fad day msi mor (nI D) q (nI d) arr = some (day + nI D, day + nI D, fdD fad n K m arr) := by
  intro m
  induction m with
  | zero =>
    intro d q arr hd hq
    obtain ⟨q, rfl⟩ : ∃ z, q = z + 1 := ⟨q - 1, by omega⟩
    rw [fM_days_L15_s, if_pos (nI_le (by omega) (by omega))]
    rfl
  | succ m ih =>
    intro d q arr hd hq
    obtain ⟨q, rfl⟩ : ∃ z, q = z + 1 := ⟨q - 1, by omega⟩
    rw [fM_days_L15_s, if_neg (nI_ge (by omega) (by omega)), show (0 : Int32) = nI 0 from rfl, days_22 (n := n) hf kl hor K.length 0 fu arr (by omega) (by omega)]
    show fM_days_L15 fu (nI K.length) fad day msi mor (nI D) q (nI (d + 1)) _ = _
    rw [ih (d + 1) q _ (by omega) (by omega)]
    rfl
end DM
theorem sim_days {fu : Nat} (hfu : 2000 ≤ fu) {N : Nat} {lc : Int32} {dc : Int32} {sp : Int32} {sh : Int32} {fd : Int32} {lo : Nat → Int32} {rough : Int32} {mu : Int32} {Rs : Nat → kR} {thr : Int32} {ten : Int32} {loc : Int32} {rou : Int32} {mum : Int32} {sli : Int32} {sha : Int32} {fad : Int32} {day : Int32} {mar : Nat → Int32} {msi : Nat → Int32} {mst : Nat → Int32} {men : Nat → Int32} {mpu : Nat → Int32} {mxs : Nat → Int32} {mys : Nat → Int32} {mfo : Nat → Int64} {mor : Nat → Int32} {mo1 : Nat → Int64} {mo2 : Nat → Int64} (h : Rl N lc dc sp sh fd lo rough mu Rs thr ten loc rou mum sli sha fad day mar msi mst men mpu mxs mys mfo mor mo1 mo2) (p1 : Int32) : ∃ (r : Int32) (dc' : Int32) (Rs' : Nat → kR) (day' : Int32) (mfo' : Nat → Int64), fL_days fu N lc dc sp sh fd lo rough mu Rs p1 = some (r, dc', Rs') ∧ fM_days fu thr ten loc rou mum sli sha fad day mar msi mst men mpu mxs mys mfo mor mo1 mo2 p1 = some (r, day', mfo') ∧ Rl N lc dc' sp sh fd lo rough mu Rs' thr ten loc rou mum sli sha fad day' mar msi mst men mpu mxs mys mfo' mor mo1 mo2 := by
  obtain ⟨h6, rfl, rfl, rfl, rfl, rfl, rfl, rfl, rfl, hb, ⟨K, hK⟩, hT, hU⟩ := id h
  obtain ⟨rfl, k2, k3, k4⟩ := id hK
  have kl : K.length ≤ 6 := Nat.le_trans (nd_len N K k2 (fun k hk => ((k3 k).mp hk).1)) h6
  by_cases c : 1 ≤ p1.toInt ∧ p1.toInt ≤ 1000
  · obtain ⟨D, hD, rfl⟩ : ∃ D, D ≤ 1000 ∧ p1 = nI D := by
      obtain ⟨D, q1, q2⟩ := vp_in_of (x := p1) (n := 1001) (vp_in_iff.mpr (by omega)) (by omega)
      exact ⟨D, by omega, q2⟩
    have hnn : ∀ k, k < N → ∃ n, n ≤ 10 ∧ (Rs k).2.2.2.2.1 = nI n := fun k hk => by
      obtain ⟨n, a1, a2, a3⟩ := hT k hk
      exact ⟨n, a1, a2⟩
    have hC := days_C (fu := fu) (dc := day) (fd := fad) (lo := lo) (K := K) h6 hD hfu kl k2 (fun i k hk => ⟨(k4 i k hk).1, ((k3 k).mp (List.mem_of_getElem? hk)).1⟩) K.length 0 Rs (by omega) hnn fu (by omega)
    have hnb : ∀ k, (if k < N then (msi k).toNatClampNeg else 0) ≤ 10 := fun k => by
      by_cases q : k < N
      · obtain ⟨n, a1, a2, a3, a4⟩ := hT k q
        rw [if_pos q, a3, z_cl (by omega)]
        exact a1
      · rw [if_neg q]; omega
    have hM := days_15 (fu := fu) (fad := fad) (day := day) (msi := msi) (mor := mor) (K := K) (n := fun k => if k < N then (msi k).toNatClampNeg else 0) hfu hD kl (fun j k hjk => by
      have hm := (k3 k).mp (List.mem_of_getElem? hjk)
      obtain ⟨n, a1, a2, a3, a4⟩ := hT k hm.1
      refine ⟨(k4 j k hjk).2, by omega, ?_, hnb k⟩
      rw [if_pos hm.1, a3, z_cl (by omega)]) D 0 fu mfo (by omega) (by omega)
    refine ⟨day + nI D, day + nI D, (fun k => if k ∈ K.drop 0 then fdR fad D (Rs k) else Rs k), day + nI D, fdD fad (fun k => if k < N then (msi k).toNatClampNeg else 0) K D mfo, ?_, ?_, h6, rfl, rfl, rfl, rfl, rfl, rfl, rfl, rfl, hb, ⟨K, rfl, k2, ?_, k4⟩, ?_, ?_⟩
    · unfold fL_days
      rw [iw_t (by exact c), Option.bind_some, if_neg (by decide)]
      exact hC
    · unfold fM_days
      rw [in_t (by exact c), Option.bind_some, if_neg (by decide)]
      exact hM
    · intro k
      rw [k3 k]
      dsimp only
      by_cases q : k ∈ K.drop 0
      · rw [if_pos q]; rfl
      · rw [if_neg q]
    · intro k hk
      obtain ⟨n, a1, a2, a3, a4, a5, a6, a7, a8, a9, a10, a11⟩ := hT k hk
      have hnk : (if k < N then (msi k).toNatClampNeg else 0) = n := by rw [if_pos hk, a3, z_cl (by omega)]
      have hfd := hb.2.2.2.2
      dsimp only
      by_cases q : k ∈ K.drop 0
      · have qK : k ∈ K := q
        rw [if_pos q]
        refine ⟨n, a1, a2, a3, a4, a5, a6, a7, a8, a9, a10, ?_⟩
        intro i hi
        rw [fdD_at hnb k2 hi]
        have h11 := a11 i hi
        show (if 0 ≤ i ∧ i < (Rs k).2.2.2.2.1.toNatClampNeg then fsN fad D ((Rs k).2.2.2.2.2.2.2.2.2.1 i) else (Rs k).2.2.2.2.2.2.2.2.2.1 i) = _ ∧ _
        rw [a2, z_cl (by omega), hnk, h11.1]
        by_cases q2 : i < n
        · rw [if_pos (by omega), if_pos ⟨qK, q2⟩]
          exact ⟨rfl, fsN_in hfd.1 hfd.2 D h11.2.1 h11.2.2⟩
        · rw [if_neg (by omega), if_neg (fun z => q2 z.2)]
          exact ⟨rfl, h11.2⟩
      · have qK : k ∉ K := q
        rw [if_neg q]
        refine ⟨n, a1, a2, a3, a4, a5, a6, a7, a8, a9, a10, ?_⟩
        intro i hi
        rw [fdD_at hnb k2 hi, if_neg (fun z => qK z.1)]
        exact a11 i hi
    · intro k q1 q2
      have hu := hU k q1 q2
      refine ⟨hu.1, hu.2.1, fun i hi => ?_⟩
      rw [fdD_at hnb k2 hi, if_neg (fun z => absurd ((k3 k).mp z.1).1 (by omega))]
      exact hu.2.2 i hi
  · refine ⟨-1, _, Rs, _, _, ?_, ?_, h⟩
    · unfold fL_days
      rw [iw_f (by exact c), Option.bind_some, if_pos rfl]
    · unfold fM_days
      rw [in_f (by exact c), Option.bind_some, if_pos rfl]
