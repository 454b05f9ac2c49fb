/-! Worlds as sets of cells: any order will do; the tendons as a pool that is opened at one of them and closed again. -/
theorem kq_P {G : va_G} {cl : List vw_C} {ws : va_W} {H : Heap} : va_P G cl ws H ↔ ∀ q ∈ ws, va_at G cl q H := by
  constructor
  · intro h q hq
    obtain ⟨k, hk⟩ := List.getElem?_of_mem hq
    exact h k q hk
  · intro h k q hk
    exact h q (List.mem_of_getElem? hk)
theorem kq_D {A : Nat → Prop} {ws : va_W} : va_D A ws ↔ (ws.map (fun q => q.1)).Nodup ∧ ∀ q ∈ ws, A q.1 := by
  constructor
  · intro h
    refine ⟨?_, ?_⟩
    · refine List.pairwise_iff_getElem.mpr ?_
      intro i j hi hj hij he
      rw [List.length_map] at hi hj
      rw [List.getElem_map, List.getElem_map] at he
      have := h.1 i j _ _ (List.getElem?_eq_getElem hi) (List.getElem?_eq_getElem hj) he
      omega
    · intro q hq
      obtain ⟨k, hk⟩ := List.getElem?_of_mem hq
      exact h.2 k q hk
  · intro h
    refine ⟨?_, fun k q hk => h.2 q (List.mem_of_getElem? hk)⟩
    intro i j p q hi hj he
    have h1 := List.pairwise_iff_getElem.mp h.1
    obtain ⟨li, ei⟩ := List.getElem?_eq_some_iff.mp hi
    obtain ⟨lj, ej⟩ := List.getElem?_eq_some_iff.mp hj
    rcases Nat.lt_trichotomy i j with c | c | c
    · exact absurd (by rw [List.getElem_map, List.getElem_map, ei, ej]; exact he) (h1 i j (by rw [List.length_map]; exact li) (by rw [List.length_map]; exact lj) c)
    · exact c
    · exact absurd (by rw [List.getElem_map, List.getElem_map, ei, ej]; exact he.symm) (h1 j i (by rw [List.length_map]; exact lj) (by rw [List.length_map]; exact li) c)
theorem kq_pP {G : va_G} {cl : List vw_C} {ws ws' : va_W} {H : Heap} (hp : ws.Perm ws') (h : va_P G cl ws H) : va_P G cl ws' H := kq_P.mpr (fun q hq => kq_P.mp h q (hp.mem_iff.mpr hq))
theorem kq_pD {A : Nat → Prop} {ws ws' : va_W} (hp : ws.Perm ws') (h : va_D A ws) : va_D A ws' := by
  have h1 := kq_D.mp h
  exact kq_D.mpr ⟨(hp.map (fun q => q.1)).nodup_iff.mp h1.1, fun q hq => h1.2 q (hp.mem_iff.mpr hq)⟩
/-- a tendon's numbers: area, state, pulled from, pulled with, size; xs, ys, lengths, slopes; forces, tried -/
abbrev kR : Type := Int32 × Int32 × Int32 × Int32 × Int32 × (Nat → Int32) × (Nat → Int32) × (Nat → Int32) × (Nat → Int32) × (Nat → Int64) × (Nat → Int64)
/-- its cells: tendon, duct, the duct's four arrays, forces, tried -/
def ktc (cI cL : ClassId) (a : Nat → Nat) (r : kR) : va_W :=
  [(a 0, .inr (2, [.ref (a 1), .int r.1, .ref (a 6), .ref (a 7), .int r.2.1, .int r.2.2.1, .int r.2.2.2.1])),
   (a 1, .inr (0, [.ref (a 2), .ref (a 3), .ref (a 4), .ref (a 5), .int r.2.2.2.2.1])),
   (a 2, .inl (cI, 10, .inl r.2.2.2.2.2.1)), (a 3, .inl (cI, 10, .inl r.2.2.2.2.2.2.1)), (a 4, .inl (cI, 10, .inl r.2.2.2.2.2.2.2.1)), (a 5, .inl (cI, 10, .inl r.2.2.2.2.2.2.2.2.1)),
   (a 6, .inl (cL, 10, .inr (.inl r.2.2.2.2.2.2.2.2.2.1))), (a 7, .inl (cL, 10, .inr (.inl r.2.2.2.2.2.2.2.2.2.2)))]
def kpl (cI cL : ClassId) (ad : Nat → Nat → Nat) (ks : List Nat) (R : Nat → kR) : va_W := ks.flatMap (fun k => ktc cI cL (ad k) (R k))
/-- the array of tendons -/
def kg (ad : Nat → Nat → Nat) (N : Nat) : Nat → Option Nat := fun i => if i < N then some (ad i 0) else none
theorem kpl_congr {cI cL : ClassId} {ad : Nat → Nat → Nat} {R R' : Nat → kR} : ∀ {ks : List Nat}, (∀ k ∈ ks, R k = R' k) → kpl cI cL ad ks R = kpl cI cL ad ks R'
  | [], _ => rfl
  | k :: ks, h => by
    show ktc cI cL (ad k) (R k) ++ kpl cI cL ad ks R = ktc cI cL (ad k) (R' k) ++ kpl cI cL ad ks R'
    rw [h k List.mem_cons_self, kpl_congr (fun j hj => h j (List.mem_cons_of_mem _ hj))]
theorem kpl_perm {cI cL : ClassId} {ad : Nat → Nat → Nat} {ks ks' : List Nat} {R : Nat → kR} (h : ks.Perm ks') : (kpl cI cL ad ks R).Perm (kpl cI cL ad ks' R) := h.flatMap_right _
theorem kp_perm {cI cL : ClassId} {ad : Nat → Nat → Nat} {ks : List Nat} {R : Nat → kR} {k : Nat} (h : k ∈ ks) (X : va_W) : (X ++ kpl cI cL ad ks R).Perm ((X ++ ktc cI cL (ad k) (R k)) ++ kpl cI cL ad (ks.erase k) R) := by
  rw [List.append_assoc]
  exact List.Perm.append_left X (kpl_perm (List.perm_cons_erase h))
theorem kp_open {cI cL : ClassId} {ad : Nat → Nat → Nat} {ks : List Nat} {R : Nat → kR} {k : Nat} {X : va_W} {G : va_G} {A : Nat → Prop} {H : Heap} (h : k ∈ ks) (hP : va_P G vwCl (X ++ kpl cI cL ad ks R) H) (hD : va_D A (X ++ kpl cI cL ad ks R)) :
    va_P G vwCl ((X ++ ktc cI cL (ad k) (R k)) ++ kpl cI cL ad (ks.erase k) R) H ∧ va_D A ((X ++ ktc cI cL (ad k) (R k)) ++ kpl cI cL ad (ks.erase k) R) := ⟨kq_pP (kp_perm h X) hP, kq_pD (kp_perm h X) hD⟩
theorem kp_close {cI cL : ClassId} {ad : Nat → Nat → Nat} {ks : List Nat} {R : Nat → kR} {k : Nat} {X : va_W} {G : va_G} {A : Nat → Prop} {H : Heap} (h : k ∈ ks) (nd : ks.Nodup) (r : kR) (hP : va_P G vwCl ((X ++ ktc cI cL (ad k) r) ++ kpl cI cL ad (ks.erase k) R) H) (hD : va_D A ((X ++ ktc cI cL (ad k) r) ++ kpl cI cL ad (ks.erase k) R)) :
    va_P G vwCl (X ++ kpl cI cL ad ks (va_up R k r)) H ∧ va_D A (X ++ kpl cI cL ad ks (va_up R k r)) := by
  have e : kpl cI cL ad (ks.erase k) R = kpl cI cL ad (ks.erase k) (va_up R k r) := kpl_congr (fun j hj => by
    have : j ≠ k := fun e => by subst e; exact (nd.not_mem_erase) hj
    simp [va_up, this])
  have e2 : ktc cI cL (ad k) r = ktc cI cL (ad k) (va_up R k r k) := by simp [va_up]
  rw [e, e2] at hP hD
  exact ⟨kq_pP (kp_perm h X).symm hP, kq_pD (kp_perm h X).symm hD⟩
theorem kp_close0 {cI cL : ClassId} {ad : Nat → Nat → Nat} {ks : List Nat} {R : Nat → kR} {k : Nat} {X : va_W} {G : va_G} {A : Nat → Prop} {H : Heap} (h : k ∈ ks) (hP : va_P G vwCl ((X ++ ktc cI cL (ad k) (R k)) ++ kpl cI cL ad (ks.erase k) R) H) (hD : va_D A ((X ++ ktc cI cL (ad k) (R k)) ++ kpl cI cL ad (ks.erase k) R)) :
    va_P G vwCl (X ++ kpl cI cL ad ks R) H ∧ va_D A (X ++ kpl cI cL ad ks R) := ⟨kq_pP (kp_perm h X).symm hP, kq_pD (kp_perm h X).symm hD⟩
theorem kp_nd {N : Nat} : (List.range N).Nodup := List.nodup_range
theorem kp_nd1 {N k : Nat} : ((List.range N).erase k).Nodup := List.nodup_range.erase k
section KCT
variable {p : Program} {l : Launch} {e : Env} {R : Room} {s : State} {m : MethodId} {args : Array Value} {below : List Frame} {meth : Method} {c : Code} {H H0 : Heap} {locs : List Loc} {cells slots mc ms pc : Nat} {Q : State → Prop} {ls : Array Slot} {rest st0 : List Value} {a : Array Value} {G : va_G} {T : List (ClassId × FieldType)} {A : Nat → Prop} {wc wr w1 X X' pl ws w : va_W}
theorem kt_P {is : List Nat} (hP : va_P G vwCl (X ++ pl) H) (hs : is.map (fun i => X[i]?) = wc.map some) : va_P G vwCl wc H := by
  have h := hP.part is hs
  exact kq_P.mpr (fun q hq => kq_P.mp h q (List.mem_append_left _ hq))
theorem kt_D {is : List Nat} (hD : va_D A (X ++ pl)) (hn : va_nd is = true) (hs : is.map (fun i => X[i]?) = wc.map some) : va_D A wc := by
  have h := kq_D.mp (hD.part is hn hs)
  rw [List.map_append] at h
  exact kq_D.mpr ⟨(List.nodup_append.mp h.1).1, fun q hq => h.2 q (List.mem_append_left _ hq)⟩
theorem kt_free {is : List Nat} (hD : va_D A (X ++ pl)) (hS : va_S A H0 H locs) (hA : ∀ q, H0.size ≤ q → A q) (hs : is.map (fun i => X[i]?) = wc.map some) : ∀ q, va_A wc H.size q → A q := by
  intro q hq
  rcases hq with ⟨k, e, h⟩ | h
  · obtain ⟨j, h5, h6⟩ := va_in_of is hs h
    have hj : j < X.length := (List.getElem?_eq_some_iff.mp h6).1
    exact hD.2 j (q, e) (by rw [List.getElem?_append_left hj]; exact h6)
  · exact hA q (Nat.le_trans hS.1 h)
theorem kt_i {o : Int32} (hr : va_Run p l e R s m args below meth c H locs cells slots mc ms (F0 m pc ls st0) rest (va_Qi (fun (r : Int32) (_ : Unit) => r = o) (kB G T (va_A wc H.size) w1) (va_A wc H.size) a) (va_A wc H.size))
    (hP : va_P G vwCl (X ++ pl) H) (hD : va_D A (X ++ pl)) (hS : va_S A H0 H locs) (hA : ∀ q, H0.size ≤ q → A q) (isC isR is : List Nat) (hC : isC.map (fun i => X[i]?) = wc.map some) (hR : isR.map (fun i => X[i]?) = wr.map some) (hn : va_nd isR = true) (hdis : ∀ i ∈ isR, i ∉ isC) (h2 : va_nd is = true) (h3 : is.map (fun i => (wr ++ w1)[i]?) = X'.map some)
    (kk : ∀ (H1 : Heap) (locs1 : List Loc), va_P G vwCl (X' ++ pl) H1 → va_D A (X' ++ pl) → va_S A H0 H1 locs1 → W p l e R s m args below meth c H1 locs1 (cells + mc) (slots + ms) Q (F0 m (pc + 3) ls (.int o :: rest))) : W p l e R s m args below meth c H locs cells slots Q (F0 m pc ls st0) := by
  have hFc := kt_free (wc := wc) hD hS hA hC
  refine va_calli hr hS (fun q _ h => hFc q h) hFc (fun r u t H1 locs1 ht hvm hw hB hz1 hk1 hS1 => ?_)
  obtain ⟨hP1, hK1, hD1⟩ := hB
  rw [ht] at hP1
  obtain ⟨hP2, hD2⟩ := va_joinQ (wr := wr) (w1 := w1) hP hD isC isR hC hR hn hdis hk1 hFc hP1 hD1
  rw [show r = o from hw]
  exact kk H1 locs1 (hP2.part is h3) (hD2.part is h2 h3) hS1
theorem kt_l {o : Int64} (hr : va_Run p l e R s m args below meth c H locs cells slots mc ms (F0 m pc ls st0) rest (va_Ql (fun (r : Int64) (_ : Unit) => r = o) (kB G T (va_A wc H.size) w1) (va_A wc H.size) a) (va_A wc H.size))
    (hP : va_P G vwCl (X ++ pl) H) (hD : va_D A (X ++ pl)) (hS : va_S A H0 H locs) (hA : ∀ q, H0.size ≤ q → A q) (isC isR is : List Nat) (hC : isC.map (fun i => X[i]?) = wc.map some) (hR : isR.map (fun i => X[i]?) = wr.map some) (hn : va_nd isR = true) (hdis : ∀ i ∈ isR, i ∉ isC) (h2 : va_nd is = true) (h3 : is.map (fun i => (wr ++ w1)[i]?) = X'.map some)
    (kk : ∀ (H1 : Heap) (locs1 : List Loc), va_P G vwCl (X' ++ pl) H1 → va_D A (X' ++ pl) → va_S A H0 H1 locs1 → W p l e R s m args below meth c H1 locs1 (cells + mc) (slots + ms) Q (F0 m (pc + 3) ls (.long o :: rest))) : W p l e R s m args below meth c H locs cells slots Q (F0 m pc ls st0) := by
  have hFc := kt_free (wc := wc) hD hS hA hC
  refine va_calll hr hS (fun q _ h => hFc q h) hFc (fun r u t H1 locs1 ht hvm hw hB hz1 hk1 hS1 => ?_)
  obtain ⟨hP1, hK1, hD1⟩ := hB
  rw [ht] at hP1
  obtain ⟨hP2, hD2⟩ := va_joinQ (wr := wr) (w1 := w1) hP hD isC isR hC hR hn hdis hk1 hFc hP1 hD1
  rw [show r = o from hw]
  exact kk H1 locs1 (hP2.part is h3) (hD2.part is h2 h3) hS1
theorem kt_v (hr : va_Run p l e R s m args below meth c H locs cells slots mc ms (F0 m pc ls st0) rest (va_Qv (fun (_ : Unit) => True) (kB G T (va_A wc H.size) w1) (va_A wc H.size) a) (va_A wc H.size))
    (hP : va_P G vwCl (X ++ pl) H) (hD : va_D A (X ++ pl)) (hS : va_S A H0 H locs) (hA : ∀ q, H0.size ≤ q → A q) (isC isR is : List Nat) (hC : isC.map (fun i => X[i]?) = wc.map some) (hR : isR.map (fun i => X[i]?) = wr.map some) (hn : va_nd isR = true) (hdis : ∀ i ∈ isR, i ∉ isC) (h2 : va_nd is = true) (h3 : is.map (fun i => (wr ++ w1)[i]?) = X'.map some)
    (kk : ∀ (H1 : Heap) (locs1 : List Loc), va_P G vwCl (X' ++ pl) H1 → va_D A (X' ++ pl) → va_S A H0 H1 locs1 → W p l e R s m args below meth c H1 locs1 (cells + mc) (slots + ms) Q (F0 m (pc + 3) ls rest)) : W p l e R s m args below meth c H locs cells slots Q (F0 m pc ls st0) := by
  have hFc := kt_free (wc := wc) hD hS hA hC
  refine va_callv hr hS (fun q _ h => hFc q h) hFc (fun u t H1 locs1 ht hvm hw hB hz1 hk1 hS1 => ?_)
  obtain ⟨hP1, hK1, hD1⟩ := hB
  rw [ht] at hP1
  obtain ⟨hP2, hD2⟩ := va_joinQ (wr := wr) (w1 := w1) hP hD isC isR hC hR hn hdis hk1 hFc hP1 hD1
  exact kk H1 locs1 (hP2.part is h3) (hD2.part is h2 h3) hS1
theorem kt_q {o : Option Nat} (hr : va_Run p l e R s m args below meth c H locs cells slots mc ms (F0 m pc ls st0) rest (va_Qq (fun (r : Option Nat) (_ : Unit) => r = o) (kB G T (va_A wc H.size) w1) (va_A wc H.size) a) (va_A wc H.size))
    (hP : va_P G vwCl (X ++ pl) H) (hD : va_D A (X ++ pl)) (hS : va_S A H0 H locs) (hA : ∀ q, H0.size ≤ q → A q) (isC isR is : List Nat) (hC : isC.map (fun i => X[i]?) = wc.map some) (hR : isR.map (fun i => X[i]?) = wr.map some) (hn : va_nd isR = true) (hdis : ∀ i ∈ isR, i ∉ isC) (h2 : va_nd is = true) (h3 : is.map (fun i => (wr ++ w1)[i]?) = X'.map some)
    (kk : ∀ (H1 : Heap) (locs1 : List Loc), va_P G vwCl (X' ++ pl) H1 → va_D A (X' ++ pl) → va_S A H0 H1 locs1 → W p l e R s m args below meth c H1 locs1 (cells + mc) (slots + ms) Q (F0 m (pc + 3) ls (va_rf o :: rest))) : W p l e R s m args below meth c H locs cells slots Q (F0 m pc ls st0) := by
  have hFc := kt_free (wc := wc) hD hS hA hC
  refine va_callq hr hS (fun q _ h => hFc q h) hFc (fun r u t H1 locs1 ht hvm hw hB hz1 hk1 hS1 => ?_)
  obtain ⟨hP1, hK1, hD1⟩ := hB
  rw [ht] at hP1
  obtain ⟨hP2, hD2⟩ := va_joinQ (wr := wr) (w1 := w1) hP hD isC isR hC hR hn hdis hk1 hFc hP1 hD1
  rw [show r = o from hw]
  exact kk H1 locs1 (hP2.part is h3) (hD2.part is h2 h3) hS1
theorem kw_free (hD : va_D A ws) (hS : va_S A H0 H locs) (hA : ∀ q, H0.size ≤ q → A q) : ∀ q, va_A ws H.size q → A q := by
  intro q hq
  rcases hq with ⟨k, e, h⟩ | h
  · exact hD.2 k (q, e) h
  · exact hA q (Nat.le_trans hS.1 h)
theorem kw_i {o : Int32} (hr : va_Run p l e R s m args below meth c H locs cells slots mc ms (F0 m pc ls st0) rest (va_Qi (fun (r : Int32) (_ : Unit) => r = o) (kB G T (va_A ws H.size) w) (va_A ws H.size) a) (va_A ws H.size))
    (hD : va_D A ws) (hS : va_S A H0 H locs) (hA : ∀ q, H0.size ≤ q → A q)
    (kk : ∀ (H1 : Heap) (locs1 : List Loc), va_P G vwCl w H1 → va_D A w → va_S A H0 H1 locs1 → W p l e R s m args below meth c H1 locs1 (cells + mc) (slots + ms) Q (F0 m (pc + 3) ls (.int o :: rest))) : W p l e R s m args below meth c H locs cells slots Q (F0 m pc ls st0) := by
  have hFc := kw_free hD hS hA
  refine va_calli hr hS (fun q _ h => hFc q h) hFc (fun r u t H1 locs1 ht hvm hw hB hz1 hk1 hS1 => ?_)
  obtain ⟨hP1, hK1, hD1⟩ := hB
  rw [ht] at hP1
  rw [show r = o from hw]
  exact kk H1 locs1 hP1 (hD1.weaken (fun k q _ h => hFc q.1 h)) hS1
theorem kw_v (hr : va_Run p l e R s m args below meth c H locs cells slots mc ms (F0 m pc ls st0) rest (va_Qv (fun (_ : Unit) => True) (kB G T (va_A ws H.size) w) (va_A ws H.size) a) (va_A ws H.size))
    (hD : va_D A ws) (hS : va_S A H0 H locs) (hA : ∀ q, H0.size ≤ q → A q)
    (kk : ∀ (H1 : Heap) (locs1 : List Loc), va_P G vwCl w H1 → va_D A w → va_S A H0 H1 locs1 → W p l e R s m args below meth c H1 locs1 (cells + mc) (slots + ms) Q (F0 m (pc + 3) ls rest)) : W p l e R s m args below meth c H locs cells slots Q (F0 m pc ls st0) := by
  have hFc := kw_free hD hS hA
  refine va_callv hr hS (fun q _ h => hFc q h) hFc (fun u t H1 locs1 ht hvm hw hB hz1 hk1 hS1 => ?_)
  obtain ⟨hP1, hK1, hD1⟩ := hB
  rw [ht] at hP1
  exact kk H1 locs1 hP1 (hD1.weaken (fun k q _ h => hFc q.1 h)) hS1
theorem kw_q {o : Option Nat} (hr : va_Run p l e R s m args below meth c H locs cells slots mc ms (F0 m pc ls st0) rest (va_Qq (fun (r : Option Nat) (_ : Unit) => r = o) (kB G T (va_A ws H.size) w) (va_A ws H.size) a) (va_A ws H.size))
    (hD : va_D A ws) (hS : va_S A H0 H locs) (hA : ∀ q, H0.size ≤ q → A q)
    (kk : ∀ (H1 : Heap) (locs1 : List Loc), va_P G vwCl w H1 → va_D A w → va_S A H0 H1 locs1 → W p l e R s m args below meth c H1 locs1 (cells + mc) (slots + ms) Q (F0 m (pc + 3) ls (va_rf o :: rest))) : W p l e R s m args below meth c H locs cells slots Q (F0 m pc ls st0) := by
  have hFc := kw_free hD hS hA
  refine va_callq hr hS (fun q _ h => hFc q h) hFc (fun r u t H1 locs1 ht hvm hw hB hz1 hk1 hS1 => ?_)
  obtain ⟨hP1, hK1, hD1⟩ := hB
  rw [ht] at hP1
  rw [show r = o from hw]
  exact kk H1 locs1 hP1 (hD1.weaken (fun k q _ h => hFc q.1 h)) hS1
end KCT
