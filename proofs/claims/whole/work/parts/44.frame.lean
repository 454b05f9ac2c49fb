/-! The frame rule over any order of cells; calls that make objects; new arrays of the known classes. -/
theorem kf_core {G : va_G} {A : Nat → Prop} {ws wr wc w1 : va_W} {H H1 : Heap} (hP : va_P G vwCl ws H) (hD : va_D A ws) (hp : ws.Perm (wr ++ wc)) (hk : ∀ q : Nat, q < H.size → ¬ va_A wc H.size q → H1[q]? = H[q]?) (hF : ∀ q, va_A wc H.size q → A q) (hP1 : va_P G vwCl w1 H1) (hD1 : va_D (va_A wc H.size) w1) :
    va_P G vwCl (wr ++ w1) H1 ∧ va_D A (wr ++ w1) := by
  have hP' := kq_P.mp (kq_pP hp hP)
  have hD' := kq_D.mp (kq_pD hp hD)
  rw [List.map_append] at hD'
  have hnd := List.nodup_append.mp hD'.1
  have hD1' := kq_D.mp hD1
  have apart : ∀ q ∈ wr, q.1 < H.size ∧ ¬ va_A wc H.size q.1 := by
    intro q hq
    have hl := (hP' q (List.mem_append_left _ hq)).lt
    refine ⟨hl, fun h => ?_⟩
    rcases h with ⟨k, e, h⟩ | h
    · exact hnd.2.2 q.1 (List.mem_map.mpr ⟨q, hq, rfl⟩) q.1 (List.mem_map.mpr ⟨(q.1, e), List.mem_of_getElem? h, rfl⟩) rfl
    · omega
  refine ⟨kq_P.mpr ?_, kq_D.mpr ⟨?_, ?_⟩⟩
  · intro q hq
    rcases List.mem_append.mp hq with h | h
    · exact (hP' q (List.mem_append_left _ h)).kept (hk q.1 (apart q h).1 (apart q h).2)
    · exact kq_P.mp hP1 q h
  · rw [List.map_append]
    refine List.nodup_append.mpr ⟨hnd.1, hD1'.1, ?_⟩
    intro x hx y hy hxy
    obtain ⟨q, hq, rfl⟩ := List.mem_map.mp hx
    obtain ⟨r, hr, rfl⟩ := List.mem_map.mp hy
    exact (apart q hq).2 (by rw [hxy]; exact hD1'.2 r hr)
  · intro q hq
    rcases List.mem_append.mp hq with h | h
    · exact hD'.2 q (List.mem_append_left _ h)
    · exact hF _ (hD1'.2 q h)
section KF
variable {p : Program} {l : Launch} {e : Env} {R : Room} {s : State} {m : MethodId} {args : Array Value} {below : List Frame} {meth : Method} {c : Code} {H H0 : Heap} {locs : List Loc} {cells slots mc ms pc : Nat} {Q : State → Prop} {ls : Array Slot} {rest st0 : List Value} {a : Array Value} {G : va_G} {T : List (ClassId × FieldType)} {A : Nat → Prop} {wc wr w1 ws : va_W}
theorem kf_free (hD : va_D A ws) (hp : ws.Perm (wr ++ wc)) (hS : va_S A H0 H locs) (hA : ∀ q, H0.size ≤ q → A q) : ∀ q, va_A wc H.size q → A q := by
  intro q hq
  rcases hq with ⟨k, e, h⟩ | h
  · exact (kq_D.mp (kq_pD hp hD)).2 (q, e) (List.mem_append_right _ (List.mem_of_getElem? h))
  · exact hA q (Nat.le_trans hS.1 h)
theorem kl_i {o : Int32} (hr : va_Run p l e R s m args below meth c H locs cells slots mc ms (F0 m pc ls st0) rest (va_Qi (fun (r : Int32) (_ : Unit) => r = o) (kB G T (va_A wc H.size) w1) (va_A wc H.size) a) (va_A wc H.size))
    (hP : va_P G vwCl ws H) (hD : va_D A ws) (hp : ws.Perm (wr ++ wc)) (hS : va_S A H0 H locs) (hA : ∀ q, H0.size ≤ q → A q)
    (kk : ∀ (H1 : Heap) (locs1 : List Loc), va_P G vwCl (wr ++ w1) H1 → va_D A (wr ++ w1) → va_S A H0 H1 locs1 → W p l e R s m args below meth c H1 locs1 (cells + mc) (slots + ms) Q (F0 m (pc + 3) ls (.int o :: rest))) : W p l e R s m args below meth c H locs cells slots Q (F0 m pc ls st0) := by
  have hFc := kf_free hD hp hS hA
  refine va_calli hr hS (fun q _ h => hFc q h) hFc (fun r u t H1 locs1 ht hvm hw hB hz1 hk1 hS1 => ?_)
  obtain ⟨hP1, hK1, hD1⟩ := hB
  rw [ht] at hP1
  obtain ⟨hP2, hD2⟩ := kf_core hP hD hp hk1 hFc hP1 hD1
  rw [show r = o from hw]
  exact kk H1 locs1 hP2 hD2 hS1
/-- a call that answers an int and makes objects: what is behind it depends on the addresses -/
theorem kn_i {S : Type} {o : Int32} {w2 : S → va_W} {po : S → Prop} (hr : va_Run p l e R s m args below meth c H locs cells slots mc ms (F0 m pc ls st0) rest (va_Qi (fun (r : Int32) (u : S) => r = o ∧ po u) (fun u t => va_P G vwCl (w2 u) t.heap ∧ va_K G vwCl T t ∧ va_D (va_A wc H.size) (w2 u)) (va_A wc H.size) a) (va_A wc H.size))
    (hP : va_P G vwCl ws H) (hD : va_D A ws) (hp : ws.Perm (wr ++ wc)) (hS : va_S A H0 H locs) (hA : ∀ q, H0.size ≤ q → A q)
    (kk : ∀ (u : S) (H1 : Heap) (locs1 : List Loc), po u → va_P G vwCl (wr ++ w2 u) H1 → va_D A (wr ++ w2 u) → va_S A H0 H1 locs1 → W p l e R s m args below meth c H1 locs1 (cells + mc) (slots + ms) Q (F0 m (pc + 3) ls (.int o :: rest))) : W p l e R s m args below meth c H locs cells slots Q (F0 m pc ls st0) := by
  have hFc := kf_free hD hp hS hA
  refine va_calli hr hS (fun q _ h => hFc q h) hFc (fun r u t H1 locs1 ht hvm hw hB hz1 hk1 hS1 => ?_)
  obtain ⟨hP1, hK1, hD1⟩ := hB
  rw [ht] at hP1
  obtain ⟨hP2, hD2⟩ := kf_core hP hD hp hk1 hFc hP1 hD1
  rw [hw.1]
  exact kk u H1 locs1 hw.2 hP2 hD2 hS1
theorem kn_v {S : Type} {w2 : S → va_W} {po : S → Prop} (hr : va_Run p l e R s m args below meth c H locs cells slots mc ms (F0 m pc ls st0) rest (va_Qv po (fun u t => va_P G vwCl (w2 u) t.heap ∧ va_K G vwCl T t ∧ va_D (va_A wc H.size) (w2 u)) (va_A wc H.size) a) (va_A wc H.size))
    (hP : va_P G vwCl ws H) (hD : va_D A ws) (hp : ws.Perm (wr ++ wc)) (hS : va_S A H0 H locs) (hA : ∀ q, H0.size ≤ q → A q)
    (kk : ∀ (u : S) (H1 : Heap) (locs1 : List Loc), po u → va_P G vwCl (wr ++ w2 u) H1 → va_D A (wr ++ w2 u) → va_S A H0 H1 locs1 → W p l e R s m args below meth c H1 locs1 (cells + mc) (slots + ms) Q (F0 m (pc + 3) ls rest)) : W p l e R s m args below meth c H locs cells slots Q (F0 m pc ls st0) := by
  have hFc := kf_free hD hp hS hA
  refine va_callv hr hS (fun q _ h => hFc q h) hFc (fun u t H1 locs1 ht hvm hw hB hz1 hk1 hS1 => ?_)
  obtain ⟨hP1, hK1, hD1⟩ := hB
  rw [ht] at hP1
  obtain ⟨hP2, hD2⟩ := kf_core hP hD hp hk1 hFc hP1 hD1
  exact kk u H1 locs1 hw hP2 hD2 hS1
variable {cc : ByteArray} {tys : List (ClassId × FieldType)}
theorem kn_same {cA cB : ClassId} {ty : FieldType} {t0 : Nat} (h1 : va_K G vwCl (tys ++ [(cA, ty)]) s) (ht : tys[t0]? = some (cB, ty)) (hs : ∀ C, ty = .object C → False) : cB = cA := by
  have hl : t0 < tys.length := (List.getElem?_eq_some_iff.mp ht).1
  have a1 := (h1.2 t0 (cB, ty) (by rw [List.getElem?_append_left hl]; exact ht)).2
  have a2 := (h1.2 tys.length (cA, ty) (by rw [List.getElem?_append_right (Nat.le_refl _), Nat.sub_self]; rfl)).2
  cases ty with
  | object C => exact (hs C rfl).elim
  | _ => exact Option.some.inj (a1.symm.trans a2)
theorem kn_ia {cI : ClassId} (hexec : p.tables.exec = Jvm.exec) (hb : c.code = cc) (harr : (Cond.arrayClass .int).before args s = true) (hK : va_K G vwCl tys s) (t0 : Nat) (ht : tys[t0]? = some (cI, .int)) (hP : va_P G vwCl ws H) (hD : va_D A ws) (hS : va_S A H0 H locs) (hA : ∀ q, H0.size ≤ q → A q)
    {n : Int32} (N' : Nat) (hn : ¬ n < 0) (hN : n.toNatClampNeg = N') (hbytes : N' * 4 ≤ 536870912) (hcells : cells + 1 ≤ R.cells) (hslots : slots + N' ≤ R.slots) (hdg : decode cc pc = .ok (.newarray .int, 2))
    (kk : ∀ (q : Nat) (H1 : Heap), va_P G vwCl (ws ++ [(q, .inl (cI, N', .inl (fun _ => 0)))]) H1 → va_D A (ws ++ [(q, .inl (cI, N', .inl (fun _ => 0)))]) → va_S A H0 H1 locs →
      W p l e R s m args below meth c H1 locs (cells + 1) (slots + N') Q (F0 m (pc + 2) ls (.ref q :: rest))) : W p l e R s m args below meth c H locs cells slots Q (F0 m pc ls (.int n :: rest)) := by
  refine va_newa (atype := .int) (a0 := (N', .inl (fun _ => 0))) (ty := .int) hexec hb harr rfl hK hP hD hS hA (fun cA => rfl) hn hN hbytes hcells hslots hdg (fun q cA H1 h1 h2 h3 h4 => ?_)
  have e := kn_same h1 ht (fun C h => by cases h)
  subst e
  exact kk q H1 h2 h3 h4
theorem kn_la {cL : ClassId} (hexec : p.tables.exec = Jvm.exec) (hb : c.code = cc) (harr : (Cond.arrayClass .long).before args s = true) (hK : va_K G vwCl tys s) (t0 : Nat) (ht : tys[t0]? = some (cL, .long)) (hP : va_P G vwCl ws H) (hD : va_D A ws) (hS : va_S A H0 H locs) (hA : ∀ q, H0.size ≤ q → A q)
    {n : Int32} (N' : Nat) (hn : ¬ n < 0) (hN : n.toNatClampNeg = N') (hbytes : N' * 8 ≤ 536870912) (hcells : cells + 1 ≤ R.cells) (hslots : slots + N' ≤ R.slots) (hdg : decode cc pc = .ok (.newarray .long, 2))
    (kk : ∀ (q : Nat) (H1 : Heap), va_P G vwCl (ws ++ [(q, .inl (cL, N', .inr (.inl (fun _ => 0))))]) H1 → va_D A (ws ++ [(q, .inl (cL, N', .inr (.inl (fun _ => 0))))]) → va_S A H0 H1 locs →
      W p l e R s m args below meth c H1 locs (cells + 1) (slots + N') Q (F0 m (pc + 2) ls (.ref q :: rest))) : W p l e R s m args below meth c H locs cells slots Q (F0 m pc ls (.int n :: rest)) := by
  refine va_newa (atype := .long) (a0 := (N', .inr (.inl (fun _ => 0)))) (ty := .long) hexec hb harr rfl hK hP hD hS hA (fun cA => rfl) hn hN hbytes hcells hslots hdg (fun q cA H1 h1 h2 h3 h4 => ?_)
  have e := kn_same h1 ht (fun C h => by cases h)
  subst e
  exact kk q H1 h2 h3 h4
theorem kn_ra {cT : ClassId} {C own : String} {index : Nat} (hexec : p.tables.exec = Jvm.exec) (hb : c.code = cc) (hown : s.vm.findClass own = some m.cls) (hclink : (Cond.classLink own index C).before args s = true) (hover : va_AO C s) (hK : va_K G vwCl tys s) (t0 : Nat) (ht : tys[t0]? = some (cT, .object C)) (hP : va_P G vwCl ws H) (hD : va_D A ws) (hS : va_S A H0 H locs) (hA : ∀ q, H0.size ≤ q → A q)
    {n : Int32} (N' : Nat) (hn : ¬ n < 0) (hN : n.toNatClampNeg = N') (hbytes : N' * 4 ≤ 536870912) (hcells : cells + 1 ≤ R.cells) (hslots : slots + N' ≤ R.slots) (hdg : decode cc pc = .ok (.anewarray index, 3))
    (kk : ∀ (q : Nat) (H1 : Heap), va_P G vwCl (ws ++ [(q, .inl (cT, N', .inr (.inr (.inr (.inr (fun _ => none))))))]) H1 → va_D A (ws ++ [(q, .inl (cT, N', .inr (.inr (.inr (.inr (fun _ => none))))))]) → va_S A H0 H1 locs →
      W p l e R s m args below meth c H1 locs (cells + 1) (slots + N') Q (F0 m (pc + 3) ls (.ref q :: rest))) : W p l e R s m args below meth c H locs cells slots Q (F0 m pc ls (.int n :: rest)) := by
  refine va_newq hexec hb hown hclink hover hK hP hD hS hA hn hN hbytes hcells hslots hdg (fun q cA H1 h1 h2 h3 h4 => ?_)
  have hl : t0 < tys.length := (List.getElem?_eq_some_iff.mp ht).1
  obtain ⟨kA, comp, x1, x2, x3, x4⟩ := (h1.2 t0 (cT, .object C) (by rw [List.getElem?_append_left hl]; exact ht)).2
  obtain ⟨kA', comp', y1, y2, y3, y4⟩ := (h1.2 tys.length (cA, .object C) (by rw [List.getElem?_append_right (Nat.le_refl _), Nat.sub_self]; rfl)).2
  have e : cT = cA := Option.some.inj (x4.symm.trans y4)
  subst e
  exact kk q H1 h2 h3 h4
end KF
