def fT_stretchOf (fu : Nat) (area : Int32) (state : Int32) (pf : Int32) (pw : Int32) (size : Int32) (xs : Nat → Int32) (ys : Nat → Int32) (ln : Nat → Int32) (sl : Nat → Int32) (fo : Nat → Int64) (tr : Nat → Int64) (p1 : Int32) (p2 : Int64) : Option ((Int64)) := (if ¬ (p1 < 0 ∨ 10 ≤ (p1).toNatClampNeg) then ((fL_quotient fu ((p2 * ((ln (p1).toNatClampNeg)).toInt64) * (1000 : Int64)) (((2 : Int64) * (area).toInt64) * (195000 : Int64))).bind fun r_29 => some r_29) else none)
def rmT_stretchOf : Room := { frames := 1, cells := 0, slots := 0, locals := 23 }
set_option maxHeartbeats 4000000 in
set_option maxRecDepth 100000 in
theorem mT_stretchOf (l : Launch) (dC : Nat → ClassId) (dI : Nat → Nat → Nat) (cI cL cT : ClassId) (t d xa ya la sa fa ra : Nat) (sz : Nat) (fu : Nat) (area : Int32) (state : Int32) (pf : Int32) (pw : Int32) (size : Int32) (xs : Nat → Int32) (ys : Nat → Int32) (ln : Nat → Int32) (sl : Nat → Int32) (fo : Nat → Int64) (tr : Nat → Int64) (p1 : Int32) (p2 : Int64) (o0 : Int64) (hf : fT_stretchOf fu area state pf pw size xs ys ln sl fo tr p1 p2 = some (o0)) : Met l yT_stretchOf wT_stretchOf rmT_stretchOf (kP (dC, dI) [(cI, .int), (cL, .long), (cT, .object "TendonLosses$Tendon")] [.ref t, .int p1, .long p2] [(t, .inr (2, [.ref d, .int area, .ref fa, .ref ra, .int state, .int pf, .int pw])), (d, .inr (0, [.ref xa, .ref ya, .ref la, .ref sa, .int size])), (xa, .inl (cI, 10, .inl xs)), (ya, .inl (cI, 10, .inl ys)), (la, .inl (cI, 10, .inl ln)), (sa, .inl (cI, 10, .inl sl)), (fa, .inl (cL, 10, .inr (.inl fo))), (ra, .inl (cL, 10, .inr (.inl tr)))] sz) (va_Ql (fun (r : Int64) (_ : Unit) => r = o0) (kB (dC, dI) [(cI, .int), (cL, .long), (cT, .object "TendonLosses$Tendon")] (va_A [(t, .inr (2, [.ref d, .int area, .ref fa, .ref ra, .int state, .int pf, .int pw])), (d, .inr (0, [.ref xa, .ref ya, .ref la, .ref sa, .int size])), (xa, .inl (cI, 10, .inl xs)), (ya, .inl (cI, 10, .inl ys)), (la, .inl (cI, 10, .inl ln)), (sa, .inl (cI, 10, .inl sl)), (fa, .inl (cL, 10, .inr (.inl fo))), (ra, .inl (cL, 10, .inr (.inl tr)))] sz) [(t, .inr (2, [.ref d, .int area, .ref fa, .ref ra, .int state, .int pf, .int pw])), (d, .inr (0, [.ref xa, .ref ya, .ref la, .ref sa, .int size])), (xa, .inl (cI, 10, .inl xs)), (ya, .inl (cI, 10, .inl ys)), (la, .inl (cI, 10, .inl ln)), (sa, .inl (cI, 10, .inl sl)), (fa, .inl (cL, 10, .inr (.inl fo))), (ra, .inl (cL, 10, .inr (.inl tr)))]) (va_A [(t, .inr (2, [.ref d, .int area, .ref fa, .ref ra, .int state, .int pf, .int pw])), (d, .inr (0, [.ref xa, .ref ya, .ref la, .ref sa, .int size])), (xa, .inl (cI, 10, .inl xs)), (ya, .inl (cI, 10, .inl ys)), (la, .inl (cI, 10, .inl ln)), (sa, .inl (cI, 10, .inl sl)), (fa, .inl (cL, 10, .inr (.inl fo))), (ra, .inl (cL, 10, .inr (.inl tr)))] sz)) 0 0 (va_A [(t, .inr (2, [.ref d, .int area, .ref fa, .ref ra, .int state, .int pf, .int pw])), (d, .inr (0, [.ref xa, .ref ya, .ref la, .ref sa, .int size])), (xa, .inl (cI, 10, .inl xs)), (ya, .inl (cI, 10, .inl ys)), (la, .inl (cI, 10, .inl ln)), (sa, .inl (cI, 10, .inl sl)), (fa, .inl (cL, 10, .inr (.inl fo))), (ra, .inl (cL, 10, .inr (.inl tr)))] sz) := by
  refine Met.ofW (cc := bT_stretchOf) (maxL := 4) (ret := (some .long)) (by decide) rfl ?_
  intro p e s m args below meth c s₁ B hml hv
  obtain ⟨rfl, hsz, hP, hK, hD0, hN⟩ := hv
  have hx := B.exec
  have hb := B.bytes
  have hr := B.returns
  have hts : ∀ w ∈ gt, w.before ([.ref t, .int p1, .long p2] : List Value).toArray s = true := fun w h => atoms_spec (ws := wT_stretchOf) B.pre w (List.mem_cons_of_mem _ h)
  have hown : s.vm.findClass "TendonLosses$Tendon" = some m.cls := findClass_of_methodNamed B.named
  have hlocks := B.notSynchronized
  subst hsz
  have hD := hD0.self (sz := s.heap.size)
  generalize hAe : va_A [(t, .inr (2, [.ref d, .int area, .ref fa, .ref ra, .int state, .int pf, .int pw])), (d, .inr (0, [.ref xa, .ref ya, .ref la, .ref sa, .int size])), (xa, .inl (cI, 10, .inl xs)), (ya, .inl (cI, 10, .inl ys)), (la, .inl (cI, 10, .inl ln)), (sa, .inl (cI, 10, .inl sl)), (fa, .inl (cL, 10, .inr (.inl fo))), (ra, .inl (cL, 10, .inr (.inl tr)))] s.heap.size = A at hD ⊢
  have hA : ∀ q : Nat, s.heap.size ≤ q → A q := fun q h => by rw [← hAe]; exact Or.inr h
  have hS : va_S A s.heap s.heap [] := va_S.rf
  have hP : va_P (dC, dI) vwCl [(t, .inr (2, [.ref d, .int area, .ref fa, .ref ra, .int state, .int pf, .int pw])), (d, .inr (0, [.ref xa, .ref ya, .ref la, .ref sa, .int size])), (xa, .inl (cI, 10, .inl xs)), (ya, .inl (cI, 10, .inl ys)), (la, .inl (cI, 10, .inl ln)), (sa, .inl (cI, 10, .inl sl)), (fa, .inl (cL, 10, .inr (.inl fo))), (ra, .inl (cL, 10, .inr (.inl tr)))] s.heap := hP
  have hl := lv_entry ([.ref t, .int p1, .long p2]) (n := 4) (Nat.le_of_ble_eq_true rfl)
  rw [lg_entry_eq]
  generalize (lg_sl ([.ref t, .int p1, .long p2]) ++ List.replicate (4 - (lg_sl ([.ref t, .int p1, .long p2])).length) Slot.unset).toArray = ls at hl ⊢
  have hl : lv_has ls 4 [(0, .ref t), (1, .int p1), (2, .long p2)] := hl
  refine W.nameQ (fun Q hQ => ?_)
  unfold fT_stretchOf at hf
  refine lv_lload_n hx hb dT_stretchOf_0 rfl (lv_at hl 2 rfl) ?_
  refine lv_aload_n hx hb dT_stretchOf_1 rfl (lv_at hl 0 rfl) ?_
  refine va_get (D := (dC, dI)) (ci := 2) (v := .ref d) (C := "TendonLosses$Tendon") (T := TT_T) (N := 7) hx hb hts in_T hown hK hP 0 rfl rfl 0 (by decide) (hts _ kw_130) (fun _ h9 => h9) rfl dT_stretchOf_2 ?_
  refine va_get (D := (dC, dI)) (ci := 0) (v := .ref la) (C := "TendonLosses$Duct") (T := TT_D) (N := 5) hx hb hts in_D hown hK hP 1 rfl rfl 2 (by decide) (hts _ kw_112) (fun _ h9 => h9) rfl dT_stretchOf_5 ?_
  refine lv_iload_n hx hb dT_stretchOf_8 rfl (lv_at hl 1 rfl) ?_
  obtain ⟨h_9, hf⟩ := o_c hf
  refine va_iald hx hb hK hP 4 0 rfl rfl h_9 dT_stretchOf_9 ?_
  refine lv_i2l (v := ((ln (p1).toNatClampNeg)).toInt64) hx hb dT_stretchOf_10 rfl ?_
  refine lv_lmul hx hb dT_stretchOf_11 ?_
  refine lv_ldc2 (v := (1000 : Int64)) hx hb hown (hts _ kw_264) dT_stretchOf_12 ?_
  refine lv_lmul hx hb dT_stretchOf_15 ?_
  refine lv_ldc2 (v := (2 : Int64)) hx hb hown (hts _ kw_265) dT_stretchOf_16 ?_
  refine lv_aload_n hx hb dT_stretchOf_19 rfl (lv_at hl 0 rfl) ?_
  refine va_get (D := (dC, dI)) (ci := 2) (v := .int area) (C := "TendonLosses$Tendon") (T := TT_T) (N := 7) hx hb hts in_T hown hK hP 0 rfl rfl 1 (by decide) (hts _ kw_132) (fun _ h9 => h9) rfl dT_stretchOf_20 ?_
  refine lv_i2l (v := (area).toInt64) hx hb dT_stretchOf_23 rfl ?_
  refine lv_lmul hx hb dT_stretchOf_24 ?_
  refine lv_ldc2 (v := (195000 : Int64)) hx hb hown (hts _ kw_266) dT_stretchOf_25 ?_
  refine lv_lmul hx hb dT_stretchOf_28 ?_
  obtain ⟨r_29, q_29, hf⟩ := o_b hf
  have hPc := hP.sub (ws' := []) [] rfl
  have hDc := hD.sub (ws' := []) [] (by decide) rfl
  refine kc_l (va_runSN (As := [.long ((p2 * ((ln (p1).toNatClampNeg)).toInt64) * (1000 : Int64)), .long (((2 : Int64) * (area).toInt64) * (195000 : Int64))]) (rest := []) ⟨hx, hb, hml, hown, hts⟩ (mL_quotient l dC dI cI cL cT  s.heap.size fu ((p2 * ((ln (p1).toNatClampNeg)).toInt64) * (1000 : Int64)) (((2 : Int64) * (area).toInt64) * (195000 : Int64)) (r_29) q_29) ⟨va_cnB 2 hts (gd_code kw_190) rfl rfl rfl hN.2.2.1 (hts _ kw_30) (by decide +kernel) ⟨Nat.le_of_ble_eq_true rfl, Nat.le_of_ble_eq_true rfl⟩, hts _ kw_189, trivial⟩ (kP_S hPc hK hDc hN) rfl rfl hl.1 rfl (lv_room (Nat.le_of_ble_eq_true rfl)) dT_stretchOf_29 ⟨Nat.le_of_ble_eq_true rfl, Nat.le_of_ble_eq_true rfl⟩) hP hD hS hA (wc := []) (wr := [(t, .inr (2, [.ref d, .int area, .ref fa, .ref ra, .int state, .int pf, .int pw])), (d, .inr (0, [.ref xa, .ref ya, .ref la, .ref sa, .int size])), (xa, .inl (cI, 10, .inl xs)), (ya, .inl (cI, 10, .inl ys)), (la, .inl (cI, 10, .inl ln)), (sa, .inl (cI, 10, .inl sl)), (fa, .inl (cL, 10, .inr (.inl fo))), (ra, .inl (cL, 10, .inr (.inl tr)))]) (w1 := []) (ws' := [(t, .inr (2, [.ref d, .int area, .ref fa, .ref ra, .int state, .int pf, .int pw])), (d, .inr (0, [.ref xa, .ref ya, .ref la, .ref sa, .int size])), (xa, .inl (cI, 10, .inl xs)), (ya, .inl (cI, 10, .inl ys)), (la, .inl (cI, 10, .inl ln)), (sa, .inl (cI, 10, .inl sl)), (fa, .inl (cL, 10, .inr (.inl fo))), (ra, .inl (cL, 10, .inr (.inl tr)))]) [] [0, 1, 2, 3, 4, 5, 6, 7] [0, 1, 2, 3, 4, 5, 6, 7] rfl rfl (by decide) (by decide) rfl (by decide) rfl (fun H locs hP hD hS => ?_)
  have e9 := Option.some.inj hf
  subst e9
  subst hQ
  exact W.lret (v := r_29) hx hb hr (fun t ht hW => ⟨⟨r_29, (), rfl, rfl, by rw [ht]; exact hP, va_K.moved hW.alike hK, hD⟩, hS.F ht⟩) hS.2.2 dT_stretchOf_32

def fT_stretch_L4 (fu : Nat) (area : Int32) (state : Int32) (pf : Int32) (pw : Int32) (size : Int32) (xs : Nat → Int32) (ys : Nat → Int32) (ln : Nat → Int32) (sl : Nat → Int32) (fo : Nat → Int64) (tr : Nat → Int64) : Nat → (Int32) → (Int64) → Option ((Int64))
  | 0, _, _ => none
  | n4 + 1, z4l3, z4l1 => (if (size - (1 : Int32)) ≤ z4l3 then some z4l1 else (if ¬ (z4l3 < 0 ∨ 10 ≤ (z4l3).toNatClampNeg) then (if ¬ ((z4l3 + (1 : Int32)) < 0 ∨ 10 ≤ ((z4l3 + (1 : Int32))).toNatClampNeg) then ((fT_stretchOf fu area state pf pw size xs ys ln sl fo tr z4l3 ((fo (z4l3).toNatClampNeg) + (fo ((z4l3 + (1 : Int32))).toNatClampNeg))).bind fun r_35 => fT_stretch_L4 fu area state pf pw size xs ys ln sl fo tr n4 (z4l3 + (1 : Int32)) (z4l1 + r_35)) else none) else none))
theorem fT_stretch_L4_z (fu : Nat) (area : Int32) (state : Int32) (pf : Int32) (pw : Int32) (size : Int32) (xs : Nat → Int32) (ys : Nat → Int32) (ln : Nat → Int32) (sl : Nat → Int32) (fo : Nat → Int64) (tr : Nat → Int64) (z4l3 : Int32) (z4l1 : Int64) : fT_stretch_L4 fu area state pf pw size xs ys ln sl fo tr 0 z4l3 z4l1 = none := rfl
theorem fT_stretch_L4_s (fu : Nat) (area : Int32) (state : Int32) (pf : Int32) (pw : Int32) (size : Int32) (xs : Nat → Int32) (ys : Nat → Int32) (ln : Nat → Int32) (sl : Nat → Int32) (fo : Nat → Int64) (tr : Nat → Int64) (z4l3 : Int32) (z4l1 : Int64) (n4 : Nat) : fT_stretch_L4 fu area state pf pw size xs ys ln sl fo tr (n4 + 1) z4l3 z4l1 = (if (size - (1 : Int32)) ≤ z4l3 then some z4l1 else (if ¬ (z4l3 < 0 ∨ 10 ≤ (z4l3).toNatClampNeg) then (if ¬ ((z4l3 + (1 : Int32)) < 0 ∨ 10 ≤ ((z4l3 + (1 : Int32))).toNatClampNeg) then ((fT_stretchOf fu area state pf pw size xs ys ln sl fo tr z4l3 ((fo (z4l3).toNatClampNeg) + (fo ((z4l3 + (1 : Int32))).toNatClampNeg))).bind fun r_35 => fT_stretch_L4 fu area state pf pw size xs ys ln sl fo tr n4 (z4l3 + (1 : Int32)) (z4l1 + r_35)) else none) else none)) := rfl
def fT_stretch (fu : Nat) (area : Int32) (state : Int32) (pf : Int32) (pw : Int32) (size : Int32) (xs : Nat → Int32) (ys : Nat → Int32) (ln : Nat → Int32) (sl : Nat → Int32) (fo : Nat → Int64) (tr : Nat → Int64) : Option ((Int64)) := fT_stretch_L4 fu area state pf pw size xs ys ln sl fo tr fu (0 : Int32) (0 : Int64)
def rmT_stretch : Room := { frames := 2, cells := 0, slots := 0, locals := 46 }
set_option maxHeartbeats 4000000 in
set_option maxRecDepth 100000 in
theorem mT_stretch (l : Launch) (dC : Nat → ClassId) (dI : Nat → Nat → Nat) (cI cL cT : ClassId) (t d xa ya la sa fa ra : Nat) (sz : Nat) (fu : Nat) (area : Int32) (state : Int32) (pf : Int32) (pw : Int32) (size : Int32) (xs : Nat → Int32) (ys : Nat → Int32) (ln : Nat → Int32) (sl : Nat → Int32) (fo : Nat → Int64) (tr : Nat → Int64) (o0 : Int64) (hf : fT_stretch fu area state pf pw size xs ys ln sl fo tr = some (o0)) : Met l yT_stretch wT_stretch rmT_stretch (kP (dC, dI) [(cI, .int), (cL, .long), (cT, .object "TendonLosses$Tendon")] [.ref t] [(t, .inr (2, [.ref d, .int area, .ref fa, .ref ra, .int state, .int pf, .int pw])), (d, .inr (0, [.ref xa, .ref ya, .ref la, .ref sa, .int size])), (xa, .inl (cI, 10, .inl xs)), (ya, .inl (cI, 10, .inl ys)), (la, .inl (cI, 10, .inl ln)), (sa, .inl (cI, 10, .inl sl)), (fa, .inl (cL, 10, .inr (.inl fo))), (ra, .inl (cL, 10, .inr (.inl tr)))] sz) (va_Ql (fun (r : Int64) (_ : Unit) => r = o0) (kB (dC, dI) [(cI, .int), (cL, .long), (cT, .object "TendonLosses$Tendon")] (va_A [(t, .inr (2, [.ref d, .int area, .ref fa, .ref ra, .int state, .int pf, .int pw])), (d, .inr (0, [.ref xa, .ref ya, .ref la, .ref sa, .int size])), (xa, .inl (cI, 10, .inl xs)), (ya, .inl (cI, 10, .inl ys)), (la, .inl (cI, 10, .inl ln)), (sa, .inl (cI, 10, .inl sl)), (fa, .inl (cL, 10, .inr (.inl fo))), (ra, .inl (cL, 10, .inr (.inl tr)))] sz) [(t, .inr (2, [.ref d, .int area, .ref fa, .ref ra, .int state, .int pf, .int pw])), (d, .inr (0, [.ref xa, .ref ya, .ref la, .ref sa, .int size])), (xa, .inl (cI, 10, .inl xs)), (ya, .inl (cI, 10, .inl ys)), (la, .inl (cI, 10, .inl ln)), (sa, .inl (cI, 10, .inl sl)), (fa, .inl (cL, 10, .inr (.inl fo))), (ra, .inl (cL, 10, .inr (.inl tr)))]) (va_A [(t, .inr (2, [.ref d, .int area, .ref fa, .ref ra, .int state, .int pf, .int pw])), (d, .inr (0, [.ref xa, .ref ya, .ref la, .ref sa, .int size])), (xa, .inl (cI, 10, .inl xs)), (ya, .inl (cI, 10, .inl ys)), (la, .inl (cI, 10, .inl ln)), (sa, .inl (cI, 10, .inl sl)), (fa, .inl (cL, 10, .inr (.inl fo))), (ra, .inl (cL, 10, .inr (.inl tr)))] sz)) 0 0 (va_A [(t, .inr (2, [.ref d, .int area, .ref fa, .ref ra, .int state, .int pf, .int pw])), (d, .inr (0, [.ref xa, .ref ya, .ref la, .ref sa, .int size])), (xa, .inl (cI, 10, .inl xs)), (ya, .inl (cI, 10, .inl ys)), (la, .inl (cI, 10, .inl ln)), (sa, .inl (cI, 10, .inl sl)), (fa, .inl (cL, 10, .inr (.inl fo))), (ra, .inl (cL, 10, .inr (.inl tr)))] sz) := by
  refine Met.ofW (cc := bT_stretch) (maxL := 4) (ret := (some .long)) (by decide) rfl ?_
  intro p e s m args below meth c s₁ B hml hv
  obtain ⟨rfl, hsz, hP, hK, hD0, hN⟩ := hv
  have hx := B.exec
  have hb := B.bytes
  have hr := B.returns
  have hts : ∀ w ∈ gt, w.before ([.ref t] : List Value).toArray s = true := fun w h => atoms_spec (ws := wT_stretch) B.pre w (List.mem_cons_of_mem _ h)
  have hown : s.vm.findClass "TendonLosses$Tendon" = some m.cls := findClass_of_methodNamed B.named
  have hlocks := B.notSynchronized
  subst hsz
  have hD := hD0.self (sz := s.heap.size)
  generalize hAe : va_A [(t, .inr (2, [.ref d, .int area, .ref fa, .ref ra, .int state, .int pf, .int pw])), (d, .inr (0, [.ref xa, .ref ya, .ref la, .ref sa, .int size])), (xa, .inl (cI, 10, .inl xs)), (ya, .inl (cI, 10, .inl ys)), (la, .inl (cI, 10, .inl ln)), (sa, .inl (cI, 10, .inl sl)), (fa, .inl (cL, 10, .inr (.inl fo))), (ra, .inl (cL, 10, .inr (.inl tr)))] s.heap.size = A at hD ⊢
  have hA : ∀ q : Nat, s.heap.size ≤ q → A q := fun q h => by rw [← hAe]; exact Or.inr h
  have hS : va_S A s.heap s.heap [] := va_S.rf
  have hP : va_P (dC, dI) vwCl [(t, .inr (2, [.ref d, .int area, .ref fa, .ref ra, .int state, .int pf, .int pw])), (d, .inr (0, [.ref xa, .ref ya, .ref la, .ref sa, .int size])), (xa, .inl (cI, 10, .inl xs)), (ya, .inl (cI, 10, .inl ys)), (la, .inl (cI, 10, .inl ln)), (sa, .inl (cI, 10, .inl sl)), (fa, .inl (cL, 10, .inr (.inl fo))), (ra, .inl (cL, 10, .inr (.inl tr)))] s.heap := hP
  have hl := lv_entry ([.ref t]) (n := 4) (Nat.le_of_ble_eq_true rfl)
  rw [lg_entry_eq]
  generalize (lg_sl ([.ref t]) ++ List.replicate (4 - (lg_sl ([.ref t])).length) Slot.unset).toArray = ls at hl ⊢
  have hl : lv_has ls 4 [(0, .ref t)] := hl
  refine W.nameQ (fun Q hQ => ?_)
  unfold fT_stretch at hf
  refine lv_lconst (v := (0 : Int64)) hx hb dT_stretch_0 (by decide) ?_
  refine lv_lstore_n (lv' := [(1, .long (0 : Int64)), (0, .ref t)]) hx hb dT_stretch_1 rfl hl (by decide) rfl (fun ls hl => ?_)
  refine lv_iconst (v := (0 : Int32)) hx hb dT_stretch_2 (by decide) ?_
  refine lv_istore_n (lv' := [(3, .int (0 : Int32)), (1, .long (0 : Int64)), (0, .ref t)]) hx hb dT_stretch_3 rfl hl (by decide) rfl (fun ls hl => ?_)
  have L4 : ∀ (n4 : Nat) (z4l3 : Int32) (z4l1 : Int64) (H : Heap) (locs : List Loc) (ls : Array Slot), va_P (dC, dI) vwCl [(t, .inr (2, [.ref d, .int area, .ref fa, .ref ra, .int state, .int pf, .int pw])), (d, .inr (0, [.ref xa, .ref ya, .ref la, .ref sa, .int size])), (xa, .inl (cI, 10, .inl xs)), (ya, .inl (cI, 10, .inl ys)), (la, .inl (cI, 10, .inl ln)), (sa, .inl (cI, 10, .inl sl)), (fa, .inl (cL, 10, .inr (.inl fo))), (ra, .inl (cL, 10, .inr (.inl tr)))] H → va_D A [(t, .inr (2, [.ref d, .int area, .ref fa, .ref ra, .int state, .int pf, .int pw])), (d, .inr (0, [.ref xa, .ref ya, .ref la, .ref sa, .int size])), (xa, .inl (cI, 10, .inl xs)), (ya, .inl (cI, 10, .inl ys)), (la, .inl (cI, 10, .inl ln)), (sa, .inl (cI, 10, .inl sl)), (fa, .inl (cL, 10, .inr (.inl fo))), (ra, .inl (cL, 10, .inr (.inl tr)))] → va_S A s.heap H locs → lv_has ls 4 [(3, .int z4l3), (1, .long z4l1), (0, .ref t)] → fT_stretch_L4 fu area state pf pw size xs ys ln sl fo tr n4 z4l3 z4l1 = some (o0) → W p l e (headSpec wT_stretch rmT_stretch).room s m ([.ref t] : List Value).toArray below meth c H locs 0 0 Q (F0 m 4 ls []) := by
    intro n4
    induction n4 with
    | zero =>
      intro z4l3 z4l1 H locs ls hP hD hS hl hf
      rw [fT_stretch_L4_z] at hf
      cases hf
    | succ n4 ih4 =>
      intro z4l3 z4l1 H locs ls hP hD hS hl hf
      rw [fT_stretch_L4_s] at hf
      refine lv_iload_n hx hb dT_stretch_4 rfl (lv_at hl 0 rfl) ?_
      refine lv_aload_n hx hb dT_stretch_5 rfl (lv_at hl 2 rfl) ?_
      refine va_get (D := (dC, dI)) (ci := 2) (v := .ref d) (C := "TendonLosses$Tendon") (T := TT_T) (N := 7) hx hb hts in_T hown hK hP 0 rfl rfl 0 (by decide) (hts _ kw_130) (fun _ h9 => h9) rfl dT_stretch_6 ?_
      refine va_get (D := (dC, dI)) (ci := 0) (v := .int size) (C := "TendonLosses$Duct") (T := TT_D) (N := 5) hx hb hts in_D hown hK hP 1 rfl rfl 4 (by decide) (hts _ kw_117) (fun _ h9 => h9) rfl dT_stretch_9 ?_
      refine lv_iconst (v := (1 : Int32)) hx hb dT_stretch_12 (by decide) ?_
      refine lv_isub hx hb dT_stretch_13 ?_
      refine lv_icmp_ge (tgt := 46) hx hb dT_stretch_14 (by decide) (fun c_14 => ?_) (fun c_14 => ?_)
      · have hf := o_t hf c_14
        refine lv_lload_n hx hb dT_stretch_46 rfl (lv_at hl 1 rfl) ?_
        have e9 := Option.some.inj hf
        subst e9
        subst hQ
        exact W.lret (v := z4l1) hx hb hr (fun t ht hW => ⟨⟨z4l1, (), rfl, rfl, by rw [ht]; exact hP, va_K.moved hW.alike hK, hD⟩, hS.F ht⟩) hS.2.2 dT_stretch_47
      · have hf := o_f hf c_14
        refine lv_lload_n hx hb dT_stretch_17 rfl (lv_at hl 1 rfl) ?_
        refine lv_aload_n hx hb dT_stretch_18 rfl (lv_at hl 2 rfl) ?_
        refine lv_iload_n hx hb dT_stretch_19 rfl (lv_at hl 0 rfl) ?_
        refine lv_aload_n hx hb dT_stretch_20 rfl (lv_at hl 2 rfl) ?_
        refine va_get (D := (dC, dI)) (ci := 2) (v := .ref fa) (C := "TendonLosses$Tendon") (T := TT_T) (N := 7) hx hb hts in_T hown hK hP 0 rfl rfl 2 (by decide) (hts _ kw_133) (fun _ h9 => h9) rfl dT_stretch_21 ?_
        refine lv_iload_n hx hb dT_stretch_24 rfl (lv_at hl 0 rfl) ?_
        obtain ⟨h_25, hf⟩ := o_c hf
        refine va_lald hx hb hK hP 6 1 rfl rfl h_25 dT_stretch_25 ?_
        refine lv_aload_n hx hb dT_stretch_26 rfl (lv_at hl 2 rfl) ?_
        refine va_get (D := (dC, dI)) (ci := 2) (v := .ref fa) (C := "TendonLosses$Tendon") (T := TT_T) (N := 7) hx hb hts in_T hown hK hP 0 rfl rfl 2 (by decide) (hts _ kw_133) (fun _ h9 => h9) rfl dT_stretch_27 ?_
        refine lv_iload_n hx hb dT_stretch_30 rfl (lv_at hl 0 rfl) ?_
        refine lv_iconst (v := (1 : Int32)) hx hb dT_stretch_31 (by decide) ?_
        refine lv_iadd hx hb dT_stretch_32 ?_
        obtain ⟨h_33, hf⟩ := o_c hf
        refine va_lald hx hb hK hP 6 1 rfl rfl h_33 dT_stretch_33 ?_
        refine lv_ladd hx hb dT_stretch_34 ?_
        obtain ⟨r_35, q_35, hf⟩ := o_b hf
        have hPc := hP.sub (ws' := [(t, .inr (2, [.ref d, .int area, .ref fa, .ref ra, .int state, .int pf, .int pw])), (d, .inr (0, [.ref xa, .ref ya, .ref la, .ref sa, .int size])), (xa, .inl (cI, 10, .inl xs)), (ya, .inl (cI, 10, .inl ys)), (la, .inl (cI, 10, .inl ln)), (sa, .inl (cI, 10, .inl sl)), (fa, .inl (cL, 10, .inr (.inl fo))), (ra, .inl (cL, 10, .inr (.inl tr)))]) [0, 1, 2, 3, 4, 5, 6, 7] rfl
        have hDc := hD.sub (ws' := [(t, .inr (2, [.ref d, .int area, .ref fa, .ref ra, .int state, .int pf, .int pw])), (d, .inr (0, [.ref xa, .ref ya, .ref la, .ref sa, .int size])), (xa, .inl (cI, 10, .inl xs)), (ya, .inl (cI, 10, .inl ys)), (la, .inl (cI, 10, .inl ln)), (sa, .inl (cI, 10, .inl sl)), (fa, .inl (cL, 10, .inr (.inl fo))), (ra, .inl (cL, 10, .inr (.inl tr)))]) [0, 1, 2, 3, 4, 5, 6, 7] (by decide) rfl
        refine kc_l (va_runV (As := [.int z4l3, .long ((fo (z4l3).toNatClampNeg) + (fo ((z4l3 + (1 : Int32))).toNatClampNeg))]) (rest := [.long z4l1]) ⟨hx, hb, hml, hown, hts⟩ (mT_stretchOf l dC dI cI cL cT t d xa ya la sa fa ra H.size fu area state pf pw size xs ys ln sl fo tr z4l3 ((fo (z4l3).toNatClampNeg) + (fo ((z4l3 + (1 : Int32))).toNatClampNeg)) (r_35) q_35) ⟨callB_of 2 hts (gd_code kw_263) rfl rfl rfl (hts _ kw_33) (hts _ kw_260) (by decide +kernel) ⟨Nat.le_of_ble_eq_true rfl, Nat.le_of_ble_eq_true rfl⟩, hts _ kw_262, hts _ kw_4⟩ (kP_V hPc hK hDc hN (va_recv hK hPc (ci := 2) (q0 := 0) rfl rfl)) rfl rfl hl.1 rfl (lv_room (Nat.le_of_ble_eq_true rfl)) dT_stretch_35 ⟨Nat.le_of_ble_eq_true rfl, Nat.le_of_ble_eq_true rfl⟩) hP hD hS hA (wc := [(t, .inr (2, [.ref d, .int area, .ref fa, .ref ra, .int state, .int pf, .int pw])), (d, .inr (0, [.ref xa, .ref ya, .ref la, .ref sa, .int size])), (xa, .inl (cI, 10, .inl xs)), (ya, .inl (cI, 10, .inl ys)), (la, .inl (cI, 10, .inl ln)), (sa, .inl (cI, 10, .inl sl)), (fa, .inl (cL, 10, .inr (.inl fo))), (ra, .inl (cL, 10, .inr (.inl tr)))]) (wr := []) (w1 := [(t, .inr (2, [.ref d, .int area, .ref fa, .ref ra, .int state, .int pf, .int pw])), (d, .inr (0, [.ref xa, .ref ya, .ref la, .ref sa, .int size])), (xa, .inl (cI, 10, .inl xs)), (ya, .inl (cI, 10, .inl ys)), (la, .inl (cI, 10, .inl ln)), (sa, .inl (cI, 10, .inl sl)), (fa, .inl (cL, 10, .inr (.inl fo))), (ra, .inl (cL, 10, .inr (.inl tr)))]) (ws' := [(t, .inr (2, [.ref d, .int area, .ref fa, .ref ra, .int state, .int pf, .int pw])), (d, .inr (0, [.ref xa, .ref ya, .ref la, .ref sa, .int size])), (xa, .inl (cI, 10, .inl xs)), (ya, .inl (cI, 10, .inl ys)), (la, .inl (cI, 10, .inl ln)), (sa, .inl (cI, 10, .inl sl)), (fa, .inl (cL, 10, .inr (.inl fo))), (ra, .inl (cL, 10, .inr (.inl tr)))]) [0, 1, 2, 3, 4, 5, 6, 7] [] [0, 1, 2, 3, 4, 5, 6, 7] rfl rfl (by decide) (by decide) rfl (by decide) rfl (fun H locs hP hD hS => ?_)
        refine lv_ladd hx hb dT_stretch_38 ?_
        refine lv_lstore_n (lv' := [(1, .long (z4l1 + r_35)), (3, .int z4l3), (0, .ref t)]) hx hb dT_stretch_39 rfl hl (by decide) rfl (fun ls hl => ?_)
        refine lv_iinc (v := (z4l3 + (1 : Int32))) (lv' := [(3, .int (z4l3 + (1 : Int32))), (1, .long (z4l1 + r_35)), (0, .ref t)]) hx hb dT_stretch_40 hl (k := 1) rfl rfl (by decide) rfl (fun ls hl => ?_)
        refine lv_goto (tgt := 4) hx hb dT_stretch_43 (by decide) ?_
        exact ih4 _ _ H locs ls hP hD hS (lv_sub hl [0, 1, 2] rfl) hf
  exact L4 fu _ _ _ _ ls hP hD hS (lv_sub hl [0, 1, 2] rfl) hf

def fT_shortening_L4 (fu : Nat) (area : Int32) (state : Int32) (pf : Int32) (pw : Int32) (size : Int32) (xs : Nat → Int32) (ys : Nat → Int32) (ln : Nat → Int32) (sl : Nat → Int32) (fo : Nat → Int64) (tr : Nat → Int64) : Nat → (Int32) → (Int64) → Option ((Int64))
  | 0, _, _ => none
  | n4 + 1, z4l3, z4l1 => (if (size - (1 : Int32)) ≤ z4l3 then some z4l1 else (if ¬ (z4l3 < 0 ∨ 10 ≤ (z4l3).toNatClampNeg) then (if ¬ (z4l3 < 0 ∨ 10 ≤ (z4l3).toNatClampNeg) then (if ¬ ((z4l3 + (1 : Int32)) < 0 ∨ 10 ≤ ((z4l3 + (1 : Int32))).toNatClampNeg) then (if ¬ ((z4l3 + (1 : Int32)) < 0 ∨ 10 ≤ ((z4l3 + (1 : Int32))).toNatClampNeg) then ((fT_stretchOf fu area state pf pw size xs ys ln sl fo tr z4l3 ((((fo (z4l3).toNatClampNeg) - (tr (z4l3).toNatClampNeg)) + (fo ((z4l3 + (1 : Int32))).toNatClampNeg)) - (tr ((z4l3 + (1 : Int32))).toNatClampNeg))).bind fun r_51 => fT_shortening_L4 fu area state pf pw size xs ys ln sl fo tr n4 (z4l3 + (1 : Int32)) (z4l1 + r_51)) else none) else none) else none) else none))
theorem fT_shortening_L4_z (fu : Nat) (area : Int32) (state : Int32) (pf : Int32) (pw : Int32) (size : Int32) (xs : Nat → Int32) (ys : Nat → Int32) (ln : Nat → Int32) (sl : Nat → Int32) (fo : Nat → Int64) (tr : Nat → Int64) (z4l3 : Int32) (z4l1 : Int64) : fT_shortening_L4 fu area state pf pw size xs ys ln sl fo tr 0 z4l3 z4l1 = none := rfl
theorem fT_shortening_L4_s (fu : Nat) (area : Int32) (state : Int32) (pf : Int32) (pw : Int32) (size : Int32) (xs : Nat → Int32) (ys : Nat → Int32) (ln : Nat → Int32) (sl : Nat → Int32) (fo : Nat → Int64) (tr : Nat → Int64) (z4l3 : Int32) (z4l1 : Int64) (n4 : Nat) : fT_shortening_L4 fu area state pf pw size xs ys ln sl fo tr (n4 + 1) z4l3 z4l1 = (if (size - (1 : Int32)) ≤ z4l3 then some z4l1 else (if ¬ (z4l3 < 0 ∨ 10 ≤ (z4l3).toNatClampNeg) then (if ¬ (z4l3 < 0 ∨ 10 ≤ (z4l3).toNatClampNeg) then (if ¬ ((z4l3 + (1 : Int32)) < 0 ∨ 10 ≤ ((z4l3 + (1 : Int32))).toNatClampNeg) then (if ¬ ((z4l3 + (1 : Int32)) < 0 ∨ 10 ≤ ((z4l3 + (1 : Int32))).toNatClampNeg) then ((fT_stretchOf fu area state pf pw size xs ys ln sl fo tr z4l3 ((((fo (z4l3).toNatClampNeg) - (tr (z4l3).toNatClampNeg)) + (fo ((z4l3 + (1 : Int32))).toNatClampNeg)) - (tr ((z4l3 + (1 : Int32))).toNatClampNeg))).bind fun r_51 => fT_shortening_L4 fu area state pf pw size xs ys ln sl fo tr n4 (z4l3 + (1 : Int32)) (z4l1 + r_51)) else none) else none) else none) else none)) := rfl
def fT_shortening (fu : Nat) (area : Int32) (state : Int32) (pf : Int32) (pw : Int32) (size : Int32) (xs : Nat → Int32) (ys : Nat → Int32) (ln : Nat → Int32) (sl : Nat → Int32) (fo : Nat → Int64) (tr : Nat → Int64) : Option ((Int64)) := fT_shortening_L4 fu area state pf pw size xs ys ln sl fo tr fu (0 : Int32) (0 : Int64)
def rmT_shortening : Room := { frames := 2, cells := 0, slots := 0, locals := 46 }
set_option maxHeartbeats 4000000 in
set_option maxRecDepth 100000 in
theorem mT_shortening (l : Launch) (dC : Nat → ClassId) (dI : Nat → Nat → Nat) (cI cL cT : ClassId) (t d xa ya la sa fa ra : Nat) (sz : Nat) (fu : Nat) (area : Int32) (state : Int32) (pf : Int32) (pw : Int32) (size : Int32) (xs : Nat → Int32) (ys : Nat → Int32) (ln : Nat → Int32) (sl : Nat → Int32) (fo : Nat → Int64) (tr : Nat → Int64) (o0 : Int64) (hf : fT_shortening fu area state pf pw size xs ys ln sl fo tr = some (o0)) : Met l yT_shortening wT_shortening rmT_shortening (kP (dC, dI) [(cI, .int), (cL, .long), (cT, .object "TendonLosses$Tendon")] [.ref t] [(t, .inr (2, [.ref d, .int area, .ref fa, .ref ra, .int state, .int pf, .int pw])), (d, .inr (0, [.ref xa, .ref ya, .ref la, .ref sa, .int size])), (xa, .inl (cI, 10, .inl xs)), (ya, .inl (cI, 10, .inl ys)), (la, .inl (cI, 10, .inl ln)), (sa, .inl (cI, 10, .inl sl)), (fa, .inl (cL, 10, .inr (.inl fo))), (ra, .inl (cL, 10, .inr (.inl tr)))] sz) (va_Ql (fun (r : Int64) (_ : Unit) => r = o0) (kB (dC, dI) [(cI, .int), (cL, .long), (cT, .object "TendonLosses$Tendon")] (va_A [(t, .inr (2, [.ref d, .int area, .ref fa, .ref ra, .int state, .int pf, .int pw])), (d, .inr (0, [.ref xa, .ref ya, .ref la, .ref sa, .int size])), (xa, .inl (cI, 10, .inl xs)), (ya, .inl (cI, 10, .inl ys)), (la, .inl (cI, 10, .inl ln)), (sa, .inl (cI, 10, .inl sl)), (fa, .inl (cL, 10, .inr (.inl fo))), (ra, .inl (cL, 10, .inr (.inl tr)))] sz) [(t, .inr (2, [.ref d, .int area, .ref fa, .ref ra, .int state, .int pf, .int pw])), (d, .inr (0, [.ref xa, .ref ya, .ref la, .ref sa, .int size])), (xa, .inl (cI, 10, .inl xs)), (ya, .inl (cI, 10, .inl ys)), (la, .inl (cI, 10, .inl ln)), (sa, .inl (cI, 10, .inl sl)), (fa, .inl (cL, 10, .inr (.inl fo))), (ra, .inl (cL, 10, .inr (.inl tr)))]) (va_A [(t, .inr (2, [.ref d, .int area, .ref fa, .ref ra, .int state, .int pf, .int pw])), (d, .inr (0, [.ref xa, .ref ya, .ref la, .ref sa, .int size])), (xa, .inl (cI, 10, .inl xs)), (ya, .inl (cI, 10, .inl ys)), (la, .inl (cI, 10, .inl ln)), (sa, .inl (cI, 10, .inl sl)), (fa, .inl (cL, 10, .inr (.inl fo))), (ra, .inl (cL, 10, .inr (.inl tr)))] sz)) 0 0 (va_A [(t, .inr (2, [.ref d, .int area, .ref fa, .ref ra, .int state, .int pf, .int pw])), (d, .inr (0, [.ref xa, .ref ya, .ref la, .ref sa, .int size])), (xa, .inl (cI, 10, .inl xs)), (ya, .inl (cI, 10, .inl ys)), (la, .inl (cI, 10, .inl ln)), (sa, .inl (cI, 10, .inl sl)), (fa, .inl (cL, 10, .inr (.inl fo))), (ra, .inl (cL, 10, .inr (.inl tr)))] sz) := by
  refine Met.ofW (cc := bT_shortening) (maxL := 4) (ret := (some .long)) (by decide) rfl ?_
  intro p e s m args below meth c s₁ B hml hv
  obtain ⟨rfl, hsz, hP, hK, hD0, hN⟩ := hv
  have hx := B.exec
  have hb := B.bytes
  have hr := B.returns
  have hts : ∀ w ∈ gt, w.before ([.ref t] : List Value).toArray s = true := fun w h => atoms_spec (ws := wT_shortening) B.pre w (List.mem_cons_of_mem _ h)
  have hown : s.vm.findClass "TendonLosses$Tendon" = some m.cls := findClass_of_methodNamed B.named
  have hlocks := B.notSynchronized
  subst hsz
  have hD := hD0.self (sz := s.heap.size)
  generalize hAe : va_A [(t, .inr (2, [.ref d, .int area, .ref fa, .ref ra, .int state, .int pf, .int pw])), (d, .inr (0, [.ref xa, .ref ya, .ref la, .ref sa, .int size])), (xa, .inl (cI, 10, .inl xs)), (ya, .inl (cI, 10, .inl ys)), (la, .inl (cI, 10, .inl ln)), (sa, .inl (cI, 10, .inl sl)), (fa, .inl (cL, 10, .inr (.inl fo))), (ra, .inl (cL, 10, .inr (.inl tr)))] s.heap.size = A at hD ⊢
  have hA : ∀ q : Nat, s.heap.size ≤ q → A q := fun q h => by rw [← hAe]; exact Or.inr h
  have hS : va_S A s.heap s.heap [] := va_S.rf
  have hP : va_P (dC, dI) vwCl [(t, .inr (2, [.ref d, .int area, .ref fa, .ref ra, .int state, .int pf, .int pw])), (d, .inr (0, [.ref xa, .ref ya, .ref la, .ref sa, .int size])), (xa, .inl (cI, 10, .inl xs)), (ya, .inl (cI, 10, .inl ys)), (la, .inl (cI, 10, .inl ln)), (sa, .inl (cI, 10, .inl sl)), (fa, .inl (cL, 10, .inr (.inl fo))), (ra, .inl (cL, 10, .inr (.inl tr)))] s.heap := hP
  have hl := lv_entry ([.ref t]) (n := 4) (Nat.le_of_ble_eq_true rfl)
  rw [lg_entry_eq]
  generalize (lg_sl ([.ref t]) ++ List.replicate (4 - (lg_sl ([.ref t])).length) Slot.unset).toArray = ls at hl ⊢
  have hl : lv_has ls 4 [(0, .ref t)] := hl
  refine W.nameQ (fun Q hQ => ?_)
  unfold fT_shortening at hf
  refine lv_lconst (v := (0 : Int64)) hx hb dT_shortening_0 (by decide) ?_
  refine lv_lstore_n (lv' := [(1, .long (0 : Int64)), (0, .ref t)]) hx hb dT_shortening_1 rfl hl (by decide) rfl (fun ls hl => ?_)
  refine lv_iconst (v := (0 : Int32)) hx hb dT_shortening_2 (by decide) ?_
  refine lv_istore_n (lv' := [(3, .int (0 : Int32)), (1, .long (0 : Int64)), (0, .ref t)]) hx hb dT_shortening_3 rfl hl (by decide) rfl (fun ls hl => ?_)
  have L4 : ∀ (n4 : Nat) (z4l3 : Int32) (z4l1 : Int64) (H : Heap) (locs : List Loc) (ls : Array Slot), va_P (dC, dI) vwCl [(t, .inr (2, [.ref d, .int area, .ref fa, .ref ra, .int state, .int pf, .int pw])), (d, .inr (0, [.ref xa, .ref ya, .ref la, .ref sa, .int size])), (xa, .inl (cI, 10, .inl xs)), (ya, .inl (cI, 10, .inl ys)), (la, .inl (cI, 10, .inl ln)), (sa, .inl (cI, 10, .inl sl)), (fa, .inl (cL, 10, .inr (.inl fo))), (ra, .inl (cL, 10, .inr (.inl tr)))] H → va_D A [(t, .inr (2, [.ref d, .int area, .ref fa, .ref ra, .int state, .int pf, .int pw])), (d, .inr (0, [.ref xa, .ref ya, .ref la, .ref sa, .int size])), (xa, .inl (cI, 10, .inl xs)), (ya, .inl (cI, 10, .inl ys)), (la, .inl (cI, 10, .inl ln)), (sa, .inl (cI, 10, .inl sl)), (fa, .inl (cL, 10, .inr (.inl fo))), (ra, .inl (cL, 10, .inr (.inl tr)))] → va_S A s.heap H locs → lv_has ls 4 [(3, .int z4l3), (1, .long z4l1), (0, .ref t)] → fT_shortening_L4 fu area state pf pw size xs ys ln sl fo tr n4 z4l3 z4l1 = some (o0) → W p l e (headSpec wT_shortening rmT_shortening).room s m ([.ref t] : List Value).toArray below meth c H locs 0 0 Q (F0 m 4 ls []) := by
    intro n4
    induction n4 with
    | zero =>
      intro z4l3 z4l1 H locs ls hP hD hS hl hf
      rw [fT_shortening_L4_z] at hf
      cases hf
    | succ n4 ih4 =>
      intro z4l3 z4l1 H locs ls hP hD hS hl hf
      rw [fT_shortening_L4_s] at hf
      refine lv_iload_n hx hb dT_shortening_4 rfl (lv_at hl 0 rfl) ?_
      refine lv_aload_n hx hb dT_shortening_5 rfl (lv_at hl 2 rfl) ?_
      refine va_get (D := (dC, dI)) (ci := 2) (v := .ref d) (C := "TendonLosses$Tendon") (T := TT_T) (N := 7) hx hb hts in_T hown hK hP 0 rfl rfl 0 (by decide) (hts _ kw_130) (fun _ h9 => h9) rfl dT_shortening_6 ?_
      refine va_get (D := (dC, dI)) (ci := 0) (v := .int size) (C := "TendonLosses$Duct") (T := TT_D) (N := 5) hx hb hts in_D hown hK hP 1 rfl rfl 4 (by decide) (hts _ kw_117) (fun _ h9 => h9) rfl dT_shortening_9 ?_
      refine lv_iconst (v := (1 : Int32)) hx hb dT_shortening_12 (by decide) ?_
      refine lv_isub hx hb dT_shortening_13 ?_
      refine lv_icmp_ge (tgt := 62) hx hb dT_shortening_14 (by decide) (fun c_14 => ?_) (fun c_14 => ?_)
      · have hf := o_t hf c_14
        refine lv_lload_n hx hb dT_shortening_62 rfl (lv_at hl 1 rfl) ?_
        have e9 := Option.some.inj hf
        subst e9
        subst hQ
        exact W.lret (v := z4l1) hx hb hr (fun t ht hW => ⟨⟨z4l1, (), rfl, rfl, by rw [ht]; exact hP, va_K.moved hW.alike hK, hD⟩, hS.F ht⟩) hS.2.2 dT_shortening_63
      · have hf := o_f hf c_14
        refine lv_lload_n hx hb dT_shortening_17 rfl (lv_at hl 1 rfl) ?_
        refine lv_aload_n hx hb dT_shortening_18 rfl (lv_at hl 2 rfl) ?_
        refine lv_iload_n hx hb dT_shortening_19 rfl (lv_at hl 0 rfl) ?_
        refine lv_aload_n hx hb dT_shortening_20 rfl (lv_at hl 2 rfl) ?_
        refine va_get (D := (dC, dI)) (ci := 2) (v := .ref fa) (C := "TendonLosses$Tendon") (T := TT_T) (N := 7) hx hb hts in_T hown hK hP 0 rfl rfl 2 (by decide) (hts _ kw_133) (fun _ h9 => h9) rfl dT_shortening_21 ?_
        refine lv_iload_n hx hb dT_shortening_24 rfl (lv_at hl 0 rfl) ?_
        obtain ⟨h_25, hf⟩ := o_c hf
        refine va_lald hx hb hK hP 6 1 rfl rfl h_25 dT_shortening_25 ?_
        refine lv_aload_n hx hb dT_shortening_26 rfl (lv_at hl 2 rfl) ?_
        refine va_get (D := (dC, dI)) (ci := 2) (v := .ref ra) (C := "TendonLosses$Tendon") (T := TT_T) (N := 7) hx hb hts in_T hown hK hP 0 rfl rfl 3 (by decide) (hts _ kw_135) (fun _ h9 => h9) rfl dT_shortening_27 ?_
        refine lv_iload_n hx hb dT_shortening_30 rfl (lv_at hl 0 rfl) ?_
        obtain ⟨h_31, hf⟩ := o_c hf
        refine va_lald hx hb hK hP 7 1 rfl rfl h_31 dT_shortening_31 ?_
        refine lv_lsub hx hb dT_shortening_32 ?_
        refine lv_aload_n hx hb dT_shortening_33 rfl (lv_at hl 2 rfl) ?_
        refine va_get (D := (dC, dI)) (ci := 2) (v := .ref fa) (C := "TendonLosses$Tendon") (T := TT_T) (N := 7) hx hb hts in_T hown hK hP 0 rfl rfl 2 (by decide) (hts _ kw_133) (fun _ h9 => h9) rfl dT_shortening_34 ?_
        refine lv_iload_n hx hb dT_shortening_37 rfl (lv_at hl 0 rfl) ?_
        refine lv_iconst (v := (1 : Int32)) hx hb dT_shortening_38 (by decide) ?_
        refine lv_iadd hx hb dT_shortening_39 ?_
        obtain ⟨h_40, hf⟩ := o_c hf
        refine va_lald hx hb hK hP 6 1 rfl rfl h_40 dT_shortening_40 ?_
        refine lv_ladd hx hb dT_shortening_41 ?_
        refine lv_aload_n hx hb dT_shortening_42 rfl (lv_at hl 2 rfl) ?_
        refine va_get (D := (dC, dI)) (ci := 2) (v := .ref ra) (C := "TendonLosses$Tendon") (T := TT_T) (N := 7) hx hb hts in_T hown hK hP 0 rfl rfl 3 (by decide) (hts _ kw_135) (fun _ h9 => h9) rfl dT_shortening_43 ?_
        refine lv_iload_n hx hb dT_shortening_46 rfl (lv_at hl 0 rfl) ?_
        refine lv_iconst (v := (1 : Int32)) hx hb dT_shortening_47 (by decide) ?_
        refine lv_iadd hx hb dT_shortening_48 ?_
        obtain ⟨h_49, hf⟩ := o_c hf
        refine va_lald hx hb hK hP 7 1 rfl rfl h_49 dT_shortening_49 ?_
        refine lv_lsub hx hb dT_shortening_50 ?_
        obtain ⟨r_51, q_51, hf⟩ := o_b hf
        have hPc := hP.sub (ws' := [(t, .inr (2, [.ref d, .int area, .ref fa, .ref ra, .int state, .int pf, .int pw])), (d, .inr (0, [.ref xa, .ref ya, .ref la, .ref sa, .int size])), (xa, .inl (cI, 10, .inl xs)), (ya, .inl (cI, 10, .inl ys)), (la, .inl (cI, 10, .inl ln)), (sa, .inl (cI, 10, .inl sl)), (fa, .inl (cL, 10, .inr (.inl fo))), (ra, .inl (cL, 10, .inr (.inl tr)))]) [0, 1, 2, 3, 4, 5, 6, 7] rfl
        have hDc := hD.sub (ws' := [(t, .inr (2, [.ref d, .int area, .ref fa, .ref ra, .int state, .int pf, .int pw])), (d, .inr (0, [.ref xa, .ref ya, .ref la, .ref sa, .int size])), (xa, .inl (cI, 10, .inl xs)), (ya, .inl (cI, 10, .inl ys)), (la, .inl (cI, 10, .inl ln)), (sa, .inl (cI, 10, .inl sl)), (fa, .inl (cL, 10, .inr (.inl fo))), (ra, .inl (cL, 10, .inr (.inl tr)))]) [0, 1, 2, 3, 4, 5, 6, 7] (by decide) rfl
        refine kc_l (va_runV (As := [.int z4l3, .long ((((fo (z4l3).toNatClampNeg) - (tr (z4l3).toNatClampNeg)) + (fo ((z4l3 + (1 : Int32))).toNatClampNeg)) - (tr ((z4l3 + (1 : Int32))).toNatClampNeg))]) (rest := [.long z4l1]) ⟨hx, hb, hml, hown, hts⟩ (mT_stretchOf l dC dI cI cL cT t d xa ya la sa fa ra H.size fu area state pf pw size xs ys ln sl fo tr z4l3 ((((fo (z4l3).toNatClampNeg) - (tr (z4l3).toNatClampNeg)) + (fo ((z4l3 + (1 : Int32))).toNatClampNeg)) - (tr ((z4l3 + (1 : Int32))).toNatClampNeg)) (r_51) q_51) ⟨callB_of 2 hts (gd_code kw_263) rfl rfl rfl (hts _ kw_33) (hts _ kw_260) (by decide +kernel) ⟨Nat.le_of_ble_eq_true rfl, Nat.le_of_ble_eq_true rfl⟩, hts _ kw_262, hts _ kw_4⟩ (kP_V hPc hK hDc hN (va_recv hK hPc (ci := 2) (q0 := 0) rfl rfl)) rfl rfl hl.1 rfl (lv_room (Nat.le_of_ble_eq_true rfl)) dT_shortening_51 ⟨Nat.le_of_ble_eq_true rfl, Nat.le_of_ble_eq_true rfl⟩) hP hD hS hA (wc := [(t, .inr (2, [.ref d, .int area, .ref fa, .ref ra, .int state, .int pf, .int pw])), (d, .inr (0, [.ref xa, .ref ya, .ref la, .ref sa, .int size])), (xa, .inl (cI, 10, .inl xs)), (ya, .inl (cI, 10, .inl ys)), (la, .inl (cI, 10, .inl ln)), (sa, .inl (cI, 10, .inl sl)), (fa, .inl (cL, 10, .inr (.inl fo))), (ra, .inl (cL, 10, .inr (.inl tr)))]) (wr := []) (w1 := [(t, .inr (2, [.ref d, .int area, .ref fa, .ref ra, .int state, .int pf, .int pw])), (d, .inr (0, [.ref xa, .ref ya, .ref la, .ref sa, .int size])), (xa, .inl (cI, 10, .inl xs)), (ya, .inl (cI, 10, .inl ys)), (la, .inl (cI, 10, .inl ln)), (sa, .inl (cI, 10, .inl sl)), (fa, .inl (cL, 10, .inr (.inl fo))), (ra, .inl (cL, 10, .inr (.inl tr)))]) (ws' := [(t, .inr (2, [.ref d, .int area, .ref fa, .ref ra, .int state, .int pf, .int pw])), (d, .inr (0, [.ref xa, .ref ya, .ref la, .ref sa, .int size])), (xa, .inl (cI, 10, .inl xs)), (ya, .inl (cI, 10, .inl ys)), (la, .inl (cI, 10, .inl ln)), (sa, .inl (cI, 10, .inl sl)), (fa, .inl (cL, 10, .inr (.inl fo))), (ra, .inl (cL, 10, .inr (.inl tr)))]) [0, 1, 2, 3, 4, 5, 6, 7] [] [0, 1, 2, 3, 4, 5, 6, 7] rfl rfl (by decide) (by decide) rfl (by decide) rfl (fun H locs hP hD hS => ?_)
        refine lv_ladd hx hb dT_shortening_54 ?_
        refine lv_lstore_n (lv' := [(1, .long (z4l1 + r_51)), (3, .int z4l3), (0, .ref t)]) hx hb dT_shortening_55 rfl hl (by decide) rfl (fun ls hl => ?_)
        refine lv_iinc (v := (z4l3 + (1 : Int32))) (lv' := [(3, .int (z4l3 + (1 : Int32))), (1, .long (z4l1 + r_51)), (0, .ref t)]) hx hb dT_shortening_56 hl (k := 1) rfl rfl (by decide) rfl (fun ls hl => ?_)
        refine lv_goto (tgt := 4) hx hb dT_shortening_59 (by decide) ?_
        exact ih4 _ _ H locs ls hP hD hS (lv_sub hl [0, 1, 2] rfl) hf
  exact L4 fu _ _ _ _ ls hP hD hS (lv_sub hl [0, 1, 2] rfl) hf

def fT_tryAnchor_L42 (fu : Nat) (size : Int32) (xs : Nat → Int32) (ys : Nat → Int32) (ln : Nat → Int32) (sl : Nat → Int32) (fo : Nat → Int64) (rough : Int32) (mu : Int32) (p1 : Int32) : Nat → (Int32) → (Int64) → (Nat → Int64) → Option ((Nat → Int64))
  | 0, _, _, _ => none
  | n42 + 1, z42l6, z42l4, z42c7 => (if size ≤ z42l6 then some z42c7 else ((fD_pointOnWay fu size xs ys ln sl p1 z42l6).bind fun r_61 => (((if z42l6 ≤ (0 : Int32) then some z42l4 else ((fD_lengthBefore fu size xs ys ln sl p1 z42l6).bind fun r_83 => ((fF_alongPiece fu rough mu z42l4 r_83).bind fun r_86 => ((fD_turnAt fu size xs ys ln sl r_61).bind fun r_103 => ((fF_atTurn fu rough mu (z42l4 + r_86) r_103).bind fun r_106 => some ((z42l4 + r_86) + r_106))))))).bind fun j_68 => (if ¬ (r_61 < 0 ∨ 10 ≤ (r_61).toNatClampNeg) then (if j_68 < (fo (r_61).toNatClampNeg) then (if ¬ (r_61 < 0 ∨ 10 ≤ (r_61).toNatClampNeg) then fT_tryAnchor_L42 fu size xs ys ln sl fo rough mu p1 n42 (z42l6 + (1 : Int32)) j_68 (vp_updL z42c7 (r_61).toNatClampNeg j_68) else none) else some z42c7) else none))))
theorem fT_tryAnchor_L42_z (fu : Nat) (size : Int32) (xs : Nat → Int32) (ys : Nat → Int32) (ln : Nat → Int32) (sl : Nat → Int32) (fo : Nat → Int64) (rough : Int32) (mu : Int32) (p1 : Int32) (z42l6 : Int32) (z42l4 : Int64) (z42c7 : Nat → Int64) : fT_tryAnchor_L42 fu size xs ys ln sl fo rough mu p1 0 z42l6 z42l4 z42c7 = none := rfl
theorem fT_tryAnchor_L42_s (fu : Nat) (size : Int32) (xs : Nat → Int32) (ys : Nat → Int32) (ln : Nat → Int32) (sl : Nat → Int32) (fo : Nat → Int64) (rough : Int32) (mu : Int32) (p1 : Int32) (z42l6 : Int32) (z42l4 : Int64) (z42c7 : Nat → Int64) (n42 : Nat) : fT_tryAnchor_L42 fu size xs ys ln sl fo rough mu p1 (n42 + 1) z42l6 z42l4 z42c7 = (if size ≤ z42l6 then some z42c7 else ((fD_pointOnWay fu size xs ys ln sl p1 z42l6).bind fun r_61 => (((if z42l6 ≤ (0 : Int32) then some z42l4 else ((fD_lengthBefore fu size xs ys ln sl p1 z42l6).bind fun r_83 => ((fF_alongPiece fu rough mu z42l4 r_83).bind fun r_86 => ((fD_turnAt fu size xs ys ln sl r_61).bind fun r_103 => ((fF_atTurn fu rough mu (z42l4 + r_86) r_103).bind fun r_106 => some ((z42l4 + r_86) + r_106))))))).bind fun j_68 => (if ¬ (r_61 < 0 ∨ 10 ≤ (r_61).toNatClampNeg) then (if j_68 < (fo (r_61).toNatClampNeg) then (if ¬ (r_61 < 0 ∨ 10 ≤ (r_61).toNatClampNeg) then fT_tryAnchor_L42 fu size xs ys ln sl fo rough mu p1 n42 (z42l6 + (1 : Int32)) j_68 (vp_updL z42c7 (r_61).toNatClampNeg j_68) else none) else some z42c7) else none)))) := rfl
def fT_tryAnchor_L3 (fu : Nat) (size : Int32) (xs : Nat → Int32) (ys : Nat → Int32) (ln : Nat → Int32) (sl : Nat → Int32) (fo : Nat → Int64) (rough : Int32) (mu : Int32) (p1 : Int32) (p2 : Int32) : Nat → (Int32) → (Nat → Int64) → Option ((Nat → Int64))
  | 0, _, _ => none
  | n3 + 1, z3l4, z3c7 => (if size ≤ z3l4 then fT_tryAnchor_L42 fu size xs ys ln sl fo rough mu p1 fu (0 : Int32) (p2).toInt64 z3c7 else (if ¬ (z3l4 < 0 ∨ 10 ≤ (z3l4).toNatClampNeg) then (if ¬ (z3l4 < 0 ∨ 10 ≤ (z3l4).toNatClampNeg) then fT_tryAnchor_L3 fu size xs ys ln sl fo rough mu p1 p2 n3 (z3l4 + (1 : Int32)) (vp_updL z3c7 (z3l4).toNatClampNeg (fo (z3l4).toNatClampNeg)) else none) else none))
theorem fT_tryAnchor_L3_z (fu : Nat) (size : Int32) (xs : Nat → Int32) (ys : Nat → Int32) (ln : Nat → Int32) (sl : Nat → Int32) (fo : Nat → Int64) (rough : Int32) (mu : Int32) (p1 : Int32) (p2 : Int32) (z3l4 : Int32) (z3c7 : Nat → Int64) : fT_tryAnchor_L3 fu size xs ys ln sl fo rough mu p1 p2 0 z3l4 z3c7 = none := rfl
theorem fT_tryAnchor_L3_s (fu : Nat) (size : Int32) (xs : Nat → Int32) (ys : Nat → Int32) (ln : Nat → Int32) (sl : Nat → Int32) (fo : Nat → Int64) (rough : Int32) (mu : Int32) (p1 : Int32) (p2 : Int32) (z3l4 : Int32) (z3c7 : Nat → Int64) (n3 : Nat) : fT_tryAnchor_L3 fu size xs ys ln sl fo rough mu p1 p2 (n3 + 1) z3l4 z3c7 = (if size ≤ z3l4 then fT_tryAnchor_L42 fu size xs ys ln sl fo rough mu p1 fu (0 : Int32) (p2).toInt64 z3c7 else (if ¬ (z3l4 < 0 ∨ 10 ≤ (z3l4).toNatClampNeg) then (if ¬ (z3l4 < 0 ∨ 10 ≤ (z3l4).toNatClampNeg) then fT_tryAnchor_L3 fu size xs ys ln sl fo rough mu p1 p2 n3 (z3l4 + (1 : Int32)) (vp_updL z3c7 (z3l4).toNatClampNeg (fo (z3l4).toNatClampNeg)) else none) else none)) := rfl
def fT_tryAnchor (fu : Nat) (area : Int32) (state : Int32) (pf : Int32) (pw : Int32) (size : Int32) (xs : Nat → Int32) (ys : Nat → Int32) (ln : Nat → Int32) (sl : Nat → Int32) (fo : Nat → Int64) (tr : Nat → Int64) (rough : Int32) (mu : Int32) (p1 : Int32) (p2 : Int32) : Option ((Nat → Int64)) := fT_tryAnchor_L3 fu size xs ys ln sl fo rough mu p1 p2 fu (0 : Int32) tr
def rmT_tryAnchor : Room := { frames := 3, cells := 0, slots := 0, locals := 63 }
set_option maxHeartbeats 4000000 in
set_option maxRecDepth 100000 in
theorem mT_tryAnchor (l : Launch) (dC : Nat → ClassId) (dI : Nat → Nat → Nat) (cI cL cT : ClassId) (t d xa ya la sa fa ra fr : Nat) (sz : Nat) (fu : Nat) (area : Int32) (state : Int32) (pf : Int32) (pw : Int32) (size : Int32) (xs : Nat → Int32) (ys : Nat → Int32) (ln : Nat → Int32) (sl : Nat → Int32) (fo : Nat → Int64) (tr : Nat → Int64) (rough : Int32) (mu : Int32) (p1 : Int32) (p2 : Int32) (o0 : Nat → Int64) (hf : fT_tryAnchor fu area state pf pw size xs ys ln sl fo tr rough mu p1 p2 = some (o0)) : Met l yT_tryAnchor wT_tryAnchor rmT_tryAnchor (kP (dC, dI) [(cI, .int), (cL, .long), (cT, .object "TendonLosses$Tendon")] [.ref t, .int p1, .int p2, .ref fr] [(t, .inr (2, [.ref d, .int area, .ref fa, .ref ra, .int state, .int pf, .int pw])), (d, .inr (0, [.ref xa, .ref ya, .ref la, .ref sa, .int size])), (xa, .inl (cI, 10, .inl xs)), (ya, .inl (cI, 10, .inl ys)), (la, .inl (cI, 10, .inl ln)), (sa, .inl (cI, 10, .inl sl)), (fa, .inl (cL, 10, .inr (.inl fo))), (ra, .inl (cL, 10, .inr (.inl tr))), (fr, .inr (1, [.int rough, .int mu]))] sz) (va_Qv (fun (_ : Unit) => True) (kB (dC, dI) [(cI, .int), (cL, .long), (cT, .object "TendonLosses$Tendon")] (va_A [(t, .inr (2, [.ref d, .int area, .ref fa, .ref ra, .int state, .int pf, .int pw])), (d, .inr (0, [.ref xa, .ref ya, .ref la, .ref sa, .int size])), (xa, .inl (cI, 10, .inl xs)), (ya, .inl (cI, 10, .inl ys)), (la, .inl (cI, 10, .inl ln)), (sa, .inl (cI, 10, .inl sl)), (fa, .inl (cL, 10, .inr (.inl fo))), (ra, .inl (cL, 10, .inr (.inl tr))), (fr, .inr (1, [.int rough, .int mu]))] sz) [(t, .inr (2, [.ref d, .int area, .ref fa, .ref ra, .int state, .int pf, .int pw])), (d, .inr (0, [.ref xa, .ref ya, .ref la, .ref sa, .int size])), (xa, .inl (cI, 10, .inl xs)), (ya, .inl (cI, 10, .inl ys)), (la, .inl (cI, 10, .inl ln)), (sa, .inl (cI, 10, .inl sl)), (fa, .inl (cL, 10, .inr (.inl fo))), (ra, .inl (cL, 10, .inr (.inl o0))), (fr, .inr (1, [.int rough, .int mu]))]) (va_A [(t, .inr (2, [.ref d, .int area, .ref fa, .ref ra, .int state, .int pf, .int pw])), (d, .inr (0, [.ref xa, .ref ya, .ref la, .ref sa, .int size])), (xa, .inl (cI, 10, .inl xs)), (ya, .inl (cI, 10, .inl ys)), (la, .inl (cI, 10, .inl ln)), (sa, .inl (cI, 10, .inl sl)), (fa, .inl (cL, 10, .inr (.inl fo))), (ra, .inl (cL, 10, .inr (.inl tr))), (fr, .inr (1, [.int rough, .int mu]))] sz)) 0 0 (va_A [(t, .inr (2, [.ref d, .int area, .ref fa, .ref ra, .int state, .int pf, .int pw])), (d, .inr (0, [.ref xa, .ref ya, .ref la, .ref sa, .int size])), (xa, .inl (cI, 10, .inl xs)), (ya, .inl (cI, 10, .inl ys)), (la, .inl (cI, 10, .inl ln)), (sa, .inl (cI, 10, .inl sl)), (fa, .inl (cL, 10, .inr (.inl fo))), (ra, .inl (cL, 10, .inr (.inl tr))), (fr, .inr (1, [.int rough, .int mu]))] sz) := by
  refine Met.ofW (cc := bT_tryAnchor) (maxL := 8) (ret := none) (by decide) rfl ?_
  intro p e s m args below meth c s₁ B hml hv
  obtain ⟨rfl, hsz, hP, hK, hD0, hN⟩ := hv
  have hx := B.exec
  have hb := B.bytes
  have hr := B.returns
  have hts : ∀ w ∈ gt, w.before ([.ref t, .int p1, .int p2, .ref fr] : List Value).toArray s = true := fun w h => atoms_spec (ws := wT_tryAnchor) B.pre w (List.mem_cons_of_mem _ h)
  have hown : s.vm.findClass "TendonLosses$Tendon" = some m.cls := findClass_of_methodNamed B.named
  have hlocks := B.notSynchronized
  subst hsz
  have hD := hD0.self (sz := s.heap.size)
  generalize hAe : va_A [(t, .inr (2, [.ref d, .int area, .ref fa, .ref ra, .int state, .int pf, .int pw])), (d, .inr (0, [.ref xa, .ref ya, .ref la, .ref sa, .int size])), (xa, .inl (cI, 10, .inl xs)), (ya, .inl (cI, 10, .inl ys)), (la, .inl (cI, 10, .inl ln)), (sa, .inl (cI, 10, .inl sl)), (fa, .inl (cL, 10, .inr (.inl fo))), (ra, .inl (cL, 10, .inr (.inl tr))), (fr, .inr (1, [.int rough, .int mu]))] s.heap.size = A at hD ⊢
  have hA : ∀ q : Nat, s.heap.size ≤ q → A q := fun q h => by rw [← hAe]; exact Or.inr h
  have hS : va_S A s.heap s.heap [] := va_S.rf
  have hP : va_P (dC, dI) vwCl [(t, .inr (2, [.ref d, .int area, .ref fa, .ref ra, .int state, .int pf, .int pw])), (d, .inr (0, [.ref xa, .ref ya, .ref la, .ref sa, .int size])), (xa, .inl (cI, 10, .inl xs)), (ya, .inl (cI, 10, .inl ys)), (la, .inl (cI, 10, .inl ln)), (sa, .inl (cI, 10, .inl sl)), (fa, .inl (cL, 10, .inr (.inl fo))), (ra, .inl (cL, 10, .inr (.inl tr))), (fr, .inr (1, [.int rough, .int mu]))] s.heap := hP
  have hl := lv_entry ([.ref t, .int p1, .int p2, .ref fr]) (n := 8) (Nat.le_of_ble_eq_true rfl)
  rw [lg_entry_eq]
  generalize (lg_sl ([.ref t, .int p1, .int p2, .ref fr]) ++ List.replicate (8 - (lg_sl ([.ref t, .int p1, .int p2, .ref fr])).length) Slot.unset).toArray = ls at hl ⊢
  have hl : lv_has ls 8 [(0, .ref t), (1, .int p1), (2, .int p2), (3, .ref fr)] := hl
  refine W.nameQ (fun Q hQ => ?_)
  unfold fT_tryAnchor at hf
  refine lv_iconst (v := (0 : Int32)) hx hb dT_tryAnchor_0 (by decide) ?_
  refine lv_istore (lv' := [(4, .int (0 : Int32)), (0, .ref t), (1, .int p1), (2, .int p2), (3, .ref fr)]) hx hb dT_tryAnchor_1 hl (by decide) rfl (fun ls hl => ?_)
  have L3 : ∀ (n3 : Nat) (z3l4 : Int32) (z3c7 : Nat → Int64) (H : Heap) (locs : List Loc) (ls : Array Slot), va_P (dC, dI) vwCl [(t, .inr (2, [.ref d, .int area, .ref fa, .ref ra, .int state, .int pf, .int pw])), (d, .inr (0, [.ref xa, .ref ya, .ref la, .ref sa, .int size])), (xa, .inl (cI, 10, .inl xs)), (ya, .inl (cI, 10, .inl ys)), (la, .inl (cI, 10, .inl ln)), (sa, .inl (cI, 10, .inl sl)), (fa, .inl (cL, 10, .inr (.inl fo))), (ra, .inl (cL, 10, .inr (.inl z3c7))), (fr, .inr (1, [.int rough, .int mu]))] H → va_D A [(t, .inr (2, [.ref d, .int area, .ref fa, .ref ra, .int state, .int pf, .int pw])), (d, .inr (0, [.ref xa, .ref ya, .ref la, .ref sa, .int size])), (xa, .inl (cI, 10, .inl xs)), (ya, .inl (cI, 10, .inl ys)), (la, .inl (cI, 10, .inl ln)), (sa, .inl (cI, 10, .inl sl)), (fa, .inl (cL, 10, .inr (.inl fo))), (ra, .inl (cL, 10, .inr (.inl z3c7))), (fr, .inr (1, [.int rough, .int mu]))] → va_S A s.heap H locs → lv_has ls 8 [(4, .int z3l4), (0, .ref t), (1, .int p1), (2, .int p2), (3, .ref fr)] → fT_tryAnchor_L3 fu size xs ys ln sl fo rough mu p1 p2 n3 z3l4 z3c7 = some (o0) → W p l e (headSpec wT_tryAnchor rmT_tryAnchor).room s m ([.ref t, .int p1, .int p2, .ref fr] : List Value).toArray below meth c H locs 0 0 Q (F0 m 3 ls []) := by
    intro n3
    induction n3 with
    | zero =>
      intro z3l4 z3c7 H locs ls hP hD hS hl hf
      rw [fT_tryAnchor_L3_z] at hf
      cases hf
    | succ n3 ih3 =>
      intro z3l4 z3c7 H locs ls hP hD hS hl hf
      rw [fT_tryAnchor_L3_s] at hf
      refine lv_iload hx hb dT_tryAnchor_3 (lv_at hl 0 rfl) ?_
      refine lv_aload_n hx hb dT_tryAnchor_5 rfl (lv_at hl 1 rfl) ?_
      refine va_get (D := (dC, dI)) (ci := 2) (v := .ref d) (C := "TendonLosses$Tendon") (T := TT_T) (N := 7) hx hb hts in_T hown hK hP 0 rfl rfl 0 (by decide) (hts _ kw_130) (fun _ h9 => h9) rfl dT_tryAnchor_6 ?_
      refine va_get (D := (dC, dI)) (ci := 0) (v := .int size) (C := "TendonLosses$Duct") (T := TT_D) (N := 5) hx hb hts in_D hown hK hP 1 rfl rfl 4 (by decide) (hts _ kw_117) (fun _ h9 => h9) rfl dT_tryAnchor_9 ?_
      refine lv_icmp_ge (tgt := 35) hx hb dT_tryAnchor_12 (by decide) (fun c_12 => ?_) (fun c_12 => ?_)
      · have hf := o_t hf c_12
        refine lv_iload_n hx hb dT_tryAnchor_35 rfl (lv_at hl 3 rfl) ?_
        refine lv_i2l (v := (p2).toInt64) hx hb dT_tryAnchor_36 rfl ?_
        refine lv_lstore (lv' := [(4, .long (p2).toInt64), (0, .ref t), (1, .int p1), (2, .int p2), (3, .ref fr)]) hx hb dT_tryAnchor_37 hl (by decide) rfl (fun ls hl => ?_)
        refine lv_iconst (v := (0 : Int32)) hx hb dT_tryAnchor_39 (by decide) ?_
        refine lv_istore (lv' := [(6, .int (0 : Int32)), (4, .long (p2).toInt64), (0, .ref t), (1, .int p1), (2, .int p2), (3, .ref fr)]) hx hb dT_tryAnchor_40 hl (by decide) rfl (fun ls hl => ?_)
        have L42 : ∀ (n42 : Nat) (z42l6 : Int32) (z42l4 : Int64) (z42c7 : Nat → Int64) (H : Heap) (locs : List Loc) (ls : Array Slot), va_P (dC, dI) vwCl [(t, .inr (2, [.ref d, .int area, .ref fa, .ref ra, .int state, .int pf, .int pw])), (d, .inr (0, [.ref xa, .ref ya, .ref la, .ref sa, .int size])), (xa, .inl (cI, 10, .inl xs)), (ya, .inl (cI, 10, .inl ys)), (la, .inl (cI, 10, .inl ln)), (sa, .inl (cI, 10, .inl sl)), (fa, .inl (cL, 10, .inr (.inl fo))), (ra, .inl (cL, 10, .inr (.inl z42c7))), (fr, .inr (1, [.int rough, .int mu]))] H → va_D A [(t, .inr (2, [.ref d, .int area, .ref fa, .ref ra, .int state, .int pf, .int pw])), (d, .inr (0, [.ref xa, .ref ya, .ref la, .ref sa, .int size])), (xa, .inl (cI, 10, .inl xs)), (ya, .inl (cI, 10, .inl ys)), (la, .inl (cI, 10, .inl ln)), (sa, .inl (cI, 10, .inl sl)), (fa, .inl (cL, 10, .inr (.inl fo))), (ra, .inl (cL, 10, .inr (.inl z42c7))), (fr, .inr (1, [.int rough, .int mu]))] → va_S A s.heap H locs → lv_has ls 8 [(6, .int z42l6), (4, .long z42l4), (0, .ref t), (1, .int p1), (2, .int p2), (3, .ref fr)] → fT_tryAnchor_L42 fu size xs ys ln sl fo rough mu p1 n42 z42l6 z42l4 z42c7 = some (o0) → W p l e (headSpec wT_tryAnchor rmT_tryAnchor).room s m ([.ref t, .int p1, .int p2, .ref fr] : List Value).toArray below meth c H locs 0 0 Q (F0 m 42 ls []) := by
          intro n42
          induction n42 with
          | zero =>
            intro z42l6 z42l4 z42c7 H locs ls hP hD hS hl hf
            rw [fT_tryAnchor_L42_z] at hf
            cases hf
          | succ n42 ih42 =>
            intro z42l6 z42l4 z42c7 H locs ls hP hD hS hl hf
            rw [fT_tryAnchor_L42_s] at hf
            refine lv_iload hx hb dT_tryAnchor_42 (lv_at hl 0 rfl) ?_
            refine lv_aload_n hx hb dT_tryAnchor_44 rfl (lv_at hl 2 rfl) ?_
            refine va_get (D := (dC, dI)) (ci := 2) (v := .ref d) (C := "TendonLosses$Tendon") (T := TT_T) (N := 7) hx hb hts in_T hown hK hP 0 rfl rfl 0 (by decide) (hts _ kw_130) (fun _ h9 => h9) rfl dT_tryAnchor_45 ?_
            refine va_get (D := (dC, dI)) (ci := 0) (v := .int size) (C := "TendonLosses$Duct") (T := TT_D) (N := 5) hx hb hts in_D hown hK hP 1 rfl rfl 4 (by decide) (hts _ kw_117) (fun _ h9 => h9) rfl dT_tryAnchor_48 ?_
            refine lv_icmp_ge (tgt := 141) hx hb dT_tryAnchor_51 (by decide) (fun c_51 => ?_) (fun c_51 => ?_)
            · have hf := o_t hf c_51
              have e9 := Option.some.inj hf
              subst e9
              subst hQ
              exact W.vret hx hb hr (fun t ht hW => ⟨⟨(), rfl, trivial, by rw [ht]; exact hP, va_K.moved hW.alike hK, hD⟩, hS.F ht⟩) hS.2.2 dT_tryAnchor_141
            · have hf := o_f hf c_51
              refine lv_aload_n hx hb dT_tryAnchor_54 rfl (lv_at hl 2 rfl) ?_
              refine va_get (D := (dC, dI)) (ci := 2) (v := .ref d) (C := "TendonLosses$Tendon") (T := TT_T) (N := 7) hx hb hts in_T hown hK hP 0 rfl rfl 0 (by decide) (hts _ kw_130) (fun _ h9 => h9) rfl dT_tryAnchor_55 ?_
              refine lv_iload_n hx hb dT_tryAnchor_58 rfl (lv_at hl 3 rfl) ?_
              refine lv_iload hx hb dT_tryAnchor_59 (lv_at hl 0 rfl) ?_
              obtain ⟨r_61, q_61, hf⟩ := o_b hf
              have hPc := hP.sub (ws' := [(d, .inr (0, [.ref xa, .ref ya, .ref la, .ref sa, .int size])), (xa, .inl (cI, 10, .inl xs)), (ya, .inl (cI, 10, .inl ys)), (la, .inl (cI, 10, .inl ln)), (sa, .inl (cI, 10, .inl sl))]) [1, 2, 3, 4, 5] rfl
              have hDc := hD.sub (ws' := [(d, .inr (0, [.ref xa, .ref ya, .ref la, .ref sa, .int size])), (xa, .inl (cI, 10, .inl xs)), (ya, .inl (cI, 10, .inl ys)), (la, .inl (cI, 10, .inl ln)), (sa, .inl (cI, 10, .inl sl))]) [1, 2, 3, 4, 5] (by decide) rfl
              refine kc_i (va_runV (As := [.int p1, .int z42l6]) (rest := []) ⟨hx, hb, hml, hown, hts⟩ (mD_pointOnWay l dC dI cI cL cT d xa ya la sa H.size fu size xs ys ln sl p1 z42l6 (r_61) q_61) ⟨callB_of 2 hts (gd_code kw_223) rfl rfl rfl (hts _ kw_34) (hts _ kw_220) (by decide +kernel) ⟨Nat.le_of_ble_eq_true rfl, Nat.le_of_ble_eq_true rfl⟩, hts _ kw_221, hts _ kw_222⟩ (kP_V hPc hK hDc hN (va_recv hK hPc (ci := 0) (q0 := 0) rfl rfl)) rfl rfl hl.1 rfl (lv_room (Nat.le_of_ble_eq_true rfl)) dT_tryAnchor_61 ⟨Nat.le_of_ble_eq_true rfl, Nat.le_of_ble_eq_true rfl⟩) hP hD hS hA (wc := [(d, .inr (0, [.ref xa, .ref ya, .ref la, .ref sa, .int size])), (xa, .inl (cI, 10, .inl xs)), (ya, .inl (cI, 10, .inl ys)), (la, .inl (cI, 10, .inl ln)), (sa, .inl (cI, 10, .inl sl))]) (wr := [(t, .inr (2, [.ref d, .int area, .ref fa, .ref ra, .int state, .int pf, .int pw])), (fa, .inl (cL, 10, .inr (.inl fo))), (ra, .inl (cL, 10, .inr (.inl z42c7))), (fr, .inr (1, [.int rough, .int mu]))]) (w1 := [(d, .inr (0, [.ref xa, .ref ya, .ref la, .ref sa, .int size])), (xa, .inl (cI, 10, .inl xs)), (ya, .inl (cI, 10, .inl ys)), (la, .inl (cI, 10, .inl ln)), (sa, .inl (cI, 10, .inl sl))]) (ws' := [(t, .inr (2, [.ref d, .int area, .ref fa, .ref ra, .int state, .int pf, .int pw])), (d, .inr (0, [.ref xa, .ref ya, .ref la, .ref sa, .int size])), (xa, .inl (cI, 10, .inl xs)), (ya, .inl (cI, 10, .inl ys)), (la, .inl (cI, 10, .inl ln)), (sa, .inl (cI, 10, .inl sl)), (fa, .inl (cL, 10, .inr (.inl fo))), (ra, .inl (cL, 10, .inr (.inl z42c7))), (fr, .inr (1, [.int rough, .int mu]))]) [1, 2, 3, 4, 5] [0, 6, 7, 8] [0, 4, 5, 6, 7, 8, 1, 2, 3] rfl rfl (by decide) (by decide) rfl (by decide) rfl (fun H locs hP hD hS => ?_)
              refine lv_istore (lv' := [(7, .int r_61), (6, .int z42l6), (4, .long z42l4), (0, .ref t), (1, .int p1), (2, .int p2), (3, .ref fr)]) hx hb dT_tryAnchor_64 hl (by decide) rfl (fun ls hl => ?_)
              refine lv_iload hx hb dT_tryAnchor_66 (lv_at hl 1 rfl) ?_
              obtain ⟨j_68, e_68, hf⟩ := o_b hf
              have J_112 : ∀ (H : Heap) (locs : List Loc) (ls : Array Slot), va_P (dC, dI) vwCl [(t, .inr (2, [.ref d, .int area, .ref fa, .ref ra, .int state, .int pf, .int pw])), (d, .inr (0, [.ref xa, .ref ya, .ref la, .ref sa, .int size])), (xa, .inl (cI, 10, .inl xs)), (ya, .inl (cI, 10, .inl ys)), (la, .inl (cI, 10, .inl ln)), (sa, .inl (cI, 10, .inl sl)), (fa, .inl (cL, 10, .inr (.inl fo))), (ra, .inl (cL, 10, .inr (.inl z42c7))), (fr, .inr (1, [.int rough, .int mu]))] H → va_D A [(t, .inr (2, [.ref d, .int area, .ref fa, .ref ra, .int state, .int pf, .int pw])), (d, .inr (0, [.ref xa, .ref ya, .ref la, .ref sa, .int size])), (xa, .inl (cI, 10, .inl xs)), (ya, .inl (cI, 10, .inl ys)), (la, .inl (cI, 10, .inl ln)), (sa, .inl (cI, 10, .inl sl)), (fa, .inl (cL, 10, .inr (.inl fo))), (ra, .inl (cL, 10, .inr (.inl z42c7))), (fr, .inr (1, [.int rough, .int mu]))] → va_S A s.heap H locs → lv_has ls 8 [(7, .int r_61), (6, .int z42l6), (4, .long j_68), (0, .ref t), (1, .int p1), (2, .int p2), (3, .ref fr)] → W p l e (headSpec wT_tryAnchor rmT_tryAnchor).room s m ([.ref t, .int p1, .int p2, .ref fr] : List Value).toArray below meth c H locs 0 0 Q (F0 m 112 ls []) := by
                intro H locs ls hP hD hS hl
                refine lv_lload hx hb dT_tryAnchor_112 (lv_at hl 2 rfl) ?_
                refine lv_aload_n hx hb dT_tryAnchor_114 rfl (lv_at hl 3 rfl) ?_
                refine va_get (D := (dC, dI)) (ci := 2) (v := .ref fa) (C := "TendonLosses$Tendon") (T := TT_T) (N := 7) hx hb hts in_T hown hK hP 0 rfl rfl 2 (by decide) (hts _ kw_133) (fun _ h9 => h9) rfl dT_tryAnchor_115 ?_
                refine lv_iload hx hb dT_tryAnchor_118 (lv_at hl 0 rfl) ?_
                obtain ⟨h_120, hf⟩ := o_c hf
                refine va_lald hx hb hK hP 6 1 rfl rfl h_120 dT_tryAnchor_120 ?_
                refine W.lcmp hx hb dT_tryAnchor_121 ?_
                refine lv_if_lt (tgt := 126) hx hb dT_tryAnchor_122 (by decide) (fun c_121 => ?_) (fun c_121 => ?_)
                · have c_121 := (lg_cmp_lt _ _).mp c_121
                  have hf := o_t hf c_121
                  refine lv_aload_n hx hb dT_tryAnchor_126 rfl (lv_at hl 3 rfl) ?_
                  refine va_get (D := (dC, dI)) (ci := 2) (v := .ref ra) (C := "TendonLosses$Tendon") (T := TT_T) (N := 7) hx hb hts in_T hown hK hP 0 rfl rfl 3 (by decide) (hts _ kw_135) (fun _ h9 => h9) rfl dT_tryAnchor_127 ?_
                  refine lv_iload hx hb dT_tryAnchor_130 (lv_at hl 0 rfl) ?_
                  refine lv_lload hx hb dT_tryAnchor_132 (lv_at hl 2 rfl) ?_
                  obtain ⟨h_134, hf⟩ := o_c hf
                  refine va_last hx hb hK hP hD hS 7 1 rfl rfl h_134 dT_tryAnchor_134 (fun H locs hP hD hS => ?_)
                  have hP : va_P (dC, dI) vwCl [(t, .inr (2, [.ref d, .int area, .ref fa, .ref ra, .int state, .int pf, .int pw])), (d, .inr (0, [.ref xa, .ref ya, .ref la, .ref sa, .int size])), (xa, .inl (cI, 10, .inl xs)), (ya, .inl (cI, 10, .inl ys)), (la, .inl (cI, 10, .inl ln)), (sa, .inl (cI, 10, .inl sl)), (fa, .inl (cL, 10, .inr (.inl fo))), (ra, .inl (cL, 10, .inr (.inl (vp_updL z42c7 (r_61).toNatClampNeg j_68)))), (fr, .inr (1, [.int rough, .int mu]))] H := hP
                  have hD : va_D A [(t, .inr (2, [.ref d, .int area, .ref fa, .ref ra, .int state, .int pf, .int pw])), (d, .inr (0, [.ref xa, .ref ya, .ref la, .ref sa, .int size])), (xa, .inl (cI, 10, .inl xs)), (ya, .inl (cI, 10, .inl ys)), (la, .inl (cI, 10, .inl ln)), (sa, .inl (cI, 10, .inl sl)), (fa, .inl (cL, 10, .inr (.inl fo))), (ra, .inl (cL, 10, .inr (.inl (vp_updL z42c7 (r_61).toNatClampNeg j_68)))), (fr, .inr (1, [.int rough, .int mu]))] := hD
                  refine lv_iinc (v := (z42l6 + (1 : Int32))) (lv' := [(6, .int (z42l6 + (1 : Int32))), (7, .int r_61), (4, .long j_68), (0, .ref t), (1, .int p1), (2, .int p2), (3, .ref fr)]) hx hb dT_tryAnchor_135 hl (k := 1) rfl rfl (by decide) rfl (fun ls hl => ?_)
                  refine lv_goto (tgt := 42) hx hb dT_tryAnchor_138 (by decide) ?_
                  exact ih42 _ _ _ H locs ls hP hD hS (lv_sub hl [0, 2, 3, 4, 5, 6] rfl) hf
                · have c_121 := fun z => c_121 ((lg_cmp_lt _ _).mpr z)
                  have hf := o_f hf c_121
                  have e9 := Option.some.inj hf
                  subst e9
                  subst hQ
                  exact W.vret hx hb hr (fun t ht hW => ⟨⟨(), rfl, trivial, by rw [ht]; exact hP, va_K.moved hW.alike hK, hD⟩, hS.F ht⟩) hS.2.2 dT_tryAnchor_125
              have hf := e_68
              refine lv_if_le (tgt := 112) hx hb dT_tryAnchor_68 (by decide) (fun c_68 => ?_) (fun c_68 => ?_)
              · have hf := o_t hf c_68
                have e9 := Option.some.inj hf
                subst e9
                exact J_112 _ _ ls hP hD hS (lv_sub hl [0, 1, 2, 3, 4, 5, 6] rfl)
              · have hf := o_f hf c_68
                refine lv_lload hx hb dT_tryAnchor_71 (lv_at hl 2 rfl) ?_
                refine lv_aload_n hx hb dT_tryAnchor_73 rfl (lv_at hl 6 rfl) ?_
                refine lv_lload hx hb dT_tryAnchor_74 (lv_at hl 2 rfl) ?_
                refine lv_aload_n hx hb dT_tryAnchor_76 rfl (lv_at hl 3 rfl) ?_
                refine va_get (D := (dC, dI)) (ci := 2) (v := .ref d) (C := "TendonLosses$Tendon") (T := TT_T) (N := 7) hx hb hts in_T hown hK hP 0 rfl rfl 0 (by decide) (hts _ kw_130) (fun _ h9 => h9) rfl dT_tryAnchor_77 ?_
                refine lv_iload_n hx hb dT_tryAnchor_80 rfl (lv_at hl 4 rfl) ?_
                refine lv_iload hx hb dT_tryAnchor_81 (lv_at hl 1 rfl) ?_
                obtain ⟨r_83, q_83, hf⟩ := o_b hf
                have hPc := hP.sub (ws' := [(d, .inr (0, [.ref xa, .ref ya, .ref la, .ref sa, .int size])), (xa, .inl (cI, 10, .inl xs)), (ya, .inl (cI, 10, .inl ys)), (la, .inl (cI, 10, .inl ln)), (sa, .inl (cI, 10, .inl sl))]) [1, 2, 3, 4, 5] rfl
                have hDc := hD.sub (ws' := [(d, .inr (0, [.ref xa, .ref ya, .ref la, .ref sa, .int size])), (xa, .inl (cI, 10, .inl xs)), (ya, .inl (cI, 10, .inl ys)), (la, .inl (cI, 10, .inl ln)), (sa, .inl (cI, 10, .inl sl))]) [1, 2, 3, 4, 5] (by decide) rfl
                refine kc_i (va_runV (As := [.int p1, .int z42l6]) (rest := [.long z42l4, .ref fr, .long z42l4]) ⟨hx, hb, hml, hown, hts⟩ (mD_lengthBefore l dC dI cI cL cT d xa ya la sa H.size fu size xs ys ln sl p1 z42l6 (r_83) q_83) ⟨callB_of 2 hts (gd_code kw_227) rfl rfl rfl (hts _ kw_34) (hts _ kw_224) (by decide +kernel) ⟨Nat.le_of_ble_eq_true rfl, Nat.le_of_ble_eq_true rfl⟩, hts _ kw_225, hts _ kw_226⟩ (kP_V hPc hK hDc hN (va_recv hK hPc (ci := 0) (q0 := 0) rfl rfl)) rfl rfl hl.1 rfl (lv_room (Nat.le_of_ble_eq_true rfl)) dT_tryAnchor_83 ⟨Nat.le_of_ble_eq_true rfl, Nat.le_of_ble_eq_true rfl⟩) hP hD hS hA (wc := [(d, .inr (0, [.ref xa, .ref ya, .ref la, .ref sa, .int size])), (xa, .inl (cI, 10, .inl xs)), (ya, .inl (cI, 10, .inl ys)), (la, .inl (cI, 10, .inl ln)), (sa, .inl (cI, 10, .inl sl))]) (wr := [(t, .inr (2, [.ref d, .int area, .ref fa, .ref ra, .int state, .int pf, .int pw])), (fa, .inl (cL, 10, .inr (.inl fo))), (ra, .inl (cL, 10, .inr (.inl z42c7))), (fr, .inr (1, [.int rough, .int mu]))]) (w1 := [(d, .inr (0, [.ref xa, .ref ya, .ref la, .ref sa, .int size])), (xa, .inl (cI, 10, .inl xs)), (ya, .inl (cI, 10, .inl ys)), (la, .inl (cI, 10, .inl ln)), (sa, .inl (cI, 10, .inl sl))]) (ws' := [(t, .inr (2, [.ref d, .int area, .ref fa, .ref ra, .int state, .int pf, .int pw])), (d, .inr (0, [.ref xa, .ref ya, .ref la, .ref sa, .int size])), (xa, .inl (cI, 10, .inl xs)), (ya, .inl (cI, 10, .inl ys)), (la, .inl (cI, 10, .inl ln)), (sa, .inl (cI, 10, .inl sl)), (fa, .inl (cL, 10, .inr (.inl fo))), (ra, .inl (cL, 10, .inr (.inl z42c7))), (fr, .inr (1, [.int rough, .int mu]))]) [1, 2, 3, 4, 5] [0, 6, 7, 8] [0, 4, 5, 6, 7, 8, 1, 2, 3] rfl rfl (by decide) (by decide) rfl (by decide) rfl (fun H locs hP hD hS => ?_)
                obtain ⟨r_86, q_86, hf⟩ := o_b hf
                have hPc := hP.sub (ws' := [(fr, .inr (1, [.int rough, .int mu]))]) [8] rfl
                have hDc := hD.sub (ws' := [(fr, .inr (1, [.int rough, .int mu]))]) [8] (by decide) rfl
                refine kc_l (va_runV (As := [.long z42l4, .int r_83]) (rest := [.long z42l4]) ⟨hx, hb, hml, hown, hts⟩ (mF_alongPiece l dC dI cI cL cT fr H.size fu rough mu z42l4 r_83 (r_86) q_86) ⟨callB_of 2 hts (gd_code kw_231) rfl rfl rfl (hts _ kw_31) (hts _ kw_228) (by decide +kernel) ⟨Nat.le_of_ble_eq_true rfl, Nat.le_of_ble_eq_true rfl⟩, hts _ kw_229, hts _ kw_230⟩ (kP_V hPc hK hDc hN (va_recv hK hPc (ci := 1) (q0 := 0) rfl rfl)) rfl rfl hl.1 rfl (lv_room (Nat.le_of_ble_eq_true rfl)) dT_tryAnchor_86 ⟨Nat.le_of_ble_eq_true rfl, Nat.le_of_ble_eq_true rfl⟩) hP hD hS hA (wc := [(fr, .inr (1, [.int rough, .int mu]))]) (wr := [(t, .inr (2, [.ref d, .int area, .ref fa, .ref ra, .int state, .int pf, .int pw])), (d, .inr (0, [.ref xa, .ref ya, .ref la, .ref sa, .int size])), (xa, .inl (cI, 10, .inl xs)), (ya, .inl (cI, 10, .inl ys)), (la, .inl (cI, 10, .inl ln)), (sa, .inl (cI, 10, .inl sl)), (fa, .inl (cL, 10, .inr (.inl fo))), (ra, .inl (cL, 10, .inr (.inl z42c7)))]) (w1 := [(fr, .inr (1, [.int rough, .int mu]))]) (ws' := [(t, .inr (2, [.ref d, .int area, .ref fa, .ref ra, .int state, .int pf, .int pw])), (d, .inr (0, [.ref xa, .ref ya, .ref la, .ref sa, .int size])), (xa, .inl (cI, 10, .inl xs)), (ya, .inl (cI, 10, .inl ys)), (la, .inl (cI, 10, .inl ln)), (sa, .inl (cI, 10, .inl sl)), (fa, .inl (cL, 10, .inr (.inl fo))), (ra, .inl (cL, 10, .inr (.inl z42c7))), (fr, .inr (1, [.int rough, .int mu]))]) [8] [0, 1, 2, 3, 4, 5, 6, 7] [0, 1, 2, 3, 4, 5, 6, 7, 8] rfl rfl (by decide) (by decide) rfl (by decide) rfl (fun H locs hP hD hS => ?_)
                refine lv_ladd hx hb dT_tryAnchor_89 ?_
                refine lv_lstore (lv' := [(4, .long (z42l4 + r_86)), (7, .int r_61), (6, .int z42l6), (0, .ref t), (1, .int p1), (2, .int p2), (3, .ref fr)]) hx hb dT_tryAnchor_90 hl (by decide) rfl (fun ls hl => ?_)
                refine lv_lload hx hb dT_tryAnchor_92 (lv_at hl 0 rfl) ?_
                refine lv_aload_n hx hb dT_tryAnchor_94 rfl (lv_at hl 6 rfl) ?_
                refine lv_lload hx hb dT_tryAnchor_95 (lv_at hl 0 rfl) ?_
                refine lv_aload_n hx hb dT_tryAnchor_97 rfl (lv_at hl 3 rfl) ?_
                refine va_get (D := (dC, dI)) (ci := 2) (v := .ref d) (C := "TendonLosses$Tendon") (T := TT_T) (N := 7) hx hb hts in_T hown hK hP 0 rfl rfl 0 (by decide) (hts _ kw_130) (fun _ h9 => h9) rfl dT_tryAnchor_98 ?_
                refine lv_iload hx hb dT_tryAnchor_101 (lv_at hl 1 rfl) ?_
                obtain ⟨r_103, q_103, hf⟩ := o_b hf
                have hPc := hP.sub (ws' := [(d, .inr (0, [.ref xa, .ref ya, .ref la, .ref sa, .int size])), (xa, .inl (cI, 10, .inl xs)), (ya, .inl (cI, 10, .inl ys)), (la, .inl (cI, 10, .inl ln)), (sa, .inl (cI, 10, .inl sl))]) [1, 2, 3, 4, 5] rfl
                have hDc := hD.sub (ws' := [(d, .inr (0, [.ref xa, .ref ya, .ref la, .ref sa, .int size])), (xa, .inl (cI, 10, .inl xs)), (ya, .inl (cI, 10, .inl ys)), (la, .inl (cI, 10, .inl ln)), (sa, .inl (cI, 10, .inl sl))]) [1, 2, 3, 4, 5] (by decide) rfl
                refine kc_i (va_runV (As := [.int r_61]) (rest := [.long (z42l4 + r_86), .ref fr, .long (z42l4 + r_86)]) ⟨hx, hb, hml, hown, hts⟩ (mD_turnAt l dC dI cI cL cT d xa ya la sa H.size fu size xs ys ln sl r_61 (r_103) q_103) ⟨callB_of 1 hts (gd_code kw_236) rfl rfl rfl (hts _ kw_34) (hts _ kw_233) (by decide +kernel) ⟨Nat.le_of_ble_eq_true rfl, Nat.le_of_ble_eq_true rfl⟩, hts _ kw_234, hts _ kw_235⟩ (kP_V hPc hK hDc hN (va_recv hK hPc (ci := 0) (q0 := 0) rfl rfl)) rfl rfl hl.1 rfl (lv_room (Nat.le_of_ble_eq_true rfl)) dT_tryAnchor_103 ⟨Nat.le_of_ble_eq_true rfl, Nat.le_of_ble_eq_true rfl⟩) hP hD hS hA (wc := [(d, .inr (0, [.ref xa, .ref ya, .ref la, .ref sa, .int size])), (xa, .inl (cI, 10, .inl xs)), (ya, .inl (cI, 10, .inl ys)), (la, .inl (cI, 10, .inl ln)), (sa, .inl (cI, 10, .inl sl))]) (wr := [(t, .inr (2, [.ref d, .int area, .ref fa, .ref ra, .int state, .int pf, .int pw])), (fa, .inl (cL, 10, .inr (.inl fo))), (ra, .inl (cL, 10, .inr (.inl z42c7))), (fr, .inr (1, [.int rough, .int mu]))]) (w1 := [(d, .inr (0, [.ref xa, .ref ya, .ref la, .ref sa, .int size])), (xa, .inl (cI, 10, .inl xs)), (ya, .inl (cI, 10, .inl ys)), (la, .inl (cI, 10, .inl ln)), (sa, .inl (cI, 10, .inl sl))]) (ws' := [(t, .inr (2, [.ref d, .int area, .ref fa, .ref ra, .int state, .int pf, .int pw])), (d, .inr (0, [.ref xa, .ref ya, .ref la, .ref sa, .int size])), (xa, .inl (cI, 10, .inl xs)), (ya, .inl (cI, 10, .inl ys)), (la, .inl (cI, 10, .inl ln)), (sa, .inl (cI, 10, .inl sl)), (fa, .inl (cL, 10, .inr (.inl fo))), (ra, .inl (cL, 10, .inr (.inl z42c7))), (fr, .inr (1, [.int rough, .int mu]))]) [1, 2, 3, 4, 5] [0, 6, 7, 8] [0, 4, 5, 6, 7, 8, 1, 2, 3] rfl rfl (by decide) (by decide) rfl (by decide) rfl (fun H locs hP hD hS => ?_)
                obtain ⟨r_106, q_106, hf⟩ := o_b hf
                have hPc := hP.sub (ws' := [(fr, .inr (1, [.int rough, .int mu]))]) [8] rfl
                have hDc := hD.sub (ws' := [(fr, .inr (1, [.int rough, .int mu]))]) [8] (by decide) rfl
                refine kc_l (va_runV (As := [.long (z42l4 + r_86), .int r_103]) (rest := [.long (z42l4 + r_86)]) ⟨hx, hb, hml, hown, hts⟩ (mF_atTurn l dC dI cI cL cT fr H.size fu rough mu (z42l4 + r_86) r_103 (r_106) q_106) ⟨callB_of 2 hts (gd_code kw_251) rfl rfl rfl (hts _ kw_31) (hts _ kw_248) (by decide +kernel) ⟨Nat.le_of_ble_eq_true rfl, Nat.le_of_ble_eq_true rfl⟩, hts _ kw_249, hts _ kw_250⟩ (kP_V hPc hK hDc hN (va_recv hK hPc (ci := 1) (q0 := 0) rfl rfl)) rfl rfl hl.1 rfl (lv_room (Nat.le_of_ble_eq_true rfl)) dT_tryAnchor_106 ⟨Nat.le_of_ble_eq_true rfl, Nat.le_of_ble_eq_true rfl⟩) hP hD hS hA (wc := [(fr, .inr (1, [.int rough, .int mu]))]) (wr := [(t, .inr (2, [.ref d, .int area, .ref fa, .ref ra, .int state, .int pf, .int pw])), (d, .inr (0, [.ref xa, .ref ya, .ref la, .ref sa, .int size])), (xa, .inl (cI, 10, .inl xs)), (ya, .inl (cI, 10, .inl ys)), (la, .inl (cI, 10, .inl ln)), (sa, .inl (cI, 10, .inl sl)), (fa, .inl (cL, 10, .inr (.inl fo))), (ra, .inl (cL, 10, .inr (.inl z42c7)))]) (w1 := [(fr, .inr (1, [.int rough, .int mu]))]) (ws' := [(t, .inr (2, [.ref d, .int area, .ref fa, .ref ra, .int state, .int pf, .int pw])), (d, .inr (0, [.ref xa, .ref ya, .ref la, .ref sa, .int size])), (xa, .inl (cI, 10, .inl xs)), (ya, .inl (cI, 10, .inl ys)), (la, .inl (cI, 10, .inl ln)), (sa, .inl (cI, 10, .inl sl)), (fa, .inl (cL, 10, .inr (.inl fo))), (ra, .inl (cL, 10, .inr (.inl z42c7))), (fr, .inr (1, [.int rough, .int mu]))]) [8] [0, 1, 2, 3, 4, 5, 6, 7] [0, 1, 2, 3, 4, 5, 6, 7, 8] rfl rfl (by decide) (by decide) rfl (by decide) rfl (fun H locs hP hD hS => ?_)
                refine lv_ladd hx hb dT_tryAnchor_109 ?_
                refine lv_lstore (lv' := [(4, .long ((z42l4 + r_86) + r_106)), (7, .int r_61), (6, .int z42l6), (0, .ref t), (1, .int p1), (2, .int p2), (3, .ref fr)]) hx hb dT_tryAnchor_110 hl (by decide) rfl (fun ls hl => ?_)
                have e9 := Option.some.inj hf
                subst e9
                exact J_112 _ _ ls hP hD hS (lv_sub hl [1, 2, 0, 3, 4, 5, 6] rfl)
        exact L42 fu _ _ _ _ _ ls hP hD hS (lv_sub hl [0, 1, 2, 3, 4, 5] rfl) hf
      · have hf := o_f hf c_12
        refine lv_aload_n hx hb dT_tryAnchor_15 rfl (lv_at hl 1 rfl) ?_
        refine va_get (D := (dC, dI)) (ci := 2) (v := .ref ra) (C := "TendonLosses$Tendon") (T := TT_T) (N := 7) hx hb hts in_T hown hK hP 0 rfl rfl 3 (by decide) (hts _ kw_135) (fun _ h9 => h9) rfl dT_tryAnchor_16 ?_
        refine lv_iload hx hb dT_tryAnchor_19 (lv_at hl 0 rfl) ?_
        refine lv_aload_n hx hb dT_tryAnchor_21 rfl (lv_at hl 1 rfl) ?_
        refine va_get (D := (dC, dI)) (ci := 2) (v := .ref fa) (C := "TendonLosses$Tendon") (T := TT_T) (N := 7) hx hb hts in_T hown hK hP 0 rfl rfl 2 (by decide) (hts _ kw_133) (fun _ h9 => h9) rfl dT_tryAnchor_22 ?_
        refine lv_iload hx hb dT_tryAnchor_25 (lv_at hl 0 rfl) ?_
        obtain ⟨h_27, hf⟩ := o_c hf
        refine va_lald hx hb hK hP 6 1 rfl rfl h_27 dT_tryAnchor_27 ?_
        obtain ⟨h_28, hf⟩ := o_c hf
        refine va_last hx hb hK hP hD hS 7 1 rfl rfl h_28 dT_tryAnchor_28 (fun H locs hP hD hS => ?_)
        have hP : va_P (dC, dI) vwCl [(t, .inr (2, [.ref d, .int area, .ref fa, .ref ra, .int state, .int pf, .int pw])), (d, .inr (0, [.ref xa, .ref ya, .ref la, .ref sa, .int size])), (xa, .inl (cI, 10, .inl xs)), (ya, .inl (cI, 10, .inl ys)), (la, .inl (cI, 10, .inl ln)), (sa, .inl (cI, 10, .inl sl)), (fa, .inl (cL, 10, .inr (.inl fo))), (ra, .inl (cL, 10, .inr (.inl (vp_updL z3c7 (z3l4).toNatClampNeg (fo (z3l4).toNatClampNeg))))), (fr, .inr (1, [.int rough, .int mu]))] H := hP
        have hD : va_D A [(t, .inr (2, [.ref d, .int area, .ref fa, .ref ra, .int state, .int pf, .int pw])), (d, .inr (0, [.ref xa, .ref ya, .ref la, .ref sa, .int size])), (xa, .inl (cI, 10, .inl xs)), (ya, .inl (cI, 10, .inl ys)), (la, .inl (cI, 10, .inl ln)), (sa, .inl (cI, 10, .inl sl)), (fa, .inl (cL, 10, .inr (.inl fo))), (ra, .inl (cL, 10, .inr (.inl (vp_updL z3c7 (z3l4).toNatClampNeg (fo (z3l4).toNatClampNeg))))), (fr, .inr (1, [.int rough, .int mu]))] := hD
        refine lv_iinc (v := (z3l4 + (1 : Int32))) (lv' := [(4, .int (z3l4 + (1 : Int32))), (0, .ref t), (1, .int p1), (2, .int p2), (3, .ref fr)]) hx hb dT_tryAnchor_29 hl (k := 0) rfl rfl (by decide) rfl (fun ls hl => ?_)
        refine lv_goto (tgt := 3) hx hb dT_tryAnchor_32 (by decide) ?_
        exact ih3 _ _ H locs ls hP hD hS (lv_sub hl [0, 1, 2, 3, 4] rfl) hf
  exact L3 fu _ _ _ _ ls hP hD hS (lv_sub hl [0, 1, 2, 3, 4] rfl) hf

def fT_meanForce_L4 (fu : Nat) (size : Int32) (fo : Nat → Int64) : Nat → (Int32) → (Int64) → Option ((Int64))
  | 0, _, _ => none
  | n4 + 1, z4l3, z4l1 => (if size ≤ z4l3 then ((fL_quotient fu z4l1 (size).toInt64).bind fun r_39 => some r_39) else (if ¬ (z4l3 < 0 ∨ 10 ≤ (z4l3).toNatClampNeg) then fT_meanForce_L4 fu size fo n4 (z4l3 + (1 : Int32)) (z4l1 + (fo (z4l3).toNatClampNeg)) else none))
theorem fT_meanForce_L4_z (fu : Nat) (size : Int32) (fo : Nat → Int64) (z4l3 : Int32) (z4l1 : Int64) : fT_meanForce_L4 fu size fo 0 z4l3 z4l1 = none := rfl
theorem fT_meanForce_L4_s (fu : Nat) (size : Int32) (fo : Nat → Int64) (z4l3 : Int32) (z4l1 : Int64) (n4 : Nat) : fT_meanForce_L4 fu size fo (n4 + 1) z4l3 z4l1 = (if size ≤ z4l3 then ((fL_quotient fu z4l1 (size).toInt64).bind fun r_39 => some r_39) else (if ¬ (z4l3 < 0 ∨ 10 ≤ (z4l3).toNatClampNeg) then fT_meanForce_L4 fu size fo n4 (z4l3 + (1 : Int32)) (z4l1 + (fo (z4l3).toNatClampNeg)) else none)) := rfl
def fT_meanForce (fu : Nat) (area : Int32) (state : Int32) (pf : Int32) (pw : Int32) (size : Int32) (xs : Nat → Int32) (ys : Nat → Int32) (ln : Nat → Int32) (sl : Nat → Int32) (fo : Nat → Int64) (tr : Nat → Int64) : Option ((Int64)) := fT_meanForce_L4 fu size fo fu (0 : Int32) (0 : Int64)
def rmT_meanForce : Room := { frames := 1, cells := 0, slots := 0, locals := 23 }
set_option maxHeartbeats 4000000 in
set_option maxRecDepth 100000 in
theorem mT_meanForce (l : Launch) (dC : Nat → ClassId) (dI : Nat → Nat → Nat) (cI cL cT : ClassId) (t d xa ya la sa fa ra : Nat) (sz : Nat) (fu : Nat) (area : Int32) (state : Int32) (pf : Int32) (pw : Int32) (size : Int32) (xs : Nat → Int32) (ys : Nat → Int32) (ln : Nat → Int32) (sl : Nat → Int32) (fo : Nat → Int64) (tr : Nat → Int64) (o0 : Int64) (hf : fT_meanForce fu area state pf pw size xs ys ln sl fo tr = some (o0)) : Met l yT_meanForce wT_meanForce rmT_meanForce (kP (dC, dI) [(cI, .int), (cL, .long), (cT, .object "TendonLosses$Tendon")] [.ref t] [(t, .inr (2, [.ref d, .int area, .ref fa, .ref ra, .int state, .int pf, .int pw])), (d, .inr (0, [.ref xa, .ref ya, .ref la, .ref sa, .int size])), (xa, .inl (cI, 10, .inl xs)), (ya, .inl (cI, 10, .inl ys)), (la, .inl (cI, 10, .inl ln)), (sa, .inl (cI, 10, .inl sl)), (fa, .inl (cL, 10, .inr (.inl fo))), (ra, .inl (cL, 10, .inr (.inl tr)))] sz) (va_Ql (fun (r : Int64) (_ : Unit) => r = o0) (kB (dC, dI) [(cI, .int), (cL, .long), (cT, .object "TendonLosses$Tendon")] (va_A [(t, .inr (2, [.ref d, .int area, .ref fa, .ref ra, .int state, .int pf, .int pw])), (d, .inr (0, [.ref xa, .ref ya, .ref la, .ref sa, .int size])), (xa, .inl (cI, 10, .inl xs)), (ya, .inl (cI, 10, .inl ys)), (la, .inl (cI, 10, .inl ln)), (sa, .inl (cI, 10, .inl sl)), (fa, .inl (cL, 10, .inr (.inl fo))), (ra, .inl (cL, 10, .inr (.inl tr)))] sz) [(t, .inr (2, [.ref d, .int area, .ref fa, .ref ra, .int state, .int pf, .int pw])), (d, .inr (0, [.ref xa, .ref ya, .ref la, .ref sa, .int size])), (xa, .inl (cI, 10, .inl xs)), (ya, .inl (cI, 10, .inl ys)), (la, .inl (cI, 10, .inl ln)), (sa, .inl (cI, 10, .inl sl)), (fa, .inl (cL, 10, .inr (.inl fo))), (ra, .inl (cL, 10, .inr (.inl tr)))]) (va_A [(t, .inr (2, [.ref d, .int area, .ref fa, .ref ra, .int state, .int pf, .int pw])), (d, .inr (0, [.ref xa, .ref ya, .ref la, .ref sa, .int size])), (xa, .inl (cI, 10, .inl xs)), (ya, .inl (cI, 10, .inl ys)), (la, .inl (cI, 10, .inl ln)), (sa, .inl (cI, 10, .inl sl)), (fa, .inl (cL, 10, .inr (.inl fo))), (ra, .inl (cL, 10, .inr (.inl tr)))] sz)) 0 0 (va_A [(t, .inr (2, [.ref d, .int area, .ref fa, .ref ra, .int state, .int pf, .int pw])), (d, .inr (0, [.ref xa, .ref ya, .ref la, .ref sa, .int size])), (xa, .inl (cI, 10, .inl xs)), (ya, .inl (cI, 10, .inl ys)), (la, .inl (cI, 10, .inl ln)), (sa, .inl (cI, 10, .inl sl)), (fa, .inl (cL, 10, .inr (.inl fo))), (ra, .inl (cL, 10, .inr (.inl tr)))] sz) := by
  refine Met.ofW (cc := bT_meanForce) (maxL := 4) (ret := (some .long)) (by decide) rfl ?_
  intro p e s m args below meth c s₁ B hml hv
  obtain ⟨rfl, hsz, hP, hK, hD0, hN⟩ := hv
  have hx := B.exec
  have hb := B.bytes
  have hr := B.returns
  have hts : ∀ w ∈ gt, w.before ([.ref t] : List Value).toArray s = true := fun w h => atoms_spec (ws := wT_meanForce) B.pre w (List.mem_cons_of_mem _ h)
  have hown : s.vm.findClass "TendonLosses$Tendon" = some m.cls := findClass_of_methodNamed B.named
  have hlocks := B.notSynchronized
  subst hsz
  have hD := hD0.self (sz := s.heap.size)
  generalize hAe : va_A [(t, .inr (2, [.ref d, .int area, .ref fa, .ref ra, .int state, .int pf, .int pw])), (d, .inr (0, [.ref xa, .ref ya, .ref la, .ref sa, .int size])), (xa, .inl (cI, 10, .inl xs)), (ya, .inl (cI, 10, .inl ys)), (la, .inl (cI, 10, .inl ln)), (sa, .inl (cI, 10, .inl sl)), (fa, .inl (cL, 10, .inr (.inl fo))), (ra, .inl (cL, 10, .inr (.inl tr)))] s.heap.size = A at hD ⊢
  have hA : ∀ q : Nat, s.heap.size ≤ q → A q := fun q h => by rw [← hAe]; exact Or.inr h
  have hS : va_S A s.heap s.heap [] := va_S.rf
  have hP : va_P (dC, dI) vwCl [(t, .inr (2, [.ref d, .int area, .ref fa, .ref ra, .int state, .int pf, .int pw])), (d, .inr (0, [.ref xa, .ref ya, .ref la, .ref sa, .int size])), (xa, .inl (cI, 10, .inl xs)), (ya, .inl (cI, 10, .inl ys)), (la, .inl (cI, 10, .inl ln)), (sa, .inl (cI, 10, .inl sl)), (fa, .inl (cL, 10, .inr (.inl fo))), (ra, .inl (cL, 10, .inr (.inl tr)))] s.heap := hP
  have hl := lv_entry ([.ref t]) (n := 4) (Nat.le_of_ble_eq_true rfl)
  rw [lg_entry_eq]
  generalize (lg_sl ([.ref t]) ++ List.replicate (4 - (lg_sl ([.ref t])).length) Slot.unset).toArray = ls at hl ⊢
  have hl : lv_has ls 4 [(0, .ref t)] := hl
  refine W.nameQ (fun Q hQ => ?_)
  unfold fT_meanForce at hf
  refine lv_lconst (v := (0 : Int64)) hx hb dT_meanForce_0 (by decide) ?_
  refine lv_lstore_n (lv' := [(1, .long (0 : Int64)), (0, .ref t)]) hx hb dT_meanForce_1 rfl hl (by decide) rfl (fun ls hl => ?_)
  refine lv_iconst (v := (0 : Int32)) hx hb dT_meanForce_2 (by decide) ?_
  refine lv_istore_n (lv' := [(3, .int (0 : Int32)), (1, .long (0 : Int64)), (0, .ref t)]) hx hb dT_meanForce_3 rfl hl (by decide) rfl (fun ls hl => ?_)
  have L4 : ∀ (n4 : Nat) (z4l3 : Int32) (z4l1 : Int64) (H : Heap) (locs : List Loc) (ls : Array Slot), va_P (dC, dI) vwCl [(t, .inr (2, [.ref d, .int area, .ref fa, .ref ra, .int state, .int pf, .int pw])), (d, .inr (0, [.ref xa, .ref ya, .ref la, .ref sa, .int size])), (xa, .inl (cI, 10, .inl xs)), (ya, .inl (cI, 10, .inl ys)), (la, .inl (cI, 10, .inl ln)), (sa, .inl (cI, 10, .inl sl)), (fa, .inl (cL, 10, .inr (.inl fo))), (ra, .inl (cL, 10, .inr (.inl tr)))] H → va_D A [(t, .inr (2, [.ref d, .int area, .ref fa, .ref ra, .int state, .int pf, .int pw])), (d, .inr (0, [.ref xa, .ref ya, .ref la, .ref sa, .int size])), (xa, .inl (cI, 10, .inl xs)), (ya, .inl (cI, 10, .inl ys)), (la, .inl (cI, 10, .inl ln)), (sa, .inl (cI, 10, .inl sl)), (fa, .inl (cL, 10, .inr (.inl fo))), (ra, .inl (cL, 10, .inr (.inl tr)))] → va_S A s.heap H locs → lv_has ls 4 [(3, .int z4l3), (1, .long z4l1), (0, .ref t)] → fT_meanForce_L4 fu size fo n4 z4l3 z4l1 = some (o0) → W p l e (headSpec wT_meanForce rmT_meanForce).room s m ([.ref t] : List Value).toArray below meth c H locs 0 0 Q (F0 m 4 ls []) := by
    intro n4
    induction n4 with
    | zero =>
      intro z4l3 z4l1 H locs ls hP hD hS hl hf
      rw [fT_meanForce_L4_z] at hf
      cases hf
    | succ n4 ih4 =>
      intro z4l3 z4l1 H locs ls hP hD hS hl hf
      rw [fT_meanForce_L4_s] at hf
      refine lv_iload_n hx hb dT_meanForce_4 rfl (lv_at hl 0 rfl) ?_
      refine lv_aload_n hx hb dT_meanForce_5 rfl (lv_at hl 2 rfl) ?_
      refine va_get (D := (dC, dI)) (ci := 2) (v := .ref d) (C := "TendonLosses$Tendon") (T := TT_T) (N := 7) hx hb hts in_T hown hK hP 0 rfl rfl 0 (by decide) (hts _ kw_130) (fun _ h9 => h9) rfl dT_meanForce_6 ?_
      refine va_get (D := (dC, dI)) (ci := 0) (v := .int size) (C := "TendonLosses$Duct") (T := TT_D) (N := 5) hx hb hts in_D hown hK hP 1 rfl rfl 4 (by decide) (hts _ kw_117) (fun _ h9 => h9) rfl dT_meanForce_9 ?_
      refine lv_icmp_ge (tgt := 30) hx hb dT_meanForce_12 (by decide) (fun c_12 => ?_) (fun c_12 => ?_)
      · have hf := o_t hf c_12
        refine lv_lload_n hx hb dT_meanForce_30 rfl (lv_at hl 1 rfl) ?_
        refine lv_aload_n hx hb dT_meanForce_31 rfl (lv_at hl 2 rfl) ?_
        refine va_get (D := (dC, dI)) (ci := 2) (v := .ref d) (C := "TendonLosses$Tendon") (T := TT_T) (N := 7) hx hb hts in_T hown hK hP 0 rfl rfl 0 (by decide) (hts _ kw_130) (fun _ h9 => h9) rfl dT_meanForce_32 ?_
        refine va_get (D := (dC, dI)) (ci := 0) (v := .int size) (C := "TendonLosses$Duct") (T := TT_D) (N := 5) hx hb hts in_D hown hK hP 1 rfl rfl 4 (by decide) (hts _ kw_117) (fun _ h9 => h9) rfl dT_meanForce_35 ?_
        refine lv_i2l (v := (size).toInt64) hx hb dT_meanForce_38 rfl ?_
        obtain ⟨r_39, q_39, hf⟩ := o_b hf
        have hPc := hP.sub (ws' := []) [] rfl
        have hDc := hD.sub (ws' := []) [] (by decide) rfl
        refine kc_l (va_runSN (As := [.long z4l1, .long (size).toInt64]) (rest := []) ⟨hx, hb, hml, hown, hts⟩ (mL_quotient l dC dI cI cL cT  H.size fu z4l1 (size).toInt64 (r_39) q_39) ⟨va_cnB 2 hts (gd_code kw_190) rfl rfl rfl hN.2.2.1 (hts _ kw_30) (by decide +kernel) ⟨Nat.le_of_ble_eq_true rfl, Nat.le_of_ble_eq_true rfl⟩, hts _ kw_189, trivial⟩ (kP_S hPc hK hDc hN) rfl rfl hl.1 rfl (lv_room (Nat.le_of_ble_eq_true rfl)) dT_meanForce_39 ⟨Nat.le_of_ble_eq_true rfl, Nat.le_of_ble_eq_true rfl⟩) hP hD hS hA (wc := []) (wr := [(t, .inr (2, [.ref d, .int area, .ref fa, .ref ra, .int state, .int pf, .int pw])), (d, .inr (0, [.ref xa, .ref ya, .ref la, .ref sa, .int size])), (xa, .inl (cI, 10, .inl xs)), (ya, .inl (cI, 10, .inl ys)), (la, .inl (cI, 10, .inl ln)), (sa, .inl (cI, 10, .inl sl)), (fa, .inl (cL, 10, .inr (.inl fo))), (ra, .inl (cL, 10, .inr (.inl tr)))]) (w1 := []) (ws' := [(t, .inr (2, [.ref d, .int area, .ref fa, .ref ra, .int state, .int pf, .int pw])), (d, .inr (0, [.ref xa, .ref ya, .ref la, .ref sa, .int size])), (xa, .inl (cI, 10, .inl xs)), (ya, .inl (cI, 10, .inl ys)), (la, .inl (cI, 10, .inl ln)), (sa, .inl (cI, 10, .inl sl)), (fa, .inl (cL, 10, .inr (.inl fo))), (ra, .inl (cL, 10, .inr (.inl tr)))]) [] [0, 1, 2, 3, 4, 5, 6, 7] [0, 1, 2, 3, 4, 5, 6, 7] rfl rfl (by decide) (by decide) rfl (by decide) rfl (fun H locs hP hD hS => ?_)
        have e9 := Option.some.inj hf
        subst e9
        subst hQ
        exact W.lret (v := r_39) hx hb hr (fun t ht hW => ⟨⟨r_39, (), rfl, rfl, by rw [ht]; exact hP, va_K.moved hW.alike hK, hD⟩, hS.F ht⟩) hS.2.2 dT_meanForce_42
      · have hf := o_f hf c_12
        refine lv_lload_n hx hb dT_meanForce_15 rfl (lv_at hl 1 rfl) ?_
        refine lv_aload_n hx hb dT_meanForce_16 rfl (lv_at hl 2 rfl) ?_
        refine va_get (D := (dC, dI)) (ci := 2) (v := .ref fa) (C := "TendonLosses$Tendon") (T := TT_T) (N := 7) hx hb hts in_T hown hK hP 0 rfl rfl 2 (by decide) (hts _ kw_133) (fun _ h9 => h9) rfl dT_meanForce_17 ?_
        refine lv_iload_n hx hb dT_meanForce_20 rfl (lv_at hl 0 rfl) ?_
        obtain ⟨h_21, hf⟩ := o_c hf
        refine va_lald hx hb hK hP 6 1 rfl rfl h_21 dT_meanForce_21 ?_
        refine lv_ladd hx hb dT_meanForce_22 ?_
        refine lv_lstore_n (lv' := [(1, .long (z4l1 + (fo (z4l3).toNatClampNeg))), (3, .int z4l3), (0, .ref t)]) hx hb dT_meanForce_23 rfl hl (by decide) rfl (fun ls hl => ?_)
        refine lv_iinc (v := (z4l3 + (1 : Int32))) (lv' := [(3, .int (z4l3 + (1 : Int32))), (1, .long (z4l1 + (fo (z4l3).toNatClampNeg))), (0, .ref t)]) hx hb dT_meanForce_24 hl (k := 1) rfl rfl (by decide) rfl (fun ls hl => ?_)
        refine lv_goto (tgt := 4) hx hb dT_meanForce_27 (by decide) ?_
        exact ih4 _ _ H locs ls hP hD hS (lv_sub hl [0, 1, 2] rfl) hf
  exact L4 fu _ _ _ _ ls hP hD hS (lv_sub hl [0, 1, 2] rfl) hf

def fT_loseEverywhere_L2 (fu : Nat) (size : Int32) (p1 : Int64) : Nat → (Int32) → (Nat → Int64) → Option ((Nat → Int64))
  | 0, _, _ => none
  | n2 + 1, z2l3, z2c6 => (if size ≤ z2l3 then some z2c6 else (if ¬ (z2l3 < 0 ∨ 10 ≤ (z2l3).toNatClampNeg) then (if ¬ (z2l3 < 0 ∨ 10 ≤ (z2l3).toNatClampNeg) then fT_loseEverywhere_L2 fu size p1 n2 (z2l3 + (1 : Int32)) (vp_updL z2c6 (z2l3).toNatClampNeg (if ((z2c6 (z2l3).toNatClampNeg) - p1) < (0 : Int64) then (0 : Int64) else ((z2c6 (z2l3).toNatClampNeg) - p1))) else none) else none))
theorem fT_loseEverywhere_L2_z (fu : Nat) (size : Int32) (p1 : Int64) (z2l3 : Int32) (z2c6 : Nat → Int64) : fT_loseEverywhere_L2 fu size p1 0 z2l3 z2c6 = none := rfl
theorem fT_loseEverywhere_L2_s (fu : Nat) (size : Int32) (p1 : Int64) (z2l3 : Int32) (z2c6 : Nat → Int64) (n2 : Nat) : fT_loseEverywhere_L2 fu size p1 (n2 + 1) z2l3 z2c6 = (if size ≤ z2l3 then some z2c6 else (if ¬ (z2l3 < 0 ∨ 10 ≤ (z2l3).toNatClampNeg) then (if ¬ (z2l3 < 0 ∨ 10 ≤ (z2l3).toNatClampNeg) then fT_loseEverywhere_L2 fu size p1 n2 (z2l3 + (1 : Int32)) (vp_updL z2c6 (z2l3).toNatClampNeg (if ((z2c6 (z2l3).toNatClampNeg) - p1) < (0 : Int64) then (0 : Int64) else ((z2c6 (z2l3).toNatClampNeg) - p1))) else none) else none)) := rfl
def fT_loseEverywhere (fu : Nat) (area : Int32) (state : Int32) (pf : Int32) (pw : Int32) (size : Int32) (xs : Nat → Int32) (ys : Nat → Int32) (ln : Nat → Int32) (sl : Nat → Int32) (fo : Nat → Int64) (tr : Nat → Int64) (p1 : Int64) : Option ((Nat → Int64)) := fT_loseEverywhere_L2 fu size p1 fu (0 : Int32) fo
def rmT_loseEverywhere : Room := { frames := 1, cells := 0, slots := 0, locals := 17 }
set_option maxHeartbeats 4000000 in
set_option maxRecDepth 100000 in
theorem mT_loseEverywhere (l : Launch) (dC : Nat → ClassId) (dI : Nat → Nat → Nat) (cI cL cT : ClassId) (t d xa ya la sa fa ra : Nat) (sz : Nat) (fu : Nat) (area : Int32) (state : Int32) (pf : Int32) (pw : Int32) (size : Int32) (xs : Nat → Int32) (ys : Nat → Int32) (ln : Nat → Int32) (sl : Nat → Int32) (fo : Nat → Int64) (tr : Nat → Int64) (p1 : Int64) (o0 : Nat → Int64) (hf : fT_loseEverywhere fu area state pf pw size xs ys ln sl fo tr p1 = some (o0)) : Met l yT_loseEverywhere wT_loseEverywhere rmT_loseEverywhere (kP (dC, dI) [(cI, .int), (cL, .long), (cT, .object "TendonLosses$Tendon")] [.ref t, .long p1] [(t, .inr (2, [.ref d, .int area, .ref fa, .ref ra, .int state, .int pf, .int pw])), (d, .inr (0, [.ref xa, .ref ya, .ref la, .ref sa, .int size])), (xa, .inl (cI, 10, .inl xs)), (ya, .inl (cI, 10, .inl ys)), (la, .inl (cI, 10, .inl ln)), (sa, .inl (cI, 10, .inl sl)), (fa, .inl (cL, 10, .inr (.inl fo))), (ra, .inl (cL, 10, .inr (.inl tr)))] sz) (va_Qv (fun (_ : Unit) => True) (kB (dC, dI) [(cI, .int), (cL, .long), (cT, .object "TendonLosses$Tendon")] (va_A [(t, .inr (2, [.ref d, .int area, .ref fa, .ref ra, .int state, .int pf, .int pw])), (d, .inr (0, [.ref xa, .ref ya, .ref la, .ref sa, .int size])), (xa, .inl (cI, 10, .inl xs)), (ya, .inl (cI, 10, .inl ys)), (la, .inl (cI, 10, .inl ln)), (sa, .inl (cI, 10, .inl sl)), (fa, .inl (cL, 10, .inr (.inl fo))), (ra, .inl (cL, 10, .inr (.inl tr)))] sz) [(t, .inr (2, [.ref d, .int area, .ref fa, .ref ra, .int state, .int pf, .int pw])), (d, .inr (0, [.ref xa, .ref ya, .ref la, .ref sa, .int size])), (xa, .inl (cI, 10, .inl xs)), (ya, .inl (cI, 10, .inl ys)), (la, .inl (cI, 10, .inl ln)), (sa, .inl (cI, 10, .inl sl)), (fa, .inl (cL, 10, .inr (.inl o0))), (ra, .inl (cL, 10, .inr (.inl tr)))]) (va_A [(t, .inr (2, [.ref d, .int area, .ref fa, .ref ra, .int state, .int pf, .int pw])), (d, .inr (0, [.ref xa, .ref ya, .ref la, .ref sa, .int size])), (xa, .inl (cI, 10, .inl xs)), (ya, .inl (cI, 10, .inl ys)), (la, .inl (cI, 10, .inl ln)), (sa, .inl (cI, 10, .inl sl)), (fa, .inl (cL, 10, .inr (.inl fo))), (ra, .inl (cL, 10, .inr (.inl tr)))] sz)) 0 0 (va_A [(t, .inr (2, [.ref d, .int area, .ref fa, .ref ra, .int state, .int pf, .int pw])), (d, .inr (0, [.ref xa, .ref ya, .ref la, .ref sa, .int size])), (xa, .inl (cI, 10, .inl xs)), (ya, .inl (cI, 10, .inl ys)), (la, .inl (cI, 10, .inl ln)), (sa, .inl (cI, 10, .inl sl)), (fa, .inl (cL, 10, .inr (.inl fo))), (ra, .inl (cL, 10, .inr (.inl tr)))] sz) := by
  refine Met.ofW (cc := bT_loseEverywhere) (maxL := 4) (ret := none) (by decide) rfl ?_
  intro p e s m args below meth c s₁ B hml hv
  obtain ⟨rfl, hsz, hP, hK, hD0, hN⟩ := hv
  have hx := B.exec
  have hb := B.bytes
  have hr := B.returns
  have hts : ∀ w ∈ gt, w.before ([.ref t, .long p1] : List Value).toArray s = true := fun w h => atoms_spec (ws := wT_loseEverywhere) B.pre w (List.mem_cons_of_mem _ h)
  have hown : s.vm.findClass "TendonLosses$Tendon" = some m.cls := findClass_of_methodNamed B.named
  have hlocks := B.notSynchronized
  subst hsz
  have hD := hD0.self (sz := s.heap.size)
  generalize hAe : va_A [(t, .inr (2, [.ref d, .int area, .ref fa, .ref ra, .int state, .int pf, .int pw])), (d, .inr (0, [.ref xa, .ref ya, .ref la, .ref sa, .int size])), (xa, .inl (cI, 10, .inl xs)), (ya, .inl (cI, 10, .inl ys)), (la, .inl (cI, 10, .inl ln)), (sa, .inl (cI, 10, .inl sl)), (fa, .inl (cL, 10, .inr (.inl fo))), (ra, .inl (cL, 10, .inr (.inl tr)))] s.heap.size = A at hD ⊢
  have hA : ∀ q : Nat, s.heap.size ≤ q → A q := fun q h => by rw [← hAe]; exact Or.inr h
  have hS : va_S A s.heap s.heap [] := va_S.rf
  have hP : va_P (dC, dI) vwCl [(t, .inr (2, [.ref d, .int area, .ref fa, .ref ra, .int state, .int pf, .int pw])), (d, .inr (0, [.ref xa, .ref ya, .ref la, .ref sa, .int size])), (xa, .inl (cI, 10, .inl xs)), (ya, .inl (cI, 10, .inl ys)), (la, .inl (cI, 10, .inl ln)), (sa, .inl (cI, 10, .inl sl)), (fa, .inl (cL, 10, .inr (.inl fo))), (ra, .inl (cL, 10, .inr (.inl tr)))] s.heap := hP
  have hl := lv_entry ([.ref t, .long p1]) (n := 4) (Nat.le_of_ble_eq_true rfl)
  rw [lg_entry_eq]
  generalize (lg_sl ([.ref t, .long p1]) ++ List.replicate (4 - (lg_sl ([.ref t, .long p1])).length) Slot.unset).toArray = ls at hl ⊢
  have hl : lv_has ls 4 [(0, .ref t), (1, .long p1)] := hl
  refine W.nameQ (fun Q hQ => ?_)
  unfold fT_loseEverywhere at hf
  refine lv_iconst (v := (0 : Int32)) hx hb dT_loseEverywhere_0 (by decide) ?_
  refine lv_istore_n (lv' := [(3, .int (0 : Int32)), (0, .ref t), (1, .long p1)]) hx hb dT_loseEverywhere_1 rfl hl (by decide) rfl (fun ls hl => ?_)
  have L2 : ∀ (n2 : Nat) (z2l3 : Int32) (z2c6 : Nat → Int64) (H : Heap) (locs : List Loc) (ls : Array Slot), va_P (dC, dI) vwCl [(t, .inr (2, [.ref d, .int area, .ref fa, .ref ra, .int state, .int pf, .int pw])), (d, .inr (0, [.ref xa, .ref ya, .ref la, .ref sa, .int size])), (xa, .inl (cI, 10, .inl xs)), (ya, .inl (cI, 10, .inl ys)), (la, .inl (cI, 10, .inl ln)), (sa, .inl (cI, 10, .inl sl)), (fa, .inl (cL, 10, .inr (.inl z2c6))), (ra, .inl (cL, 10, .inr (.inl tr)))] H → va_D A [(t, .inr (2, [.ref d, .int area, .ref fa, .ref ra, .int state, .int pf, .int pw])), (d, .inr (0, [.ref xa, .ref ya, .ref la, .ref sa, .int size])), (xa, .inl (cI, 10, .inl xs)), (ya, .inl (cI, 10, .inl ys)), (la, .inl (cI, 10, .inl ln)), (sa, .inl (cI, 10, .inl sl)), (fa, .inl (cL, 10, .inr (.inl z2c6))), (ra, .inl (cL, 10, .inr (.inl tr)))] → va_S A s.heap H locs → lv_has ls 4 [(3, .int z2l3), (0, .ref t), (1, .long p1)] → fT_loseEverywhere_L2 fu size p1 n2 z2l3 z2c6 = some (o0) → W p l e (headSpec wT_loseEverywhere rmT_loseEverywhere).room s m ([.ref t, .long p1] : List Value).toArray below meth c H locs 0 0 Q (F0 m 2 ls []) := by
    intro n2
    induction n2 with
    | zero =>
      intro z2l3 z2c6 H locs ls hP hD hS hl hf
      rw [fT_loseEverywhere_L2_z] at hf
      cases hf
    | succ n2 ih2 =>
      intro z2l3 z2c6 H locs ls hP hD hS hl hf
      rw [fT_loseEverywhere_L2_s] at hf
      refine lv_iload_n hx hb dT_loseEverywhere_2 rfl (lv_at hl 0 rfl) ?_
      refine lv_aload_n hx hb dT_loseEverywhere_3 rfl (lv_at hl 1 rfl) ?_
      refine va_get (D := (dC, dI)) (ci := 2) (v := .ref d) (C := "TendonLosses$Tendon") (T := TT_T) (N := 7) hx hb hts in_T hown hK hP 0 rfl rfl 0 (by decide) (hts _ kw_130) (fun _ h9 => h9) rfl dT_loseEverywhere_4 ?_
      refine va_get (D := (dC, dI)) (ci := 0) (v := .int size) (C := "TendonLosses$Duct") (T := TT_D) (N := 5) hx hb hts in_D hown hK hP 1 rfl rfl 4 (by decide) (hts _ kw_117) (fun _ h9 => h9) rfl dT_loseEverywhere_7 ?_
      refine lv_icmp_ge (tgt := 37) hx hb dT_loseEverywhere_10 (by decide) (fun c_10 => ?_) (fun c_10 => ?_)
      · have hf := o_t hf c_10
        have e9 := Option.some.inj hf
        subst e9
        subst hQ
        exact W.vret hx hb hr (fun t ht hW => ⟨⟨(), rfl, trivial, by rw [ht]; exact hP, va_K.moved hW.alike hK, hD⟩, hS.F ht⟩) hS.2.2 dT_loseEverywhere_37
      · have hf := o_f hf c_10
        refine lv_aload_n hx hb dT_loseEverywhere_13 rfl (lv_at hl 1 rfl) ?_
        refine va_get (D := (dC, dI)) (ci := 2) (v := .ref fa) (C := "TendonLosses$Tendon") (T := TT_T) (N := 7) hx hb hts in_T hown hK hP 0 rfl rfl 2 (by decide) (hts _ kw_133) (fun _ h9 => h9) rfl dT_loseEverywhere_14 ?_
        refine lv_iload_n hx hb dT_loseEverywhere_17 rfl (lv_at hl 0 rfl) ?_
        refine lv_lconst (v := (0 : Int64)) hx hb dT_loseEverywhere_18 (by decide) ?_
        refine lv_aload_n hx hb dT_loseEverywhere_19 rfl (lv_at hl 1 rfl) ?_
        refine va_get (D := (dC, dI)) (ci := 2) (v := .ref fa) (C := "TendonLosses$Tendon") (T := TT_T) (N := 7) hx hb hts in_T hown hK hP 0 rfl rfl 2 (by decide) (hts _ kw_133) (fun _ h9 => h9) rfl dT_loseEverywhere_20 ?_
        refine lv_iload_n hx hb dT_loseEverywhere_23 rfl (lv_at hl 0 rfl) ?_
        obtain ⟨h_24, hf⟩ := o_c hf
        refine va_lald hx hb hK hP 6 1 rfl rfl h_24 dT_loseEverywhere_24 ?_
        refine lv_lload_n hx hb dT_loseEverywhere_25 rfl (lv_at hl 2 rfl) ?_
        refine lv_lsub hx hb dT_loseEverywhere_26 ?_
        refine va_mmax_long hx hb (hml.trans hl.1.symm) hown (hts _ kw_253) (hts _ kw_254) (hts _ kw_35) (hts _ kw_255) (Nat.le_of_ble_eq_true rfl) (Nat.le_of_ble_eq_true rfl) (Nat.le_of_ble_eq_true rfl) (Nat.le_of_ble_eq_true rfl) dT_loseEverywhere_27 ?_
        obtain ⟨h_30, hf⟩ := o_c hf
        refine va_last hx hb hK hP hD hS 6 1 rfl rfl h_30 dT_loseEverywhere_30 (fun H locs hP hD hS => ?_)
        have hP : va_P (dC, dI) vwCl [(t, .inr (2, [.ref d, .int area, .ref fa, .ref ra, .int state, .int pf, .int pw])), (d, .inr (0, [.ref xa, .ref ya, .ref la, .ref sa, .int size])), (xa, .inl (cI, 10, .inl xs)), (ya, .inl (cI, 10, .inl ys)), (la, .inl (cI, 10, .inl ln)), (sa, .inl (cI, 10, .inl sl)), (fa, .inl (cL, 10, .inr (.inl (vp_updL z2c6 (z2l3).toNatClampNeg (if ((z2c6 (z2l3).toNatClampNeg) - p1) < (0 : Int64) then (0 : Int64) else ((z2c6 (z2l3).toNatClampNeg) - p1)))))), (ra, .inl (cL, 10, .inr (.inl tr)))] H := hP
        have hD : va_D A [(t, .inr (2, [.ref d, .int area, .ref fa, .ref ra, .int state, .int pf, .int pw])), (d, .inr (0, [.ref xa, .ref ya, .ref la, .ref sa, .int size])), (xa, .inl (cI, 10, .inl xs)), (ya, .inl (cI, 10, .inl ys)), (la, .inl (cI, 10, .inl ln)), (sa, .inl (cI, 10, .inl sl)), (fa, .inl (cL, 10, .inr (.inl (vp_updL z2c6 (z2l3).toNatClampNeg (if ((z2c6 (z2l3).toNatClampNeg) - p1) < (0 : Int64) then (0 : Int64) else ((z2c6 (z2l3).toNatClampNeg) - p1)))))), (ra, .inl (cL, 10, .inr (.inl tr)))] := hD
        refine lv_iinc (v := (z2l3 + (1 : Int32))) (lv' := [(3, .int (z2l3 + (1 : Int32))), (0, .ref t), (1, .long p1)]) hx hb dT_loseEverywhere_31 hl (k := 0) rfl rfl (by decide) rfl (fun ls hl => ?_)
        refine lv_goto (tgt := 2) hx hb dT_loseEverywhere_34 (by decide) ?_
        exact ih2 _ _ H locs ls hP hD hS (lv_sub hl [0, 1, 2] rfl) hf
  exact L2 fu _ _ _ _ ls hP hD hS (lv_sub hl [0, 1, 2] rfl) hf

def fT_fadeAway_L16 (fu : Nat) (p1 : Int32) (p2 : Int32) (z2l3 : Int32) (k2 : (Int32) → (Nat → Int64) → Option ((Nat → Int64))) : Nat → (Int32) → (Nat → Int64) → Option ((Nat → Int64))
  | 0, _, _ => none
  | n16 + 1, z16l4, z16c6 => (if p1 ≤ z16l4 then k2 (z2l3 + (1 : Int32)) z16c6 else (if ¬ (z2l3 < 0 ∨ 10 ≤ (z2l3).toNatClampNeg) then (if ¬ (z2l3 < 0 ∨ 10 ≤ (z2l3).toNatClampNeg) then (if ¬ (z2l3 < 0 ∨ 10 ≤ (z2l3).toNatClampNeg) then fT_fadeAway_L16 fu p1 p2 z2l3 k2 n16 (z16l4 + (1 : Int32)) (vp_updL z16c6 (z2l3).toNatClampNeg ((z16c6 (z2l3).toNatClampNeg) - (((z16c6 (z2l3).toNatClampNeg) * (p2).toInt64) / (1000000 : Int64)))) else none) else none) else none))
theorem fT_fadeAway_L16_z (fu : Nat) (p1 : Int32) (p2 : Int32) (z2l3 : Int32) (k2 : (Int32) → (Nat → Int64) → Option ((Nat → Int64))) (z16l4 : Int32) (z16c6 : Nat → Int64) : fT_fadeAway_L16 fu p1 p2 z2l3 k2 0 z16l4 z16c6 = none := rfl
theorem fT_fadeAway_L16_s (fu : Nat) (p1 : Int32) (p2 : Int32) (z2l3 : Int32) (k2 : (Int32) → (Nat → Int64) → Option ((Nat → Int64))) (z16l4 : Int32) (z16c6 : Nat → Int64) (n16 : Nat) : fT_fadeAway_L16 fu p1 p2 z2l3 k2 (n16 + 1) z16l4 z16c6 = (if p1 ≤ z16l4 then k2 (z2l3 + (1 : Int32)) z16c6 else (if ¬ (z2l3 < 0 ∨ 10 ≤ (z2l3).toNatClampNeg) then (if ¬ (z2l3 < 0 ∨ 10 ≤ (z2l3).toNatClampNeg) then (if ¬ (z2l3 < 0 ∨ 10 ≤ (z2l3).toNatClampNeg) then fT_fadeAway_L16 fu p1 p2 z2l3 k2 n16 (z16l4 + (1 : Int32)) (vp_updL z16c6 (z2l3).toNatClampNeg ((z16c6 (z2l3).toNatClampNeg) - (((z16c6 (z2l3).toNatClampNeg) * (p2).toInt64) / (1000000 : Int64)))) else none) else none) else none)) := rfl
def fT_fadeAway_L2 (fu : Nat) (size : Int32) (p1 : Int32) (p2 : Int32) : Nat → (Int32) → (Nat → Int64) → Option ((Nat → Int64))
  | 0, _, _ => none
  | n2 + 1, z2l3, z2c6 => (if size ≤ z2l3 then some z2c6 else fT_fadeAway_L16 fu p1 p2 z2l3 (fun a0 a1 => fT_fadeAway_L2 fu size p1 p2 n2 a0 a1) fu (0 : Int32) z2c6)
theorem fT_fadeAway_L2_z (fu : Nat) (size : Int32) (p1 : Int32) (p2 : Int32) (z2l3 : Int32) (z2c6 : Nat → Int64) : fT_fadeAway_L2 fu size p1 p2 0 z2l3 z2c6 = none := rfl
theorem fT_fadeAway_L2_s (fu : Nat) (size : Int32) (p1 : Int32) (p2 : Int32) (z2l3 : Int32) (z2c6 : Nat → Int64) (n2 : Nat) : fT_fadeAway_L2 fu size p1 p2 (n2 + 1) z2l3 z2c6 = (if size ≤ z2l3 then some z2c6 else fT_fadeAway_L16 fu p1 p2 z2l3 (fun a0 a1 => fT_fadeAway_L2 fu size p1 p2 n2 a0 a1) fu (0 : Int32) z2c6) := rfl
def fT_fadeAway (fu : Nat) (area : Int32) (state : Int32) (pf : Int32) (pw : Int32) (size : Int32) (xs : Nat → Int32) (ys : Nat → Int32) (ln : Nat → Int32) (sl : Nat → Int32) (fo : Nat → Int64) (tr : Nat → Int64) (p1 : Int32) (p2 : Int32) : Option ((Nat → Int64)) := fT_fadeAway_L2 fu size p1 p2 fu (0 : Int32) fo
def rmT_fadeAway : Room := { frames := 0, cells := 0, slots := 0, locals := 0 }
set_option maxHeartbeats 4000000 in
set_option maxRecDepth 100000 in
theorem mT_fadeAway (l : Launch) (dC : Nat → ClassId) (dI : Nat → Nat → Nat) (cI cL cT : ClassId) (t d xa ya la sa fa ra : Nat) (sz : Nat) (fu : Nat) (area : Int32) (state : Int32) (pf : Int32) (pw : Int32) (size : Int32) (xs : Nat → Int32) (ys : Nat → Int32) (ln : Nat → Int32) (sl : Nat → Int32) (fo : Nat → Int64) (tr : Nat → Int64) (p1 : Int32) (p2 : Int32) (o0 : Nat → Int64) (hf : fT_fadeAway fu area state pf pw size xs ys ln sl fo tr p1 p2 = some (o0)) : Met l yT_fadeAway wT_fadeAway rmT_fadeAway (kP (dC, dI) [(cI, .int), (cL, .long), (cT, .object "TendonLosses$Tendon")] [.ref t, .int p1, .int p2] [(t, .inr (2, [.ref d, .int area, .ref fa, .ref ra, .int state, .int pf, .int pw])), (d, .inr (0, [.ref xa, .ref ya, .ref la, .ref sa, .int size])), (xa, .inl (cI, 10, .inl xs)), (ya, .inl (cI, 10, .inl ys)), (la, .inl (cI, 10, .inl ln)), (sa, .inl (cI, 10, .inl sl)), (fa, .inl (cL, 10, .inr (.inl fo))), (ra, .inl (cL, 10, .inr (.inl tr)))] sz) (va_Qv (fun (_ : Unit) => True) (kB (dC, dI) [(cI, .int), (cL, .long), (cT, .object "TendonLosses$Tendon")] (va_A [(t, .inr (2, [.ref d, .int area, .ref fa, .ref ra, .int state, .int pf, .int pw])), (d, .inr (0, [.ref xa, .ref ya, .ref la, .ref sa, .int size])), (xa, .inl (cI, 10, .inl xs)), (ya, .inl (cI, 10, .inl ys)), (la, .inl (cI, 10, .inl ln)), (sa, .inl (cI, 10, .inl sl)), (fa, .inl (cL, 10, .inr (.inl fo))), (ra, .inl (cL, 10, .inr (.inl tr)))] sz) [(t, .inr (2, [.ref d, .int area, .ref fa, .ref ra, .int state, .int pf, .int pw])), (d, .inr (0, [.ref xa, .ref ya, .ref la, .ref sa, .int size])), (xa, .inl (cI, 10, .inl xs)), (ya, .inl (cI, 10, .inl ys)), (la, .inl (cI, 10, .inl ln)), (sa, .inl (cI, 10, .inl sl)), (fa, .inl (cL, 10, .inr (.inl o0))), (ra, .inl (cL, 10, .inr (.inl tr)))]) (va_A [(t, .inr (2, [.ref d, .int area, .ref fa, .ref ra, .int state, .int pf, .int pw])), (d, .inr (0, [.ref xa, .ref ya, .ref la, .ref sa, .int size])), (xa, .inl (cI, 10, .inl xs)), (ya, .inl (cI, 10, .inl ys)), (la, .inl (cI, 10, .inl ln)), (sa, .inl (cI, 10, .inl sl)), (fa, .inl (cL, 10, .inr (.inl fo))), (ra, .inl (cL, 10, .inr (.inl tr)))] sz)) 0 0 (va_A [(t, .inr (2, [.ref d, .int area, .ref fa, .ref ra, .int state, .int pf, .int pw])), (d, .inr (0, [.ref xa, .ref ya, .ref la, .ref sa, .int size])), (xa, .inl (cI, 10, .inl xs)), (ya, .inl (cI, 10, .inl ys)), (la, .inl (cI, 10, .inl ln)), (sa, .inl (cI, 10, .inl sl)), (fa, .inl (cL, 10, .inr (.inl fo))), (ra, .inl (cL, 10, .inr (.inl tr)))] sz) := by
  refine Met.ofW (cc := bT_fadeAway) (maxL := 5) (ret := none) (by decide) rfl ?_
  intro p e s m args below meth c s₁ B hml hv
  obtain ⟨rfl, hsz, hP, hK, hD0, hN⟩ := hv
  have hx := B.exec
  have hb := B.bytes
  have hr := B.returns
  have hts : ∀ w ∈ gt, w.before ([.ref t, .int p1, .int p2] : List Value).toArray s = true := fun w h => atoms_spec (ws := wT_fadeAway) B.pre w (List.mem_cons_of_mem _ h)
  have hown : s.vm.findClass "TendonLosses$Tendon" = some m.cls := findClass_of_methodNamed B.named
  have hlocks := B.notSynchronized
  subst hsz
  have hD := hD0.self (sz := s.heap.size)
  generalize hAe : va_A [(t, .inr (2, [.ref d, .int area, .ref fa, .ref ra, .int state, .int pf, .int pw])), (d, .inr (0, [.ref xa, .ref ya, .ref la, .ref sa, .int size])), (xa, .inl (cI, 10, .inl xs)), (ya, .inl (cI, 10, .inl ys)), (la, .inl (cI, 10, .inl ln)), (sa, .inl (cI, 10, .inl sl)), (fa, .inl (cL, 10, .inr (.inl fo))), (ra, .inl (cL, 10, .inr (.inl tr)))] s.heap.size = A at hD ⊢
  have hA : ∀ q : Nat, s.heap.size ≤ q → A q := fun q h => by rw [← hAe]; exact Or.inr h
  have hS : va_S A s.heap s.heap [] := va_S.rf
  have hP : va_P (dC, dI) vwCl [(t, .inr (2, [.ref d, .int area, .ref fa, .ref ra, .int state, .int pf, .int pw])), (d, .inr (0, [.ref xa, .ref ya, .ref la, .ref sa, .int size])), (xa, .inl (cI, 10, .inl xs)), (ya, .inl (cI, 10, .inl ys)), (la, .inl (cI, 10, .inl ln)), (sa, .inl (cI, 10, .inl sl)), (fa, .inl (cL, 10, .inr (.inl fo))), (ra, .inl (cL, 10, .inr (.inl tr)))] s.heap := hP
  have hl := lv_entry ([.ref t, .int p1, .int p2]) (n := 5) (Nat.le_of_ble_eq_true rfl)
  rw [lg_entry_eq]
  generalize (lg_sl ([.ref t, .int p1, .int p2]) ++ List.replicate (5 - (lg_sl ([.ref t, .int p1, .int p2])).length) Slot.unset).toArray = ls at hl ⊢
  have hl : lv_has ls 5 [(0, .ref t), (1, .int p1), (2, .int p2)] := hl
  refine W.nameQ (fun Q hQ => ?_)
  unfold fT_fadeAway at hf
  refine lv_iconst (v := (0 : Int32)) hx hb dT_fadeAway_0 (by decide) ?_
  refine lv_istore_n (lv' := [(3, .int (0 : Int32)), (0, .ref t), (1, .int p1), (2, .int p2)]) hx hb dT_fadeAway_1 rfl hl (by decide) rfl (fun ls hl => ?_)
  have L2 : ∀ (n2 : Nat) (z2l3 : Int32) (z2c6 : Nat → Int64) (H : Heap) (locs : List Loc) (ls : Array Slot), va_P (dC, dI) vwCl [(t, .inr (2, [.ref d, .int area, .ref fa, .ref ra, .int state, .int pf, .int pw])), (d, .inr (0, [.ref xa, .ref ya, .ref la, .ref sa, .int size])), (xa, .inl (cI, 10, .inl xs)), (ya, .inl (cI, 10, .inl ys)), (la, .inl (cI, 10, .inl ln)), (sa, .inl (cI, 10, .inl sl)), (fa, .inl (cL, 10, .inr (.inl z2c6))), (ra, .inl (cL, 10, .inr (.inl tr)))] H → va_D A [(t, .inr (2, [.ref d, .int area, .ref fa, .ref ra, .int state, .int pf, .int pw])), (d, .inr (0, [.ref xa, .ref ya, .ref la, .ref sa, .int size])), (xa, .inl (cI, 10, .inl xs)), (ya, .inl (cI, 10, .inl ys)), (la, .inl (cI, 10, .inl ln)), (sa, .inl (cI, 10, .inl sl)), (fa, .inl (cL, 10, .inr (.inl z2c6))), (ra, .inl (cL, 10, .inr (.inl tr)))] → va_S A s.heap H locs → lv_has ls 5 [(3, .int z2l3), (0, .ref t), (1, .int p1), (2, .int p2)] → fT_fadeAway_L2 fu size p1 p2 n2 z2l3 z2c6 = some (o0) → W p l e (headSpec wT_fadeAway rmT_fadeAway).room s m ([.ref t, .int p1, .int p2] : List Value).toArray below meth c H locs 0 0 Q (F0 m 2 ls []) := by
    intro n2
    induction n2 with
    | zero =>
      intro z2l3 z2c6 H locs ls hP hD hS hl hf
      rw [fT_fadeAway_L2_z] at hf
      cases hf
    | succ n2 ih2 =>
      intro z2l3 z2c6 H locs ls hP hD hS hl hf
      rw [fT_fadeAway_L2_s] at hf
      refine lv_iload_n hx hb dT_fadeAway_2 rfl (lv_at hl 0 rfl) ?_
      refine lv_aload_n hx hb dT_fadeAway_3 rfl (lv_at hl 1 rfl) ?_
      refine va_get (D := (dC, dI)) (ci := 2) (v := .ref d) (C := "TendonLosses$Tendon") (T := TT_T) (N := 7) hx hb hts in_T hown hK hP 0 rfl rfl 0 (by decide) (hts _ kw_130) (fun _ h9 => h9) rfl dT_fadeAway_4 ?_
      refine va_get (D := (dC, dI)) (ci := 0) (v := .int size) (C := "TendonLosses$Duct") (T := TT_D) (N := 5) hx hb hts in_D hown hK hP 1 rfl rfl 4 (by decide) (hts _ kw_117) (fun _ h9 => h9) rfl dT_fadeAway_7 ?_
      refine lv_icmp_ge (tgt := 56) hx hb dT_fadeAway_10 (by decide) (fun c_10 => ?_) (fun c_10 => ?_)
      · have hf := o_t hf c_10
        have e9 := Option.some.inj hf
        subst e9
        subst hQ
        exact W.vret hx hb hr (fun t ht hW => ⟨⟨(), rfl, trivial, by rw [ht]; exact hP, va_K.moved hW.alike hK, hD⟩, hS.F ht⟩) hS.2.2 dT_fadeAway_56
      · have hf := o_f hf c_10
        refine lv_iconst (v := (0 : Int32)) hx hb dT_fadeAway_13 (by decide) ?_
        refine lv_istore (lv' := [(4, .int (0 : Int32)), (3, .int z2l3), (0, .ref t), (1, .int p1), (2, .int p2)]) hx hb dT_fadeAway_14 hl (by decide) rfl (fun ls hl => ?_)
        have L16 : ∀ (n16 : Nat) (z16l4 : Int32) (z16c6 : Nat → Int64) (H : Heap) (locs : List Loc) (ls : Array Slot), va_P (dC, dI) vwCl [(t, .inr (2, [.ref d, .int area, .ref fa, .ref ra, .int state, .int pf, .int pw])), (d, .inr (0, [.ref xa, .ref ya, .ref la, .ref sa, .int size])), (xa, .inl (cI, 10, .inl xs)), (ya, .inl (cI, 10, .inl ys)), (la, .inl (cI, 10, .inl ln)), (sa, .inl (cI, 10, .inl sl)), (fa, .inl (cL, 10, .inr (.inl z16c6))), (ra, .inl (cL, 10, .inr (.inl tr)))] H → va_D A [(t, .inr (2, [.ref d, .int area, .ref fa, .ref ra, .int state, .int pf, .int pw])), (d, .inr (0, [.ref xa, .ref ya, .ref la, .ref sa, .int size])), (xa, .inl (cI, 10, .inl xs)), (ya, .inl (cI, 10, .inl ys)), (la, .inl (cI, 10, .inl ln)), (sa, .inl (cI, 10, .inl sl)), (fa, .inl (cL, 10, .inr (.inl z16c6))), (ra, .inl (cL, 10, .inr (.inl tr)))] → va_S A s.heap H locs → lv_has ls 5 [(4, .int z16l4), (3, .int z2l3), (0, .ref t), (1, .int p1), (2, .int p2)] → fT_fadeAway_L16 fu p1 p2 z2l3 (fun a0 a1 => fT_fadeAway_L2 fu size p1 p2 n2 a0 a1) n16 z16l4 z16c6 = some (o0) → W p l e (headSpec wT_fadeAway rmT_fadeAway).room s m ([.ref t, .int p1, .int p2] : List Value).toArray below meth c H locs 0 0 Q (F0 m 16 ls []) := by
          intro n16
          induction n16 with
          | zero =>
            intro z16l4 z16c6 H locs ls hP hD hS hl hf
            rw [fT_fadeAway_L16_z] at hf
            cases hf
          | succ n16 ih16 =>
            intro z16l4 z16c6 H locs ls hP hD hS hl hf
            rw [fT_fadeAway_L16_s] at hf
            refine lv_iload hx hb dT_fadeAway_16 (lv_at hl 0 rfl) ?_
            refine lv_iload_n hx hb dT_fadeAway_18 rfl (lv_at hl 3 rfl) ?_
            refine lv_icmp_ge (tgt := 50) hx hb dT_fadeAway_19 (by decide) (fun c_19 => ?_) (fun c_19 => ?_)
            · have hf := o_t hf c_19
              refine lv_iinc (v := (z2l3 + (1 : Int32))) (lv' := [(3, .int (z2l3 + (1 : Int32))), (4, .int z16l4), (0, .ref t), (1, .int p1), (2, .int p2)]) hx hb dT_fadeAway_50 hl (k := 1) rfl rfl (by decide) rfl (fun ls hl => ?_)
              refine lv_goto (tgt := 2) hx hb dT_fadeAway_53 (by decide) ?_
              exact ih2 _ _ H locs ls hP hD hS (lv_sub hl [0, 2, 3, 4] rfl) hf
            · have hf := o_f hf c_19
              refine lv_aload_n hx hb dT_fadeAway_22 rfl (lv_at hl 2 rfl) ?_
              refine va_get (D := (dC, dI)) (ci := 2) (v := .ref fa) (C := "TendonLosses$Tendon") (T := TT_T) (N := 7) hx hb hts in_T hown hK hP 0 rfl rfl 2 (by decide) (hts _ kw_133) (fun _ h9 => h9) rfl dT_fadeAway_23 ?_
              refine lv_iload_n hx hb dT_fadeAway_26 rfl (lv_at hl 1 rfl) ?_
              refine lv_dup2_11 hx hb dT_fadeAway_27 rfl rfl ?_
              obtain ⟨h_28, hf⟩ := o_c hf
              refine va_lald hx hb hK hP 6 1 rfl rfl h_28 dT_fadeAway_28 ?_
              refine lv_aload_n hx hb dT_fadeAway_29 rfl (lv_at hl 2 rfl) ?_
              refine va_get (D := (dC, dI)) (ci := 2) (v := .ref fa) (C := "TendonLosses$Tendon") (T := TT_T) (N := 7) hx hb hts in_T hown hK hP 0 rfl rfl 2 (by decide) (hts _ kw_133) (fun _ h9 => h9) rfl dT_fadeAway_30 ?_
              refine lv_iload_n hx hb dT_fadeAway_33 rfl (lv_at hl 1 rfl) ?_
              obtain ⟨h_34, hf⟩ := o_c hf
              refine va_lald hx hb hK hP 6 1 rfl rfl h_34 dT_fadeAway_34 ?_
              refine lv_iload_n hx hb dT_fadeAway_35 rfl (lv_at hl 4 rfl) ?_
              refine lv_i2l (v := (p2).toInt64) hx hb dT_fadeAway_36 rfl ?_
              refine lv_lmul hx hb dT_fadeAway_37 ?_
              refine lv_ldc2 (v := (1000000 : Int64)) hx hb hown (hts _ kw_317) dT_fadeAway_38 ?_
              refine lv_ldiv hx hb dT_fadeAway_41 (by decide) ?_
              refine lv_lsub hx hb dT_fadeAway_42 ?_
              obtain ⟨h_43, hf⟩ := o_c hf
              refine va_last hx hb hK hP hD hS 6 1 rfl rfl h_43 dT_fadeAway_43 (fun H locs hP hD hS => ?_)
              have hP : va_P (dC, dI) vwCl [(t, .inr (2, [.ref d, .int area, .ref fa, .ref ra, .int state, .int pf, .int pw])), (d, .inr (0, [.ref xa, .ref ya, .ref la, .ref sa, .int size])), (xa, .inl (cI, 10, .inl xs)), (ya, .inl (cI, 10, .inl ys)), (la, .inl (cI, 10, .inl ln)), (sa, .inl (cI, 10, .inl sl)), (fa, .inl (cL, 10, .inr (.inl (vp_updL z16c6 (z2l3).toNatClampNeg ((z16c6 (z2l3).toNatClampNeg) - (((z16c6 (z2l3).toNatClampNeg) * (p2).toInt64) / (1000000 : Int64))))))), (ra, .inl (cL, 10, .inr (.inl tr)))] H := hP
              have hD : va_D A [(t, .inr (2, [.ref d, .int area, .ref fa, .ref ra, .int state, .int pf, .int pw])), (d, .inr (0, [.ref xa, .ref ya, .ref la, .ref sa, .int size])), (xa, .inl (cI, 10, .inl xs)), (ya, .inl (cI, 10, .inl ys)), (la, .inl (cI, 10, .inl ln)), (sa, .inl (cI, 10, .inl sl)), (fa, .inl (cL, 10, .inr (.inl (vp_updL z16c6 (z2l3).toNatClampNeg ((z16c6 (z2l3).toNatClampNeg) - (((z16c6 (z2l3).toNatClampNeg) * (p2).toInt64) / (1000000 : Int64))))))), (ra, .inl (cL, 10, .inr (.inl tr)))] := hD
              refine lv_iinc (v := (z16l4 + (1 : Int32))) (lv' := [(4, .int (z16l4 + (1 : Int32))), (3, .int z2l3), (0, .ref t), (1, .int p1), (2, .int p2)]) hx hb dT_fadeAway_44 hl (k := 0) rfl rfl (by decide) rfl (fun ls hl => ?_)
              refine lv_goto (tgt := 16) hx hb dT_fadeAway_47 (by decide) ?_
              exact ih16 _ _ H locs ls hP hD hS (lv_sub hl [0, 1, 2, 3, 4] rfl) hf
        exact L16 fu _ _ _ _ ls hP hD hS (lv_sub hl [0, 1, 2, 3, 4] rfl) hf
  exact L2 fu _ _ _ _ ls hP hD hS (lv_sub hl [0, 1, 2, 3] rfl) hf

def fT_forceOn (fu : Nat) (area : Int32) (state : Int32) (pf : Int32) (pw : Int32) (size : Int32) (xs : Nat → Int32) (ys : Nat → Int32) (ln : Nat → Int32) (sl : Nat → Int32) (fo : Nat → Int64) (tr : Nat → Int64) (p1 : Int32) (p2 : Int32) : Option ((Int64)) := (if ¬ ((p1 + (1 : Int32)) < 0 ∨ 10 ≤ ((p1 + (1 : Int32))).toNatClampNeg) then (if ¬ (p1 < 0 ∨ 10 ≤ (p1).toNatClampNeg) then (if ¬ (p1 < 0 ∨ 10 ≤ (p1).toNatClampNeg) then (if ¬ (p1 < 0 ∨ 10 ≤ (p1).toNatClampNeg) then ((fD_widthOf fu size xs ys ln sl p1).bind fun r_45 => ((fL_quotient fu (((fo ((p1 + (1 : Int32))).toNatClampNeg) - (fo (p1).toNatClampNeg)) * ((p2 - (xs (p1).toNatClampNeg))).toInt64) (r_45).toInt64).bind fun r_49 => some ((fo (p1).toNatClampNeg) + r_49))) else none) else none) else none) else none)
def rmT_forceOn : Room := { frames := 1, cells := 0, slots := 0, locals := 23 }
set_option maxHeartbeats 4000000 in
set_option maxRecDepth 100000 in
theorem mT_forceOn (l : Launch) (dC : Nat → ClassId) (dI : Nat → Nat → Nat) (cI cL cT : ClassId) (t d xa ya la sa fa ra : Nat) (sz : Nat) (fu : Nat) (area : Int32) (state : Int32) (pf : Int32) (pw : Int32) (size : Int32) (xs : Nat → Int32) (ys : Nat → Int32) (ln : Nat → Int32) (sl : Nat → Int32) (fo : Nat → Int64) (tr : Nat → Int64) (p1 : Int32) (p2 : Int32) (o0 : Int64) (hf : fT_forceOn fu area state pf pw size xs ys ln sl fo tr p1 p2 = some (o0)) : Met l yT_forceOn wT_forceOn rmT_forceOn (kP (dC, dI) [(cI, .int), (cL, .long), (cT, .object "TendonLosses$Tendon")] [.ref t, .int p1, .int p2] [(t, .inr (2, [.ref d, .int area, .ref fa, .ref ra, .int state, .int pf, .int pw])), (d, .inr (0, [.ref xa, .ref ya, .ref la, .ref sa, .int size])), (xa, .inl (cI, 10, .inl xs)), (ya, .inl (cI, 10, .inl ys)), (la, .inl (cI, 10, .inl ln)), (sa, .inl (cI, 10, .inl sl)), (fa, .inl (cL, 10, .inr (.inl fo))), (ra, .inl (cL, 10, .inr (.inl tr)))] sz) (va_Ql (fun (r : Int64) (_ : Unit) => r = o0) (kB (dC, dI) [(cI, .int), (cL, .long), (cT, .object "TendonLosses$Tendon")] (va_A [(t, .inr (2, [.ref d, .int area, .ref fa, .ref ra, .int state, .int pf, .int pw])), (d, .inr (0, [.ref xa, .ref ya, .ref la, .ref sa, .int size])), (xa, .inl (cI, 10, .inl xs)), (ya, .inl (cI, 10, .inl ys)), (la, .inl (cI, 10, .inl ln)), (sa, .inl (cI, 10, .inl sl)), (fa, .inl (cL, 10, .inr (.inl fo))), (ra, .inl (cL, 10, .inr (.inl tr)))] sz) [(t, .inr (2, [.ref d, .int area, .ref fa, .ref ra, .int state, .int pf, .int pw])), (d, .inr (0, [.ref xa, .ref ya, .ref la, .ref sa, .int size])), (xa, .inl (cI, 10, .inl xs)), (ya, .inl (cI, 10, .inl ys)), (la, .inl (cI, 10, .inl ln)), (sa, .inl (cI, 10, .inl sl)), (fa, .inl (cL, 10, .inr (.inl fo))), (ra, .inl (cL, 10, .inr (.inl tr)))]) (va_A [(t, .inr (2, [.ref d, .int area, .ref fa, .ref ra, .int state, .int pf, .int pw])), (d, .inr (0, [.ref xa, .ref ya, .ref la, .ref sa, .int size])), (xa, .inl (cI, 10, .inl xs)), (ya, .inl (cI, 10, .inl ys)), (la, .inl (cI, 10, .inl ln)), (sa, .inl (cI, 10, .inl sl)), (fa, .inl (cL, 10, .inr (.inl fo))), (ra, .inl (cL, 10, .inr (.inl tr)))] sz)) 0 0 (va_A [(t, .inr (2, [.ref d, .int area, .ref fa, .ref ra, .int state, .int pf, .int pw])), (d, .inr (0, [.ref xa, .ref ya, .ref la, .ref sa, .int size])), (xa, .inl (cI, 10, .inl xs)), (ya, .inl (cI, 10, .inl ys)), (la, .inl (cI, 10, .inl ln)), (sa, .inl (cI, 10, .inl sl)), (fa, .inl (cL, 10, .inr (.inl fo))), (ra, .inl (cL, 10, .inr (.inl tr)))] sz) := by
  refine Met.ofW (cc := bT_forceOn) (maxL := 7) (ret := (some .long)) (by decide) rfl ?_
  intro p e s m args below meth c s₁ B hml hv
  obtain ⟨rfl, hsz, hP, hK, hD0, hN⟩ := hv
  have hx := B.exec
  have hb := B.bytes
  have hr := B.returns
  have hts : ∀ w ∈ gt, w.before ([.ref t, .int p1, .int p2] : List Value).toArray s = true := fun w h => atoms_spec (ws := wT_forceOn) B.pre w (List.mem_cons_of_mem _ h)
  have hown : s.vm.findClass "TendonLosses$Tendon" = some m.cls := findClass_of_methodNamed B.named
  have hlocks := B.notSynchronized
  subst hsz
  have hD := hD0.self (sz := s.heap.size)
  generalize hAe : va_A [(t, .inr (2, [.ref d, .int area, .ref fa, .ref ra, .int state, .int pf, .int pw])), (d, .inr (0, [.ref xa, .ref ya, .ref la, .ref sa, .int size])), (xa, .inl (cI, 10, .inl xs)), (ya, .inl (cI, 10, .inl ys)), (la, .inl (cI, 10, .inl ln)), (sa, .inl (cI, 10, .inl sl)), (fa, .inl (cL, 10, .inr (.inl fo))), (ra, .inl (cL, 10, .inr (.inl tr)))] s.heap.size = A at hD ⊢
  have hA : ∀ q : Nat, s.heap.size ≤ q → A q := fun q h => by rw [← hAe]; exact Or.inr h
  have hS : va_S A s.heap s.heap [] := va_S.rf
  have hP : va_P (dC, dI) vwCl [(t, .inr (2, [.ref d, .int area, .ref fa, .ref ra, .int state, .int pf, .int pw])), (d, .inr (0, [.ref xa, .ref ya, .ref la, .ref sa, .int size])), (xa, .inl (cI, 10, .inl xs)), (ya, .inl (cI, 10, .inl ys)), (la, .inl (cI, 10, .inl ln)), (sa, .inl (cI, 10, .inl sl)), (fa, .inl (cL, 10, .inr (.inl fo))), (ra, .inl (cL, 10, .inr (.inl tr)))] s.heap := hP
  have hl := lv_entry ([.ref t, .int p1, .int p2]) (n := 7) (Nat.le_of_ble_eq_true rfl)
  rw [lg_entry_eq]
  generalize (lg_sl ([.ref t, .int p1, .int p2]) ++ List.replicate (7 - (lg_sl ([.ref t, .int p1, .int p2])).length) Slot.unset).toArray = ls at hl ⊢
  have hl : lv_has ls 7 [(0, .ref t), (1, .int p1), (2, .int p2)] := hl
  refine W.nameQ (fun Q hQ => ?_)
  unfold fT_forceOn at hf
  refine lv_aload_n hx hb dT_forceOn_0 rfl (lv_at hl 0 rfl) ?_
  refine va_get (D := (dC, dI)) (ci := 2) (v := .ref fa) (C := "TendonLosses$Tendon") (T := TT_T) (N := 7) hx hb hts in_T hown hK hP 0 rfl rfl 2 (by decide) (hts _ kw_133) (fun _ h9 => h9) rfl dT_forceOn_1 ?_
  refine lv_iload_n hx hb dT_forceOn_4 rfl (lv_at hl 1 rfl) ?_
  refine lv_iconst (v := (1 : Int32)) hx hb dT_forceOn_5 (by decide) ?_
  refine lv_iadd hx hb dT_forceOn_6 ?_
  obtain ⟨h_7, hf⟩ := o_c hf
  refine va_lald hx hb hK hP 6 1 rfl rfl h_7 dT_forceOn_7 ?_
  refine lv_aload_n hx hb dT_forceOn_8 rfl (lv_at hl 0 rfl) ?_
  refine va_get (D := (dC, dI)) (ci := 2) (v := .ref fa) (C := "TendonLosses$Tendon") (T := TT_T) (N := 7) hx hb hts in_T hown hK hP 0 rfl rfl 2 (by decide) (hts _ kw_133) (fun _ h9 => h9) rfl dT_forceOn_9 ?_
  refine lv_iload_n hx hb dT_forceOn_12 rfl (lv_at hl 1 rfl) ?_
  obtain ⟨h_13, hf⟩ := o_c hf
  refine va_lald hx hb hK hP 6 1 rfl rfl h_13 dT_forceOn_13 ?_
  refine lv_lsub hx hb dT_forceOn_14 ?_
  refine lv_lstore_n (lv' := [(3, .long ((fo ((p1 + (1 : Int32))).toNatClampNeg) - (fo (p1).toNatClampNeg))), (0, .ref t), (1, .int p1), (2, .int p2)]) hx hb dT_forceOn_15 rfl hl (by decide) rfl (fun ls hl => ?_)
  refine lv_iload_n hx hb dT_forceOn_16 rfl (lv_at hl 3 rfl) ?_
  refine lv_aload_n hx hb dT_forceOn_17 rfl (lv_at hl 1 rfl) ?_
  refine va_get (D := (dC, dI)) (ci := 2) (v := .ref d) (C := "TendonLosses$Tendon") (T := TT_T) (N := 7) hx hb hts in_T hown hK hP 0 rfl rfl 0 (by decide) (hts _ kw_130) (fun _ h9 => h9) rfl dT_forceOn_18 ?_
  refine va_get (D := (dC, dI)) (ci := 0) (v := .ref xa) (C := "TendonLosses$Duct") (T := TT_D) (N := 5) hx hb hts in_D hown hK hP 1 rfl rfl 0 (by decide) (hts _ kw_109) (fun _ h9 => h9) rfl dT_forceOn_21 ?_
  refine lv_iload_n hx hb dT_forceOn_24 rfl (lv_at hl 2 rfl) ?_
  obtain ⟨h_25, hf⟩ := o_c hf
  refine va_iald hx hb hK hP 2 0 rfl rfl h_25 dT_forceOn_25 ?_
  refine lv_isub hx hb dT_forceOn_26 ?_
  refine lv_i2l (v := ((p2 - (xs (p1).toNatClampNeg))).toInt64) hx hb dT_forceOn_27 rfl ?_
  refine lv_lstore (lv' := [(5, .long ((p2 - (xs (p1).toNatClampNeg))).toInt64), (3, .long ((fo ((p1 + (1 : Int32))).toNatClampNeg) - (fo (p1).toNatClampNeg))), (0, .ref t), (1, .int p1), (2, .int p2)]) hx hb dT_forceOn_28 hl (by decide) rfl (fun ls hl => ?_)
  refine lv_aload_n hx hb dT_forceOn_30 rfl (lv_at hl 2 rfl) ?_
  refine va_get (D := (dC, dI)) (ci := 2) (v := .ref fa) (C := "TendonLosses$Tendon") (T := TT_T) (N := 7) hx hb hts in_T hown hK hP 0 rfl rfl 2 (by decide) (hts _ kw_133) (fun _ h9 => h9) rfl dT_forceOn_31 ?_
  refine lv_iload_n hx hb dT_forceOn_34 rfl (lv_at hl 3 rfl) ?_
  obtain ⟨h_35, hf⟩ := o_c hf
  refine va_lald hx hb hK hP 6 1 rfl rfl h_35 dT_forceOn_35 ?_
  refine lv_lload_n hx hb dT_forceOn_36 rfl (lv_at hl 1 rfl) ?_
  refine lv_lload hx hb dT_forceOn_37 (lv_at hl 0 rfl) ?_
  refine lv_lmul hx hb dT_forceOn_39 ?_
  refine lv_aload_n hx hb dT_forceOn_40 rfl (lv_at hl 2 rfl) ?_
  refine va_get (D := (dC, dI)) (ci := 2) (v := .ref d) (C := "TendonLosses$Tendon") (T := TT_T) (N := 7) hx hb hts in_T hown hK hP 0 rfl rfl 0 (by decide) (hts _ kw_130) (fun _ h9 => h9) rfl dT_forceOn_41 ?_
  refine lv_iload_n hx hb dT_forceOn_44 rfl (lv_at hl 3 rfl) ?_
  obtain ⟨r_45, q_45, hf⟩ := o_b hf
  have hPc := hP.sub (ws' := [(d, .inr (0, [.ref xa, .ref ya, .ref la, .ref sa, .int size])), (xa, .inl (cI, 10, .inl xs)), (ya, .inl (cI, 10, .inl ys)), (la, .inl (cI, 10, .inl ln)), (sa, .inl (cI, 10, .inl sl))]) [1, 2, 3, 4, 5] rfl
  have hDc := hD.sub (ws' := [(d, .inr (0, [.ref xa, .ref ya, .ref la, .ref sa, .int size])), (xa, .inl (cI, 10, .inl xs)), (ya, .inl (cI, 10, .inl ys)), (la, .inl (cI, 10, .inl ln)), (sa, .inl (cI, 10, .inl sl))]) [1, 2, 3, 4, 5] (by decide) rfl
  refine kc_i (va_runV (As := [.int p1]) (rest := [.long (((fo ((p1 + (1 : Int32))).toNatClampNeg) - (fo (p1).toNatClampNeg)) * ((p2 - (xs (p1).toNatClampNeg))).toInt64), .long (fo (p1).toNatClampNeg)]) ⟨hx, hb, hml, hown, hts⟩ (mD_widthOf l dC dI cI cL cT d xa ya la sa s.heap.size fu size xs ys ln sl p1 (r_45) q_45) ⟨callB_of 1 hts (gd_code kw_181) rfl rfl rfl (hts _ kw_34) (hts _ kw_342) (by decide +kernel) ⟨Nat.le_of_ble_eq_true rfl, Nat.le_of_ble_eq_true rfl⟩, hts _ kw_179, hts _ kw_180⟩ (kP_V hPc hK hDc hN (va_recv hK hPc (ci := 0) (q0 := 0) rfl rfl)) rfl rfl hl.1 rfl (lv_room (Nat.le_of_ble_eq_true rfl)) dT_forceOn_45 ⟨Nat.le_of_ble_eq_true rfl, Nat.le_of_ble_eq_true rfl⟩) hP hD hS hA (wc := [(d, .inr (0, [.ref xa, .ref ya, .ref la, .ref sa, .int size])), (xa, .inl (cI, 10, .inl xs)), (ya, .inl (cI, 10, .inl ys)), (la, .inl (cI, 10, .inl ln)), (sa, .inl (cI, 10, .inl sl))]) (wr := [(t, .inr (2, [.ref d, .int area, .ref fa, .ref ra, .int state, .int pf, .int pw])), (fa, .inl (cL, 10, .inr (.inl fo))), (ra, .inl (cL, 10, .inr (.inl tr)))]) (w1 := [(d, .inr (0, [.ref xa, .ref ya, .ref la, .ref sa, .int size])), (xa, .inl (cI, 10, .inl xs)), (ya, .inl (cI, 10, .inl ys)), (la, .inl (cI, 10, .inl ln)), (sa, .inl (cI, 10, .inl sl))]) (ws' := [(t, .inr (2, [.ref d, .int area, .ref fa, .ref ra, .int state, .int pf, .int pw])), (d, .inr (0, [.ref xa, .ref ya, .ref la, .ref sa, .int size])), (xa, .inl (cI, 10, .inl xs)), (ya, .inl (cI, 10, .inl ys)), (la, .inl (cI, 10, .inl ln)), (sa, .inl (cI, 10, .inl sl)), (fa, .inl (cL, 10, .inr (.inl fo))), (ra, .inl (cL, 10, .inr (.inl tr)))]) [1, 2, 3, 4, 5] [0, 6, 7] [0, 3, 4, 5, 6, 7, 1, 2] rfl rfl (by decide) (by decide) rfl (by decide) rfl (fun H locs hP hD hS => ?_)
  refine lv_i2l (v := (r_45).toInt64) hx hb dT_forceOn_48 rfl ?_
  obtain ⟨r_49, q_49, hf⟩ := o_b hf
  have hPc := hP.sub (ws' := []) [] rfl
  have hDc := hD.sub (ws' := []) [] (by decide) rfl
  refine kc_l (va_runSN (As := [.long (((fo ((p1 + (1 : Int32))).toNatClampNeg) - (fo (p1).toNatClampNeg)) * ((p2 - (xs (p1).toNatClampNeg))).toInt64), .long (r_45).toInt64]) (rest := [.long (fo (p1).toNatClampNeg)]) ⟨hx, hb, hml, hown, hts⟩ (mL_quotient l dC dI cI cL cT  H.size fu (((fo ((p1 + (1 : Int32))).toNatClampNeg) - (fo (p1).toNatClampNeg)) * ((p2 - (xs (p1).toNatClampNeg))).toInt64) (r_45).toInt64 (r_49) q_49) ⟨va_cnB 2 hts (gd_code kw_190) rfl rfl rfl hN.2.2.1 (hts _ kw_30) (by decide +kernel) ⟨Nat.le_of_ble_eq_true rfl, Nat.le_of_ble_eq_true rfl⟩, hts _ kw_189, trivial⟩ (kP_S hPc hK hDc hN) rfl rfl hl.1 rfl (lv_room (Nat.le_of_ble_eq_true rfl)) dT_forceOn_49 ⟨Nat.le_of_ble_eq_true rfl, Nat.le_of_ble_eq_true rfl⟩) hP hD hS hA (wc := []) (wr := [(t, .inr (2, [.ref d, .int area, .ref fa, .ref ra, .int state, .int pf, .int pw])), (d, .inr (0, [.ref xa, .ref ya, .ref la, .ref sa, .int size])), (xa, .inl (cI, 10, .inl xs)), (ya, .inl (cI, 10, .inl ys)), (la, .inl (cI, 10, .inl ln)), (sa, .inl (cI, 10, .inl sl)), (fa, .inl (cL, 10, .inr (.inl fo))), (ra, .inl (cL, 10, .inr (.inl tr)))]) (w1 := []) (ws' := [(t, .inr (2, [.ref d, .int area, .ref fa, .ref ra, .int state, .int pf, .int pw])), (d, .inr (0, [.ref xa, .ref ya, .ref la, .ref sa, .int size])), (xa, .inl (cI, 10, .inl xs)), (ya, .inl (cI, 10, .inl ys)), (la, .inl (cI, 10, .inl ln)), (sa, .inl (cI, 10, .inl sl)), (fa, .inl (cL, 10, .inr (.inl fo))), (ra, .inl (cL, 10, .inr (.inl tr)))]) [] [0, 1, 2, 3, 4, 5, 6, 7] [0, 1, 2, 3, 4, 5, 6, 7] rfl rfl (by decide) (by decide) rfl (by decide) rfl (fun H locs hP hD hS => ?_)
  refine lv_ladd hx hb dT_forceOn_52 ?_
  have e9 := Option.some.inj hf
  subst e9
  subst hQ
  exact W.lret (v := ((fo (p1).toNatClampNeg) + r_49)) hx hb hr (fun t ht hW => ⟨⟨((fo (p1).toNatClampNeg) + r_49), (), rfl, rfl, by rw [ht]; exact hP, va_K.moved hW.alike hK, hD⟩, hS.F ht⟩) hS.2.2 dT_forceOn_53
