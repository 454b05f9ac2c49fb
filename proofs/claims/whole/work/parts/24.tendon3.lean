def fT_slipAtEnd_L85 (fu : Nat) (size : Int32) (r_79 : (Nat → Int64)) : Nat → (Int32) → (Nat → Int64) → Option ((Nat → Int64) × (Nat → Int64))
  | 0, _, _ => none
  | n85 + 1, z85l6, z85c6 => (if size ≤ z85l6 then some (z85c6, r_79) else (if ¬ (z85l6 < 0 ∨ 10 ≤ (z85l6).toNatClampNeg) then (if ¬ (z85l6 < 0 ∨ 10 ≤ (z85l6).toNatClampNeg) then fT_slipAtEnd_L85 fu size r_79 n85 (z85l6 + (1 : Int32)) (vp_updL z85c6 (z85l6).toNatClampNeg (r_79 (z85l6).toNatClampNeg)) else none) else none))
theorem fT_slipAtEnd_L85_z (fu : Nat) (size : Int32) (r_79 : (Nat → Int64)) (z85l6 : Int32) (z85c6 : Nat → Int64) : fT_slipAtEnd_L85 fu size r_79 0 z85l6 z85c6 = none := rfl
theorem fT_slipAtEnd_L85_s (fu : Nat) (size : Int32) (r_79 : (Nat → Int64)) (z85l6 : Int32) (z85c6 : Nat → Int64) (n85 : Nat) : fT_slipAtEnd_L85 fu size r_79 (n85 + 1) z85l6 z85c6 = (if size ≤ z85l6 then some (z85c6, r_79) else (if ¬ (z85l6 < 0 ∨ 10 ≤ (z85l6).toNatClampNeg) then (if ¬ (z85l6 < 0 ∨ 10 ≤ (z85l6).toNatClampNeg) then fT_slipAtEnd_L85 fu size r_79 n85 (z85l6 + (1 : Int32)) (vp_updL z85c6 (z85l6).toNatClampNeg (r_79 (z85l6).toNatClampNeg)) else none) else none)) := rfl
def fT_slipAtEnd_L12 (fu : Nat) (area : Int32) (state : Int32) (pf : Int32) (pw : Int32) (size : Int32) (xs : Nat → Int32) (ys : Nat → Int32) (ln : Nat → Int32) (sl : Nat → Int32) (fo : Nat → Int64) (rough : Int32) (mu : Int32) (p1 : Int32) (p2 : Int32) : Nat → (Int32) → (Int32) → (Int32) → (Nat → Int64) → Option ((Nat → Int64) × (Nat → Int64))
  | 0, _, _, _, _ => none
  | n12 + 1, z12l6, z12l5, z12l4, z12c7 => (if (40 : Int32) ≤ z12l6 then ((fT_tryAnchor fu area state pf pw size xs ys ln sl fo z12c7 rough mu p1 z12l4).bind fun r_79 => fT_slipAtEnd_L85 fu size r_79 fu (0 : Int32) fo) else (if z12l5 ≤ z12l4 then ((fT_tryAnchor fu area state pf pw size xs ys ln sl fo z12c7 rough mu p1 z12l4).bind fun r_79 => fT_slipAtEnd_L85 fu size r_79 fu (0 : Int32) fo) else ((fT_tryAnchor fu area state pf pw size xs ys ln sl fo z12c7 rough mu p1 (((z12l4 + z12l5) + (1 : Int32)) / (2 : Int32))).bind fun r_42 => ((fT_shortening fu area state pf pw size xs ys ln sl fo r_42).bind fun r_46 => (((if r_46 < (p2).toInt64 then some (((((z12l4 + z12l5) + (1 : Int32)) / (2 : Int32)) - (1 : Int32)), z12l4) else some (z12l5, (((z12l4 + z12l5) + (1 : Int32)) / (2 : Int32))))).bind fun j_51 => fT_slipAtEnd_L12 fu area state pf pw size xs ys ln sl fo rough mu p1 p2 n12 (z12l6 + (1 : Int32)) (j_51.1) (j_51.2) r_42)))))
theorem fT_slipAtEnd_L12_z (fu : Nat) (area : Int32) (state : Int32) (pf : Int32) (pw : Int32) (size : Int32) (xs : Nat → Int32) (ys : Nat → Int32) (ln : Nat → Int32) (sl : Nat → Int32) (fo : Nat → Int64) (rough : Int32) (mu : Int32) (p1 : Int32) (p2 : Int32) (z12l6 : Int32) (z12l5 : Int32) (z12l4 : Int32) (z12c7 : Nat → Int64) : fT_slipAtEnd_L12 fu area state pf pw size xs ys ln sl fo rough mu p1 p2 0 z12l6 z12l5 z12l4 z12c7 = none := rfl
theorem fT_slipAtEnd_L12_s (fu : Nat) (area : Int32) (state : Int32) (pf : Int32) (pw : Int32) (size : Int32) (xs : Nat → Int32) (ys : Nat → Int32) (ln : Nat → Int32) (sl : Nat → Int32) (fo : Nat → Int64) (rough : Int32) (mu : Int32) (p1 : Int32) (p2 : Int32) (z12l6 : Int32) (z12l5 : Int32) (z12l4 : Int32) (z12c7 : Nat → Int64) (n12 : Nat) : fT_slipAtEnd_L12 fu area state pf pw size xs ys ln sl fo rough mu p1 p2 (n12 + 1) z12l6 z12l5 z12l4 z12c7 = (if (40 : Int32) ≤ z12l6 then ((fT_tryAnchor fu area state pf pw size xs ys ln sl fo z12c7 rough mu p1 z12l4).bind fun r_79 => fT_slipAtEnd_L85 fu size r_79 fu (0 : Int32) fo) else (if z12l5 ≤ z12l4 then ((fT_tryAnchor fu area state pf pw size xs ys ln sl fo z12c7 rough mu p1 z12l4).bind fun r_79 => fT_slipAtEnd_L85 fu size r_79 fu (0 : Int32) fo) else ((fT_tryAnchor fu area state pf pw size xs ys ln sl fo z12c7 rough mu p1 (((z12l4 + z12l5) + (1 : Int32)) / (2 : Int32))).bind fun r_42 => ((fT_shortening fu area state pf pw size xs ys ln sl fo r_42).bind fun r_46 => (((if r_46 < (p2).toInt64 then some (((((z12l4 + z12l5) + (1 : Int32)) / (2 : Int32)) - (1 : Int32)), z12l4) else some (z12l5, (((z12l4 + z12l5) + (1 : Int32)) / (2 : Int32))))).bind fun j_51 => fT_slipAtEnd_L12 fu area state pf pw size xs ys ln sl fo rough mu p1 p2 n12 (z12l6 + (1 : Int32)) (j_51.1) (j_51.2) r_42))))) := rfl
def fT_slipAtEnd (fu : Nat) (area : Int32) (state : Int32) (pf : Int32) (pw : Int32) (size : Int32) (xs : Nat → Int32) (ys : Nat → Int32) (ln : Nat → Int32) (sl : Nat → Int32) (fo : Nat → Int64) (tr : Nat → Int64) (rough : Int32) (mu : Int32) (p1 : Int32) (p2 : Int32) : Option ((Nat → Int64) × (Nat → Int64)) := fT_slipAtEnd_L12 fu area state pf pw size xs ys ln sl fo rough mu p1 p2 fu (0 : Int32) pw (0 : Int32) tr
def rmT_slipAtEnd : Room := { frames := 4, cells := 0, slots := 0, locals := 90 }
set_option maxHeartbeats 4000000 in
set_option maxRecDepth 100000 in
theorem mT_slipAtEnd (l : Launch) (dC : Nat → ClassId) (dI : Nat → Nat → Nat) (cI cL cT : ClassId) (t d xa ya la sa fa ra fr : Nat) (sz : Nat) (fu : Nat) (area : Int32) (state : Int32) (pf : Int32) (pw : Int32) (size : Int32) (xs : Nat → Int32) (ys : Nat → Int32) (ln : Nat → Int32) (sl : Nat → Int32) (fo : Nat → Int64) (tr : Nat → Int64) (rough : Int32) (mu : Int32) (p1 : Int32) (p2 : Int32) (o0 : Nat → Int64) (o1 : Nat → Int64) (hf : fT_slipAtEnd fu area state pf pw size xs ys ln sl fo tr rough mu p1 p2 = some (o0, o1)) : Met l yT_slipAtEnd wT_slipAtEnd rmT_slipAtEnd (kP (dC, dI) [(cI, .int), (cL, .long), (cT, .object "TendonLosses$Tendon")] [.ref t, .int p1, .int p2, .ref fr] [(t, .inr (2, [.ref d, .int area, .ref fa, .ref ra, .int state, .int pf, .int pw])), (d, .inr (0, [.ref xa, .ref ya, .ref la, .ref sa, .int size])), (xa, .inl (cI, 10, .inl xs)), (ya, .inl (cI, 10, .inl ys)), (la, .inl (cI, 10, .inl ln)), (sa, .inl (cI, 10, .inl sl)), (fa, .inl (cL, 10, .inr (.inl fo))), (ra, .inl (cL, 10, .inr (.inl tr))), (fr, .inr (1, [.int rough, .int mu]))] sz) (va_Qv (fun (_ : Unit) => True) (kB (dC, dI) [(cI, .int), (cL, .long), (cT, .object "TendonLosses$Tendon")] (va_A [(t, .inr (2, [.ref d, .int area, .ref fa, .ref ra, .int state, .int pf, .int pw])), (d, .inr (0, [.ref xa, .ref ya, .ref la, .ref sa, .int size])), (xa, .inl (cI, 10, .inl xs)), (ya, .inl (cI, 10, .inl ys)), (la, .inl (cI, 10, .inl ln)), (sa, .inl (cI, 10, .inl sl)), (fa, .inl (cL, 10, .inr (.inl fo))), (ra, .inl (cL, 10, .inr (.inl tr))), (fr, .inr (1, [.int rough, .int mu]))] sz) [(t, .inr (2, [.ref d, .int area, .ref fa, .ref ra, .int state, .int pf, .int pw])), (d, .inr (0, [.ref xa, .ref ya, .ref la, .ref sa, .int size])), (xa, .inl (cI, 10, .inl xs)), (ya, .inl (cI, 10, .inl ys)), (la, .inl (cI, 10, .inl ln)), (sa, .inl (cI, 10, .inl sl)), (fa, .inl (cL, 10, .inr (.inl o0))), (ra, .inl (cL, 10, .inr (.inl o1))), (fr, .inr (1, [.int rough, .int mu]))]) (va_A [(t, .inr (2, [.ref d, .int area, .ref fa, .ref ra, .int state, .int pf, .int pw])), (d, .inr (0, [.ref xa, .ref ya, .ref la, .ref sa, .int size])), (xa, .inl (cI, 10, .inl xs)), (ya, .inl (cI, 10, .inl ys)), (la, .inl (cI, 10, .inl ln)), (sa, .inl (cI, 10, .inl sl)), (fa, .inl (cL, 10, .inr (.inl fo))), (ra, .inl (cL, 10, .inr (.inl tr))), (fr, .inr (1, [.int rough, .int mu]))] sz)) 0 0 (va_A [(t, .inr (2, [.ref d, .int area, .ref fa, .ref ra, .int state, .int pf, .int pw])), (d, .inr (0, [.ref xa, .ref ya, .ref la, .ref sa, .int size])), (xa, .inl (cI, 10, .inl xs)), (ya, .inl (cI, 10, .inl ys)), (la, .inl (cI, 10, .inl ln)), (sa, .inl (cI, 10, .inl sl)), (fa, .inl (cL, 10, .inr (.inl fo))), (ra, .inl (cL, 10, .inr (.inl tr))), (fr, .inr (1, [.int rough, .int mu]))] sz) := by
  refine Met.ofW (cc := bT_slipAtEnd) (maxL := 8) (ret := none) (by decide) rfl ?_
  intro p e s m args below meth c s₁ B hml hv
  obtain ⟨rfl, hsz, hP, hK, hD0, hN⟩ := hv
  have hx := B.exec
  have hb := B.bytes
  have hr := B.returns
  have hts : ∀ w ∈ gt, w.before ([.ref t, .int p1, .int p2, .ref fr] : List Value).toArray s = true := fun w h => atoms_spec (ws := wT_slipAtEnd) B.pre w (List.mem_cons_of_mem _ h)
  have hown : s.vm.findClass "TendonLosses$Tendon" = some m.cls := findClass_of_methodNamed B.named
  have hlocks := B.notSynchronized
  subst hsz
  have hD := hD0.self (sz := s.heap.size)
  generalize hAe : va_A [(t, .inr (2, [.ref d, .int area, .ref fa, .ref ra, .int state, .int pf, .int pw])), (d, .inr (0, [.ref xa, .ref ya, .ref la, .ref sa, .int size])), (xa, .inl (cI, 10, .inl xs)), (ya, .inl (cI, 10, .inl ys)), (la, .inl (cI, 10, .inl ln)), (sa, .inl (cI, 10, .inl sl)), (fa, .inl (cL, 10, .inr (.inl fo))), (ra, .inl (cL, 10, .inr (.inl tr))), (fr, .inr (1, [.int rough, .int mu]))] s.heap.size = A at hD ⊢
  have hA : ∀ q : Nat, s.heap.size ≤ q → A q := fun q h => by rw [← hAe]; exact Or.inr h
  have hS : va_S A s.heap s.heap [] := va_S.rf
  have hP : va_P (dC, dI) vwCl [(t, .inr (2, [.ref d, .int area, .ref fa, .ref ra, .int state, .int pf, .int pw])), (d, .inr (0, [.ref xa, .ref ya, .ref la, .ref sa, .int size])), (xa, .inl (cI, 10, .inl xs)), (ya, .inl (cI, 10, .inl ys)), (la, .inl (cI, 10, .inl ln)), (sa, .inl (cI, 10, .inl sl)), (fa, .inl (cL, 10, .inr (.inl fo))), (ra, .inl (cL, 10, .inr (.inl tr))), (fr, .inr (1, [.int rough, .int mu]))] s.heap := hP
  have hl := lv_entry ([.ref t, .int p1, .int p2, .ref fr]) (n := 8) (Nat.le_of_ble_eq_true rfl)
  rw [lg_entry_eq]
  generalize (lg_sl ([.ref t, .int p1, .int p2, .ref fr]) ++ List.replicate (8 - (lg_sl ([.ref t, .int p1, .int p2, .ref fr])).length) Slot.unset).toArray = ls at hl ⊢
  have hl : lv_has ls 8 [(0, .ref t), (1, .int p1), (2, .int p2), (3, .ref fr)] := hl
  refine W.nameQ (fun Q hQ => ?_)
  unfold fT_slipAtEnd at hf
  refine lv_iconst (v := (0 : Int32)) hx hb dT_slipAtEnd_0 (by decide) ?_
  refine lv_istore (lv' := [(4, .int (0 : Int32)), (0, .ref t), (1, .int p1), (2, .int p2), (3, .ref fr)]) hx hb dT_slipAtEnd_1 hl (by decide) rfl (fun ls hl => ?_)
  refine lv_aload_n hx hb dT_slipAtEnd_3 rfl (lv_at hl 1 rfl) ?_
  refine va_get (D := (dC, dI)) (ci := 2) (v := .int pw) (C := "TendonLosses$Tendon") (T := TT_T) (N := 7) hx hb hts in_T hown hK hP 0 rfl rfl 6 (by decide) (hts _ kw_139) (fun _ h9 => h9) rfl dT_slipAtEnd_4 ?_
  refine lv_istore (lv' := [(5, .int pw), (4, .int (0 : Int32)), (0, .ref t), (1, .int p1), (2, .int p2), (3, .ref fr)]) hx hb dT_slipAtEnd_7 hl (by decide) rfl (fun ls hl => ?_)
  refine lv_iconst (v := (0 : Int32)) hx hb dT_slipAtEnd_9 (by decide) ?_
  refine lv_istore (lv' := [(6, .int (0 : Int32)), (5, .int pw), (4, .int (0 : Int32)), (0, .ref t), (1, .int p1), (2, .int p2), (3, .ref fr)]) hx hb dT_slipAtEnd_10 hl (by decide) rfl (fun ls hl => ?_)
  have L12 : ∀ (n12 : Nat) (z12l6 : Int32) (z12l5 : Int32) (z12l4 : Int32) (z12c7 : Nat → Int64) (H : Heap) (locs : List Loc) (ls : Array Slot), va_P (dC, dI) vwCl [(t, .inr (2, [.ref d, .int area, .ref fa, .ref ra, .int state, .int pf, .int pw])), (d, .inr (0, [.ref xa, .ref ya, .ref la, .ref sa, .int size])), (xa, .inl (cI, 10, .inl xs)), (ya, .inl (cI, 10, .inl ys)), (la, .inl (cI, 10, .inl ln)), (sa, .inl (cI, 10, .inl sl)), (fa, .inl (cL, 10, .inr (.inl fo))), (ra, .inl (cL, 10, .inr (.inl z12c7))), (fr, .inr (1, [.int rough, .int mu]))] H → va_D A [(t, .inr (2, [.ref d, .int area, .ref fa, .ref ra, .int state, .int pf, .int pw])), (d, .inr (0, [.ref xa, .ref ya, .ref la, .ref sa, .int size])), (xa, .inl (cI, 10, .inl xs)), (ya, .inl (cI, 10, .inl ys)), (la, .inl (cI, 10, .inl ln)), (sa, .inl (cI, 10, .inl sl)), (fa, .inl (cL, 10, .inr (.inl fo))), (ra, .inl (cL, 10, .inr (.inl z12c7))), (fr, .inr (1, [.int rough, .int mu]))] → va_S A s.heap H locs → lv_has ls 8 [(6, .int z12l6), (5, .int z12l5), (4, .int z12l4), (0, .ref t), (1, .int p1), (2, .int p2), (3, .ref fr)] → fT_slipAtEnd_L12 fu area state pf pw size xs ys ln sl fo rough mu p1 p2 n12 z12l6 z12l5 z12l4 z12c7 = some (o0, o1) → W p l e (headSpec wT_slipAtEnd rmT_slipAtEnd).room s m ([.ref t, .int p1, .int p2, .ref fr] : List Value).toArray below meth c H locs 0 0 Q (F0 m 12 ls []) := by
    intro n12
    induction n12 with
    | zero =>
      intro z12l6 z12l5 z12l4 z12c7 H locs ls hP hD hS hl hf
      rw [fT_slipAtEnd_L12_z] at hf
      cases hf
    | succ n12 ih12 =>
      intro z12l6 z12l5 z12l4 z12c7 H locs ls hP hD hS hl hf
      rw [fT_slipAtEnd_L12_s] at hf
      refine lv_iload hx hb dT_slipAtEnd_12 (lv_at hl 0 rfl) ?_
      refine lv_bipush (v := (40 : Int32)) hx hb dT_slipAtEnd_14 (by decide) ?_
      refine lv_icmp_ge (tgt := 74) hx hb dT_slipAtEnd_16 (by decide) (fun c_16 => ?_) (fun c_16 => ?_)
      · have hf := o_t hf c_16
        refine lv_aload_n hx hb dT_slipAtEnd_74 rfl (lv_at hl 3 rfl) ?_
        refine lv_iload_n hx hb dT_slipAtEnd_75 rfl (lv_at hl 4 rfl) ?_
        refine lv_iload hx hb dT_slipAtEnd_76 (lv_at hl 2 rfl) ?_
        refine lv_aload_n hx hb dT_slipAtEnd_78 rfl (lv_at hl 6 rfl) ?_
        obtain ⟨r_79, q_79, hf⟩ := o_b hf
        have hPc := hP.sub (ws' := [(t, .inr (2, [.ref d, .int area, .ref fa, .ref ra, .int state, .int pf, .int pw])), (d, .inr (0, [.ref xa, .ref ya, .ref la, .ref sa, .int size])), (xa, .inl (cI, 10, .inl xs)), (ya, .inl (cI, 10, .inl ys)), (la, .inl (cI, 10, .inl ln)), (sa, .inl (cI, 10, .inl sl)), (fa, .inl (cL, 10, .inr (.inl fo))), (ra, .inl (cL, 10, .inr (.inl z12c7))), (fr, .inr (1, [.int rough, .int mu]))]) [0, 1, 2, 3, 4, 5, 6, 7, 8] rfl
        have hDc := hD.sub (ws' := [(t, .inr (2, [.ref d, .int area, .ref fa, .ref ra, .int state, .int pf, .int pw])), (d, .inr (0, [.ref xa, .ref ya, .ref la, .ref sa, .int size])), (xa, .inl (cI, 10, .inl xs)), (ya, .inl (cI, 10, .inl ys)), (la, .inl (cI, 10, .inl ln)), (sa, .inl (cI, 10, .inl sl)), (fa, .inl (cL, 10, .inr (.inl fo))), (ra, .inl (cL, 10, .inr (.inl z12c7))), (fr, .inr (1, [.int rough, .int mu]))]) [0, 1, 2, 3, 4, 5, 6, 7, 8] (by decide) rfl
        refine kc_v (va_runV (As := [.int p1, .int z12l4, .ref fr]) (rest := []) ⟨hx, hb, hml, hown, hts⟩ (mT_tryAnchor l dC dI cI cL cT t d xa ya la sa fa ra fr H.size fu area state pf pw size xs ys ln sl fo z12c7 rough mu p1 z12l4 (r_79) q_79) ⟨callB_of 3 hts (gd_code kw_283) rfl rfl rfl (hts _ kw_33) (hts _ kw_280) (by decide +kernel) ⟨Nat.le_of_ble_eq_true rfl, Nat.le_of_ble_eq_true rfl⟩, hts _ kw_282, hts _ kw_6⟩ (kP_V hPc hK hDc hN (va_recv hK hPc (ci := 2) (q0 := 0) rfl rfl)) rfl rfl hl.1 rfl (lv_room (Nat.le_of_ble_eq_true rfl)) dT_slipAtEnd_79 ⟨Nat.le_of_ble_eq_true rfl, Nat.le_of_ble_eq_true rfl⟩) hP hD hS hA (wc := [(t, .inr (2, [.ref d, .int area, .ref fa, .ref ra, .int state, .int pf, .int pw])), (d, .inr (0, [.ref xa, .ref ya, .ref la, .ref sa, .int size])), (xa, .inl (cI, 10, .inl xs)), (ya, .inl (cI, 10, .inl ys)), (la, .inl (cI, 10, .inl ln)), (sa, .inl (cI, 10, .inl sl)), (fa, .inl (cL, 10, .inr (.inl fo))), (ra, .inl (cL, 10, .inr (.inl z12c7))), (fr, .inr (1, [.int rough, .int mu]))]) (wr := []) (w1 := [(t, .inr (2, [.ref d, .int area, .ref fa, .ref ra, .int state, .int pf, .int pw])), (d, .inr (0, [.ref xa, .ref ya, .ref la, .ref sa, .int size])), (xa, .inl (cI, 10, .inl xs)), (ya, .inl (cI, 10, .inl ys)), (la, .inl (cI, 10, .inl ln)), (sa, .inl (cI, 10, .inl sl)), (fa, .inl (cL, 10, .inr (.inl fo))), (ra, .inl (cL, 10, .inr (.inl r_79))), (fr, .inr (1, [.int rough, .int mu]))]) (ws' := [(t, .inr (2, [.ref d, .int area, .ref fa, .ref ra, .int state, .int pf, .int pw])), (d, .inr (0, [.ref xa, .ref ya, .ref la, .ref sa, .int size])), (xa, .inl (cI, 10, .inl xs)), (ya, .inl (cI, 10, .inl ys)), (la, .inl (cI, 10, .inl ln)), (sa, .inl (cI, 10, .inl sl)), (fa, .inl (cL, 10, .inr (.inl fo))), (ra, .inl (cL, 10, .inr (.inl r_79))), (fr, .inr (1, [.int rough, .int mu]))]) [0, 1, 2, 3, 4, 5, 6, 7, 8] [] [0, 1, 2, 3, 4, 5, 6, 7, 8] rfl rfl (by decide) (by decide) rfl (by decide) rfl (fun H locs hP hD hS => ?_)
        refine lv_iconst (v := (0 : Int32)) hx hb dT_slipAtEnd_82 (by decide) ?_
        refine lv_istore (lv' := [(6, .int (0 : Int32)), (5, .int z12l5), (4, .int z12l4), (0, .ref t), (1, .int p1), (2, .int p2), (3, .ref fr)]) hx hb dT_slipAtEnd_83 hl (by decide) rfl (fun ls hl => ?_)
        have L85 : ∀ (n85 : Nat) (z85l6 : Int32) (z85c6 : Nat → Int64) (H : Heap) (locs : List Loc) (ls : Array Slot), va_P (dC, dI) vwCl [(t, .inr (2, [.ref d, .int area, .ref fa, .ref ra, .int state, .int pf, .int pw])), (d, .inr (0, [.ref xa, .ref ya, .ref la, .ref sa, .int size])), (xa, .inl (cI, 10, .inl xs)), (ya, .inl (cI, 10, .inl ys)), (la, .inl (cI, 10, .inl ln)), (sa, .inl (cI, 10, .inl sl)), (fa, .inl (cL, 10, .inr (.inl z85c6))), (ra, .inl (cL, 10, .inr (.inl r_79))), (fr, .inr (1, [.int rough, .int mu]))] H → va_D A [(t, .inr (2, [.ref d, .int area, .ref fa, .ref ra, .int state, .int pf, .int pw])), (d, .inr (0, [.ref xa, .ref ya, .ref la, .ref sa, .int size])), (xa, .inl (cI, 10, .inl xs)), (ya, .inl (cI, 10, .inl ys)), (la, .inl (cI, 10, .inl ln)), (sa, .inl (cI, 10, .inl sl)), (fa, .inl (cL, 10, .inr (.inl z85c6))), (ra, .inl (cL, 10, .inr (.inl r_79))), (fr, .inr (1, [.int rough, .int mu]))] → va_S A s.heap H locs → lv_has ls 8 [(6, .int z85l6), (5, .int z12l5), (4, .int z12l4), (0, .ref t), (1, .int p1), (2, .int p2), (3, .ref fr)] → fT_slipAtEnd_L85 fu size r_79 n85 z85l6 z85c6 = some (o0, o1) → W p l e (headSpec wT_slipAtEnd rmT_slipAtEnd).room s m ([.ref t, .int p1, .int p2, .ref fr] : List Value).toArray below meth c H locs 0 0 Q (F0 m 85 ls []) := by
          intro n85
          induction n85 with
          | zero =>
            intro z85l6 z85c6 H locs ls hP hD hS hl hf
            rw [fT_slipAtEnd_L85_z] at hf
            cases hf
          | succ n85 ih85 =>
            intro z85l6 z85c6 H locs ls hP hD hS hl hf
            rw [fT_slipAtEnd_L85_s] at hf
            refine lv_iload hx hb dT_slipAtEnd_85 (lv_at hl 0 rfl) ?_
            refine lv_aload_n hx hb dT_slipAtEnd_87 rfl (lv_at hl 3 rfl) ?_
            refine va_get (D := (dC, dI)) (ci := 2) (v := .ref d) (C := "TendonLosses$Tendon") (T := TT_T) (N := 7) hx hb hts in_T hown hK hP 0 rfl rfl 0 (by decide) (hts _ kw_130) (fun _ h9 => h9) rfl dT_slipAtEnd_88 ?_
            refine va_get (D := (dC, dI)) (ci := 0) (v := .int size) (C := "TendonLosses$Duct") (T := TT_D) (N := 5) hx hb hts in_D hown hK hP 1 rfl rfl 4 (by decide) (hts _ kw_117) (fun _ h9 => h9) rfl dT_slipAtEnd_91 ?_
            refine lv_icmp_ge (tgt := 117) hx hb dT_slipAtEnd_94 (by decide) (fun c_94 => ?_) (fun c_94 => ?_)
            · have hf := o_t hf c_94
              have k0 := Option.some.inj hf
              obtain ⟨e0, k1⟩ := Prod.mk.inj k0
              subst e0
              subst k1
              subst hQ
              exact W.vret hx hb hr (fun t ht hW => ⟨⟨(), rfl, trivial, by rw [ht]; exact hP, va_K.moved hW.alike hK, hD⟩, hS.F ht⟩) hS.2.2 dT_slipAtEnd_117
            · have hf := o_f hf c_94
              refine lv_aload_n hx hb dT_slipAtEnd_97 rfl (lv_at hl 3 rfl) ?_
              refine va_get (D := (dC, dI)) (ci := 2) (v := .ref fa) (C := "TendonLosses$Tendon") (T := TT_T) (N := 7) hx hb hts in_T hown hK hP 0 rfl rfl 2 (by decide) (hts _ kw_133) (fun _ h9 => h9) rfl dT_slipAtEnd_98 ?_
              refine lv_iload hx hb dT_slipAtEnd_101 (lv_at hl 0 rfl) ?_
              refine lv_aload_n hx hb dT_slipAtEnd_103 rfl (lv_at hl 3 rfl) ?_
              refine va_get (D := (dC, dI)) (ci := 2) (v := .ref ra) (C := "TendonLosses$Tendon") (T := TT_T) (N := 7) hx hb hts in_T hown hK hP 0 rfl rfl 3 (by decide) (hts _ kw_135) (fun _ h9 => h9) rfl dT_slipAtEnd_104 ?_
              refine lv_iload hx hb dT_slipAtEnd_107 (lv_at hl 0 rfl) ?_
              obtain ⟨h_109, hf⟩ := o_c hf
              refine va_lald hx hb hK hP 7 1 rfl rfl h_109 dT_slipAtEnd_109 ?_
              obtain ⟨h_110, hf⟩ := o_c hf
              refine va_last hx hb hK hP hD hS 6 1 rfl rfl h_110 dT_slipAtEnd_110 (fun H locs hP hD hS => ?_)
              have hP : va_P (dC, dI) vwCl [(t, .inr (2, [.ref d, .int area, .ref fa, .ref ra, .int state, .int pf, .int pw])), (d, .inr (0, [.ref xa, .ref ya, .ref la, .ref sa, .int size])), (xa, .inl (cI, 10, .inl xs)), (ya, .inl (cI, 10, .inl ys)), (la, .inl (cI, 10, .inl ln)), (sa, .inl (cI, 10, .inl sl)), (fa, .inl (cL, 10, .inr (.inl (vp_updL z85c6 (z85l6).toNatClampNeg (r_79 (z85l6).toNatClampNeg))))), (ra, .inl (cL, 10, .inr (.inl r_79))), (fr, .inr (1, [.int rough, .int mu]))] H := hP
              have hD : va_D A [(t, .inr (2, [.ref d, .int area, .ref fa, .ref ra, .int state, .int pf, .int pw])), (d, .inr (0, [.ref xa, .ref ya, .ref la, .ref sa, .int size])), (xa, .inl (cI, 10, .inl xs)), (ya, .inl (cI, 10, .inl ys)), (la, .inl (cI, 10, .inl ln)), (sa, .inl (cI, 10, .inl sl)), (fa, .inl (cL, 10, .inr (.inl (vp_updL z85c6 (z85l6).toNatClampNeg (r_79 (z85l6).toNatClampNeg))))), (ra, .inl (cL, 10, .inr (.inl r_79))), (fr, .inr (1, [.int rough, .int mu]))] := hD
              refine lv_iinc (v := (z85l6 + (1 : Int32))) (lv' := [(6, .int (z85l6 + (1 : Int32))), (5, .int z12l5), (4, .int z12l4), (0, .ref t), (1, .int p1), (2, .int p2), (3, .ref fr)]) hx hb dT_slipAtEnd_111 hl (k := 0) rfl rfl (by decide) rfl (fun ls hl => ?_)
              refine lv_goto (tgt := 85) hx hb dT_slipAtEnd_114 (by decide) ?_
              exact ih85 _ _ H locs ls hP hD hS (lv_sub hl [0, 1, 2, 3, 4, 5, 6] rfl) hf
        exact L85 fu _ _ _ _ ls hP hD hS (lv_sub hl [0, 1, 2, 3, 4, 5, 6] rfl) hf
      · have hf := o_f hf c_16
        refine lv_iload hx hb dT_slipAtEnd_19 (lv_at hl 2 rfl) ?_
        refine lv_iload hx hb dT_slipAtEnd_21 (lv_at hl 1 rfl) ?_
        refine lv_icmp_ge (tgt := 74) hx hb dT_slipAtEnd_23 (by decide) (fun c_23 => ?_) (fun c_23 => ?_)
        · have hf := o_t hf c_23
          refine lv_aload_n hx hb dT_slipAtEnd_74 rfl (lv_at hl 3 rfl) ?_
          refine lv_iload_n hx hb dT_slipAtEnd_75 rfl (lv_at hl 4 rfl) ?_
          refine lv_iload hx hb dT_slipAtEnd_76 (lv_at hl 2 rfl) ?_
          refine lv_aload_n hx hb dT_slipAtEnd_78 rfl (lv_at hl 6 rfl) ?_
          obtain ⟨r_79, q_79, hf⟩ := o_b hf
          have hPc := hP.sub (ws' := [(t, .inr (2, [.ref d, .int area, .ref fa, .ref ra, .int state, .int pf, .int pw])), (d, .inr (0, [.ref xa, .ref ya, .ref la, .ref sa, .int size])), (xa, .inl (cI, 10, .inl xs)), (ya, .inl (cI, 10, .inl ys)), (la, .inl (cI, 10, .inl ln)), (sa, .inl (cI, 10, .inl sl)), (fa, .inl (cL, 10, .inr (.inl fo))), (ra, .inl (cL, 10, .inr (.inl z12c7))), (fr, .inr (1, [.int rough, .int mu]))]) [0, 1, 2, 3, 4, 5, 6, 7, 8] rfl
          have hDc := hD.sub (ws' := [(t, .inr (2, [.ref d, .int area, .ref fa, .ref ra, .int state, .int pf, .int pw])), (d, .inr (0, [.ref xa, .ref ya, .ref la, .ref sa, .int size])), (xa, .inl (cI, 10, .inl xs)), (ya, .inl (cI, 10, .inl ys)), (la, .inl (cI, 10, .inl ln)), (sa, .inl (cI, 10, .inl sl)), (fa, .inl (cL, 10, .inr (.inl fo))), (ra, .inl (cL, 10, .inr (.inl z12c7))), (fr, .inr (1, [.int rough, .int mu]))]) [0, 1, 2, 3, 4, 5, 6, 7, 8] (by decide) rfl
          refine kc_v (va_runV (As := [.int p1, .int z12l4, .ref fr]) (rest := []) ⟨hx, hb, hml, hown, hts⟩ (mT_tryAnchor l dC dI cI cL cT t d xa ya la sa fa ra fr H.size fu area state pf pw size xs ys ln sl fo z12c7 rough mu p1 z12l4 (r_79) q_79) ⟨callB_of 3 hts (gd_code kw_283) rfl rfl rfl (hts _ kw_33) (hts _ kw_280) (by decide +kernel) ⟨Nat.le_of_ble_eq_true rfl, Nat.le_of_ble_eq_true rfl⟩, hts _ kw_282, hts _ kw_6⟩ (kP_V hPc hK hDc hN (va_recv hK hPc (ci := 2) (q0 := 0) rfl rfl)) rfl rfl hl.1 rfl (lv_room (Nat.le_of_ble_eq_true rfl)) dT_slipAtEnd_79 ⟨Nat.le_of_ble_eq_true rfl, Nat.le_of_ble_eq_true rfl⟩) hP hD hS hA (wc := [(t, .inr (2, [.ref d, .int area, .ref fa, .ref ra, .int state, .int pf, .int pw])), (d, .inr (0, [.ref xa, .ref ya, .ref la, .ref sa, .int size])), (xa, .inl (cI, 10, .inl xs)), (ya, .inl (cI, 10, .inl ys)), (la, .inl (cI, 10, .inl ln)), (sa, .inl (cI, 10, .inl sl)), (fa, .inl (cL, 10, .inr (.inl fo))), (ra, .inl (cL, 10, .inr (.inl z12c7))), (fr, .inr (1, [.int rough, .int mu]))]) (wr := []) (w1 := [(t, .inr (2, [.ref d, .int area, .ref fa, .ref ra, .int state, .int pf, .int pw])), (d, .inr (0, [.ref xa, .ref ya, .ref la, .ref sa, .int size])), (xa, .inl (cI, 10, .inl xs)), (ya, .inl (cI, 10, .inl ys)), (la, .inl (cI, 10, .inl ln)), (sa, .inl (cI, 10, .inl sl)), (fa, .inl (cL, 10, .inr (.inl fo))), (ra, .inl (cL, 10, .inr (.inl r_79))), (fr, .inr (1, [.int rough, .int mu]))]) (ws' := [(t, .inr (2, [.ref d, .int area, .ref fa, .ref ra, .int state, .int pf, .int pw])), (d, .inr (0, [.ref xa, .ref ya, .ref la, .ref sa, .int size])), (xa, .inl (cI, 10, .inl xs)), (ya, .inl (cI, 10, .inl ys)), (la, .inl (cI, 10, .inl ln)), (sa, .inl (cI, 10, .inl sl)), (fa, .inl (cL, 10, .inr (.inl fo))), (ra, .inl (cL, 10, .inr (.inl r_79))), (fr, .inr (1, [.int rough, .int mu]))]) [0, 1, 2, 3, 4, 5, 6, 7, 8] [] [0, 1, 2, 3, 4, 5, 6, 7, 8] rfl rfl (by decide) (by decide) rfl (by decide) rfl (fun H locs hP hD hS => ?_)
          refine lv_iconst (v := (0 : Int32)) hx hb dT_slipAtEnd_82 (by decide) ?_
          refine lv_istore (lv' := [(6, .int (0 : Int32)), (5, .int z12l5), (4, .int z12l4), (0, .ref t), (1, .int p1), (2, .int p2), (3, .ref fr)]) hx hb dT_slipAtEnd_83 hl (by decide) rfl (fun ls hl => ?_)
          have L85 : ∀ (n85 : Nat) (z85l6 : Int32) (z85c6 : Nat → Int64) (H : Heap) (locs : List Loc) (ls : Array Slot), va_P (dC, dI) vwCl [(t, .inr (2, [.ref d, .int area, .ref fa, .ref ra, .int state, .int pf, .int pw])), (d, .inr (0, [.ref xa, .ref ya, .ref la, .ref sa, .int size])), (xa, .inl (cI, 10, .inl xs)), (ya, .inl (cI, 10, .inl ys)), (la, .inl (cI, 10, .inl ln)), (sa, .inl (cI, 10, .inl sl)), (fa, .inl (cL, 10, .inr (.inl z85c6))), (ra, .inl (cL, 10, .inr (.inl r_79))), (fr, .inr (1, [.int rough, .int mu]))] H → va_D A [(t, .inr (2, [.ref d, .int area, .ref fa, .ref ra, .int state, .int pf, .int pw])), (d, .inr (0, [.ref xa, .ref ya, .ref la, .ref sa, .int size])), (xa, .inl (cI, 10, .inl xs)), (ya, .inl (cI, 10, .inl ys)), (la, .inl (cI, 10, .inl ln)), (sa, .inl (cI, 10, .inl sl)), (fa, .inl (cL, 10, .inr (.inl z85c6))), (ra, .inl (cL, 10, .inr (.inl r_79))), (fr, .inr (1, [.int rough, .int mu]))] → va_S A s.heap H locs → lv_has ls 8 [(6, .int z85l6), (5, .int z12l5), (4, .int z12l4), (0, .ref t), (1, .int p1), (2, .int p2), (3, .ref fr)] → fT_slipAtEnd_L85 fu size r_79 n85 z85l6 z85c6 = some (o0, o1) → W p l e (headSpec wT_slipAtEnd rmT_slipAtEnd).room s m ([.ref t, .int p1, .int p2, .ref fr] : List Value).toArray below meth c H locs 0 0 Q (F0 m 85 ls []) := by
            intro n85
            induction n85 with
            | zero =>
              intro z85l6 z85c6 H locs ls hP hD hS hl hf
              rw [fT_slipAtEnd_L85_z] at hf
              cases hf
            | succ n85 ih85 =>
              intro z85l6 z85c6 H locs ls hP hD hS hl hf
              rw [fT_slipAtEnd_L85_s] at hf
              refine lv_iload hx hb dT_slipAtEnd_85 (lv_at hl 0 rfl) ?_
              refine lv_aload_n hx hb dT_slipAtEnd_87 rfl (lv_at hl 3 rfl) ?_
              refine va_get (D := (dC, dI)) (ci := 2) (v := .ref d) (C := "TendonLosses$Tendon") (T := TT_T) (N := 7) hx hb hts in_T hown hK hP 0 rfl rfl 0 (by decide) (hts _ kw_130) (fun _ h9 => h9) rfl dT_slipAtEnd_88 ?_
              refine va_get (D := (dC, dI)) (ci := 0) (v := .int size) (C := "TendonLosses$Duct") (T := TT_D) (N := 5) hx hb hts in_D hown hK hP 1 rfl rfl 4 (by decide) (hts _ kw_117) (fun _ h9 => h9) rfl dT_slipAtEnd_91 ?_
              refine lv_icmp_ge (tgt := 117) hx hb dT_slipAtEnd_94 (by decide) (fun c_94 => ?_) (fun c_94 => ?_)
              · have hf := o_t hf c_94
                have k0 := Option.some.inj hf
                obtain ⟨e0, k1⟩ := Prod.mk.inj k0
                subst e0
                subst k1
                subst hQ
                exact W.vret hx hb hr (fun t ht hW => ⟨⟨(), rfl, trivial, by rw [ht]; exact hP, va_K.moved hW.alike hK, hD⟩, hS.F ht⟩) hS.2.2 dT_slipAtEnd_117
              · have hf := o_f hf c_94
                refine lv_aload_n hx hb dT_slipAtEnd_97 rfl (lv_at hl 3 rfl) ?_
                refine va_get (D := (dC, dI)) (ci := 2) (v := .ref fa) (C := "TendonLosses$Tendon") (T := TT_T) (N := 7) hx hb hts in_T hown hK hP 0 rfl rfl 2 (by decide) (hts _ kw_133) (fun _ h9 => h9) rfl dT_slipAtEnd_98 ?_
                refine lv_iload hx hb dT_slipAtEnd_101 (lv_at hl 0 rfl) ?_
                refine lv_aload_n hx hb dT_slipAtEnd_103 rfl (lv_at hl 3 rfl) ?_
                refine va_get (D := (dC, dI)) (ci := 2) (v := .ref ra) (C := "TendonLosses$Tendon") (T := TT_T) (N := 7) hx hb hts in_T hown hK hP 0 rfl rfl 3 (by decide) (hts _ kw_135) (fun _ h9 => h9) rfl dT_slipAtEnd_104 ?_
                refine lv_iload hx hb dT_slipAtEnd_107 (lv_at hl 0 rfl) ?_
                obtain ⟨h_109, hf⟩ := o_c hf
                refine va_lald hx hb hK hP 7 1 rfl rfl h_109 dT_slipAtEnd_109 ?_
                obtain ⟨h_110, hf⟩ := o_c hf
                refine va_last hx hb hK hP hD hS 6 1 rfl rfl h_110 dT_slipAtEnd_110 (fun H locs hP hD hS => ?_)
                have hP : va_P (dC, dI) vwCl [(t, .inr (2, [.ref d, .int area, .ref fa, .ref ra, .int state, .int pf, .int pw])), (d, .inr (0, [.ref xa, .ref ya, .ref la, .ref sa, .int size])), (xa, .inl (cI, 10, .inl xs)), (ya, .inl (cI, 10, .inl ys)), (la, .inl (cI, 10, .inl ln)), (sa, .inl (cI, 10, .inl sl)), (fa, .inl (cL, 10, .inr (.inl (vp_updL z85c6 (z85l6).toNatClampNeg (r_79 (z85l6).toNatClampNeg))))), (ra, .inl (cL, 10, .inr (.inl r_79))), (fr, .inr (1, [.int rough, .int mu]))] H := hP
                have hD : va_D A [(t, .inr (2, [.ref d, .int area, .ref fa, .ref ra, .int state, .int pf, .int pw])), (d, .inr (0, [.ref xa, .ref ya, .ref la, .ref sa, .int size])), (xa, .inl (cI, 10, .inl xs)), (ya, .inl (cI, 10, .inl ys)), (la, .inl (cI, 10, .inl ln)), (sa, .inl (cI, 10, .inl sl)), (fa, .inl (cL, 10, .inr (.inl (vp_updL z85c6 (z85l6).toNatClampNeg (r_79 (z85l6).toNatClampNeg))))), (ra, .inl (cL, 10, .inr (.inl r_79))), (fr, .inr (1, [.int rough, .int mu]))] := hD
                refine lv_iinc (v := (z85l6 + (1 : Int32))) (lv' := [(6, .int (z85l6 + (1 : Int32))), (5, .int z12l5), (4, .int z12l4), (0, .ref t), (1, .int p1), (2, .int p2), (3, .ref fr)]) hx hb dT_slipAtEnd_111 hl (k := 0) rfl rfl (by decide) rfl (fun ls hl => ?_)
                refine lv_goto (tgt := 85) hx hb dT_slipAtEnd_114 (by decide) ?_
                exact ih85 _ _ H locs ls hP hD hS (lv_sub hl [0, 1, 2, 3, 4, 5, 6] rfl) hf
          exact L85 fu _ _ _ _ ls hP hD hS (lv_sub hl [0, 1, 2, 3, 4, 5, 6] rfl) hf
        · have hf := o_f hf c_23
          refine lv_iload hx hb dT_slipAtEnd_26 (lv_at hl 2 rfl) ?_
          refine lv_iload hx hb dT_slipAtEnd_28 (lv_at hl 1 rfl) ?_
          refine lv_iadd hx hb dT_slipAtEnd_30 ?_
          refine lv_iconst (v := (1 : Int32)) hx hb dT_slipAtEnd_31 (by decide) ?_
          refine lv_iadd hx hb dT_slipAtEnd_32 ?_
          refine lv_iconst (v := (2 : Int32)) hx hb dT_slipAtEnd_33 (by decide) ?_
          refine lv_idiv hx hb dT_slipAtEnd_34 (by decide) ?_
          refine lv_istore (lv' := [(7, .int (((z12l4 + z12l5) + (1 : Int32)) / (2 : Int32))), (6, .int z12l6), (5, .int z12l5), (4, .int z12l4), (0, .ref t), (1, .int p1), (2, .int p2), (3, .ref fr)]) hx hb dT_slipAtEnd_35 hl (by decide) rfl (fun ls hl => ?_)
          refine lv_aload_n hx hb dT_slipAtEnd_37 rfl (lv_at hl 4 rfl) ?_
          refine lv_iload_n hx hb dT_slipAtEnd_38 rfl (lv_at hl 5 rfl) ?_
          refine lv_iload hx hb dT_slipAtEnd_39 (lv_at hl 0 rfl) ?_
          refine lv_aload_n hx hb dT_slipAtEnd_41 rfl (lv_at hl 7 rfl) ?_
          obtain ⟨r_42, q_42, hf⟩ := o_b hf
          have hPc := hP.sub (ws' := [(t, .inr (2, [.ref d, .int area, .ref fa, .ref ra, .int state, .int pf, .int pw])), (d, .inr (0, [.ref xa, .ref ya, .ref la, .ref sa, .int size])), (xa, .inl (cI, 10, .inl xs)), (ya, .inl (cI, 10, .inl ys)), (la, .inl (cI, 10, .inl ln)), (sa, .inl (cI, 10, .inl sl)), (fa, .inl (cL, 10, .inr (.inl fo))), (ra, .inl (cL, 10, .inr (.inl z12c7))), (fr, .inr (1, [.int rough, .int mu]))]) [0, 1, 2, 3, 4, 5, 6, 7, 8] rfl
          have hDc := hD.sub (ws' := [(t, .inr (2, [.ref d, .int area, .ref fa, .ref ra, .int state, .int pf, .int pw])), (d, .inr (0, [.ref xa, .ref ya, .ref la, .ref sa, .int size])), (xa, .inl (cI, 10, .inl xs)), (ya, .inl (cI, 10, .inl ys)), (la, .inl (cI, 10, .inl ln)), (sa, .inl (cI, 10, .inl sl)), (fa, .inl (cL, 10, .inr (.inl fo))), (ra, .inl (cL, 10, .inr (.inl z12c7))), (fr, .inr (1, [.int rough, .int mu]))]) [0, 1, 2, 3, 4, 5, 6, 7, 8] (by decide) rfl
          refine kc_v (va_runV (As := [.int p1, .int (((z12l4 + z12l5) + (1 : Int32)) / (2 : Int32)), .ref fr]) (rest := []) ⟨hx, hb, hml, hown, hts⟩ (mT_tryAnchor l dC dI cI cL cT t d xa ya la sa fa ra fr H.size fu area state pf pw size xs ys ln sl fo z12c7 rough mu p1 (((z12l4 + z12l5) + (1 : Int32)) / (2 : Int32)) (r_42) q_42) ⟨callB_of 3 hts (gd_code kw_283) rfl rfl rfl (hts _ kw_33) (hts _ kw_280) (by decide +kernel) ⟨Nat.le_of_ble_eq_true rfl, Nat.le_of_ble_eq_true rfl⟩, hts _ kw_282, hts _ kw_6⟩ (kP_V hPc hK hDc hN (va_recv hK hPc (ci := 2) (q0 := 0) rfl rfl)) rfl rfl hl.1 rfl (lv_room (Nat.le_of_ble_eq_true rfl)) dT_slipAtEnd_42 ⟨Nat.le_of_ble_eq_true rfl, Nat.le_of_ble_eq_true rfl⟩) hP hD hS hA (wc := [(t, .inr (2, [.ref d, .int area, .ref fa, .ref ra, .int state, .int pf, .int pw])), (d, .inr (0, [.ref xa, .ref ya, .ref la, .ref sa, .int size])), (xa, .inl (cI, 10, .inl xs)), (ya, .inl (cI, 10, .inl ys)), (la, .inl (cI, 10, .inl ln)), (sa, .inl (cI, 10, .inl sl)), (fa, .inl (cL, 10, .inr (.inl fo))), (ra, .inl (cL, 10, .inr (.inl z12c7))), (fr, .inr (1, [.int rough, .int mu]))]) (wr := []) (w1 := [(t, .inr (2, [.ref d, .int area, .ref fa, .ref ra, .int state, .int pf, .int pw])), (d, .inr (0, [.ref xa, .ref ya, .ref la, .ref sa, .int size])), (xa, .inl (cI, 10, .inl xs)), (ya, .inl (cI, 10, .inl ys)), (la, .inl (cI, 10, .inl ln)), (sa, .inl (cI, 10, .inl sl)), (fa, .inl (cL, 10, .inr (.inl fo))), (ra, .inl (cL, 10, .inr (.inl r_42))), (fr, .inr (1, [.int rough, .int mu]))]) (ws' := [(t, .inr (2, [.ref d, .int area, .ref fa, .ref ra, .int state, .int pf, .int pw])), (d, .inr (0, [.ref xa, .ref ya, .ref la, .ref sa, .int size])), (xa, .inl (cI, 10, .inl xs)), (ya, .inl (cI, 10, .inl ys)), (la, .inl (cI, 10, .inl ln)), (sa, .inl (cI, 10, .inl sl)), (fa, .inl (cL, 10, .inr (.inl fo))), (ra, .inl (cL, 10, .inr (.inl r_42))), (fr, .inr (1, [.int rough, .int mu]))]) [0, 1, 2, 3, 4, 5, 6, 7, 8] [] [0, 1, 2, 3, 4, 5, 6, 7, 8] rfl rfl (by decide) (by decide) rfl (by decide) rfl (fun H locs hP hD hS => ?_)
          refine lv_aload_n hx hb dT_slipAtEnd_45 rfl (lv_at hl 4 rfl) ?_
          obtain ⟨r_46, q_46, hf⟩ := o_b hf
          have hPc := hP.sub (ws' := [(t, .inr (2, [.ref d, .int area, .ref fa, .ref ra, .int state, .int pf, .int pw])), (d, .inr (0, [.ref xa, .ref ya, .ref la, .ref sa, .int size])), (xa, .inl (cI, 10, .inl xs)), (ya, .inl (cI, 10, .inl ys)), (la, .inl (cI, 10, .inl ln)), (sa, .inl (cI, 10, .inl sl)), (fa, .inl (cL, 10, .inr (.inl fo))), (ra, .inl (cL, 10, .inr (.inl r_42)))]) [0, 1, 2, 3, 4, 5, 6, 7] rfl
          have hDc := hD.sub (ws' := [(t, .inr (2, [.ref d, .int area, .ref fa, .ref ra, .int state, .int pf, .int pw])), (d, .inr (0, [.ref xa, .ref ya, .ref la, .ref sa, .int size])), (xa, .inl (cI, 10, .inl xs)), (ya, .inl (cI, 10, .inl ys)), (la, .inl (cI, 10, .inl ln)), (sa, .inl (cI, 10, .inl sl)), (fa, .inl (cL, 10, .inr (.inl fo))), (ra, .inl (cL, 10, .inr (.inl r_42)))]) [0, 1, 2, 3, 4, 5, 6, 7] (by decide) rfl
          refine kc_l (va_runV (As := []) (rest := []) ⟨hx, hb, hml, hown, hts⟩ (mT_shortening l dC dI cI cL cT t d xa ya la sa fa ra H.size fu area state pf pw size xs ys ln sl fo r_42 (r_46) q_46) ⟨callB_of 0 hts (gd_code kw_287) rfl rfl rfl (hts _ kw_33) (hts _ kw_284) (by decide +kernel) ⟨Nat.le_of_ble_eq_true rfl, Nat.le_of_ble_eq_true rfl⟩, hts _ kw_286, hts _ kw_7⟩ (kP_V hPc hK hDc hN (va_recv hK hPc (ci := 2) (q0 := 0) rfl rfl)) rfl rfl hl.1 rfl (lv_room (Nat.le_of_ble_eq_true rfl)) dT_slipAtEnd_46 ⟨Nat.le_of_ble_eq_true rfl, Nat.le_of_ble_eq_true rfl⟩) hP hD hS hA (wc := [(t, .inr (2, [.ref d, .int area, .ref fa, .ref ra, .int state, .int pf, .int pw])), (d, .inr (0, [.ref xa, .ref ya, .ref la, .ref sa, .int size])), (xa, .inl (cI, 10, .inl xs)), (ya, .inl (cI, 10, .inl ys)), (la, .inl (cI, 10, .inl ln)), (sa, .inl (cI, 10, .inl sl)), (fa, .inl (cL, 10, .inr (.inl fo))), (ra, .inl (cL, 10, .inr (.inl r_42)))]) (wr := [(fr, .inr (1, [.int rough, .int mu]))]) (w1 := [(t, .inr (2, [.ref d, .int area, .ref fa, .ref ra, .int state, .int pf, .int pw])), (d, .inr (0, [.ref xa, .ref ya, .ref la, .ref sa, .int size])), (xa, .inl (cI, 10, .inl xs)), (ya, .inl (cI, 10, .inl ys)), (la, .inl (cI, 10, .inl ln)), (sa, .inl (cI, 10, .inl sl)), (fa, .inl (cL, 10, .inr (.inl fo))), (ra, .inl (cL, 10, .inr (.inl r_42)))]) (ws' := [(t, .inr (2, [.ref d, .int area, .ref fa, .ref ra, .int state, .int pf, .int pw])), (d, .inr (0, [.ref xa, .ref ya, .ref la, .ref sa, .int size])), (xa, .inl (cI, 10, .inl xs)), (ya, .inl (cI, 10, .inl ys)), (la, .inl (cI, 10, .inl ln)), (sa, .inl (cI, 10, .inl sl)), (fa, .inl (cL, 10, .inr (.inl fo))), (ra, .inl (cL, 10, .inr (.inl r_42))), (fr, .inr (1, [.int rough, .int mu]))]) [0, 1, 2, 3, 4, 5, 6, 7] [8] [1, 2, 3, 4, 5, 6, 7, 8, 0] rfl rfl (by decide) (by decide) rfl (by decide) rfl (fun H locs hP hD hS => ?_)
          refine lv_iload_n hx hb dT_slipAtEnd_49 rfl (lv_at hl 6 rfl) ?_
          refine lv_i2l (v := (p2).toInt64) hx hb dT_slipAtEnd_50 rfl ?_
          obtain ⟨j_51, e_51, hf⟩ := o_b hf
          have J_68 : ∀ (H : Heap) (locs : List Loc) (ls : Array Slot), va_P (dC, dI) vwCl [(t, .inr (2, [.ref d, .int area, .ref fa, .ref ra, .int state, .int pf, .int pw])), (d, .inr (0, [.ref xa, .ref ya, .ref la, .ref sa, .int size])), (xa, .inl (cI, 10, .inl xs)), (ya, .inl (cI, 10, .inl ys)), (la, .inl (cI, 10, .inl ln)), (sa, .inl (cI, 10, .inl sl)), (fa, .inl (cL, 10, .inr (.inl fo))), (ra, .inl (cL, 10, .inr (.inl r_42))), (fr, .inr (1, [.int rough, .int mu]))] H → va_D A [(t, .inr (2, [.ref d, .int area, .ref fa, .ref ra, .int state, .int pf, .int pw])), (d, .inr (0, [.ref xa, .ref ya, .ref la, .ref sa, .int size])), (xa, .inl (cI, 10, .inl xs)), (ya, .inl (cI, 10, .inl ys)), (la, .inl (cI, 10, .inl ln)), (sa, .inl (cI, 10, .inl sl)), (fa, .inl (cL, 10, .inr (.inl fo))), (ra, .inl (cL, 10, .inr (.inl r_42))), (fr, .inr (1, [.int rough, .int mu]))] → va_S A s.heap H locs → lv_has ls 8 [(5, .int (j_51.1)), (7, .int (((z12l4 + z12l5) + (1 : Int32)) / (2 : Int32))), (6, .int z12l6), (4, .int (j_51.2)), (0, .ref t), (1, .int p1), (2, .int p2), (3, .ref fr)] → W p l e (headSpec wT_slipAtEnd rmT_slipAtEnd).room s m ([.ref t, .int p1, .int p2, .ref fr] : List Value).toArray below meth c H locs 0 0 Q (F0 m 68 ls []) := by
            intro H locs ls hP hD hS hl
            refine lv_iinc (v := (z12l6 + (1 : Int32))) (lv' := [(6, .int (z12l6 + (1 : Int32))), (5, .int (j_51.1)), (7, .int (((z12l4 + z12l5) + (1 : Int32)) / (2 : Int32))), (4, .int (j_51.2)), (0, .ref t), (1, .int p1), (2, .int p2), (3, .ref fr)]) hx hb dT_slipAtEnd_68 hl (k := 2) rfl rfl (by decide) rfl (fun ls hl => ?_)
            refine lv_goto (tgt := 12) hx hb dT_slipAtEnd_71 (by decide) ?_
            exact ih12 _ _ _ _ H locs ls hP hD hS (lv_sub hl [0, 1, 3, 4, 5, 6, 7] rfl) hf
          have hf := e_51
          refine W.lcmp hx hb dT_slipAtEnd_51 ?_
          refine lv_if_lt (tgt := 62) hx hb dT_slipAtEnd_52 (by decide) (fun c_51 => ?_) (fun c_51 => ?_)
          · have c_51 := (lg_cmp_lt _ _).mp c_51
            have hf := o_t hf c_51
            refine lv_iload hx hb dT_slipAtEnd_62 (lv_at hl 0 rfl) ?_
            refine lv_iconst (v := (1 : Int32)) hx hb dT_slipAtEnd_64 (by decide) ?_
            refine lv_isub hx hb dT_slipAtEnd_65 ?_
            refine lv_istore (lv' := [(5, .int ((((z12l4 + z12l5) + (1 : Int32)) / (2 : Int32)) - (1 : Int32))), (7, .int (((z12l4 + z12l5) + (1 : Int32)) / (2 : Int32))), (6, .int z12l6), (4, .int z12l4), (0, .ref t), (1, .int p1), (2, .int p2), (3, .ref fr)]) hx hb dT_slipAtEnd_66 hl (by decide) rfl (fun ls hl => ?_)
            have e9 := Option.some.inj hf
            subst e9
            exact J_68 _ _ ls hP hD hS (lv_sub hl [0, 1, 2, 3, 4, 5, 6, 7] rfl)
          · have c_51 := fun z => c_51 ((lg_cmp_lt _ _).mpr z)
            have hf := o_f hf c_51
            refine lv_iload hx hb dT_slipAtEnd_55 (lv_at hl 0 rfl) ?_
            refine lv_istore (lv' := [(4, .int (((z12l4 + z12l5) + (1 : Int32)) / (2 : Int32))), (7, .int (((z12l4 + z12l5) + (1 : Int32)) / (2 : Int32))), (6, .int z12l6), (5, .int z12l5), (0, .ref t), (1, .int p1), (2, .int p2), (3, .ref fr)]) hx hb dT_slipAtEnd_57 hl (by decide) rfl (fun ls hl => ?_)
            refine lv_goto (tgt := 68) hx hb dT_slipAtEnd_59 (by decide) ?_
            have e9 := Option.some.inj hf
            subst e9
            exact J_68 _ _ ls hP hD hS (lv_sub hl [3, 1, 2, 0, 4, 5, 6, 7] rfl)
  exact L12 fu _ _ _ _ _ _ ls hP hD hS (lv_sub hl [0, 1, 2, 3, 4, 5, 6] rfl) hf

def fT_slipBack (fu : Nat) (area : Int32) (state : Int32) (pf : Int32) (pw : Int32) (size : Int32) (xs : Nat → Int32) (ys : Nat → Int32) (ln : Nat → Int32) (sl : Nat → Int32) (fo : Nat → Int64) (tr : Nat → Int64) (rough : Int32) (mu : Int32) (p1 : Int32) : Option ((Nat → Int64) × (Nat → Int64)) := (((if (pf &&& (1 : Int32)) = (0 : Int32) then some (fo, tr) else ((fT_slipAtEnd fu area state pf pw size xs ys ln sl fo tr rough mu (1 : Int32) p1).bind fun r_13 => some ((r_13.1), (r_13.2))))).bind fun j_6 => (if (pf &&& (2 : Int32)) = (0 : Int32) then some ((j_6.1), (j_6.2)) else ((fT_slipAtEnd fu area state pf pw size xs ys ln sl (j_6.1) (j_6.2) rough mu (2 : Int32) p1).bind fun r_29 => some ((r_29.1), (r_29.2)))))
def rmT_slipBack : Room := { frames := 5, cells := 0, slots := 0, locals := 117 }
set_option maxHeartbeats 4000000 in
set_option maxRecDepth 100000 in
theorem mT_slipBack (l : Launch) (dC : Nat → ClassId) (dI : Nat → Nat → Nat) (cI cL cT : ClassId) (t d xa ya la sa fa ra fr : Nat) (sz : Nat) (fu : Nat) (area : Int32) (state : Int32) (pf : Int32) (pw : Int32) (size : Int32) (xs : Nat → Int32) (ys : Nat → Int32) (ln : Nat → Int32) (sl : Nat → Int32) (fo : Nat → Int64) (tr : Nat → Int64) (rough : Int32) (mu : Int32) (p1 : Int32) (o0 : Nat → Int64) (o1 : Nat → Int64) (hf : fT_slipBack fu area state pf pw size xs ys ln sl fo tr rough mu p1 = some (o0, o1)) : Met l yT_slipBack wT_slipBack rmT_slipBack (kP (dC, dI) [(cI, .int), (cL, .long), (cT, .object "TendonLosses$Tendon")] [.ref t, .int p1, .ref fr] [(t, .inr (2, [.ref d, .int area, .ref fa, .ref ra, .int state, .int pf, .int pw])), (d, .inr (0, [.ref xa, .ref ya, .ref la, .ref sa, .int size])), (xa, .inl (cI, 10, .inl xs)), (ya, .inl (cI, 10, .inl ys)), (la, .inl (cI, 10, .inl ln)), (sa, .inl (cI, 10, .inl sl)), (fa, .inl (cL, 10, .inr (.inl fo))), (ra, .inl (cL, 10, .inr (.inl tr))), (fr, .inr (1, [.int rough, .int mu]))] sz) (va_Qv (fun (_ : Unit) => True) (kB (dC, dI) [(cI, .int), (cL, .long), (cT, .object "TendonLosses$Tendon")] (va_A [(t, .inr (2, [.ref d, .int area, .ref fa, .ref ra, .int state, .int pf, .int pw])), (d, .inr (0, [.ref xa, .ref ya, .ref la, .ref sa, .int size])), (xa, .inl (cI, 10, .inl xs)), (ya, .inl (cI, 10, .inl ys)), (la, .inl (cI, 10, .inl ln)), (sa, .inl (cI, 10, .inl sl)), (fa, .inl (cL, 10, .inr (.inl fo))), (ra, .inl (cL, 10, .inr (.inl tr))), (fr, .inr (1, [.int rough, .int mu]))] sz) [(t, .inr (2, [.ref d, .int area, .ref fa, .ref ra, .int state, .int pf, .int pw])), (d, .inr (0, [.ref xa, .ref ya, .ref la, .ref sa, .int size])), (xa, .inl (cI, 10, .inl xs)), (ya, .inl (cI, 10, .inl ys)), (la, .inl (cI, 10, .inl ln)), (sa, .inl (cI, 10, .inl sl)), (fa, .inl (cL, 10, .inr (.inl o0))), (ra, .inl (cL, 10, .inr (.inl o1))), (fr, .inr (1, [.int rough, .int mu]))]) (va_A [(t, .inr (2, [.ref d, .int area, .ref fa, .ref ra, .int state, .int pf, .int pw])), (d, .inr (0, [.ref xa, .ref ya, .ref la, .ref sa, .int size])), (xa, .inl (cI, 10, .inl xs)), (ya, .inl (cI, 10, .inl ys)), (la, .inl (cI, 10, .inl ln)), (sa, .inl (cI, 10, .inl sl)), (fa, .inl (cL, 10, .inr (.inl fo))), (ra, .inl (cL, 10, .inr (.inl tr))), (fr, .inr (1, [.int rough, .int mu]))] sz)) 0 0 (va_A [(t, .inr (2, [.ref d, .int area, .ref fa, .ref ra, .int state, .int pf, .int pw])), (d, .inr (0, [.ref xa, .ref ya, .ref la, .ref sa, .int size])), (xa, .inl (cI, 10, .inl xs)), (ya, .inl (cI, 10, .inl ys)), (la, .inl (cI, 10, .inl ln)), (sa, .inl (cI, 10, .inl sl)), (fa, .inl (cL, 10, .inr (.inl fo))), (ra, .inl (cL, 10, .inr (.inl tr))), (fr, .inr (1, [.int rough, .int mu]))] sz) := by
  refine Met.ofW (cc := bT_slipBack) (maxL := 3) (ret := none) (by decide) rfl ?_
  intro p e s m args below meth c s₁ B hml hv
  obtain ⟨rfl, hsz, hP, hK, hD0, hN⟩ := hv
  have hx := B.exec
  have hb := B.bytes
  have hr := B.returns
  have hts : ∀ w ∈ gt, w.before ([.ref t, .int p1, .ref fr] : List Value).toArray s = true := fun w h => atoms_spec (ws := wT_slipBack) B.pre w (List.mem_cons_of_mem _ h)
  have hown : s.vm.findClass "TendonLosses$Tendon" = some m.cls := findClass_of_methodNamed B.named
  have hlocks := B.notSynchronized
  subst hsz
  have hD := hD0.self (sz := s.heap.size)
  generalize hAe : va_A [(t, .inr (2, [.ref d, .int area, .ref fa, .ref ra, .int state, .int pf, .int pw])), (d, .inr (0, [.ref xa, .ref ya, .ref la, .ref sa, .int size])), (xa, .inl (cI, 10, .inl xs)), (ya, .inl (cI, 10, .inl ys)), (la, .inl (cI, 10, .inl ln)), (sa, .inl (cI, 10, .inl sl)), (fa, .inl (cL, 10, .inr (.inl fo))), (ra, .inl (cL, 10, .inr (.inl tr))), (fr, .inr (1, [.int rough, .int mu]))] s.heap.size = A at hD ⊢
  have hA : ∀ q : Nat, s.heap.size ≤ q → A q := fun q h => by rw [← hAe]; exact Or.inr h
  have hS : va_S A s.heap s.heap [] := va_S.rf
  have hP : va_P (dC, dI) vwCl [(t, .inr (2, [.ref d, .int area, .ref fa, .ref ra, .int state, .int pf, .int pw])), (d, .inr (0, [.ref xa, .ref ya, .ref la, .ref sa, .int size])), (xa, .inl (cI, 10, .inl xs)), (ya, .inl (cI, 10, .inl ys)), (la, .inl (cI, 10, .inl ln)), (sa, .inl (cI, 10, .inl sl)), (fa, .inl (cL, 10, .inr (.inl fo))), (ra, .inl (cL, 10, .inr (.inl tr))), (fr, .inr (1, [.int rough, .int mu]))] s.heap := hP
  have hl := lv_entry ([.ref t, .int p1, .ref fr]) (n := 3) (Nat.le_of_ble_eq_true rfl)
  rw [lg_entry_eq]
  generalize (lg_sl ([.ref t, .int p1, .ref fr]) ++ List.replicate (3 - (lg_sl ([.ref t, .int p1, .ref fr])).length) Slot.unset).toArray = ls at hl ⊢
  have hl : lv_has ls 3 [(0, .ref t), (1, .int p1), (2, .ref fr)] := hl
  refine W.nameQ (fun Q hQ => ?_)
  unfold fT_slipBack at hf
  refine lv_aload_n hx hb dT_slipBack_0 rfl (lv_at hl 0 rfl) ?_
  refine va_get (D := (dC, dI)) (ci := 2) (v := .int pf) (C := "TendonLosses$Tendon") (T := TT_T) (N := 7) hx hb hts in_T hown hK hP 0 rfl rfl 5 (by decide) (hts _ kw_138) (fun _ h9 => h9) rfl dT_slipBack_1 ?_
  refine lv_iconst (v := (1 : Int32)) hx hb dT_slipBack_4 (by decide) ?_
  refine lv_iand hx hb dT_slipBack_5 ?_
  obtain ⟨j_6, e_6, hf⟩ := o_b hf
  have J_16 : ∀ (H : Heap) (locs : List Loc) (ls : Array Slot), va_P (dC, dI) vwCl [(t, .inr (2, [.ref d, .int area, .ref fa, .ref ra, .int state, .int pf, .int pw])), (d, .inr (0, [.ref xa, .ref ya, .ref la, .ref sa, .int size])), (xa, .inl (cI, 10, .inl xs)), (ya, .inl (cI, 10, .inl ys)), (la, .inl (cI, 10, .inl ln)), (sa, .inl (cI, 10, .inl sl)), (fa, .inl (cL, 10, .inr (.inl (j_6.1)))), (ra, .inl (cL, 10, .inr (.inl (j_6.2)))), (fr, .inr (1, [.int rough, .int mu]))] H → va_D A [(t, .inr (2, [.ref d, .int area, .ref fa, .ref ra, .int state, .int pf, .int pw])), (d, .inr (0, [.ref xa, .ref ya, .ref la, .ref sa, .int size])), (xa, .inl (cI, 10, .inl xs)), (ya, .inl (cI, 10, .inl ys)), (la, .inl (cI, 10, .inl ln)), (sa, .inl (cI, 10, .inl sl)), (fa, .inl (cL, 10, .inr (.inl (j_6.1)))), (ra, .inl (cL, 10, .inr (.inl (j_6.2)))), (fr, .inr (1, [.int rough, .int mu]))] → va_S A s.heap H locs → lv_has ls 3 [(0, .ref t), (1, .int p1), (2, .ref fr)] → W p l e (headSpec wT_slipBack rmT_slipBack).room s m ([.ref t, .int p1, .ref fr] : List Value).toArray below meth c H locs 0 0 Q (F0 m 16 ls []) := by
    intro H locs ls hP hD hS hl
    refine lv_aload_n hx hb dT_slipBack_16 rfl (lv_at hl 0 rfl) ?_
    refine va_get (D := (dC, dI)) (ci := 2) (v := .int pf) (C := "TendonLosses$Tendon") (T := TT_T) (N := 7) hx hb hts in_T hown hK hP 0 rfl rfl 5 (by decide) (hts _ kw_138) (fun _ h9 => h9) rfl dT_slipBack_17 ?_
    refine lv_iconst (v := (2 : Int32)) hx hb dT_slipBack_20 (by decide) ?_
    refine lv_iand hx hb dT_slipBack_21 ?_
    refine lv_if_eq (tgt := 32) hx hb dT_slipBack_22 (by decide) (fun c_22 => ?_) (fun c_22 => ?_)
    · have hf := o_t hf c_22
      have k0 := Option.some.inj hf
      obtain ⟨e0, k1⟩ := Prod.mk.inj k0
      subst e0
      subst k1
      subst hQ
      exact W.vret hx hb hr (fun t ht hW => ⟨⟨(), rfl, trivial, by rw [ht]; exact hP, va_K.moved hW.alike hK, hD⟩, hS.F ht⟩) hS.2.2 dT_slipBack_32
    · have hf := o_f hf c_22
      refine lv_aload_n hx hb dT_slipBack_25 rfl (lv_at hl 0 rfl) ?_
      refine lv_iconst (v := (2 : Int32)) hx hb dT_slipBack_26 (by decide) ?_
      refine lv_iload_n hx hb dT_slipBack_27 rfl (lv_at hl 1 rfl) ?_
      refine lv_aload_n hx hb dT_slipBack_28 rfl (lv_at hl 2 rfl) ?_
      obtain ⟨r_29, q_29, hf⟩ := o_b hf
      have hPc := hP.sub (ws' := [(t, .inr (2, [.ref d, .int area, .ref fa, .ref ra, .int state, .int pf, .int pw])), (d, .inr (0, [.ref xa, .ref ya, .ref la, .ref sa, .int size])), (xa, .inl (cI, 10, .inl xs)), (ya, .inl (cI, 10, .inl ys)), (la, .inl (cI, 10, .inl ln)), (sa, .inl (cI, 10, .inl sl)), (fa, .inl (cL, 10, .inr (.inl (j_6.1)))), (ra, .inl (cL, 10, .inr (.inl (j_6.2)))), (fr, .inr (1, [.int rough, .int mu]))]) [0, 1, 2, 3, 4, 5, 6, 7, 8] rfl
      have hDc := hD.sub (ws' := [(t, .inr (2, [.ref d, .int area, .ref fa, .ref ra, .int state, .int pf, .int pw])), (d, .inr (0, [.ref xa, .ref ya, .ref la, .ref sa, .int size])), (xa, .inl (cI, 10, .inl xs)), (ya, .inl (cI, 10, .inl ys)), (la, .inl (cI, 10, .inl ln)), (sa, .inl (cI, 10, .inl sl)), (fa, .inl (cL, 10, .inr (.inl (j_6.1)))), (ra, .inl (cL, 10, .inr (.inl (j_6.2)))), (fr, .inr (1, [.int rough, .int mu]))]) [0, 1, 2, 3, 4, 5, 6, 7, 8] (by decide) rfl
      refine kc_v (va_runV (As := [.int (2 : Int32), .int p1, .ref fr]) (rest := []) ⟨hx, hb, hml, hown, hts⟩ (mT_slipAtEnd l dC dI cI cL cT t d xa ya la sa fa ra fr H.size fu area state pf pw size xs ys ln sl (j_6.1) (j_6.2) rough mu (2 : Int32) p1 (r_29.1) (r_29.2) q_29) ⟨callB_of 3 hts (gd_code kw_279) rfl rfl rfl (hts _ kw_33) (hts _ kw_276) (by decide +kernel) ⟨Nat.le_of_ble_eq_true rfl, Nat.le_of_ble_eq_true rfl⟩, hts _ kw_278, hts _ kw_5⟩ (kP_V hPc hK hDc hN (va_recv hK hPc (ci := 2) (q0 := 0) rfl rfl)) rfl rfl hl.1 rfl (lv_room (Nat.le_of_ble_eq_true rfl)) dT_slipBack_29 ⟨Nat.le_of_ble_eq_true rfl, Nat.le_of_ble_eq_true rfl⟩) hP hD hS hA (wc := [(t, .inr (2, [.ref d, .int area, .ref fa, .ref ra, .int state, .int pf, .int pw])), (d, .inr (0, [.ref xa, .ref ya, .ref la, .ref sa, .int size])), (xa, .inl (cI, 10, .inl xs)), (ya, .inl (cI, 10, .inl ys)), (la, .inl (cI, 10, .inl ln)), (sa, .inl (cI, 10, .inl sl)), (fa, .inl (cL, 10, .inr (.inl (j_6.1)))), (ra, .inl (cL, 10, .inr (.inl (j_6.2)))), (fr, .inr (1, [.int rough, .int mu]))]) (wr := []) (w1 := [(t, .inr (2, [.ref d, .int area, .ref fa, .ref ra, .int state, .int pf, .int pw])), (d, .inr (0, [.ref xa, .ref ya, .ref la, .ref sa, .int size])), (xa, .inl (cI, 10, .inl xs)), (ya, .inl (cI, 10, .inl ys)), (la, .inl (cI, 10, .inl ln)), (sa, .inl (cI, 10, .inl sl)), (fa, .inl (cL, 10, .inr (.inl (r_29.1)))), (ra, .inl (cL, 10, .inr (.inl (r_29.2)))), (fr, .inr (1, [.int rough, .int mu]))]) (ws' := [(t, .inr (2, [.ref d, .int area, .ref fa, .ref ra, .int state, .int pf, .int pw])), (d, .inr (0, [.ref xa, .ref ya, .ref la, .ref sa, .int size])), (xa, .inl (cI, 10, .inl xs)), (ya, .inl (cI, 10, .inl ys)), (la, .inl (cI, 10, .inl ln)), (sa, .inl (cI, 10, .inl sl)), (fa, .inl (cL, 10, .inr (.inl (r_29.1)))), (ra, .inl (cL, 10, .inr (.inl (r_29.2)))), (fr, .inr (1, [.int rough, .int mu]))]) [0, 1, 2, 3, 4, 5, 6, 7, 8] [] [0, 1, 2, 3, 4, 5, 6, 7, 8] rfl rfl (by decide) (by decide) rfl (by decide) rfl (fun H locs hP hD hS => ?_)
      have k0 := Option.some.inj hf
      obtain ⟨e0, k1⟩ := Prod.mk.inj k0
      subst e0
      subst k1
      subst hQ
      exact W.vret hx hb hr (fun t ht hW => ⟨⟨(), rfl, trivial, by rw [ht]; exact hP, va_K.moved hW.alike hK, hD⟩, hS.F ht⟩) hS.2.2 dT_slipBack_32
  have hf := e_6
  refine lv_if_eq (tgt := 16) hx hb dT_slipBack_6 (by decide) (fun c_6 => ?_) (fun c_6 => ?_)
  · have hf := o_t hf c_6
    have e9 := Option.some.inj hf
    subst e9
    exact J_16 _ _ ls hP hD hS (lv_sub hl [0, 1, 2] rfl)
  · have hf := o_f hf c_6
    refine lv_aload_n hx hb dT_slipBack_9 rfl (lv_at hl 0 rfl) ?_
    refine lv_iconst (v := (1 : Int32)) hx hb dT_slipBack_10 (by decide) ?_
    refine lv_iload_n hx hb dT_slipBack_11 rfl (lv_at hl 1 rfl) ?_
    refine lv_aload_n hx hb dT_slipBack_12 rfl (lv_at hl 2 rfl) ?_
    obtain ⟨r_13, q_13, hf⟩ := o_b hf
    have hPc := hP.sub (ws' := [(t, .inr (2, [.ref d, .int area, .ref fa, .ref ra, .int state, .int pf, .int pw])), (d, .inr (0, [.ref xa, .ref ya, .ref la, .ref sa, .int size])), (xa, .inl (cI, 10, .inl xs)), (ya, .inl (cI, 10, .inl ys)), (la, .inl (cI, 10, .inl ln)), (sa, .inl (cI, 10, .inl sl)), (fa, .inl (cL, 10, .inr (.inl fo))), (ra, .inl (cL, 10, .inr (.inl tr))), (fr, .inr (1, [.int rough, .int mu]))]) [0, 1, 2, 3, 4, 5, 6, 7, 8] rfl
    have hDc := hD.sub (ws' := [(t, .inr (2, [.ref d, .int area, .ref fa, .ref ra, .int state, .int pf, .int pw])), (d, .inr (0, [.ref xa, .ref ya, .ref la, .ref sa, .int size])), (xa, .inl (cI, 10, .inl xs)), (ya, .inl (cI, 10, .inl ys)), (la, .inl (cI, 10, .inl ln)), (sa, .inl (cI, 10, .inl sl)), (fa, .inl (cL, 10, .inr (.inl fo))), (ra, .inl (cL, 10, .inr (.inl tr))), (fr, .inr (1, [.int rough, .int mu]))]) [0, 1, 2, 3, 4, 5, 6, 7, 8] (by decide) rfl
    refine kc_v (va_runV (As := [.int (1 : Int32), .int p1, .ref fr]) (rest := []) ⟨hx, hb, hml, hown, hts⟩ (mT_slipAtEnd l dC dI cI cL cT t d xa ya la sa fa ra fr s.heap.size fu area state pf pw size xs ys ln sl fo tr rough mu (1 : Int32) p1 (r_13.1) (r_13.2) q_13) ⟨callB_of 3 hts (gd_code kw_279) rfl rfl rfl (hts _ kw_33) (hts _ kw_276) (by decide +kernel) ⟨Nat.le_of_ble_eq_true rfl, Nat.le_of_ble_eq_true rfl⟩, hts _ kw_278, hts _ kw_5⟩ (kP_V hPc hK hDc hN (va_recv hK hPc (ci := 2) (q0 := 0) rfl rfl)) rfl rfl hl.1 rfl (lv_room (Nat.le_of_ble_eq_true rfl)) dT_slipBack_13 ⟨Nat.le_of_ble_eq_true rfl, Nat.le_of_ble_eq_true rfl⟩) hP hD hS hA (wc := [(t, .inr (2, [.ref d, .int area, .ref fa, .ref ra, .int state, .int pf, .int pw])), (d, .inr (0, [.ref xa, .ref ya, .ref la, .ref sa, .int size])), (xa, .inl (cI, 10, .inl xs)), (ya, .inl (cI, 10, .inl ys)), (la, .inl (cI, 10, .inl ln)), (sa, .inl (cI, 10, .inl sl)), (fa, .inl (cL, 10, .inr (.inl fo))), (ra, .inl (cL, 10, .inr (.inl tr))), (fr, .inr (1, [.int rough, .int mu]))]) (wr := []) (w1 := [(t, .inr (2, [.ref d, .int area, .ref fa, .ref ra, .int state, .int pf, .int pw])), (d, .inr (0, [.ref xa, .ref ya, .ref la, .ref sa, .int size])), (xa, .inl (cI, 10, .inl xs)), (ya, .inl (cI, 10, .inl ys)), (la, .inl (cI, 10, .inl ln)), (sa, .inl (cI, 10, .inl sl)), (fa, .inl (cL, 10, .inr (.inl (r_13.1)))), (ra, .inl (cL, 10, .inr (.inl (r_13.2)))), (fr, .inr (1, [.int rough, .int mu]))]) (ws' := [(t, .inr (2, [.ref d, .int area, .ref fa, .ref ra, .int state, .int pf, .int pw])), (d, .inr (0, [.ref xa, .ref ya, .ref la, .ref sa, .int size])), (xa, .inl (cI, 10, .inl xs)), (ya, .inl (cI, 10, .inl ys)), (la, .inl (cI, 10, .inl ln)), (sa, .inl (cI, 10, .inl sl)), (fa, .inl (cL, 10, .inr (.inl (r_13.1)))), (ra, .inl (cL, 10, .inr (.inl (r_13.2)))), (fr, .inr (1, [.int rough, .int mu]))]) [0, 1, 2, 3, 4, 5, 6, 7, 8] [] [0, 1, 2, 3, 4, 5, 6, 7, 8] rfl rfl (by decide) (by decide) rfl (by decide) rfl (fun H locs hP hD hS => ?_)
    have e9 := Option.some.inj hf
    subst e9
    exact J_16 _ _ ls hP hD hS (lv_sub hl [0, 1, 2] rfl)
