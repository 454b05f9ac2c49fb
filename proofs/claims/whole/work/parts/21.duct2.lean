def fD_mayGoOnTo (fu : Nat) (size : Int32) (xs : Nat → Int32) (ys : Nat → Int32) (ln : Nat → Int32) (sl : Nat → Int32) (p1 : Int32) (p2 : Int32) : Option ((Int32)) := (if (10 : Int32) ≤ size then some (0 : Int32) else ((fL_isWithin fu p2 (-3000 : Int32) (3000 : Int32)).bind fun r_16 => (if r_16 = (0 : Int32) then some (0 : Int32) else (((if size = (0 : Int32) then some (0 : Int32) else (if ¬ ((size - (1 : Int32)) < 0 ∨ 10 ≤ ((size - (1 : Int32))).toNatClampNeg) then some ((xs ((size - (1 : Int32))).toNatClampNeg) + (100 : Int32)) else none))).bind fun j_28 => ((fL_isWithin fu p1 j_28 (100000 : Int32)).bind fun r_54 => (if r_54 &&& 1 = r_54 then some r_54 else none))))))
def rmD_mayGoOnTo : Room := { frames := 1, cells := 0, slots := 0, locals := 22 }
set_option maxHeartbeats 4000000 in
set_option maxRecDepth 100000 in
theorem mD_mayGoOnTo (l : Launch) (dC : Nat → ClassId) (dI : Nat → Nat → Nat) (cI cL cT : ClassId) (d xa ya la sa : Nat) (sz : Nat) (fu : Nat) (size : Int32) (xs : Nat → Int32) (ys : Nat → Int32) (ln : Nat → Int32) (sl : Nat → Int32) (p1 : Int32) (p2 : Int32) (o0 : Int32) (hf : fD_mayGoOnTo fu size xs ys ln sl p1 p2 = some (o0)) : Met l yD_mayGoOnTo wD_mayGoOnTo rmD_mayGoOnTo (kP (dC, dI) [(cI, .int), (cL, .long), (cT, .object "TendonLosses$Tendon")] [.ref d, .int p1, .int p2] [(d, .inr (0, [.ref xa, .ref ya, .ref la, .ref sa, .int size])), (xa, .inl (cI, 10, .inl xs)), (ya, .inl (cI, 10, .inl ys)), (la, .inl (cI, 10, .inl ln)), (sa, .inl (cI, 10, .inl sl))] sz) (va_Qi (fun (r : Int32) (_ : Unit) => r = o0) (kB (dC, dI) [(cI, .int), (cL, .long), (cT, .object "TendonLosses$Tendon")] (va_A [(d, .inr (0, [.ref xa, .ref ya, .ref la, .ref sa, .int size])), (xa, .inl (cI, 10, .inl xs)), (ya, .inl (cI, 10, .inl ys)), (la, .inl (cI, 10, .inl ln)), (sa, .inl (cI, 10, .inl sl))] sz) [(d, .inr (0, [.ref xa, .ref ya, .ref la, .ref sa, .int size])), (xa, .inl (cI, 10, .inl xs)), (ya, .inl (cI, 10, .inl ys)), (la, .inl (cI, 10, .inl ln)), (sa, .inl (cI, 10, .inl sl))]) (va_A [(d, .inr (0, [.ref xa, .ref ya, .ref la, .ref sa, .int size])), (xa, .inl (cI, 10, .inl xs)), (ya, .inl (cI, 10, .inl ys)), (la, .inl (cI, 10, .inl ln)), (sa, .inl (cI, 10, .inl sl))] sz)) 0 0 (va_A [(d, .inr (0, [.ref xa, .ref ya, .ref la, .ref sa, .int size])), (xa, .inl (cI, 10, .inl xs)), (ya, .inl (cI, 10, .inl ys)), (la, .inl (cI, 10, .inl ln)), (sa, .inl (cI, 10, .inl sl))] sz) := by
  refine Met.ofW (cc := bD_mayGoOnTo) (maxL := 4) (ret := (some .boolean)) (by decide) rfl ?_
  intro p e s m args below meth c s₁ B hml hv
  obtain ⟨rfl, hsz, hP, hK, hD0, hN⟩ := hv
  have hx := B.exec
  have hb := B.bytes
  have hr := B.returns
  have hts : ∀ w ∈ gt, w.before ([.ref d, .int p1, .int p2] : List Value).toArray s = true := fun w h => atoms_spec (ws := wD_mayGoOnTo) B.pre w (List.mem_cons_of_mem _ h)
  have hown : s.vm.findClass "TendonLosses$Duct" = some m.cls := findClass_of_methodNamed B.named
  have hlocks := B.notSynchronized
  subst hsz
  have hD := hD0.self (sz := s.heap.size)
  generalize hAe : va_A [(d, .inr (0, [.ref xa, .ref ya, .ref la, .ref sa, .int size])), (xa, .inl (cI, 10, .inl xs)), (ya, .inl (cI, 10, .inl ys)), (la, .inl (cI, 10, .inl ln)), (sa, .inl (cI, 10, .inl sl))] s.heap.size = A at hD ⊢
  have hA : ∀ q : Nat, s.heap.size ≤ q → A q := fun q h => by rw [← hAe]; exact Or.inr h
  have hS : va_S A s.heap s.heap [] := va_S.rf
  have hP : va_P (dC, dI) vwCl [(d, .inr (0, [.ref xa, .ref ya, .ref la, .ref sa, .int size])), (xa, .inl (cI, 10, .inl xs)), (ya, .inl (cI, 10, .inl ys)), (la, .inl (cI, 10, .inl ln)), (sa, .inl (cI, 10, .inl sl))] s.heap := hP
  have hl := lv_entry ([.ref d, .int p1, .int p2]) (n := 4) (Nat.le_of_ble_eq_true rfl)
  rw [lg_entry_eq]
  generalize (lg_sl ([.ref d, .int p1, .int p2]) ++ List.replicate (4 - (lg_sl ([.ref d, .int p1, .int p2])).length) Slot.unset).toArray = ls at hl ⊢
  have hl : lv_has ls 4 [(0, .ref d), (1, .int p1), (2, .int p2)] := hl
  refine W.nameQ (fun Q hQ => ?_)
  unfold fD_mayGoOnTo at hf
  refine lv_aload_n hx hb dD_mayGoOnTo_0 rfl (lv_at hl 0 rfl) ?_
  refine va_get (D := (dC, dI)) (ci := 0) (v := .int size) (C := "TendonLosses$Duct") (T := TT_D) (N := 5) hx hb hts in_D hown hK hP 0 rfl rfl 4 (by decide) (hts _ kw_116) (fun _ h9 => h9) rfl dD_mayGoOnTo_1 ?_
  refine lv_bipush (v := (10 : Int32)) hx hb dD_mayGoOnTo_4 (by decide) ?_
  refine lv_icmp_ge (tgt := 22) hx hb dD_mayGoOnTo_6 (by decide) (fun c_6 => ?_) (fun c_6 => ?_)
  · have hf := o_t hf c_6
    refine lv_iconst (v := (0 : Int32)) hx hb dD_mayGoOnTo_22 (by decide) ?_
    have e9 := Option.some.inj hf
    subst e9
    subst hQ
    exact W.zret (v := (0 : Int32)) (ty := .boolean) hx hb hr rfl (fun t ht hW => ⟨⟨(0 : Int32), (), rfl, rfl, by rw [ht]; exact hP, va_K.moved hW.alike hK, hD⟩, hS.F ht⟩) hS.2.2 dD_mayGoOnTo_23
  · have hf := o_f hf c_6
    refine lv_iload_n hx hb dD_mayGoOnTo_9 rfl (lv_at hl 2 rfl) ?_
    refine lv_sipush (v := (-3000 : Int32)) hx hb dD_mayGoOnTo_10 (by decide) ?_
    refine lv_sipush (v := (3000 : Int32)) hx hb dD_mayGoOnTo_13 (by decide) ?_
    obtain ⟨r_16, q_16, hf⟩ := o_b hf
    have hPc := hP.sub (ws' := []) [] rfl
    have hDc := hD.sub (ws' := []) [] (by decide) rfl
    refine kc_i (va_runSN (As := [.int p2, .int (-3000 : Int32), .int (3000 : Int32)]) (rest := []) ⟨hx, hb, hml, hown, hts⟩ (mL_isWithin l dC dI cI cL cT  s.heap.size fu p2 (-3000 : Int32) (3000 : Int32) (r_16) q_16) ⟨va_cnB 3 hts (gd_code kw_96) rfl rfl rfl hN.1 (hts _ kw_30) (by decide +kernel) ⟨Nat.le_of_ble_eq_true rfl, Nat.le_of_ble_eq_true rfl⟩, hts _ kw_95, trivial⟩ (kP_S hPc hK hDc hN) rfl rfl hl.1 rfl (lv_room (Nat.le_of_ble_eq_true rfl)) dD_mayGoOnTo_16 ⟨Nat.le_of_ble_eq_true rfl, Nat.le_of_ble_eq_true rfl⟩) hP hD hS hA (wc := []) (wr := [(d, .inr (0, [.ref xa, .ref ya, .ref la, .ref sa, .int size])), (xa, .inl (cI, 10, .inl xs)), (ya, .inl (cI, 10, .inl ys)), (la, .inl (cI, 10, .inl ln)), (sa, .inl (cI, 10, .inl sl))]) (w1 := []) (ws' := [(d, .inr (0, [.ref xa, .ref ya, .ref la, .ref sa, .int size])), (xa, .inl (cI, 10, .inl xs)), (ya, .inl (cI, 10, .inl ys)), (la, .inl (cI, 10, .inl ln)), (sa, .inl (cI, 10, .inl sl))]) [] [0, 1, 2, 3, 4] [0, 1, 2, 3, 4] rfl rfl (by decide) (by decide) rfl (by decide) rfl (fun H locs hP hD hS => ?_)
    refine lv_if_ne (tgt := 24) hx hb dD_mayGoOnTo_19 (by decide) (fun c_19 => ?_) (fun c_19 => ?_)
    · have hf := o_f hf c_19
      refine lv_aload_n hx hb dD_mayGoOnTo_24 rfl (lv_at hl 0 rfl) ?_
      refine va_get (D := (dC, dI)) (ci := 0) (v := .int size) (C := "TendonLosses$Duct") (T := TT_D) (N := 5) hx hb hts in_D hown hK hP 0 rfl rfl 4 (by decide) (hts _ kw_116) (fun _ h9 => h9) rfl dD_mayGoOnTo_25 ?_
      obtain ⟨j_28, e_28, hf⟩ := o_b hf
      have J_49 : ∀ (H : Heap) (locs : List Loc) (ls : Array Slot), va_P (dC, dI) vwCl [(d, .inr (0, [.ref xa, .ref ya, .ref la, .ref sa, .int size])), (xa, .inl (cI, 10, .inl xs)), (ya, .inl (cI, 10, .inl ys)), (la, .inl (cI, 10, .inl ln)), (sa, .inl (cI, 10, .inl sl))] H → va_D A [(d, .inr (0, [.ref xa, .ref ya, .ref la, .ref sa, .int size])), (xa, .inl (cI, 10, .inl xs)), (ya, .inl (cI, 10, .inl ys)), (la, .inl (cI, 10, .inl ln)), (sa, .inl (cI, 10, .inl sl))] → va_S A s.heap H locs → lv_has ls 4 [(0, .ref d), (1, .int p1), (2, .int p2)] → W p l e (headSpec wD_mayGoOnTo rmD_mayGoOnTo).room s m ([.ref d, .int p1, .int p2] : List Value).toArray below meth c H locs 0 0 Q (F0 m 49 ls [.int j_28]) := by
        intro H locs ls hP hD hS hl
        refine lv_istore_n (lv' := [(3, .int j_28), (0, .ref d), (1, .int p1), (2, .int p2)]) hx hb dD_mayGoOnTo_49 rfl hl (by decide) rfl (fun ls hl => ?_)
        refine lv_iload_n hx hb dD_mayGoOnTo_50 rfl (lv_at hl 2 rfl) ?_
        refine lv_iload_n hx hb dD_mayGoOnTo_51 rfl (lv_at hl 0 rfl) ?_
        refine lv_ldc (v := (100000 : Int32)) hx hb hown (hts _ kw_169) dD_mayGoOnTo_52 ?_
        obtain ⟨r_54, q_54, hf⟩ := o_b hf
        have hPc := hP.sub (ws' := []) [] rfl
        have hDc := hD.sub (ws' := []) [] (by decide) rfl
        refine kc_i (va_runSN (As := [.int p1, .int j_28, .int (100000 : Int32)]) (rest := []) ⟨hx, hb, hml, hown, hts⟩ (mL_isWithin l dC dI cI cL cT  H.size fu p1 j_28 (100000 : Int32) (r_54) q_54) ⟨va_cnB 3 hts (gd_code kw_96) rfl rfl rfl hN.1 (hts _ kw_30) (by decide +kernel) ⟨Nat.le_of_ble_eq_true rfl, Nat.le_of_ble_eq_true rfl⟩, hts _ kw_95, trivial⟩ (kP_S hPc hK hDc hN) rfl rfl hl.1 rfl (lv_room (Nat.le_of_ble_eq_true rfl)) dD_mayGoOnTo_54 ⟨Nat.le_of_ble_eq_true rfl, Nat.le_of_ble_eq_true rfl⟩) hP hD hS hA (wc := []) (wr := [(d, .inr (0, [.ref xa, .ref ya, .ref la, .ref sa, .int size])), (xa, .inl (cI, 10, .inl xs)), (ya, .inl (cI, 10, .inl ys)), (la, .inl (cI, 10, .inl ln)), (sa, .inl (cI, 10, .inl sl))]) (w1 := []) (ws' := [(d, .inr (0, [.ref xa, .ref ya, .ref la, .ref sa, .int size])), (xa, .inl (cI, 10, .inl xs)), (ya, .inl (cI, 10, .inl ys)), (la, .inl (cI, 10, .inl ln)), (sa, .inl (cI, 10, .inl sl))]) [] [0, 1, 2, 3, 4] [0, 1, 2, 3, 4] rfl rfl (by decide) (by decide) rfl (by decide) rfl (fun H locs hP hD hS => ?_)
        obtain ⟨h_57, hf⟩ := o_c hf
        have e9 := Option.some.inj hf
        subst e9
        subst hQ
        exact W.zret (v := r_54) (ty := .boolean) hx hb hr (congrArg Value.int h_57) (fun t ht hW => ⟨⟨r_54, (), rfl, rfl, by rw [ht]; exact hP, va_K.moved hW.alike hK, hD⟩, hS.F ht⟩) hS.2.2 dD_mayGoOnTo_57
      have hf := e_28
      refine lv_if_ne (tgt := 35) hx hb dD_mayGoOnTo_28 (by decide) (fun c_28 => ?_) (fun c_28 => ?_)
      · have hf := o_f hf c_28
        refine lv_aload_n hx hb dD_mayGoOnTo_35 rfl (lv_at hl 0 rfl) ?_
        refine va_get (D := (dC, dI)) (ci := 0) (v := .ref xa) (C := "TendonLosses$Duct") (T := TT_D) (N := 5) hx hb hts in_D hown hK hP 0 rfl rfl 0 (by decide) (hts _ kw_108) (fun _ h9 => h9) rfl dD_mayGoOnTo_36 ?_
        refine lv_aload_n hx hb dD_mayGoOnTo_39 rfl (lv_at hl 0 rfl) ?_
        refine va_get (D := (dC, dI)) (ci := 0) (v := .int size) (C := "TendonLosses$Duct") (T := TT_D) (N := 5) hx hb hts in_D hown hK hP 0 rfl rfl 4 (by decide) (hts _ kw_116) (fun _ h9 => h9) rfl dD_mayGoOnTo_40 ?_
        refine lv_iconst (v := (1 : Int32)) hx hb dD_mayGoOnTo_43 (by decide) ?_
        refine lv_isub hx hb dD_mayGoOnTo_44 ?_
        obtain ⟨h_45, hf⟩ := o_c hf
        refine va_iald hx hb hK hP 1 0 rfl rfl h_45 dD_mayGoOnTo_45 ?_
        refine lv_bipush (v := (100 : Int32)) hx hb dD_mayGoOnTo_46 (by decide) ?_
        refine lv_iadd hx hb dD_mayGoOnTo_48 ?_
        have e9 := Option.some.inj hf
        subst e9
        exact J_49 _ _ ls hP hD hS (lv_sub hl [0, 1, 2] rfl)
      · have hf := o_t hf c_28
        refine lv_iconst (v := (0 : Int32)) hx hb dD_mayGoOnTo_31 (by decide) ?_
        refine lv_goto (tgt := 49) hx hb dD_mayGoOnTo_32 (by decide) ?_
        have e9 := Option.some.inj hf
        subst e9
        exact J_49 _ _ ls hP hD hS (lv_sub hl [0, 1, 2] rfl)
    · have hf := o_t hf c_19
      refine lv_iconst (v := (0 : Int32)) hx hb dD_mayGoOnTo_22 (by decide) ?_
      have e9 := Option.some.inj hf
      subst e9
      subst hQ
      exact W.zret (v := (0 : Int32)) (ty := .boolean) hx hb hr rfl (fun t ht hW => ⟨⟨(0 : Int32), (), rfl, rfl, by rw [ht]; exact hP, va_K.moved hW.alike hK, hD⟩, hS.F ht⟩) hS.2.2 dD_mayGoOnTo_23

def fD_measurePiece (fu : Nat) (size : Int32) (xs : Nat → Int32) (ys : Nat → Int32) (ln : Nat → Int32) (sl : Nat → Int32) (p1 : Int32) : Option ((Nat → Int32) × (Nat → Int32)) := ((fD_widthOf fu size xs ys ln sl p1).bind fun r_2 => (if ¬ ((p1 + (1 : Int32)) < 0 ∨ 10 ≤ ((p1 + (1 : Int32))).toNatClampNeg) then (if ¬ (p1 < 0 ∨ 10 ≤ (p1).toNatClampNeg) then ((fD_rootOf fu (((r_2).toInt64 * (r_2).toInt64) + ((((ys ((p1 + (1 : Int32))).toNatClampNeg) - (ys (p1).toNatClampNeg))).toInt64 * (((ys ((p1 + (1 : Int32))).toNatClampNeg) - (ys (p1).toNatClampNeg))).toInt64))).bind fun r_39 => (if ¬ (p1 < 0 ∨ 10 ≤ (p1).toNatClampNeg) then ((fL_quotient fu ((1000 : Int64) * (((ys ((p1 + (1 : Int32))).toNatClampNeg) - (ys (p1).toNatClampNeg))).toInt64) (r_2).toInt64).bind fun r_55 => (if ¬ (p1 < 0 ∨ 10 ≤ (p1).toNatClampNeg) then some ((upd ln (p1).toNatClampNeg r_39), (upd sl (p1).toNatClampNeg (r_55).toInt32)) else none)) else none)) else none) else none))
def rmD_measurePiece : Room := { frames := 1, cells := 0, slots := 0, locals := 28 }
set_option maxHeartbeats 4000000 in
set_option maxRecDepth 100000 in
theorem mD_measurePiece (l : Launch) (dC : Nat → ClassId) (dI : Nat → Nat → Nat) (cI cL cT : ClassId) (d xa ya la sa : Nat) (sz : Nat) (fu : Nat) (size : Int32) (xs : Nat → Int32) (ys : Nat → Int32) (ln : Nat → Int32) (sl : Nat → Int32) (p1 : Int32) (o0 : Nat → Int32) (o1 : Nat → Int32) (hf : fD_measurePiece fu size xs ys ln sl p1 = some (o0, o1)) : Met l yD_measurePiece wD_measurePiece rmD_measurePiece (kP (dC, dI) [(cI, .int), (cL, .long), (cT, .object "TendonLosses$Tendon")] [.ref d, .int p1] [(d, .inr (0, [.ref xa, .ref ya, .ref la, .ref sa, .int size])), (xa, .inl (cI, 10, .inl xs)), (ya, .inl (cI, 10, .inl ys)), (la, .inl (cI, 10, .inl ln)), (sa, .inl (cI, 10, .inl sl))] sz) (va_Qv (fun (_ : Unit) => True) (kB (dC, dI) [(cI, .int), (cL, .long), (cT, .object "TendonLosses$Tendon")] (va_A [(d, .inr (0, [.ref xa, .ref ya, .ref la, .ref sa, .int size])), (xa, .inl (cI, 10, .inl xs)), (ya, .inl (cI, 10, .inl ys)), (la, .inl (cI, 10, .inl ln)), (sa, .inl (cI, 10, .inl sl))] sz) [(d, .inr (0, [.ref xa, .ref ya, .ref la, .ref sa, .int size])), (xa, .inl (cI, 10, .inl xs)), (ya, .inl (cI, 10, .inl ys)), (la, .inl (cI, 10, .inl o0)), (sa, .inl (cI, 10, .inl o1))]) (va_A [(d, .inr (0, [.ref xa, .ref ya, .ref la, .ref sa, .int size])), (xa, .inl (cI, 10, .inl xs)), (ya, .inl (cI, 10, .inl ys)), (la, .inl (cI, 10, .inl ln)), (sa, .inl (cI, 10, .inl sl))] sz)) 0 0 (va_A [(d, .inr (0, [.ref xa, .ref ya, .ref la, .ref sa, .int size])), (xa, .inl (cI, 10, .inl xs)), (ya, .inl (cI, 10, .inl ys)), (la, .inl (cI, 10, .inl ln)), (sa, .inl (cI, 10, .inl sl))] sz) := by
  refine Met.ofW (cc := bD_measurePiece) (maxL := 6) (ret := none) (by decide) rfl ?_
  intro p e s m args below meth c s₁ B hml hv
  obtain ⟨rfl, hsz, hP, hK, hD0, hN⟩ := hv
  have hx := B.exec
  have hb := B.bytes
  have hr := B.returns
  have hts : ∀ w ∈ gt, w.before ([.ref d, .int p1] : List Value).toArray s = true := fun w h => atoms_spec (ws := wD_measurePiece) B.pre w (List.mem_cons_of_mem _ h)
  have hown : s.vm.findClass "TendonLosses$Duct" = some m.cls := findClass_of_methodNamed B.named
  have hlocks := B.notSynchronized
  subst hsz
  have hD := hD0.self (sz := s.heap.size)
  generalize hAe : va_A [(d, .inr (0, [.ref xa, .ref ya, .ref la, .ref sa, .int size])), (xa, .inl (cI, 10, .inl xs)), (ya, .inl (cI, 10, .inl ys)), (la, .inl (cI, 10, .inl ln)), (sa, .inl (cI, 10, .inl sl))] s.heap.size = A at hD ⊢
  have hA : ∀ q : Nat, s.heap.size ≤ q → A q := fun q h => by rw [← hAe]; exact Or.inr h
  have hS : va_S A s.heap s.heap [] := va_S.rf
  have hP : va_P (dC, dI) vwCl [(d, .inr (0, [.ref xa, .ref ya, .ref la, .ref sa, .int size])), (xa, .inl (cI, 10, .inl xs)), (ya, .inl (cI, 10, .inl ys)), (la, .inl (cI, 10, .inl ln)), (sa, .inl (cI, 10, .inl sl))] s.heap := hP
  have hl := lv_entry ([.ref d, .int p1]) (n := 6) (Nat.le_of_ble_eq_true rfl)
  rw [lg_entry_eq]
  generalize (lg_sl ([.ref d, .int p1]) ++ List.replicate (6 - (lg_sl ([.ref d, .int p1])).length) Slot.unset).toArray = ls at hl ⊢
  have hl : lv_has ls 6 [(0, .ref d), (1, .int p1)] := hl
  refine W.nameQ (fun Q hQ => ?_)
  unfold fD_measurePiece at hf
  refine lv_aload_n hx hb dD_measurePiece_0 rfl (lv_at hl 0 rfl) ?_
  refine lv_iload_n hx hb dD_measurePiece_1 rfl (lv_at hl 1 rfl) ?_
  obtain ⟨r_2, q_2, hf⟩ := o_b hf
  have hPc := hP.sub (ws' := [(d, .inr (0, [.ref xa, .ref ya, .ref la, .ref sa, .int size])), (xa, .inl (cI, 10, .inl xs)), (ya, .inl (cI, 10, .inl ys)), (la, .inl (cI, 10, .inl ln)), (sa, .inl (cI, 10, .inl sl))]) [0, 1, 2, 3, 4] rfl
  have hDc := hD.sub (ws' := [(d, .inr (0, [.ref xa, .ref ya, .ref la, .ref sa, .int size])), (xa, .inl (cI, 10, .inl xs)), (ya, .inl (cI, 10, .inl ys)), (la, .inl (cI, 10, .inl ln)), (sa, .inl (cI, 10, .inl sl))]) [0, 1, 2, 3, 4] (by decide) rfl
  refine kc_i (va_runV (As := [.int p1]) (rest := []) ⟨hx, hb, hml, hown, hts⟩ (mD_widthOf l dC dI cI cL cT d xa ya la sa s.heap.size fu size xs ys ln sl p1 (r_2) q_2) ⟨callB_of 1 hts (gd_code kw_181) rfl rfl rfl (hts _ kw_34) (hts _ kw_178) (by decide +kernel) ⟨Nat.le_of_ble_eq_true rfl, Nat.le_of_ble_eq_true rfl⟩, hts _ kw_179, hts _ kw_180⟩ (kP_V hPc hK hDc hN (va_recv hK hPc (ci := 0) (q0 := 0) rfl rfl)) rfl rfl hl.1 rfl (lv_room (Nat.le_of_ble_eq_true rfl)) dD_measurePiece_2 ⟨Nat.le_of_ble_eq_true rfl, Nat.le_of_ble_eq_true rfl⟩) hP hD hS hA (wc := [(d, .inr (0, [.ref xa, .ref ya, .ref la, .ref sa, .int size])), (xa, .inl (cI, 10, .inl xs)), (ya, .inl (cI, 10, .inl ys)), (la, .inl (cI, 10, .inl ln)), (sa, .inl (cI, 10, .inl sl))]) (wr := []) (w1 := [(d, .inr (0, [.ref xa, .ref ya, .ref la, .ref sa, .int size])), (xa, .inl (cI, 10, .inl xs)), (ya, .inl (cI, 10, .inl ys)), (la, .inl (cI, 10, .inl ln)), (sa, .inl (cI, 10, .inl sl))]) (ws' := [(d, .inr (0, [.ref xa, .ref ya, .ref la, .ref sa, .int size])), (xa, .inl (cI, 10, .inl xs)), (ya, .inl (cI, 10, .inl ys)), (la, .inl (cI, 10, .inl ln)), (sa, .inl (cI, 10, .inl sl))]) [0, 1, 2, 3, 4] [] [0, 1, 2, 3, 4] rfl rfl (by decide) (by decide) rfl (by decide) rfl (fun H locs hP hD hS => ?_)
  refine lv_i2l (v := (r_2).toInt64) hx hb dD_measurePiece_5 rfl ?_
  refine lv_lstore_n (lv' := [(2, .long (r_2).toInt64), (0, .ref d), (1, .int p1)]) hx hb dD_measurePiece_6 rfl hl (by decide) rfl (fun ls hl => ?_)
  refine lv_aload_n hx hb dD_measurePiece_7 rfl (lv_at hl 1 rfl) ?_
  refine va_get (D := (dC, dI)) (ci := 0) (v := .ref ya) (C := "TendonLosses$Duct") (T := TT_D) (N := 5) hx hb hts in_D hown hK hP 0 rfl rfl 1 (by decide) (hts _ kw_110) (fun _ h9 => h9) rfl dD_measurePiece_8 ?_
  refine lv_iload_n hx hb dD_measurePiece_11 rfl (lv_at hl 2 rfl) ?_
  refine lv_iconst (v := (1 : Int32)) hx hb dD_measurePiece_12 (by decide) ?_
  refine lv_iadd hx hb dD_measurePiece_13 ?_
  obtain ⟨h_14, hf⟩ := o_c hf
  refine va_iald hx hb hK hP 2 0 rfl rfl h_14 dD_measurePiece_14 ?_
  refine lv_aload_n hx hb dD_measurePiece_15 rfl (lv_at hl 1 rfl) ?_
  refine va_get (D := (dC, dI)) (ci := 0) (v := .ref ya) (C := "TendonLosses$Duct") (T := TT_D) (N := 5) hx hb hts in_D hown hK hP 0 rfl rfl 1 (by decide) (hts _ kw_110) (fun _ h9 => h9) rfl dD_measurePiece_16 ?_
  refine lv_iload_n hx hb dD_measurePiece_19 rfl (lv_at hl 2 rfl) ?_
  obtain ⟨h_20, hf⟩ := o_c hf
  refine va_iald hx hb hK hP 2 0 rfl rfl h_20 dD_measurePiece_20 ?_
  refine lv_isub hx hb dD_measurePiece_21 ?_
  refine lv_i2l (v := (((ys ((p1 + (1 : Int32))).toNatClampNeg) - (ys (p1).toNatClampNeg))).toInt64) hx hb dD_measurePiece_22 rfl ?_
  refine lv_lstore (lv' := [(4, .long (((ys ((p1 + (1 : Int32))).toNatClampNeg) - (ys (p1).toNatClampNeg))).toInt64), (2, .long (r_2).toInt64), (0, .ref d), (1, .int p1)]) hx hb dD_measurePiece_23 hl (by decide) rfl (fun ls hl => ?_)
  refine lv_aload_n hx hb dD_measurePiece_25 rfl (lv_at hl 2 rfl) ?_
  refine va_get (D := (dC, dI)) (ci := 0) (v := .ref la) (C := "TendonLosses$Duct") (T := TT_D) (N := 5) hx hb hts in_D hown hK hP 0 rfl rfl 2 (by decide) (hts _ kw_111) (fun _ h9 => h9) rfl dD_measurePiece_26 ?_
  refine lv_iload_n hx hb dD_measurePiece_29 rfl (lv_at hl 3 rfl) ?_
  refine lv_lload_n hx hb dD_measurePiece_30 rfl (lv_at hl 1 rfl) ?_
  refine lv_lload_n hx hb dD_measurePiece_31 rfl (lv_at hl 1 rfl) ?_
  refine lv_lmul hx hb dD_measurePiece_32 ?_
  refine lv_lload hx hb dD_measurePiece_33 (lv_at hl 0 rfl) ?_
  refine lv_lload hx hb dD_measurePiece_35 (lv_at hl 0 rfl) ?_
  refine lv_lmul hx hb dD_measurePiece_37 ?_
  refine lv_ladd hx hb dD_measurePiece_38 ?_
  obtain ⟨r_39, q_39, hf⟩ := o_b hf
  have hPc := hP.sub (ws' := []) [] rfl
  have hDc := hD.sub (ws' := []) [] (by decide) rfl
  refine kc_i (va_runS (As := [.long (((r_2).toInt64 * (r_2).toInt64) + ((((ys ((p1 + (1 : Int32))).toNatClampNeg) - (ys (p1).toNatClampNeg))).toInt64 * (((ys ((p1 + (1 : Int32))).toNatClampNeg) - (ys (p1).toNatClampNeg))).toInt64))]) (rest := [.int p1, .ref la]) ⟨hx, hb, hml, hown, hts⟩ (mD_rootOf l dC dI cI cL cT  H.size fu (((r_2).toInt64 * (r_2).toInt64) + ((((ys ((p1 + (1 : Int32))).toNatClampNeg) - (ys (p1).toNatClampNeg))).toInt64 * (((ys ((p1 + (1 : Int32))).toNatClampNeg) - (ys (p1).toNatClampNeg))).toInt64)) (r_39) q_39) ⟨callB_of 1 hts (gd_code kw_184) rfl rfl rfl (hts _ kw_34) (hts _ kw_182) (by decide +kernel) ⟨Nat.le_of_ble_eq_true rfl, Nat.le_of_ble_eq_true rfl⟩, hts _ kw_183⟩ (kP_S hPc hK hDc hN) rfl rfl hl.1 rfl (lv_room (Nat.le_of_ble_eq_true rfl)) dD_measurePiece_39 ⟨Nat.le_of_ble_eq_true rfl, Nat.le_of_ble_eq_true rfl⟩) hP hD hS hA (wc := []) (wr := [(d, .inr (0, [.ref xa, .ref ya, .ref la, .ref sa, .int size])), (xa, .inl (cI, 10, .inl xs)), (ya, .inl (cI, 10, .inl ys)), (la, .inl (cI, 10, .inl ln)), (sa, .inl (cI, 10, .inl sl))]) (w1 := []) (ws' := [(d, .inr (0, [.ref xa, .ref ya, .ref la, .ref sa, .int size])), (xa, .inl (cI, 10, .inl xs)), (ya, .inl (cI, 10, .inl ys)), (la, .inl (cI, 10, .inl ln)), (sa, .inl (cI, 10, .inl sl))]) [] [0, 1, 2, 3, 4] [0, 1, 2, 3, 4] rfl rfl (by decide) (by decide) rfl (by decide) rfl (fun H locs hP hD hS => ?_)
  obtain ⟨h_42, hf⟩ := o_c hf
  refine va_iast hx hb hK hP hD hS 3 0 rfl rfl h_42 dD_measurePiece_42 (fun H locs hP hD hS => ?_)
  have hP : va_P (dC, dI) vwCl [(d, .inr (0, [.ref xa, .ref ya, .ref la, .ref sa, .int size])), (xa, .inl (cI, 10, .inl xs)), (ya, .inl (cI, 10, .inl ys)), (la, .inl (cI, 10, .inl (upd ln (p1).toNatClampNeg r_39))), (sa, .inl (cI, 10, .inl sl))] H := hP
  have hD : va_D A [(d, .inr (0, [.ref xa, .ref ya, .ref la, .ref sa, .int size])), (xa, .inl (cI, 10, .inl xs)), (ya, .inl (cI, 10, .inl ys)), (la, .inl (cI, 10, .inl (upd ln (p1).toNatClampNeg r_39))), (sa, .inl (cI, 10, .inl sl))] := hD
  refine lv_aload_n hx hb dD_measurePiece_43 rfl (lv_at hl 2 rfl) ?_
  refine va_get (D := (dC, dI)) (ci := 0) (v := .ref sa) (C := "TendonLosses$Duct") (T := TT_D) (N := 5) hx hb hts in_D hown hK hP 0 rfl rfl 3 (by decide) (hts _ kw_114) (fun _ h9 => h9) rfl dD_measurePiece_44 ?_
  refine lv_iload_n hx hb dD_measurePiece_47 rfl (lv_at hl 3 rfl) ?_
  refine lv_ldc2 (v := (1000 : Int64)) hx hb hown (hts _ kw_187) dD_measurePiece_48 ?_
  refine lv_lload hx hb dD_measurePiece_51 (lv_at hl 0 rfl) ?_
  refine lv_lmul hx hb dD_measurePiece_53 ?_
  refine lv_lload_n hx hb dD_measurePiece_54 rfl (lv_at hl 1 rfl) ?_
  obtain ⟨r_55, q_55, hf⟩ := o_b hf
  have hPc := hP.sub (ws' := []) [] rfl
  have hDc := hD.sub (ws' := []) [] (by decide) rfl
  refine kc_l (va_runSN (As := [.long ((1000 : Int64) * (((ys ((p1 + (1 : Int32))).toNatClampNeg) - (ys (p1).toNatClampNeg))).toInt64), .long (r_2).toInt64]) (rest := [.int p1, .ref sa]) ⟨hx, hb, hml, hown, hts⟩ (mL_quotient l dC dI cI cL cT  H.size fu ((1000 : Int64) * (((ys ((p1 + (1 : Int32))).toNatClampNeg) - (ys (p1).toNatClampNeg))).toInt64) (r_2).toInt64 (r_55) q_55) ⟨va_cnB 2 hts (gd_code kw_190) rfl rfl rfl hN.2.1 (hts _ kw_30) (by decide +kernel) ⟨Nat.le_of_ble_eq_true rfl, Nat.le_of_ble_eq_true rfl⟩, hts _ kw_189, trivial⟩ (kP_S hPc hK hDc hN) rfl rfl hl.1 rfl (lv_room (Nat.le_of_ble_eq_true rfl)) dD_measurePiece_55 ⟨Nat.le_of_ble_eq_true rfl, Nat.le_of_ble_eq_true rfl⟩) hP hD hS hA (wc := []) (wr := [(d, .inr (0, [.ref xa, .ref ya, .ref la, .ref sa, .int size])), (xa, .inl (cI, 10, .inl xs)), (ya, .inl (cI, 10, .inl ys)), (la, .inl (cI, 10, .inl (upd ln (p1).toNatClampNeg r_39))), (sa, .inl (cI, 10, .inl sl))]) (w1 := []) (ws' := [(d, .inr (0, [.ref xa, .ref ya, .ref la, .ref sa, .int size])), (xa, .inl (cI, 10, .inl xs)), (ya, .inl (cI, 10, .inl ys)), (la, .inl (cI, 10, .inl (upd ln (p1).toNatClampNeg r_39))), (sa, .inl (cI, 10, .inl sl))]) [] [0, 1, 2, 3, 4] [0, 1, 2, 3, 4] rfl rfl (by decide) (by decide) rfl (by decide) rfl (fun H locs hP hD hS => ?_)
  refine lv_l2i (v := (r_55).toInt32) hx hb dD_measurePiece_58 rfl ?_
  obtain ⟨h_59, hf⟩ := o_c hf
  refine va_iast hx hb hK hP hD hS 4 0 rfl rfl h_59 dD_measurePiece_59 (fun H locs hP hD hS => ?_)
  have hP : va_P (dC, dI) vwCl [(d, .inr (0, [.ref xa, .ref ya, .ref la, .ref sa, .int size])), (xa, .inl (cI, 10, .inl xs)), (ya, .inl (cI, 10, .inl ys)), (la, .inl (cI, 10, .inl (upd ln (p1).toNatClampNeg r_39))), (sa, .inl (cI, 10, .inl (upd sl (p1).toNatClampNeg (r_55).toInt32)))] H := hP
  have hD : va_D A [(d, .inr (0, [.ref xa, .ref ya, .ref la, .ref sa, .int size])), (xa, .inl (cI, 10, .inl xs)), (ya, .inl (cI, 10, .inl ys)), (la, .inl (cI, 10, .inl (upd ln (p1).toNatClampNeg r_39))), (sa, .inl (cI, 10, .inl (upd sl (p1).toNatClampNeg (r_55).toInt32)))] := hD
  have k0 := Option.some.inj hf
  obtain ⟨e0, k1⟩ := Prod.mk.inj k0
  subst e0
  subst k1
  subst hQ
  exact W.vret hx hb hr (fun t ht hW => ⟨⟨(), rfl, trivial, by rw [ht]; exact hP, va_K.moved hW.alike hK, hD⟩, hS.F ht⟩) hS.2.2 dD_measurePiece_60

def fD_goOnTo (fu : Nat) (size : Int32) (xs : Nat → Int32) (ys : Nat → Int32) (ln : Nat → Int32) (sl : Nat → Int32) (p1 : Int32) (p2 : Int32) : Option ((Int32) × (Nat → Int32) × (Nat → Int32) × (Nat → Int32) × (Nat → Int32)) := (if size < (10 : Int32) then (if ¬ (size < 0 ∨ 10 ≤ (size).toNatClampNeg) then (if ¬ (size < 0 ∨ 10 ≤ (size).toNatClampNeg) then (if (size + (1 : Int32)) ≤ (1 : Int32) then some ((size + (1 : Int32)), (upd xs (size).toNatClampNeg p1), (upd ys (size).toNatClampNeg p2), ln, sl) else ((fD_measurePiece fu (size + (1 : Int32)) (upd xs (size).toNatClampNeg p1) (upd ys (size).toNatClampNeg p2) ln sl ((size + (1 : Int32)) - (2 : Int32))).bind fun r_55 => some ((size + (1 : Int32)), (upd xs (size).toNatClampNeg p1), (upd ys (size).toNatClampNeg p2), (r_55.1), (r_55.2)))) else none) else none) else some (size, xs, ys, ln, sl))
def rmD_goOnTo : Room := { frames := 2, cells := 0, slots := 0, locals := 53 }
set_option maxHeartbeats 4000000 in
set_option maxRecDepth 100000 in
theorem mD_goOnTo (l : Launch) (dC : Nat → ClassId) (dI : Nat → Nat → Nat) (cI cL cT : ClassId) (d xa ya la sa : Nat) (sz : Nat) (fu : Nat) (size : Int32) (xs : Nat → Int32) (ys : Nat → Int32) (ln : Nat → Int32) (sl : Nat → Int32) (p1 : Int32) (p2 : Int32) (o0 : Int32) (o1 : Nat → Int32) (o2 : Nat → Int32) (o3 : Nat → Int32) (o4 : Nat → Int32) (hf : fD_goOnTo fu size xs ys ln sl p1 p2 = some (o0, o1, o2, o3, o4)) : Met l yD_goOnTo wD_goOnTo rmD_goOnTo (kP (dC, dI) [(cI, .int), (cL, .long), (cT, .object "TendonLosses$Tendon")] [.ref d, .int p1, .int p2] [(d, .inr (0, [.ref xa, .ref ya, .ref la, .ref sa, .int size])), (xa, .inl (cI, 10, .inl xs)), (ya, .inl (cI, 10, .inl ys)), (la, .inl (cI, 10, .inl ln)), (sa, .inl (cI, 10, .inl sl))] sz) (va_Qv (fun (_ : Unit) => True) (kB (dC, dI) [(cI, .int), (cL, .long), (cT, .object "TendonLosses$Tendon")] (va_A [(d, .inr (0, [.ref xa, .ref ya, .ref la, .ref sa, .int size])), (xa, .inl (cI, 10, .inl xs)), (ya, .inl (cI, 10, .inl ys)), (la, .inl (cI, 10, .inl ln)), (sa, .inl (cI, 10, .inl sl))] sz) [(d, .inr (0, [.ref xa, .ref ya, .ref la, .ref sa, .int o0])), (xa, .inl (cI, 10, .inl o1)), (ya, .inl (cI, 10, .inl o2)), (la, .inl (cI, 10, .inl o3)), (sa, .inl (cI, 10, .inl o4))]) (va_A [(d, .inr (0, [.ref xa, .ref ya, .ref la, .ref sa, .int size])), (xa, .inl (cI, 10, .inl xs)), (ya, .inl (cI, 10, .inl ys)), (la, .inl (cI, 10, .inl ln)), (sa, .inl (cI, 10, .inl sl))] sz)) 0 0 (va_A [(d, .inr (0, [.ref xa, .ref ya, .ref la, .ref sa, .int size])), (xa, .inl (cI, 10, .inl xs)), (ya, .inl (cI, 10, .inl ys)), (la, .inl (cI, 10, .inl ln)), (sa, .inl (cI, 10, .inl sl))] sz) := by
  refine Met.ofW (cc := bD_goOnTo) (maxL := 3) (ret := none) (by decide) rfl ?_
  intro p e s m args below meth c s₁ B hml hv
  obtain ⟨rfl, hsz, hP, hK, hD0, hN⟩ := hv
  have hx := B.exec
  have hb := B.bytes
  have hr := B.returns
  have hts : ∀ w ∈ gt, w.before ([.ref d, .int p1, .int p2] : List Value).toArray s = true := fun w h => atoms_spec (ws := wD_goOnTo) B.pre w (List.mem_cons_of_mem _ h)
  have hown : s.vm.findClass "TendonLosses$Duct" = some m.cls := findClass_of_methodNamed B.named
  have hlocks := B.notSynchronized
  subst hsz
  have hD := hD0.self (sz := s.heap.size)
  generalize hAe : va_A [(d, .inr (0, [.ref xa, .ref ya, .ref la, .ref sa, .int size])), (xa, .inl (cI, 10, .inl xs)), (ya, .inl (cI, 10, .inl ys)), (la, .inl (cI, 10, .inl ln)), (sa, .inl (cI, 10, .inl sl))] s.heap.size = A at hD ⊢
  have hA : ∀ q : Nat, s.heap.size ≤ q → A q := fun q h => by rw [← hAe]; exact Or.inr h
  have hS : va_S A s.heap s.heap [] := va_S.rf
  have hP : va_P (dC, dI) vwCl [(d, .inr (0, [.ref xa, .ref ya, .ref la, .ref sa, .int size])), (xa, .inl (cI, 10, .inl xs)), (ya, .inl (cI, 10, .inl ys)), (la, .inl (cI, 10, .inl ln)), (sa, .inl (cI, 10, .inl sl))] s.heap := hP
  have hl := lv_entry ([.ref d, .int p1, .int p2]) (n := 3) (Nat.le_of_ble_eq_true rfl)
  rw [lg_entry_eq]
  generalize (lg_sl ([.ref d, .int p1, .int p2]) ++ List.replicate (3 - (lg_sl ([.ref d, .int p1, .int p2])).length) Slot.unset).toArray = ls at hl ⊢
  have hl : lv_has ls 3 [(0, .ref d), (1, .int p1), (2, .int p2)] := hl
  refine W.nameQ (fun Q hQ => ?_)
  unfold fD_goOnTo at hf
  refine lv_aload_n hx hb dD_goOnTo_0 rfl (lv_at hl 0 rfl) ?_
  refine va_get (D := (dC, dI)) (ci := 0) (v := .int size) (C := "TendonLosses$Duct") (T := TT_D) (N := 5) hx hb hts in_D hown hK hP 0 rfl rfl 4 (by decide) (hts _ kw_116) (fun _ h9 => h9) rfl dD_goOnTo_1 ?_
  refine lv_bipush (v := (10 : Int32)) hx hb dD_goOnTo_4 (by decide) ?_
  refine lv_icmp_lt (tgt := 10) hx hb dD_goOnTo_6 (by decide) (fun c_6 => ?_) (fun c_6 => ?_)
  · have hf := o_t hf c_6
    refine lv_aload_n hx hb dD_goOnTo_10 rfl (lv_at hl 0 rfl) ?_
    refine va_get (D := (dC, dI)) (ci := 0) (v := .ref xa) (C := "TendonLosses$Duct") (T := TT_D) (N := 5) hx hb hts in_D hown hK hP 0 rfl rfl 0 (by decide) (hts _ kw_108) (fun _ h9 => h9) rfl dD_goOnTo_11 ?_
    refine lv_aload_n hx hb dD_goOnTo_14 rfl (lv_at hl 0 rfl) ?_
    refine va_get (D := (dC, dI)) (ci := 0) (v := .int size) (C := "TendonLosses$Duct") (T := TT_D) (N := 5) hx hb hts in_D hown hK hP 0 rfl rfl 4 (by decide) (hts _ kw_116) (fun _ h9 => h9) rfl dD_goOnTo_15 ?_
    refine lv_iload_n hx hb dD_goOnTo_18 rfl (lv_at hl 1 rfl) ?_
    obtain ⟨h_19, hf⟩ := o_c hf
    refine va_iast hx hb hK hP hD hS 1 0 rfl rfl h_19 dD_goOnTo_19 (fun H locs hP hD hS => ?_)
    have hP : va_P (dC, dI) vwCl [(d, .inr (0, [.ref xa, .ref ya, .ref la, .ref sa, .int size])), (xa, .inl (cI, 10, .inl (upd xs (size).toNatClampNeg p1))), (ya, .inl (cI, 10, .inl ys)), (la, .inl (cI, 10, .inl ln)), (sa, .inl (cI, 10, .inl sl))] H := hP
    have hD : va_D A [(d, .inr (0, [.ref xa, .ref ya, .ref la, .ref sa, .int size])), (xa, .inl (cI, 10, .inl (upd xs (size).toNatClampNeg p1))), (ya, .inl (cI, 10, .inl ys)), (la, .inl (cI, 10, .inl ln)), (sa, .inl (cI, 10, .inl sl))] := hD
    refine lv_aload_n hx hb dD_goOnTo_20 rfl (lv_at hl 0 rfl) ?_
    refine va_get (D := (dC, dI)) (ci := 0) (v := .ref ya) (C := "TendonLosses$Duct") (T := TT_D) (N := 5) hx hb hts in_D hown hK hP 0 rfl rfl 1 (by decide) (hts _ kw_110) (fun _ h9 => h9) rfl dD_goOnTo_21 ?_
    refine lv_aload_n hx hb dD_goOnTo_24 rfl (lv_at hl 0 rfl) ?_
    refine va_get (D := (dC, dI)) (ci := 0) (v := .int size) (C := "TendonLosses$Duct") (T := TT_D) (N := 5) hx hb hts in_D hown hK hP 0 rfl rfl 4 (by decide) (hts _ kw_116) (fun _ h9 => h9) rfl dD_goOnTo_25 ?_
    refine lv_iload_n hx hb dD_goOnTo_28 rfl (lv_at hl 2 rfl) ?_
    obtain ⟨h_29, hf⟩ := o_c hf
    refine va_iast hx hb hK hP hD hS 2 0 rfl rfl h_29 dD_goOnTo_29 (fun H locs hP hD hS => ?_)
    have hP : va_P (dC, dI) vwCl [(d, .inr (0, [.ref xa, .ref ya, .ref la, .ref sa, .int size])), (xa, .inl (cI, 10, .inl (upd xs (size).toNatClampNeg p1))), (ya, .inl (cI, 10, .inl (upd ys (size).toNatClampNeg p2))), (la, .inl (cI, 10, .inl ln)), (sa, .inl (cI, 10, .inl sl))] H := hP
    have hD : va_D A [(d, .inr (0, [.ref xa, .ref ya, .ref la, .ref sa, .int size])), (xa, .inl (cI, 10, .inl (upd xs (size).toNatClampNeg p1))), (ya, .inl (cI, 10, .inl (upd ys (size).toNatClampNeg p2))), (la, .inl (cI, 10, .inl ln)), (sa, .inl (cI, 10, .inl sl))] := hD
    refine lv_aload_n hx hb dD_goOnTo_30 rfl (lv_at hl 0 rfl) ?_
    refine lv_dup hx hb dD_goOnTo_31 rfl ?_
    refine va_get (D := (dC, dI)) (ci := 0) (v := .int size) (C := "TendonLosses$Duct") (T := TT_D) (N := 5) hx hb hts in_D hown hK hP 0 rfl rfl 4 (by decide) (hts _ kw_116) (fun _ h9 => h9) rfl dD_goOnTo_32 ?_
    refine lv_iconst (v := (1 : Int32)) hx hb dD_goOnTo_35 (by decide) ?_
    refine lv_iadd hx hb dD_goOnTo_36 ?_
    refine va_put (D := (dC, dI)) (ci := 0) (v := .int (size + (1 : Int32))) (ty := (.int)) (C := "TendonLosses$Duct") (T := TT_D) (N := 5) hx hb hts in_D ty_D ty_D_ok nn_D hown hK hP hD hS 0 rfl rfl 4 (by decide) (hts _ kw_116) (fun _ h9 => h9) rfl (by decide +kernel) rfl rfl (Nat.le_of_ble_eq_true rfl) dD_goOnTo_37 (fun H locs hP hD hS => ?_)
    have hP : va_P (dC, dI) vwCl [(d, .inr (0, [.ref xa, .ref ya, .ref la, .ref sa, .int (size + (1 : Int32))])), (xa, .inl (cI, 10, .inl (upd xs (size).toNatClampNeg p1))), (ya, .inl (cI, 10, .inl (upd ys (size).toNatClampNeg p2))), (la, .inl (cI, 10, .inl ln)), (sa, .inl (cI, 10, .inl sl))] H := hP
    have hD : va_D A [(d, .inr (0, [.ref xa, .ref ya, .ref la, .ref sa, .int (size + (1 : Int32))])), (xa, .inl (cI, 10, .inl (upd xs (size).toNatClampNeg p1))), (ya, .inl (cI, 10, .inl (upd ys (size).toNatClampNeg p2))), (la, .inl (cI, 10, .inl ln)), (sa, .inl (cI, 10, .inl sl))] := hD
    refine lv_aload_n hx hb dD_goOnTo_40 rfl (lv_at hl 0 rfl) ?_
    refine va_get (D := (dC, dI)) (ci := 0) (v := .int (size + (1 : Int32))) (C := "TendonLosses$Duct") (T := TT_D) (N := 5) hx hb hts in_D hown hK hP 0 rfl rfl 4 (by decide) (hts _ kw_116) (fun _ h9 => h9) rfl dD_goOnTo_41 ?_
    refine lv_iconst (v := (1 : Int32)) hx hb dD_goOnTo_44 (by decide) ?_
    refine lv_icmp_le (tgt := 58) hx hb dD_goOnTo_45 (by decide) (fun c_45 => ?_) (fun c_45 => ?_)
    · have hf := o_t hf c_45
      have k0 := Option.some.inj hf
      obtain ⟨e0, k1⟩ := Prod.mk.inj k0
      obtain ⟨e1, k2⟩ := Prod.mk.inj k1
      obtain ⟨e2, k3⟩ := Prod.mk.inj k2
      obtain ⟨e3, k4⟩ := Prod.mk.inj k3
      subst e0
      subst e1
      subst e2
      subst e3
      subst k4
      subst hQ
      exact W.vret hx hb hr (fun t ht hW => ⟨⟨(), rfl, trivial, by rw [ht]; exact hP, va_K.moved hW.alike hK, hD⟩, hS.F ht⟩) hS.2.2 dD_goOnTo_58
    · have hf := o_f hf c_45
      refine lv_aload_n hx hb dD_goOnTo_48 rfl (lv_at hl 0 rfl) ?_
      refine lv_aload_n hx hb dD_goOnTo_49 rfl (lv_at hl 0 rfl) ?_
      refine va_get (D := (dC, dI)) (ci := 0) (v := .int (size + (1 : Int32))) (C := "TendonLosses$Duct") (T := TT_D) (N := 5) hx hb hts in_D hown hK hP 0 rfl rfl 4 (by decide) (hts _ kw_116) (fun _ h9 => h9) rfl dD_goOnTo_50 ?_
      refine lv_iconst (v := (2 : Int32)) hx hb dD_goOnTo_53 (by decide) ?_
      refine lv_isub hx hb dD_goOnTo_54 ?_
      obtain ⟨r_55, q_55, hf⟩ := o_b hf
      have hPc := hP.sub (ws' := [(d, .inr (0, [.ref xa, .ref ya, .ref la, .ref sa, .int (size + (1 : Int32))])), (xa, .inl (cI, 10, .inl (upd xs (size).toNatClampNeg p1))), (ya, .inl (cI, 10, .inl (upd ys (size).toNatClampNeg p2))), (la, .inl (cI, 10, .inl ln)), (sa, .inl (cI, 10, .inl sl))]) [0, 1, 2, 3, 4] rfl
      have hDc := hD.sub (ws' := [(d, .inr (0, [.ref xa, .ref ya, .ref la, .ref sa, .int (size + (1 : Int32))])), (xa, .inl (cI, 10, .inl (upd xs (size).toNatClampNeg p1))), (ya, .inl (cI, 10, .inl (upd ys (size).toNatClampNeg p2))), (la, .inl (cI, 10, .inl ln)), (sa, .inl (cI, 10, .inl sl))]) [0, 1, 2, 3, 4] (by decide) rfl
      refine kc_v (va_runV (As := [.int ((size + (1 : Int32)) - (2 : Int32))]) (rest := []) ⟨hx, hb, hml, hown, hts⟩ (mD_measurePiece l dC dI cI cL cT d xa ya la sa H.size fu (size + (1 : Int32)) (upd xs (size).toNatClampNeg p1) (upd ys (size).toNatClampNeg p2) ln sl ((size + (1 : Int32)) - (2 : Int32)) (r_55.1) (r_55.2) q_55) ⟨callB_of 1 hts (gd_code kw_177) rfl rfl rfl (hts _ kw_34) (hts _ kw_174) (by decide +kernel) ⟨Nat.le_of_ble_eq_true rfl, Nat.le_of_ble_eq_true rfl⟩, hts _ kw_176, hts _ kw_1⟩ (kP_V hPc hK hDc hN (va_recv hK hPc (ci := 0) (q0 := 0) rfl rfl)) rfl rfl hl.1 rfl (lv_room (Nat.le_of_ble_eq_true rfl)) dD_goOnTo_55 ⟨Nat.le_of_ble_eq_true rfl, Nat.le_of_ble_eq_true rfl⟩) hP hD hS hA (wc := [(d, .inr (0, [.ref xa, .ref ya, .ref la, .ref sa, .int (size + (1 : Int32))])), (xa, .inl (cI, 10, .inl (upd xs (size).toNatClampNeg p1))), (ya, .inl (cI, 10, .inl (upd ys (size).toNatClampNeg p2))), (la, .inl (cI, 10, .inl ln)), (sa, .inl (cI, 10, .inl sl))]) (wr := []) (w1 := [(d, .inr (0, [.ref xa, .ref ya, .ref la, .ref sa, .int (size + (1 : Int32))])), (xa, .inl (cI, 10, .inl (upd xs (size).toNatClampNeg p1))), (ya, .inl (cI, 10, .inl (upd ys (size).toNatClampNeg p2))), (la, .inl (cI, 10, .inl (r_55.1))), (sa, .inl (cI, 10, .inl (r_55.2)))]) (ws' := [(d, .inr (0, [.ref xa, .ref ya, .ref la, .ref sa, .int (size + (1 : Int32))])), (xa, .inl (cI, 10, .inl (upd xs (size).toNatClampNeg p1))), (ya, .inl (cI, 10, .inl (upd ys (size).toNatClampNeg p2))), (la, .inl (cI, 10, .inl (r_55.1))), (sa, .inl (cI, 10, .inl (r_55.2)))]) [0, 1, 2, 3, 4] [] [0, 1, 2, 3, 4] rfl rfl (by decide) (by decide) rfl (by decide) rfl (fun H locs hP hD hS => ?_)
      have k0 := Option.some.inj hf
      obtain ⟨e0, k1⟩ := Prod.mk.inj k0
      obtain ⟨e1, k2⟩ := Prod.mk.inj k1
      obtain ⟨e2, k3⟩ := Prod.mk.inj k2
      obtain ⟨e3, k4⟩ := Prod.mk.inj k3
      subst e0
      subst e1
      subst e2
      subst e3
      subst k4
      subst hQ
      exact W.vret hx hb hr (fun t ht hW => ⟨⟨(), rfl, trivial, by rw [ht]; exact hP, va_K.moved hW.alike hK, hD⟩, hS.F ht⟩) hS.2.2 dD_goOnTo_58
  · have hf := o_f hf c_6
    have k0 := Option.some.inj hf
    obtain ⟨e0, k1⟩ := Prod.mk.inj k0
    obtain ⟨e1, k2⟩ := Prod.mk.inj k1
    obtain ⟨e2, k3⟩ := Prod.mk.inj k2
    obtain ⟨e3, k4⟩ := Prod.mk.inj k3
    subst e0
    subst e1
    subst e2
    subst e3
    subst k4
    subst hQ
    exact W.vret hx hb hr (fun t ht hW => ⟨⟨(), rfl, trivial, by rw [ht]; exact hP, va_K.moved hW.alike hK, hD⟩, hS.F ht⟩) hS.2.2 dD_goOnTo_9

def fD_scaledHeight (fu : Nat) (size : Int32) (xs : Nat → Int32) (ys : Nat → Int32) (ln : Nat → Int32) (sl : Nat → Int32) (p1 : Int32) (p2 : Int32) : Option ((Int64)) := (if ¬ ((p1 + (1 : Int32)) < 0 ∨ 10 ≤ ((p1 + (1 : Int32))).toNatClampNeg) then (if ¬ (p1 < 0 ∨ 10 ≤ (p1).toNatClampNeg) then (if ¬ (p1 < 0 ∨ 10 ≤ (p1).toNatClampNeg) then ((fD_widthOf fu size xs ys ln sl p1).bind fun r_26 => (if ¬ (p1 < 0 ∨ 10 ≤ (p1).toNatClampNeg) then some ((((ys (p1).toNatClampNeg)).toInt64 * (r_26).toInt64) + ((((ys ((p1 + (1 : Int32))).toNatClampNeg) - (ys (p1).toNatClampNeg))).toInt64 * ((p2 - (xs (p1).toNatClampNeg))).toInt64)) else none)) else none) else none) else none)
def rmD_scaledHeight : Room := { frames := 1, cells := 0, slots := 0, locals := 21 }
set_option maxHeartbeats 4000000 in
set_option maxRecDepth 100000 in
theorem mD_scaledHeight (l : Launch) (dC : Nat → ClassId) (dI : Nat → Nat → Nat) (cI cL cT : ClassId) (d xa ya la sa : Nat) (sz : Nat) (fu : Nat) (size : Int32) (xs : Nat → Int32) (ys : Nat → Int32) (ln : Nat → Int32) (sl : Nat → Int32) (p1 : Int32) (p2 : Int32) (o0 : Int64) (hf : fD_scaledHeight fu size xs ys ln sl p1 p2 = some (o0)) : Met l yD_scaledHeight wD_scaledHeight rmD_scaledHeight (kP (dC, dI) [(cI, .int), (cL, .long), (cT, .object "TendonLosses$Tendon")] [.ref d, .int p1, .int p2] [(d, .inr (0, [.ref xa, .ref ya, .ref la, .ref sa, .int size])), (xa, .inl (cI, 10, .inl xs)), (ya, .inl (cI, 10, .inl ys)), (la, .inl (cI, 10, .inl ln)), (sa, .inl (cI, 10, .inl sl))] sz) (va_Ql (fun (r : Int64) (_ : Unit) => r = o0) (kB (dC, dI) [(cI, .int), (cL, .long), (cT, .object "TendonLosses$Tendon")] (va_A [(d, .inr (0, [.ref xa, .ref ya, .ref la, .ref sa, .int size])), (xa, .inl (cI, 10, .inl xs)), (ya, .inl (cI, 10, .inl ys)), (la, .inl (cI, 10, .inl ln)), (sa, .inl (cI, 10, .inl sl))] sz) [(d, .inr (0, [.ref xa, .ref ya, .ref la, .ref sa, .int size])), (xa, .inl (cI, 10, .inl xs)), (ya, .inl (cI, 10, .inl ys)), (la, .inl (cI, 10, .inl ln)), (sa, .inl (cI, 10, .inl sl))]) (va_A [(d, .inr (0, [.ref xa, .ref ya, .ref la, .ref sa, .int size])), (xa, .inl (cI, 10, .inl xs)), (ya, .inl (cI, 10, .inl ys)), (la, .inl (cI, 10, .inl ln)), (sa, .inl (cI, 10, .inl sl))] sz)) 0 0 (va_A [(d, .inr (0, [.ref xa, .ref ya, .ref la, .ref sa, .int size])), (xa, .inl (cI, 10, .inl xs)), (ya, .inl (cI, 10, .inl ys)), (la, .inl (cI, 10, .inl ln)), (sa, .inl (cI, 10, .inl sl))] sz) := by
  refine Met.ofW (cc := bD_scaledHeight) (maxL := 5) (ret := (some .long)) (by decide) rfl ?_
  intro p e s m args below meth c s₁ B hml hv
  obtain ⟨rfl, hsz, hP, hK, hD0, hN⟩ := hv
  have hx := B.exec
  have hb := B.bytes
  have hr := B.returns
  have hts : ∀ w ∈ gt, w.before ([.ref d, .int p1, .int p2] : List Value).toArray s = true := fun w h => atoms_spec (ws := wD_scaledHeight) B.pre w (List.mem_cons_of_mem _ h)
  have hown : s.vm.findClass "TendonLosses$Duct" = some m.cls := findClass_of_methodNamed B.named
  have hlocks := B.notSynchronized
  subst hsz
  have hD := hD0.self (sz := s.heap.size)
  generalize hAe : va_A [(d, .inr (0, [.ref xa, .ref ya, .ref la, .ref sa, .int size])), (xa, .inl (cI, 10, .inl xs)), (ya, .inl (cI, 10, .inl ys)), (la, .inl (cI, 10, .inl ln)), (sa, .inl (cI, 10, .inl sl))] s.heap.size = A at hD ⊢
  have hA : ∀ q : Nat, s.heap.size ≤ q → A q := fun q h => by rw [← hAe]; exact Or.inr h
  have hS : va_S A s.heap s.heap [] := va_S.rf
  have hP : va_P (dC, dI) vwCl [(d, .inr (0, [.ref xa, .ref ya, .ref la, .ref sa, .int size])), (xa, .inl (cI, 10, .inl xs)), (ya, .inl (cI, 10, .inl ys)), (la, .inl (cI, 10, .inl ln)), (sa, .inl (cI, 10, .inl sl))] s.heap := hP
  have hl := lv_entry ([.ref d, .int p1, .int p2]) (n := 5) (Nat.le_of_ble_eq_true rfl)
  rw [lg_entry_eq]
  generalize (lg_sl ([.ref d, .int p1, .int p2]) ++ List.replicate (5 - (lg_sl ([.ref d, .int p1, .int p2])).length) Slot.unset).toArray = ls at hl ⊢
  have hl : lv_has ls 5 [(0, .ref d), (1, .int p1), (2, .int p2)] := hl
  refine W.nameQ (fun Q hQ => ?_)
  unfold fD_scaledHeight at hf
  refine lv_aload_n hx hb dD_scaledHeight_0 rfl (lv_at hl 0 rfl) ?_
  refine va_get (D := (dC, dI)) (ci := 0) (v := .ref ya) (C := "TendonLosses$Duct") (T := TT_D) (N := 5) hx hb hts in_D hown hK hP 0 rfl rfl 1 (by decide) (hts _ kw_110) (fun _ h9 => h9) rfl dD_scaledHeight_1 ?_
  refine lv_iload_n hx hb dD_scaledHeight_4 rfl (lv_at hl 1 rfl) ?_
  refine lv_iconst (v := (1 : Int32)) hx hb dD_scaledHeight_5 (by decide) ?_
  refine lv_iadd hx hb dD_scaledHeight_6 ?_
  obtain ⟨h_7, hf⟩ := o_c hf
  refine va_iald hx hb hK hP 2 0 rfl rfl h_7 dD_scaledHeight_7 ?_
  refine lv_aload_n hx hb dD_scaledHeight_8 rfl (lv_at hl 0 rfl) ?_
  refine va_get (D := (dC, dI)) (ci := 0) (v := .ref ya) (C := "TendonLosses$Duct") (T := TT_D) (N := 5) hx hb hts in_D hown hK hP 0 rfl rfl 1 (by decide) (hts _ kw_110) (fun _ h9 => h9) rfl dD_scaledHeight_9 ?_
  refine lv_iload_n hx hb dD_scaledHeight_12 rfl (lv_at hl 1 rfl) ?_
  obtain ⟨h_13, hf⟩ := o_c hf
  refine va_iald hx hb hK hP 2 0 rfl rfl h_13 dD_scaledHeight_13 ?_
  refine lv_isub hx hb dD_scaledHeight_14 ?_
  refine lv_i2l (v := (((ys ((p1 + (1 : Int32))).toNatClampNeg) - (ys (p1).toNatClampNeg))).toInt64) hx hb dD_scaledHeight_15 rfl ?_
  refine lv_lstore_n (lv' := [(3, .long (((ys ((p1 + (1 : Int32))).toNatClampNeg) - (ys (p1).toNatClampNeg))).toInt64), (0, .ref d), (1, .int p1), (2, .int p2)]) hx hb dD_scaledHeight_16 rfl hl (by decide) rfl (fun ls hl => ?_)
  refine lv_aload_n hx hb dD_scaledHeight_17 rfl (lv_at hl 1 rfl) ?_
  refine va_get (D := (dC, dI)) (ci := 0) (v := .ref ya) (C := "TendonLosses$Duct") (T := TT_D) (N := 5) hx hb hts in_D hown hK hP 0 rfl rfl 1 (by decide) (hts _ kw_110) (fun _ h9 => h9) rfl dD_scaledHeight_18 ?_
  refine lv_iload_n hx hb dD_scaledHeight_21 rfl (lv_at hl 2 rfl) ?_
  obtain ⟨h_22, hf⟩ := o_c hf
  refine va_iald hx hb hK hP 2 0 rfl rfl h_22 dD_scaledHeight_22 ?_
  refine lv_i2l (v := ((ys (p1).toNatClampNeg)).toInt64) hx hb dD_scaledHeight_23 rfl ?_
  refine lv_aload_n hx hb dD_scaledHeight_24 rfl (lv_at hl 1 rfl) ?_
  refine lv_iload_n hx hb dD_scaledHeight_25 rfl (lv_at hl 2 rfl) ?_
  obtain ⟨r_26, q_26, hf⟩ := o_b hf
  have hPc := hP.sub (ws' := [(d, .inr (0, [.ref xa, .ref ya, .ref la, .ref sa, .int size])), (xa, .inl (cI, 10, .inl xs)), (ya, .inl (cI, 10, .inl ys)), (la, .inl (cI, 10, .inl ln)), (sa, .inl (cI, 10, .inl sl))]) [0, 1, 2, 3, 4] rfl
  have hDc := hD.sub (ws' := [(d, .inr (0, [.ref xa, .ref ya, .ref la, .ref sa, .int size])), (xa, .inl (cI, 10, .inl xs)), (ya, .inl (cI, 10, .inl ys)), (la, .inl (cI, 10, .inl ln)), (sa, .inl (cI, 10, .inl sl))]) [0, 1, 2, 3, 4] (by decide) rfl
  refine kc_i (va_runV (As := [.int p1]) (rest := [.long ((ys (p1).toNatClampNeg)).toInt64]) ⟨hx, hb, hml, hown, hts⟩ (mD_widthOf l dC dI cI cL cT d xa ya la sa s.heap.size fu size xs ys ln sl p1 (r_26) q_26) ⟨callB_of 1 hts (gd_code kw_181) rfl rfl rfl (hts _ kw_34) (hts _ kw_178) (by decide +kernel) ⟨Nat.le_of_ble_eq_true rfl, Nat.le_of_ble_eq_true rfl⟩, hts _ kw_179, hts _ kw_180⟩ (kP_V hPc hK hDc hN (va_recv hK hPc (ci := 0) (q0 := 0) rfl rfl)) rfl rfl hl.1 rfl (lv_room (Nat.le_of_ble_eq_true rfl)) dD_scaledHeight_26 ⟨Nat.le_of_ble_eq_true rfl, Nat.le_of_ble_eq_true rfl⟩) hP hD hS hA (wc := [(d, .inr (0, [.ref xa, .ref ya, .ref la, .ref sa, .int size])), (xa, .inl (cI, 10, .inl xs)), (ya, .inl (cI, 10, .inl ys)), (la, .inl (cI, 10, .inl ln)), (sa, .inl (cI, 10, .inl sl))]) (wr := []) (w1 := [(d, .inr (0, [.ref xa, .ref ya, .ref la, .ref sa, .int size])), (xa, .inl (cI, 10, .inl xs)), (ya, .inl (cI, 10, .inl ys)), (la, .inl (cI, 10, .inl ln)), (sa, .inl (cI, 10, .inl sl))]) (ws' := [(d, .inr (0, [.ref xa, .ref ya, .ref la, .ref sa, .int size])), (xa, .inl (cI, 10, .inl xs)), (ya, .inl (cI, 10, .inl ys)), (la, .inl (cI, 10, .inl ln)), (sa, .inl (cI, 10, .inl sl))]) [0, 1, 2, 3, 4] [] [0, 1, 2, 3, 4] rfl rfl (by decide) (by decide) rfl (by decide) rfl (fun H locs hP hD hS => ?_)
  refine lv_i2l (v := (r_26).toInt64) hx hb dD_scaledHeight_29 rfl ?_
  refine lv_lmul hx hb dD_scaledHeight_30 ?_
  refine lv_lload_n hx hb dD_scaledHeight_31 rfl (lv_at hl 0 rfl) ?_
  refine lv_iload_n hx hb dD_scaledHeight_32 rfl (lv_at hl 3 rfl) ?_
  refine lv_aload_n hx hb dD_scaledHeight_33 rfl (lv_at hl 1 rfl) ?_
  refine va_get (D := (dC, dI)) (ci := 0) (v := .ref xa) (C := "TendonLosses$Duct") (T := TT_D) (N := 5) hx hb hts in_D hown hK hP 0 rfl rfl 0 (by decide) (hts _ kw_108) (fun _ h9 => h9) rfl dD_scaledHeight_34 ?_
  refine lv_iload_n hx hb dD_scaledHeight_37 rfl (lv_at hl 2 rfl) ?_
  obtain ⟨h_38, hf⟩ := o_c hf
  refine va_iald hx hb hK hP 1 0 rfl rfl h_38 dD_scaledHeight_38 ?_
  refine lv_isub hx hb dD_scaledHeight_39 ?_
  refine lv_i2l (v := ((p2 - (xs (p1).toNatClampNeg))).toInt64) hx hb dD_scaledHeight_40 rfl ?_
  refine lv_lmul hx hb dD_scaledHeight_41 ?_
  refine lv_ladd hx hb dD_scaledHeight_42 ?_
  have e9 := Option.some.inj hf
  subst e9
  subst hQ
  exact W.lret (v := ((((ys (p1).toNatClampNeg)).toInt64 * (r_26).toInt64) + ((((ys ((p1 + (1 : Int32))).toNatClampNeg) - (ys (p1).toNatClampNeg))).toInt64 * ((p2 - (xs (p1).toNatClampNeg))).toInt64))) hx hb hr (fun t ht hW => ⟨⟨((((ys (p1).toNatClampNeg)).toInt64 * (r_26).toInt64) + ((((ys ((p1 + (1 : Int32))).toNatClampNeg) - (ys (p1).toNatClampNeg))).toInt64 * ((p2 - (xs (p1).toNatClampNeg))).toInt64)), (), rfl, rfl, by rw [ht]; exact hP, va_K.moved hW.alike hK, hD⟩, hS.F ht⟩) hS.2.2 dD_scaledHeight_43

def fF_alongPiece (fu : Nat) (rough : Int32) (mu : Int32) (p1 : Int64) (p2 : Int32) : Option ((Int64)) := some (((p1 * (rough).toInt64) * (p2).toInt64) / (1000000000 : Int64))
def rmF_alongPiece : Room := { frames := 0, cells := 0, slots := 0, locals := 0 }
set_option maxHeartbeats 4000000 in
set_option maxRecDepth 100000 in
theorem mF_alongPiece (l : Launch) (dC : Nat → ClassId) (dI : Nat → Nat → Nat) (cI cL cT : ClassId) (fr : Nat) (sz : Nat) (fu : Nat) (rough : Int32) (mu : Int32) (p1 : Int64) (p2 : Int32) (o0 : Int64) (hf : fF_alongPiece fu rough mu p1 p2 = some (o0)) : Met l yF_alongPiece wF_alongPiece rmF_alongPiece (kP (dC, dI) [(cI, .int), (cL, .long), (cT, .object "TendonLosses$Tendon")] [.ref fr, .long p1, .int p2] [(fr, .inr (1, [.int rough, .int mu]))] sz) (va_Ql (fun (r : Int64) (_ : Unit) => r = o0) (kB (dC, dI) [(cI, .int), (cL, .long), (cT, .object "TendonLosses$Tendon")] (va_A [(fr, .inr (1, [.int rough, .int mu]))] sz) [(fr, .inr (1, [.int rough, .int mu]))]) (va_A [(fr, .inr (1, [.int rough, .int mu]))] sz)) 0 0 (va_A [(fr, .inr (1, [.int rough, .int mu]))] sz) := by
  refine Met.ofW (cc := bF_alongPiece) (maxL := 4) (ret := (some .long)) (by decide) rfl ?_
  intro p e s m args below meth c s₁ B hml hv
  obtain ⟨rfl, hsz, hP, hK, hD0, hN⟩ := hv
  have hx := B.exec
  have hb := B.bytes
  have hr := B.returns
  have hts : ∀ w ∈ gt, w.before ([.ref fr, .long p1, .int p2] : List Value).toArray s = true := fun w h => atoms_spec (ws := wF_alongPiece) B.pre w (List.mem_cons_of_mem _ h)
  have hown : s.vm.findClass "TendonLosses$Friction" = some m.cls := findClass_of_methodNamed B.named
  have hlocks := B.notSynchronized
  subst hsz
  have hD := hD0.self (sz := s.heap.size)
  generalize hAe : va_A [(fr, .inr (1, [.int rough, .int mu]))] s.heap.size = A at hD ⊢
  have hA : ∀ q : Nat, s.heap.size ≤ q → A q := fun q h => by rw [← hAe]; exact Or.inr h
  have hS : va_S A s.heap s.heap [] := va_S.rf
  have hP : va_P (dC, dI) vwCl [(fr, .inr (1, [.int rough, .int mu]))] s.heap := hP
  have hl := lv_entry ([.ref fr, .long p1, .int p2]) (n := 4) (Nat.le_of_ble_eq_true rfl)
  rw [lg_entry_eq]
  generalize (lg_sl ([.ref fr, .long p1, .int p2]) ++ List.replicate (4 - (lg_sl ([.ref fr, .long p1, .int p2])).length) Slot.unset).toArray = ls at hl ⊢
  have hl : lv_has ls 4 [(0, .ref fr), (1, .long p1), (3, .int p2)] := hl
  refine W.nameQ (fun Q hQ => ?_)
  unfold fF_alongPiece at hf
  refine lv_lload_n hx hb dF_alongPiece_0 rfl (lv_at hl 1 rfl) ?_
  refine lv_aload_n hx hb dF_alongPiece_1 rfl (lv_at hl 0 rfl) ?_
  refine va_get (D := (dC, dI)) (ci := 1) (v := .int rough) (C := "TendonLosses$Friction") (T := TT_F) (N := 2) hx hb hts in_F hown hK hP 0 rfl rfl 0 (by decide) (hts _ kw_52) (fun _ h9 => h9) rfl dF_alongPiece_2 ?_
  refine lv_i2l (v := (rough).toInt64) hx hb dF_alongPiece_5 rfl ?_
  refine lv_lmul hx hb dF_alongPiece_6 ?_
  refine lv_iload_n hx hb dF_alongPiece_7 rfl (lv_at hl 2 rfl) ?_
  refine lv_i2l (v := (p2).toInt64) hx hb dF_alongPiece_8 rfl ?_
  refine lv_lmul hx hb dF_alongPiece_9 ?_
  refine lv_ldc2 (v := (1000000000 : Int64)) hx hb hown (hts _ kw_232) dF_alongPiece_10 ?_
  refine lv_ldiv hx hb dF_alongPiece_13 (by decide) ?_
  have e9 := Option.some.inj hf
  subst e9
  subst hQ
  exact W.lret (v := (((p1 * (rough).toInt64) * (p2).toInt64) / (1000000000 : Int64))) hx hb hr (fun t ht hW => ⟨⟨(((p1 * (rough).toInt64) * (p2).toInt64) / (1000000000 : Int64)), (), rfl, rfl, by rw [ht]; exact hP, va_K.moved hW.alike hK, hD⟩, hS.F ht⟩) hS.2.2 dF_alongPiece_14

def fF_atTurn (fu : Nat) (rough : Int32) (mu : Int32) (p1 : Int64) (p2 : Int32) : Option ((Int64)) := some (((p1 * (mu).toInt64) * (p2).toInt64) / (1000000 : Int64))
def rmF_atTurn : Room := { frames := 0, cells := 0, slots := 0, locals := 0 }
set_option maxHeartbeats 4000000 in
set_option maxRecDepth 100000 in
theorem mF_atTurn (l : Launch) (dC : Nat → ClassId) (dI : Nat → Nat → Nat) (cI cL cT : ClassId) (fr : Nat) (sz : Nat) (fu : Nat) (rough : Int32) (mu : Int32) (p1 : Int64) (p2 : Int32) (o0 : Int64) (hf : fF_atTurn fu rough mu p1 p2 = some (o0)) : Met l yF_atTurn wF_atTurn rmF_atTurn (kP (dC, dI) [(cI, .int), (cL, .long), (cT, .object "TendonLosses$Tendon")] [.ref fr, .long p1, .int p2] [(fr, .inr (1, [.int rough, .int mu]))] sz) (va_Ql (fun (r : Int64) (_ : Unit) => r = o0) (kB (dC, dI) [(cI, .int), (cL, .long), (cT, .object "TendonLosses$Tendon")] (va_A [(fr, .inr (1, [.int rough, .int mu]))] sz) [(fr, .inr (1, [.int rough, .int mu]))]) (va_A [(fr, .inr (1, [.int rough, .int mu]))] sz)) 0 0 (va_A [(fr, .inr (1, [.int rough, .int mu]))] sz) := by
  refine Met.ofW (cc := bF_atTurn) (maxL := 4) (ret := (some .long)) (by decide) rfl ?_
  intro p e s m args below meth c s₁ B hml hv
  obtain ⟨rfl, hsz, hP, hK, hD0, hN⟩ := hv
  have hx := B.exec
  have hb := B.bytes
  have hr := B.returns
  have hts : ∀ w ∈ gt, w.before ([.ref fr, .long p1, .int p2] : List Value).toArray s = true := fun w h => atoms_spec (ws := wF_atTurn) B.pre w (List.mem_cons_of_mem _ h)
  have hown : s.vm.findClass "TendonLosses$Friction" = some m.cls := findClass_of_methodNamed B.named
  have hlocks := B.notSynchronized
  subst hsz
  have hD := hD0.self (sz := s.heap.size)
  generalize hAe : va_A [(fr, .inr (1, [.int rough, .int mu]))] s.heap.size = A at hD ⊢
  have hA : ∀ q : Nat, s.heap.size ≤ q → A q := fun q h => by rw [← hAe]; exact Or.inr h
  have hS : va_S A s.heap s.heap [] := va_S.rf
  have hP : va_P (dC, dI) vwCl [(fr, .inr (1, [.int rough, .int mu]))] s.heap := hP
  have hl := lv_entry ([.ref fr, .long p1, .int p2]) (n := 4) (Nat.le_of_ble_eq_true rfl)
  rw [lg_entry_eq]
  generalize (lg_sl ([.ref fr, .long p1, .int p2]) ++ List.replicate (4 - (lg_sl ([.ref fr, .long p1, .int p2])).length) Slot.unset).toArray = ls at hl ⊢
  have hl : lv_has ls 4 [(0, .ref fr), (1, .long p1), (3, .int p2)] := hl
  refine W.nameQ (fun Q hQ => ?_)
  unfold fF_atTurn at hf
  refine lv_lload_n hx hb dF_atTurn_0 rfl (lv_at hl 1 rfl) ?_
  refine lv_aload_n hx hb dF_atTurn_1 rfl (lv_at hl 0 rfl) ?_
  refine va_get (D := (dC, dI)) (ci := 1) (v := .int mu) (C := "TendonLosses$Friction") (T := TT_F) (N := 2) hx hb hts in_F hown hK hP 0 rfl rfl 1 (by decide) (hts _ kw_54) (fun _ h9 => h9) rfl dF_atTurn_2 ?_
  refine lv_i2l (v := (mu).toInt64) hx hb dF_atTurn_5 rfl ?_
  refine lv_lmul hx hb dF_atTurn_6 ?_
  refine lv_iload_n hx hb dF_atTurn_7 rfl (lv_at hl 2 rfl) ?_
  refine lv_i2l (v := (p2).toInt64) hx hb dF_atTurn_8 rfl ?_
  refine lv_lmul hx hb dF_atTurn_9 ?_
  refine lv_ldc2 (v := (1000000 : Int64)) hx hb hown (hts _ kw_252) dF_atTurn_10 ?_
  refine lv_ldiv hx hb dF_atTurn_13 (by decide) ?_
  have e9 := Option.some.inj hf
  subst e9
  subst hQ
  exact W.lret (v := (((p1 * (mu).toInt64) * (p2).toInt64) / (1000000 : Int64))) hx hb hr (fun t ht hW => ⟨⟨(((p1 * (mu).toInt64) * (p2).toInt64) / (1000000 : Int64)), (), rfl, rfl, by rw [ht]; exact hP, va_K.moved hW.alike hK, hD⟩, hS.F ht⟩) hS.2.2 dF_atTurn_14

def fD_scaledDistance (fu : Nat) (asize : Int32) (axs : Nat → Int32) (ays : Nat → Int32) (aln : Nat → Int32) (asl : Nat → Int32) (bsize : Int32) (bxs : Nat → Int32) (bys : Nat → Int32) (bln : Nat → Int32) (bsl : Nat → Int32) (p1 : Int32) (p3 : Int32) (p4 : Int32) : Option ((Int64)) := ((fD_scaledHeight fu asize axs ays aln asl p1 p4).bind fun r_4 => ((fD_widthOf fu bsize bxs bys bln bsl p3).bind fun r_9 => ((fD_scaledHeight fu bsize bxs bys bln bsl p3 p4).bind fun r_18 => ((fD_widthOf fu asize axs ays aln asl p1).bind fun r_23 => some ((r_4 * (r_9).toInt64) - (r_18 * (r_23).toInt64))))))
def rmD_scaledDistance : Room := { frames := 2, cells := 0, slots := 0, locals := 45 }
set_option maxHeartbeats 4000000 in
set_option maxRecDepth 100000 in
theorem mD_scaledDistance (l : Launch) (dC : Nat → ClassId) (dI : Nat → Nat → Nat) (cI cL cT : ClassId) (ad axa aya ala asa bd bxa bya bla bsa : Nat) (sz : Nat) (fu : Nat) (asize : Int32) (axs : Nat → Int32) (ays : Nat → Int32) (aln : Nat → Int32) (asl : Nat → Int32) (bsize : Int32) (bxs : Nat → Int32) (bys : Nat → Int32) (bln : Nat → Int32) (bsl : Nat → Int32) (p1 : Int32) (p3 : Int32) (p4 : Int32) (o0 : Int64) (hf : fD_scaledDistance fu asize axs ays aln asl bsize bxs bys bln bsl p1 p3 p4 = some (o0)) : Met l yD_scaledDistance wD_scaledDistance rmD_scaledDistance (kP (dC, dI) [(cI, .int), (cL, .long), (cT, .object "TendonLosses$Tendon")] [.ref ad, .int p1, .ref bd, .int p3, .int p4] [(ad, .inr (0, [.ref axa, .ref aya, .ref ala, .ref asa, .int asize])), (axa, .inl (cI, 10, .inl axs)), (aya, .inl (cI, 10, .inl ays)), (ala, .inl (cI, 10, .inl aln)), (asa, .inl (cI, 10, .inl asl)), (bd, .inr (0, [.ref bxa, .ref bya, .ref bla, .ref bsa, .int bsize])), (bxa, .inl (cI, 10, .inl bxs)), (bya, .inl (cI, 10, .inl bys)), (bla, .inl (cI, 10, .inl bln)), (bsa, .inl (cI, 10, .inl bsl))] sz) (va_Ql (fun (r : Int64) (_ : Unit) => r = o0) (kB (dC, dI) [(cI, .int), (cL, .long), (cT, .object "TendonLosses$Tendon")] (va_A [(ad, .inr (0, [.ref axa, .ref aya, .ref ala, .ref asa, .int asize])), (axa, .inl (cI, 10, .inl axs)), (aya, .inl (cI, 10, .inl ays)), (ala, .inl (cI, 10, .inl aln)), (asa, .inl (cI, 10, .inl asl)), (bd, .inr (0, [.ref bxa, .ref bya, .ref bla, .ref bsa, .int bsize])), (bxa, .inl (cI, 10, .inl bxs)), (bya, .inl (cI, 10, .inl bys)), (bla, .inl (cI, 10, .inl bln)), (bsa, .inl (cI, 10, .inl bsl))] sz) [(ad, .inr (0, [.ref axa, .ref aya, .ref ala, .ref asa, .int asize])), (axa, .inl (cI, 10, .inl axs)), (aya, .inl (cI, 10, .inl ays)), (ala, .inl (cI, 10, .inl aln)), (asa, .inl (cI, 10, .inl asl)), (bd, .inr (0, [.ref bxa, .ref bya, .ref bla, .ref bsa, .int bsize])), (bxa, .inl (cI, 10, .inl bxs)), (bya, .inl (cI, 10, .inl bys)), (bla, .inl (cI, 10, .inl bln)), (bsa, .inl (cI, 10, .inl bsl))]) (va_A [(ad, .inr (0, [.ref axa, .ref aya, .ref ala, .ref asa, .int asize])), (axa, .inl (cI, 10, .inl axs)), (aya, .inl (cI, 10, .inl ays)), (ala, .inl (cI, 10, .inl aln)), (asa, .inl (cI, 10, .inl asl)), (bd, .inr (0, [.ref bxa, .ref bya, .ref bla, .ref bsa, .int bsize])), (bxa, .inl (cI, 10, .inl bxs)), (bya, .inl (cI, 10, .inl bys)), (bla, .inl (cI, 10, .inl bln)), (bsa, .inl (cI, 10, .inl bsl))] sz)) 0 0 (va_A [(ad, .inr (0, [.ref axa, .ref aya, .ref ala, .ref asa, .int asize])), (axa, .inl (cI, 10, .inl axs)), (aya, .inl (cI, 10, .inl ays)), (ala, .inl (cI, 10, .inl aln)), (asa, .inl (cI, 10, .inl asl)), (bd, .inr (0, [.ref bxa, .ref bya, .ref bla, .ref bsa, .int bsize])), (bxa, .inl (cI, 10, .inl bxs)), (bya, .inl (cI, 10, .inl bys)), (bla, .inl (cI, 10, .inl bln)), (bsa, .inl (cI, 10, .inl bsl))] sz) := by
  refine Met.ofW (cc := bD_scaledDistance) (maxL := 5) (ret := (some .long)) (by decide) rfl ?_
  intro p e s m args below meth c s₁ B hml hv
  obtain ⟨rfl, hsz, hP, hK, hD0, hN⟩ := hv
  have hx := B.exec
  have hb := B.bytes
  have hr := B.returns
  have hts : ∀ w ∈ gt, w.before ([.ref ad, .int p1, .ref bd, .int p3, .int p4] : List Value).toArray s = true := fun w h => atoms_spec (ws := wD_scaledDistance) B.pre w (List.mem_cons_of_mem _ h)
  have hown : s.vm.findClass "TendonLosses$Duct" = some m.cls := findClass_of_methodNamed B.named
  have hlocks := B.notSynchronized
  subst hsz
  have hD := hD0.self (sz := s.heap.size)
  generalize hAe : va_A [(ad, .inr (0, [.ref axa, .ref aya, .ref ala, .ref asa, .int asize])), (axa, .inl (cI, 10, .inl axs)), (aya, .inl (cI, 10, .inl ays)), (ala, .inl (cI, 10, .inl aln)), (asa, .inl (cI, 10, .inl asl)), (bd, .inr (0, [.ref bxa, .ref bya, .ref bla, .ref bsa, .int bsize])), (bxa, .inl (cI, 10, .inl bxs)), (bya, .inl (cI, 10, .inl bys)), (bla, .inl (cI, 10, .inl bln)), (bsa, .inl (cI, 10, .inl bsl))] s.heap.size = A at hD ⊢
  have hA : ∀ q : Nat, s.heap.size ≤ q → A q := fun q h => by rw [← hAe]; exact Or.inr h
  have hS : va_S A s.heap s.heap [] := va_S.rf
  have hP : va_P (dC, dI) vwCl [(ad, .inr (0, [.ref axa, .ref aya, .ref ala, .ref asa, .int asize])), (axa, .inl (cI, 10, .inl axs)), (aya, .inl (cI, 10, .inl ays)), (ala, .inl (cI, 10, .inl aln)), (asa, .inl (cI, 10, .inl asl)), (bd, .inr (0, [.ref bxa, .ref bya, .ref bla, .ref bsa, .int bsize])), (bxa, .inl (cI, 10, .inl bxs)), (bya, .inl (cI, 10, .inl bys)), (bla, .inl (cI, 10, .inl bln)), (bsa, .inl (cI, 10, .inl bsl))] s.heap := hP
  have hl := lv_entry ([.ref ad, .int p1, .ref bd, .int p3, .int p4]) (n := 5) (Nat.le_of_ble_eq_true rfl)
  rw [lg_entry_eq]
  generalize (lg_sl ([.ref ad, .int p1, .ref bd, .int p3, .int p4]) ++ List.replicate (5 - (lg_sl ([.ref ad, .int p1, .ref bd, .int p3, .int p4])).length) Slot.unset).toArray = ls at hl ⊢
  have hl : lv_has ls 5 [(0, .ref ad), (1, .int p1), (2, .ref bd), (3, .int p3), (4, .int p4)] := hl
  refine W.nameQ (fun Q hQ => ?_)
  unfold fD_scaledDistance at hf
  refine lv_aload_n hx hb dD_scaledDistance_0 rfl (lv_at hl 0 rfl) ?_
  refine lv_iload_n hx hb dD_scaledDistance_1 rfl (lv_at hl 1 rfl) ?_
  refine lv_iload hx hb dD_scaledDistance_2 (lv_at hl 4 rfl) ?_
  obtain ⟨r_4, q_4, hf⟩ := o_b hf
  have hPc := hP.sub (ws' := [(ad, .inr (0, [.ref axa, .ref aya, .ref ala, .ref asa, .int asize])), (axa, .inl (cI, 10, .inl axs)), (aya, .inl (cI, 10, .inl ays)), (ala, .inl (cI, 10, .inl aln)), (asa, .inl (cI, 10, .inl asl))]) [0, 1, 2, 3, 4] rfl
  have hDc := hD.sub (ws' := [(ad, .inr (0, [.ref axa, .ref aya, .ref ala, .ref asa, .int asize])), (axa, .inl (cI, 10, .inl axs)), (aya, .inl (cI, 10, .inl ays)), (ala, .inl (cI, 10, .inl aln)), (asa, .inl (cI, 10, .inl asl))]) [0, 1, 2, 3, 4] (by decide) rfl
  refine kc_l (va_runV (As := [.int p1, .int p4]) (rest := []) ⟨hx, hb, hml, hown, hts⟩ (mD_scaledHeight l dC dI cI cL cT ad axa aya ala asa s.heap.size fu asize axs ays aln asl p1 p4 (r_4) q_4) ⟨callB_of 2 hts (gd_code kw_385) rfl rfl rfl (hts _ kw_34) (hts _ kw_382) (by decide +kernel) ⟨Nat.le_of_ble_eq_true rfl, Nat.le_of_ble_eq_true rfl⟩, hts _ kw_384, hts _ kw_11⟩ (kP_V hPc hK hDc hN (va_recv hK hPc (ci := 0) (q0 := 0) rfl rfl)) rfl rfl hl.1 rfl (lv_room (Nat.le_of_ble_eq_true rfl)) dD_scaledDistance_4 ⟨Nat.le_of_ble_eq_true rfl, Nat.le_of_ble_eq_true rfl⟩) hP hD hS hA (wc := [(ad, .inr (0, [.ref axa, .ref aya, .ref ala, .ref asa, .int asize])), (axa, .inl (cI, 10, .inl axs)), (aya, .inl (cI, 10, .inl ays)), (ala, .inl (cI, 10, .inl aln)), (asa, .inl (cI, 10, .inl asl))]) (wr := [(bd, .inr (0, [.ref bxa, .ref bya, .ref bla, .ref bsa, .int bsize])), (bxa, .inl (cI, 10, .inl bxs)), (bya, .inl (cI, 10, .inl bys)), (bla, .inl (cI, 10, .inl bln)), (bsa, .inl (cI, 10, .inl bsl))]) (w1 := [(ad, .inr (0, [.ref axa, .ref aya, .ref ala, .ref asa, .int asize])), (axa, .inl (cI, 10, .inl axs)), (aya, .inl (cI, 10, .inl ays)), (ala, .inl (cI, 10, .inl aln)), (asa, .inl (cI, 10, .inl asl))]) (ws' := [(ad, .inr (0, [.ref axa, .ref aya, .ref ala, .ref asa, .int asize])), (axa, .inl (cI, 10, .inl axs)), (aya, .inl (cI, 10, .inl ays)), (ala, .inl (cI, 10, .inl aln)), (asa, .inl (cI, 10, .inl asl)), (bd, .inr (0, [.ref bxa, .ref bya, .ref bla, .ref bsa, .int bsize])), (bxa, .inl (cI, 10, .inl bxs)), (bya, .inl (cI, 10, .inl bys)), (bla, .inl (cI, 10, .inl bln)), (bsa, .inl (cI, 10, .inl bsl))]) [0, 1, 2, 3, 4] [5, 6, 7, 8, 9] [5, 6, 7, 8, 9, 0, 1, 2, 3, 4] rfl rfl (by decide) (by decide) rfl (by decide) rfl (fun H locs hP hD hS => ?_)
  refine lv_aload_n hx hb dD_scaledDistance_7 rfl (lv_at hl 2 rfl) ?_
  refine lv_iload_n hx hb dD_scaledDistance_8 rfl (lv_at hl 3 rfl) ?_
  obtain ⟨r_9, q_9, hf⟩ := o_b hf
  have hPc := hP.sub (ws' := [(bd, .inr (0, [.ref bxa, .ref bya, .ref bla, .ref bsa, .int bsize])), (bxa, .inl (cI, 10, .inl bxs)), (bya, .inl (cI, 10, .inl bys)), (bla, .inl (cI, 10, .inl bln)), (bsa, .inl (cI, 10, .inl bsl))]) [5, 6, 7, 8, 9] rfl
  have hDc := hD.sub (ws' := [(bd, .inr (0, [.ref bxa, .ref bya, .ref bla, .ref bsa, .int bsize])), (bxa, .inl (cI, 10, .inl bxs)), (bya, .inl (cI, 10, .inl bys)), (bla, .inl (cI, 10, .inl bln)), (bsa, .inl (cI, 10, .inl bsl))]) [5, 6, 7, 8, 9] (by decide) rfl
  refine kc_i (va_runV (As := [.int p3]) (rest := [.long r_4]) ⟨hx, hb, hml, hown, hts⟩ (mD_widthOf l dC dI cI cL cT bd bxa bya bla bsa H.size fu bsize bxs bys bln bsl p3 (r_9) q_9) ⟨callB_of 1 hts (gd_code kw_181) rfl rfl rfl (hts _ kw_34) (hts _ kw_178) (by decide +kernel) ⟨Nat.le_of_ble_eq_true rfl, Nat.le_of_ble_eq_true rfl⟩, hts _ kw_179, hts _ kw_180⟩ (kP_V hPc hK hDc hN (va_recv hK hPc (ci := 0) (q0 := 0) rfl rfl)) rfl rfl hl.1 rfl (lv_room (Nat.le_of_ble_eq_true rfl)) dD_scaledDistance_9 ⟨Nat.le_of_ble_eq_true rfl, Nat.le_of_ble_eq_true rfl⟩) hP hD hS hA (wc := [(bd, .inr (0, [.ref bxa, .ref bya, .ref bla, .ref bsa, .int bsize])), (bxa, .inl (cI, 10, .inl bxs)), (bya, .inl (cI, 10, .inl bys)), (bla, .inl (cI, 10, .inl bln)), (bsa, .inl (cI, 10, .inl bsl))]) (wr := [(ad, .inr (0, [.ref axa, .ref aya, .ref ala, .ref asa, .int asize])), (axa, .inl (cI, 10, .inl axs)), (aya, .inl (cI, 10, .inl ays)), (ala, .inl (cI, 10, .inl aln)), (asa, .inl (cI, 10, .inl asl))]) (w1 := [(bd, .inr (0, [.ref bxa, .ref bya, .ref bla, .ref bsa, .int bsize])), (bxa, .inl (cI, 10, .inl bxs)), (bya, .inl (cI, 10, .inl bys)), (bla, .inl (cI, 10, .inl bln)), (bsa, .inl (cI, 10, .inl bsl))]) (ws' := [(ad, .inr (0, [.ref axa, .ref aya, .ref ala, .ref asa, .int asize])), (axa, .inl (cI, 10, .inl axs)), (aya, .inl (cI, 10, .inl ays)), (ala, .inl (cI, 10, .inl aln)), (asa, .inl (cI, 10, .inl asl)), (bd, .inr (0, [.ref bxa, .ref bya, .ref bla, .ref bsa, .int bsize])), (bxa, .inl (cI, 10, .inl bxs)), (bya, .inl (cI, 10, .inl bys)), (bla, .inl (cI, 10, .inl bln)), (bsa, .inl (cI, 10, .inl bsl))]) [5, 6, 7, 8, 9] [0, 1, 2, 3, 4] [0, 1, 2, 3, 4, 5, 6, 7, 8, 9] rfl rfl (by decide) (by decide) rfl (by decide) rfl (fun H locs hP hD hS => ?_)
  refine lv_i2l (v := (r_9).toInt64) hx hb dD_scaledDistance_12 rfl ?_
  refine lv_lmul hx hb dD_scaledDistance_13 ?_
  refine lv_aload_n hx hb dD_scaledDistance_14 rfl (lv_at hl 2 rfl) ?_
  refine lv_iload_n hx hb dD_scaledDistance_15 rfl (lv_at hl 3 rfl) ?_
  refine lv_iload hx hb dD_scaledDistance_16 (lv_at hl 4 rfl) ?_
  obtain ⟨r_18, q_18, hf⟩ := o_b hf
  have hPc := hP.sub (ws' := [(bd, .inr (0, [.ref bxa, .ref bya, .ref bla, .ref bsa, .int bsize])), (bxa, .inl (cI, 10, .inl bxs)), (bya, .inl (cI, 10, .inl bys)), (bla, .inl (cI, 10, .inl bln)), (bsa, .inl (cI, 10, .inl bsl))]) [5, 6, 7, 8, 9] rfl
  have hDc := hD.sub (ws' := [(bd, .inr (0, [.ref bxa, .ref bya, .ref bla, .ref bsa, .int bsize])), (bxa, .inl (cI, 10, .inl bxs)), (bya, .inl (cI, 10, .inl bys)), (bla, .inl (cI, 10, .inl bln)), (bsa, .inl (cI, 10, .inl bsl))]) [5, 6, 7, 8, 9] (by decide) rfl
  refine kc_l (va_runV (As := [.int p3, .int p4]) (rest := [.long (r_4 * (r_9).toInt64)]) ⟨hx, hb, hml, hown, hts⟩ (mD_scaledHeight l dC dI cI cL cT bd bxa bya bla bsa H.size fu bsize bxs bys bln bsl p3 p4 (r_18) q_18) ⟨callB_of 2 hts (gd_code kw_385) rfl rfl rfl (hts _ kw_34) (hts _ kw_382) (by decide +kernel) ⟨Nat.le_of_ble_eq_true rfl, Nat.le_of_ble_eq_true rfl⟩, hts _ kw_384, hts _ kw_11⟩ (kP_V hPc hK hDc hN (va_recv hK hPc (ci := 0) (q0 := 0) rfl rfl)) rfl rfl hl.1 rfl (lv_room (Nat.le_of_ble_eq_true rfl)) dD_scaledDistance_18 ⟨Nat.le_of_ble_eq_true rfl, Nat.le_of_ble_eq_true rfl⟩) hP hD hS hA (wc := [(bd, .inr (0, [.ref bxa, .ref bya, .ref bla, .ref bsa, .int bsize])), (bxa, .inl (cI, 10, .inl bxs)), (bya, .inl (cI, 10, .inl bys)), (bla, .inl (cI, 10, .inl bln)), (bsa, .inl (cI, 10, .inl bsl))]) (wr := [(ad, .inr (0, [.ref axa, .ref aya, .ref ala, .ref asa, .int asize])), (axa, .inl (cI, 10, .inl axs)), (aya, .inl (cI, 10, .inl ays)), (ala, .inl (cI, 10, .inl aln)), (asa, .inl (cI, 10, .inl asl))]) (w1 := [(bd, .inr (0, [.ref bxa, .ref bya, .ref bla, .ref bsa, .int bsize])), (bxa, .inl (cI, 10, .inl bxs)), (bya, .inl (cI, 10, .inl bys)), (bla, .inl (cI, 10, .inl bln)), (bsa, .inl (cI, 10, .inl bsl))]) (ws' := [(ad, .inr (0, [.ref axa, .ref aya, .ref ala, .ref asa, .int asize])), (axa, .inl (cI, 10, .inl axs)), (aya, .inl (cI, 10, .inl ays)), (ala, .inl (cI, 10, .inl aln)), (asa, .inl (cI, 10, .inl asl)), (bd, .inr (0, [.ref bxa, .ref bya, .ref bla, .ref bsa, .int bsize])), (bxa, .inl (cI, 10, .inl bxs)), (bya, .inl (cI, 10, .inl bys)), (bla, .inl (cI, 10, .inl bln)), (bsa, .inl (cI, 10, .inl bsl))]) [5, 6, 7, 8, 9] [0, 1, 2, 3, 4] [0, 1, 2, 3, 4, 5, 6, 7, 8, 9] rfl rfl (by decide) (by decide) rfl (by decide) rfl (fun H locs hP hD hS => ?_)
  refine lv_aload_n hx hb dD_scaledDistance_21 rfl (lv_at hl 0 rfl) ?_
  refine lv_iload_n hx hb dD_scaledDistance_22 rfl (lv_at hl 1 rfl) ?_
  obtain ⟨r_23, q_23, hf⟩ := o_b hf
  have hPc := hP.sub (ws' := [(ad, .inr (0, [.ref axa, .ref aya, .ref ala, .ref asa, .int asize])), (axa, .inl (cI, 10, .inl axs)), (aya, .inl (cI, 10, .inl ays)), (ala, .inl (cI, 10, .inl aln)), (asa, .inl (cI, 10, .inl asl))]) [0, 1, 2, 3, 4] rfl
  have hDc := hD.sub (ws' := [(ad, .inr (0, [.ref axa, .ref aya, .ref ala, .ref asa, .int asize])), (axa, .inl (cI, 10, .inl axs)), (aya, .inl (cI, 10, .inl ays)), (ala, .inl (cI, 10, .inl aln)), (asa, .inl (cI, 10, .inl asl))]) [0, 1, 2, 3, 4] (by decide) rfl
  refine kc_i (va_runV (As := [.int p1]) (rest := [.long r_18, .long (r_4 * (r_9).toInt64)]) ⟨hx, hb, hml, hown, hts⟩ (mD_widthOf l dC dI cI cL cT ad axa aya ala asa H.size fu asize axs ays aln asl p1 (r_23) q_23) ⟨callB_of 1 hts (gd_code kw_181) rfl rfl rfl (hts _ kw_34) (hts _ kw_178) (by decide +kernel) ⟨Nat.le_of_ble_eq_true rfl, Nat.le_of_ble_eq_true rfl⟩, hts _ kw_179, hts _ kw_180⟩ (kP_V hPc hK hDc hN (va_recv hK hPc (ci := 0) (q0 := 0) rfl rfl)) rfl rfl hl.1 rfl (lv_room (Nat.le_of_ble_eq_true rfl)) dD_scaledDistance_23 ⟨Nat.le_of_ble_eq_true rfl, Nat.le_of_ble_eq_true rfl⟩) hP hD hS hA (wc := [(ad, .inr (0, [.ref axa, .ref aya, .ref ala, .ref asa, .int asize])), (axa, .inl (cI, 10, .inl axs)), (aya, .inl (cI, 10, .inl ays)), (ala, .inl (cI, 10, .inl aln)), (asa, .inl (cI, 10, .inl asl))]) (wr := [(bd, .inr (0, [.ref bxa, .ref bya, .ref bla, .ref bsa, .int bsize])), (bxa, .inl (cI, 10, .inl bxs)), (bya, .inl (cI, 10, .inl bys)), (bla, .inl (cI, 10, .inl bln)), (bsa, .inl (cI, 10, .inl bsl))]) (w1 := [(ad, .inr (0, [.ref axa, .ref aya, .ref ala, .ref asa, .int asize])), (axa, .inl (cI, 10, .inl axs)), (aya, .inl (cI, 10, .inl ays)), (ala, .inl (cI, 10, .inl aln)), (asa, .inl (cI, 10, .inl asl))]) (ws' := [(ad, .inr (0, [.ref axa, .ref aya, .ref ala, .ref asa, .int asize])), (axa, .inl (cI, 10, .inl axs)), (aya, .inl (cI, 10, .inl ays)), (ala, .inl (cI, 10, .inl aln)), (asa, .inl (cI, 10, .inl asl)), (bd, .inr (0, [.ref bxa, .ref bya, .ref bla, .ref bsa, .int bsize])), (bxa, .inl (cI, 10, .inl bxs)), (bya, .inl (cI, 10, .inl bys)), (bla, .inl (cI, 10, .inl bln)), (bsa, .inl (cI, 10, .inl bsl))]) [0, 1, 2, 3, 4] [5, 6, 7, 8, 9] [5, 6, 7, 8, 9, 0, 1, 2, 3, 4] rfl rfl (by decide) (by decide) rfl (by decide) rfl (fun H locs hP hD hS => ?_)
  refine lv_i2l (v := (r_23).toInt64) hx hb dD_scaledDistance_26 rfl ?_
  refine lv_lmul hx hb dD_scaledDistance_27 ?_
  refine lv_lsub hx hb dD_scaledDistance_28 ?_
  have e9 := Option.some.inj hf
  subst e9
  subst hQ
  exact W.lret (v := ((r_4 * (r_9).toInt64) - (r_18 * (r_23).toInt64))) hx hb hr (fun t ht hW => ⟨⟨((r_4 * (r_9).toInt64) - (r_18 * (r_23).toInt64)), (), rfl, rfl, by rw [ht]; exact hP, va_K.moved hW.alike hK, hD⟩, hS.F ht⟩) hS.2.2 dD_scaledDistance_29

def fD_piecesComeNearer (fu : Nat) (asize : Int32) (axs : Nat → Int32) (ays : Nat → Int32) (aln : Nat → Int32) (asl : Nat → Int32) (bsize : Int32) (bxs : Nat → Int32) (bys : Nat → Int32) (bln : Nat → Int32) (bsl : Nat → Int32) (p1 : Int32) (p3 : Int32) (p4 : Int32) : Option ((Int32)) := (if ¬ (p1 < 0 ∨ 10 ≤ (p1).toNatClampNeg) then (if ¬ (p3 < 0 ∨ 10 ≤ (p3).toNatClampNeg) then (if ¬ ((p1 + (1 : Int32)) < 0 ∨ 10 ≤ ((p1 + (1 : Int32))).toNatClampNeg) then (if ¬ ((p3 + (1 : Int32)) < 0 ∨ 10 ≤ ((p3 + (1 : Int32))).toNatClampNeg) then (if (if (bxs ((p3 + (1 : Int32))).toNatClampNeg) < (axs ((p1 + (1 : Int32))).toNatClampNeg) then (bxs ((p3 + (1 : Int32))).toNatClampNeg) else (axs ((p1 + (1 : Int32))).toNatClampNeg)) < (if (axs (p1).toNatClampNeg) < (bxs (p3).toNatClampNeg) then (bxs (p3).toNatClampNeg) else (axs (p1).toNatClampNeg)) then some (0 : Int32) else (if (0 : Int32) < p4 then ((fD_scaledDistance fu asize axs ays aln asl bsize bxs bys bln bsl p1 p3 (if (axs (p1).toNatClampNeg) < (bxs (p3).toNatClampNeg) then (bxs (p3).toNatClampNeg) else (axs (p1).toNatClampNeg))).bind fun r_58 => ((fD_scaledDistance fu asize axs ays aln asl bsize bxs bys bln bsl p1 p3 (if (bxs ((p3 + (1 : Int32))).toNatClampNeg) < (axs ((p1 + (1 : Int32))).toNatClampNeg) then (bxs ((p3 + (1 : Int32))).toNatClampNeg) else (axs ((p1 + (1 : Int32))).toNatClampNeg))).bind fun r_69 => (((if (0 : Int64) ≤ r_58 then (if r_58 ≤ (0 : Int64) then some (0 : Int32) else (if (0 : Int64) ≤ r_69 then some (0 : Int32) else some (1 : Int32))) else (if (0 : Int64) < r_69 then some (1 : Int32) else (if r_58 ≤ (0 : Int64) then some (0 : Int32) else (if (0 : Int64) ≤ r_69 then some (0 : Int32) else some (1 : Int32)))))).bind fun j_77 => ((fD_widthOf fu asize axs ays aln asl p1).bind fun r_114 => ((fD_widthOf fu bsize bxs bys bln bsl p3).bind fun r_121 => (if j_77 = (0 : Int32) then (if (if 0 < r_58 then r_58 else -r_58) < (((p4).toInt64 * (r_114).toInt64) * (r_121).toInt64) then some (1 : Int32) else (if (((p4).toInt64 * (r_114).toInt64) * (r_121).toInt64) ≤ (if 0 < r_69 then r_69 else -r_69) then some (0 : Int32) else some (1 : Int32))) else some (1 : Int32))))))) else some (0 : Int32))) else none) else none) else none) else none)
def rmD_piecesComeNearer : Room := { frames := 3, cells := 0, slots := 0, locals := 69 }
set_option maxHeartbeats 4000000 in
set_option maxRecDepth 100000 in
theorem mD_piecesComeNearer (l : Launch) (dC : Nat → ClassId) (dI : Nat → Nat → Nat) (cI cL cT : ClassId) (ad axa aya ala asa bd bxa bya bla bsa : Nat) (sz : Nat) (fu : Nat) (asize : Int32) (axs : Nat → Int32) (ays : Nat → Int32) (aln : Nat → Int32) (asl : Nat → Int32) (bsize : Int32) (bxs : Nat → Int32) (bys : Nat → Int32) (bln : Nat → Int32) (bsl : Nat → Int32) (p1 : Int32) (p3 : Int32) (p4 : Int32) (o0 : Int32) (hf : fD_piecesComeNearer fu asize axs ays aln asl bsize bxs bys bln bsl p1 p3 p4 = some (o0)) : Met l yD_piecesComeNearer wD_piecesComeNearer rmD_piecesComeNearer (kP (dC, dI) [(cI, .int), (cL, .long), (cT, .object "TendonLosses$Tendon")] [.ref ad, .int p1, .ref bd, .int p3, .int p4] [(ad, .inr (0, [.ref axa, .ref aya, .ref ala, .ref asa, .int asize])), (axa, .inl (cI, 10, .inl axs)), (aya, .inl (cI, 10, .inl ays)), (ala, .inl (cI, 10, .inl aln)), (asa, .inl (cI, 10, .inl asl)), (bd, .inr (0, [.ref bxa, .ref bya, .ref bla, .ref bsa, .int bsize])), (bxa, .inl (cI, 10, .inl bxs)), (bya, .inl (cI, 10, .inl bys)), (bla, .inl (cI, 10, .inl bln)), (bsa, .inl (cI, 10, .inl bsl))] sz) (va_Qi (fun (r : Int32) (_ : Unit) => r = o0) (kB (dC, dI) [(cI, .int), (cL, .long), (cT, .object "TendonLosses$Tendon")] (va_A [(ad, .inr (0, [.ref axa, .ref aya, .ref ala, .ref asa, .int asize])), (axa, .inl (cI, 10, .inl axs)), (aya, .inl (cI, 10, .inl ays)), (ala, .inl (cI, 10, .inl aln)), (asa, .inl (cI, 10, .inl asl)), (bd, .inr (0, [.ref bxa, .ref bya, .ref bla, .ref bsa, .int bsize])), (bxa, .inl (cI, 10, .inl bxs)), (bya, .inl (cI, 10, .inl bys)), (bla, .inl (cI, 10, .inl bln)), (bsa, .inl (cI, 10, .inl bsl))] sz) [(ad, .inr (0, [.ref axa, .ref aya, .ref ala, .ref asa, .int asize])), (axa, .inl (cI, 10, .inl axs)), (aya, .inl (cI, 10, .inl ays)), (ala, .inl (cI, 10, .inl aln)), (asa, .inl (cI, 10, .inl asl)), (bd, .inr (0, [.ref bxa, .ref bya, .ref bla, .ref bsa, .int bsize])), (bxa, .inl (cI, 10, .inl bxs)), (bya, .inl (cI, 10, .inl bys)), (bla, .inl (cI, 10, .inl bln)), (bsa, .inl (cI, 10, .inl bsl))]) (va_A [(ad, .inr (0, [.ref axa, .ref aya, .ref ala, .ref asa, .int asize])), (axa, .inl (cI, 10, .inl axs)), (aya, .inl (cI, 10, .inl ays)), (ala, .inl (cI, 10, .inl aln)), (asa, .inl (cI, 10, .inl asl)), (bd, .inr (0, [.ref bxa, .ref bya, .ref bla, .ref bsa, .int bsize])), (bxa, .inl (cI, 10, .inl bxs)), (bya, .inl (cI, 10, .inl bys)), (bla, .inl (cI, 10, .inl bln)), (bsa, .inl (cI, 10, .inl bsl))] sz)) 0 0 (va_A [(ad, .inr (0, [.ref axa, .ref aya, .ref ala, .ref asa, .int asize])), (axa, .inl (cI, 10, .inl axs)), (aya, .inl (cI, 10, .inl ays)), (ala, .inl (cI, 10, .inl aln)), (asa, .inl (cI, 10, .inl asl)), (bd, .inr (0, [.ref bxa, .ref bya, .ref bla, .ref bsa, .int bsize])), (bxa, .inl (cI, 10, .inl bxs)), (bya, .inl (cI, 10, .inl bys)), (bla, .inl (cI, 10, .inl bln)), (bsa, .inl (cI, 10, .inl bsl))] sz) := by
  refine Met.ofW (cc := bD_piecesComeNearer) (maxL := 14) (ret := (some .boolean)) (by decide) rfl ?_
  intro p e s m args below meth c s₁ B hml hv
  obtain ⟨rfl, hsz, hP, hK, hD0, hN⟩ := hv
  have hx := B.exec
  have hb := B.bytes
  have hr := B.returns
  have hts : ∀ w ∈ gt, w.before ([.ref ad, .int p1, .ref bd, .int p3, .int p4] : List Value).toArray s = true := fun w h => atoms_spec (ws := wD_piecesComeNearer) B.pre w (List.mem_cons_of_mem _ h)
  have hown : s.vm.findClass "TendonLosses$Duct" = some m.cls := findClass_of_methodNamed B.named
  have hlocks := B.notSynchronized
  subst hsz
  have hD := hD0.self (sz := s.heap.size)
  generalize hAe : va_A [(ad, .inr (0, [.ref axa, .ref aya, .ref ala, .ref asa, .int asize])), (axa, .inl (cI, 10, .inl axs)), (aya, .inl (cI, 10, .inl ays)), (ala, .inl (cI, 10, .inl aln)), (asa, .inl (cI, 10, .inl asl)), (bd, .inr (0, [.ref bxa, .ref bya, .ref bla, .ref bsa, .int bsize])), (bxa, .inl (cI, 10, .inl bxs)), (bya, .inl (cI, 10, .inl bys)), (bla, .inl (cI, 10, .inl bln)), (bsa, .inl (cI, 10, .inl bsl))] s.heap.size = A at hD ⊢
  have hA : ∀ q : Nat, s.heap.size ≤ q → A q := fun q h => by rw [← hAe]; exact Or.inr h
  have hS : va_S A s.heap s.heap [] := va_S.rf
  have hP : va_P (dC, dI) vwCl [(ad, .inr (0, [.ref axa, .ref aya, .ref ala, .ref asa, .int asize])), (axa, .inl (cI, 10, .inl axs)), (aya, .inl (cI, 10, .inl ays)), (ala, .inl (cI, 10, .inl aln)), (asa, .inl (cI, 10, .inl asl)), (bd, .inr (0, [.ref bxa, .ref bya, .ref bla, .ref bsa, .int bsize])), (bxa, .inl (cI, 10, .inl bxs)), (bya, .inl (cI, 10, .inl bys)), (bla, .inl (cI, 10, .inl bln)), (bsa, .inl (cI, 10, .inl bsl))] s.heap := hP
  have hl := lv_entry ([.ref ad, .int p1, .ref bd, .int p3, .int p4]) (n := 14) (Nat.le_of_ble_eq_true rfl)
  rw [lg_entry_eq]
  generalize (lg_sl ([.ref ad, .int p1, .ref bd, .int p3, .int p4]) ++ List.replicate (14 - (lg_sl ([.ref ad, .int p1, .ref bd, .int p3, .int p4])).length) Slot.unset).toArray = ls at hl ⊢
  have hl : lv_has ls 14 [(0, .ref ad), (1, .int p1), (2, .ref bd), (3, .int p3), (4, .int p4)] := hl
  refine W.nameQ (fun Q hQ => ?_)
  unfold fD_piecesComeNearer at hf
  refine lv_aload_n hx hb dD_piecesComeNearer_0 rfl (lv_at hl 0 rfl) ?_
  refine va_get (D := (dC, dI)) (ci := 0) (v := .ref axa) (C := "TendonLosses$Duct") (T := TT_D) (N := 5) hx hb hts in_D hown hK hP 0 rfl rfl 0 (by decide) (hts _ kw_108) (fun _ h9 => h9) rfl dD_piecesComeNearer_1 ?_
  refine lv_iload_n hx hb dD_piecesComeNearer_4 rfl (lv_at hl 1 rfl) ?_
  obtain ⟨h_5, hf⟩ := o_c hf
  refine va_iald hx hb hK hP 1 0 rfl rfl h_5 dD_piecesComeNearer_5 ?_
  refine lv_aload_n hx hb dD_piecesComeNearer_6 rfl (lv_at hl 2 rfl) ?_
  refine va_get (D := (dC, dI)) (ci := 0) (v := .ref bxa) (C := "TendonLosses$Duct") (T := TT_D) (N := 5) hx hb hts in_D hown hK hP 5 rfl rfl 0 (by decide) (hts _ kw_108) (fun _ h9 => h9) rfl dD_piecesComeNearer_7 ?_
  refine lv_iload_n hx hb dD_piecesComeNearer_10 rfl (lv_at hl 3 rfl) ?_
  obtain ⟨h_11, hf⟩ := o_c hf
  refine va_iald hx hb hK hP 6 0 rfl rfl h_11 dD_piecesComeNearer_11 ?_
  refine va_mmax hx hb (hml.trans hl.1.symm) hown (hts _ kw_373) (hts _ kw_374) (hts _ kw_35) (hts _ kw_375) (Nat.le_of_ble_eq_true rfl) (Nat.le_of_ble_eq_true rfl) (Nat.le_of_ble_eq_true rfl) (Nat.le_of_ble_eq_true rfl) dD_piecesComeNearer_12 ?_
  refine lv_istore (lv' := [(5, .int (if (axs (p1).toNatClampNeg) < (bxs (p3).toNatClampNeg) then (bxs (p3).toNatClampNeg) else (axs (p1).toNatClampNeg))), (0, .ref ad), (1, .int p1), (2, .ref bd), (3, .int p3), (4, .int p4)]) hx hb dD_piecesComeNearer_15 hl (by decide) rfl (fun ls hl => ?_)
  refine lv_aload_n hx hb dD_piecesComeNearer_17 rfl (lv_at hl 1 rfl) ?_
  refine va_get (D := (dC, dI)) (ci := 0) (v := .ref axa) (C := "TendonLosses$Duct") (T := TT_D) (N := 5) hx hb hts in_D hown hK hP 0 rfl rfl 0 (by decide) (hts _ kw_108) (fun _ h9 => h9) rfl dD_piecesComeNearer_18 ?_
  refine lv_iload_n hx hb dD_piecesComeNearer_21 rfl (lv_at hl 2 rfl) ?_
  refine lv_iconst (v := (1 : Int32)) hx hb dD_piecesComeNearer_22 (by decide) ?_
  refine lv_iadd hx hb dD_piecesComeNearer_23 ?_
  obtain ⟨h_24, hf⟩ := o_c hf
  refine va_iald hx hb hK hP 1 0 rfl rfl h_24 dD_piecesComeNearer_24 ?_
  refine lv_aload_n hx hb dD_piecesComeNearer_25 rfl (lv_at hl 3 rfl) ?_
  refine va_get (D := (dC, dI)) (ci := 0) (v := .ref bxa) (C := "TendonLosses$Duct") (T := TT_D) (N := 5) hx hb hts in_D hown hK hP 5 rfl rfl 0 (by decide) (hts _ kw_108) (fun _ h9 => h9) rfl dD_piecesComeNearer_26 ?_
  refine lv_iload_n hx hb dD_piecesComeNearer_29 rfl (lv_at hl 4 rfl) ?_
  refine lv_iconst (v := (1 : Int32)) hx hb dD_piecesComeNearer_30 (by decide) ?_
  refine lv_iadd hx hb dD_piecesComeNearer_31 ?_
  obtain ⟨h_32, hf⟩ := o_c hf
  refine va_iald hx hb hK hP 6 0 rfl rfl h_32 dD_piecesComeNearer_32 ?_
  refine va_mmin hx hb (hml.trans hl.1.symm) hown (hts _ kw_376) (hts _ kw_377) (hts _ kw_35) (hts _ kw_378) (Nat.le_of_ble_eq_true rfl) (Nat.le_of_ble_eq_true rfl) (Nat.le_of_ble_eq_true rfl) (Nat.le_of_ble_eq_true rfl) dD_piecesComeNearer_33 ?_
  refine lv_istore (lv' := [(6, .int (if (bxs ((p3 + (1 : Int32))).toNatClampNeg) < (axs ((p1 + (1 : Int32))).toNatClampNeg) then (bxs ((p3 + (1 : Int32))).toNatClampNeg) else (axs ((p1 + (1 : Int32))).toNatClampNeg))), (5, .int (if (axs (p1).toNatClampNeg) < (bxs (p3).toNatClampNeg) then (bxs (p3).toNatClampNeg) else (axs (p1).toNatClampNeg))), (0, .ref ad), (1, .int p1), (2, .ref bd), (3, .int p3), (4, .int p4)]) hx hb dD_piecesComeNearer_36 hl (by decide) rfl (fun ls hl => ?_)
  refine lv_iload hx hb dD_piecesComeNearer_38 (lv_at hl 1 rfl) ?_
  refine lv_iload hx hb dD_piecesComeNearer_40 (lv_at hl 0 rfl) ?_
  refine lv_icmp_gt (tgt := 50) hx hb dD_piecesComeNearer_42 (by decide) (fun c_42 => ?_) (fun c_42 => ?_)
  · have hf := o_t hf c_42
    refine lv_iconst (v := (0 : Int32)) hx hb dD_piecesComeNearer_50 (by decide) ?_
    have e9 := Option.some.inj hf
    subst e9
    subst hQ
    exact W.zret (v := (0 : Int32)) (ty := .boolean) hx hb hr rfl (fun t ht hW => ⟨⟨(0 : Int32), (), rfl, rfl, by rw [ht]; exact hP, va_K.moved hW.alike hK, hD⟩, hS.F ht⟩) hS.2.2 dD_piecesComeNearer_51
  · have hf := o_f hf c_42
    refine lv_iload hx hb dD_piecesComeNearer_45 (lv_at hl 6 rfl) ?_
    refine lv_if_gt (tgt := 52) hx hb dD_piecesComeNearer_47 (by decide) (fun c_47 => ?_) (fun c_47 => ?_)
    · have hf := o_t hf c_47
      refine lv_aload_n hx hb dD_piecesComeNearer_52 rfl (lv_at hl 2 rfl) ?_
      refine lv_iload_n hx hb dD_piecesComeNearer_53 rfl (lv_at hl 3 rfl) ?_
      refine lv_aload_n hx hb dD_piecesComeNearer_54 rfl (lv_at hl 4 rfl) ?_
      refine lv_iload_n hx hb dD_piecesComeNearer_55 rfl (lv_at hl 5 rfl) ?_
      refine lv_iload hx hb dD_piecesComeNearer_56 (lv_at hl 1 rfl) ?_
      obtain ⟨r_58, q_58, hf⟩ := o_b hf
      have hPc := hP.sub (ws' := [(ad, .inr (0, [.ref axa, .ref aya, .ref ala, .ref asa, .int asize])), (axa, .inl (cI, 10, .inl axs)), (aya, .inl (cI, 10, .inl ays)), (ala, .inl (cI, 10, .inl aln)), (asa, .inl (cI, 10, .inl asl)), (bd, .inr (0, [.ref bxa, .ref bya, .ref bla, .ref bsa, .int bsize])), (bxa, .inl (cI, 10, .inl bxs)), (bya, .inl (cI, 10, .inl bys)), (bla, .inl (cI, 10, .inl bln)), (bsa, .inl (cI, 10, .inl bsl))]) [0, 1, 2, 3, 4, 5, 6, 7, 8, 9] rfl
      have hDc := hD.sub (ws' := [(ad, .inr (0, [.ref axa, .ref aya, .ref ala, .ref asa, .int asize])), (axa, .inl (cI, 10, .inl axs)), (aya, .inl (cI, 10, .inl ays)), (ala, .inl (cI, 10, .inl aln)), (asa, .inl (cI, 10, .inl asl)), (bd, .inr (0, [.ref bxa, .ref bya, .ref bla, .ref bsa, .int bsize])), (bxa, .inl (cI, 10, .inl bxs)), (bya, .inl (cI, 10, .inl bys)), (bla, .inl (cI, 10, .inl bln)), (bsa, .inl (cI, 10, .inl bsl))]) [0, 1, 2, 3, 4, 5, 6, 7, 8, 9] (by decide) rfl
      refine kc_l (va_runS (As := [.ref ad, .int p1, .ref bd, .int p3, .int (if (axs (p1).toNatClampNeg) < (bxs (p3).toNatClampNeg) then (bxs (p3).toNatClampNeg) else (axs (p1).toNatClampNeg))]) (rest := []) ⟨hx, hb, hml, hown, hts⟩ (mD_scaledDistance l dC dI cI cL cT ad axa aya ala asa bd bxa bya bla bsa s.heap.size fu asize axs ays aln asl bsize bxs bys bln bsl p1 p3 (if (axs (p1).toNatClampNeg) < (bxs (p3).toNatClampNeg) then (bxs (p3).toNatClampNeg) else (axs (p1).toNatClampNeg)) (r_58) q_58) ⟨callB_of 5 hts (gd_code kw_381) rfl rfl rfl (hts _ kw_34) (hts _ kw_379) (by decide +kernel) ⟨Nat.le_of_ble_eq_true rfl, Nat.le_of_ble_eq_true rfl⟩, hts _ kw_380⟩ (kP_S hPc hK hDc hN) rfl rfl hl.1 rfl (lv_room (Nat.le_of_ble_eq_true rfl)) dD_piecesComeNearer_58 ⟨Nat.le_of_ble_eq_true rfl, Nat.le_of_ble_eq_true rfl⟩) hP hD hS hA (wc := [(ad, .inr (0, [.ref axa, .ref aya, .ref ala, .ref asa, .int asize])), (axa, .inl (cI, 10, .inl axs)), (aya, .inl (cI, 10, .inl ays)), (ala, .inl (cI, 10, .inl aln)), (asa, .inl (cI, 10, .inl asl)), (bd, .inr (0, [.ref bxa, .ref bya, .ref bla, .ref bsa, .int bsize])), (bxa, .inl (cI, 10, .inl bxs)), (bya, .inl (cI, 10, .inl bys)), (bla, .inl (cI, 10, .inl bln)), (bsa, .inl (cI, 10, .inl bsl))]) (wr := []) (w1 := [(ad, .inr (0, [.ref axa, .ref aya, .ref ala, .ref asa, .int asize])), (axa, .inl (cI, 10, .inl axs)), (aya, .inl (cI, 10, .inl ays)), (ala, .inl (cI, 10, .inl aln)), (asa, .inl (cI, 10, .inl asl)), (bd, .inr (0, [.ref bxa, .ref bya, .ref bla, .ref bsa, .int bsize])), (bxa, .inl (cI, 10, .inl bxs)), (bya, .inl (cI, 10, .inl bys)), (bla, .inl (cI, 10, .inl bln)), (bsa, .inl (cI, 10, .inl bsl))]) (ws' := [(ad, .inr (0, [.ref axa, .ref aya, .ref ala, .ref asa, .int asize])), (axa, .inl (cI, 10, .inl axs)), (aya, .inl (cI, 10, .inl ays)), (ala, .inl (cI, 10, .inl aln)), (asa, .inl (cI, 10, .inl asl)), (bd, .inr (0, [.ref bxa, .ref bya, .ref bla, .ref bsa, .int bsize])), (bxa, .inl (cI, 10, .inl bxs)), (bya, .inl (cI, 10, .inl bys)), (bla, .inl (cI, 10, .inl bln)), (bsa, .inl (cI, 10, .inl bsl))]) [0, 1, 2, 3, 4, 5, 6, 7, 8, 9] [] [0, 1, 2, 3, 4, 5, 6, 7, 8, 9] rfl rfl (by decide) (by decide) rfl (by decide) rfl (fun H locs hP hD hS => ?_)
      refine lv_lstore (lv' := [(7, .long r_58), (6, .int (if (bxs ((p3 + (1 : Int32))).toNatClampNeg) < (axs ((p1 + (1 : Int32))).toNatClampNeg) then (bxs ((p3 + (1 : Int32))).toNatClampNeg) else (axs ((p1 + (1 : Int32))).toNatClampNeg))), (5, .int (if (axs (p1).toNatClampNeg) < (bxs (p3).toNatClampNeg) then (bxs (p3).toNatClampNeg) else (axs (p1).toNatClampNeg))), (0, .ref ad), (1, .int p1), (2, .ref bd), (3, .int p3), (4, .int p4)]) hx hb dD_piecesComeNearer_61 hl (by decide) rfl (fun ls hl => ?_)
      refine lv_aload_n hx hb dD_piecesComeNearer_63 rfl (lv_at hl 3 rfl) ?_
      refine lv_iload_n hx hb dD_piecesComeNearer_64 rfl (lv_at hl 4 rfl) ?_
      refine lv_aload_n hx hb dD_piecesComeNearer_65 rfl (lv_at hl 5 rfl) ?_
      refine lv_iload_n hx hb dD_piecesComeNearer_66 rfl (lv_at hl 6 rfl) ?_
      refine lv_iload hx hb dD_piecesComeNearer_67 (lv_at hl 1 rfl) ?_
      obtain ⟨r_69, q_69, hf⟩ := o_b hf
      have hPc := hP.sub (ws' := [(ad, .inr (0, [.ref axa, .ref aya, .ref ala, .ref asa, .int asize])), (axa, .inl (cI, 10, .inl axs)), (aya, .inl (cI, 10, .inl ays)), (ala, .inl (cI, 10, .inl aln)), (asa, .inl (cI, 10, .inl asl)), (bd, .inr (0, [.ref bxa, .ref bya, .ref bla, .ref bsa, .int bsize])), (bxa, .inl (cI, 10, .inl bxs)), (bya, .inl (cI, 10, .inl bys)), (bla, .inl (cI, 10, .inl bln)), (bsa, .inl (cI, 10, .inl bsl))]) [0, 1, 2, 3, 4, 5, 6, 7, 8, 9] rfl
      have hDc := hD.sub (ws' := [(ad, .inr (0, [.ref axa, .ref aya, .ref ala, .ref asa, .int asize])), (axa, .inl (cI, 10, .inl axs)), (aya, .inl (cI, 10, .inl ays)), (ala, .inl (cI, 10, .inl aln)), (asa, .inl (cI, 10, .inl asl)), (bd, .inr (0, [.ref bxa, .ref bya, .ref bla, .ref bsa, .int bsize])), (bxa, .inl (cI, 10, .inl bxs)), (bya, .inl (cI, 10, .inl bys)), (bla, .inl (cI, 10, .inl bln)), (bsa, .inl (cI, 10, .inl bsl))]) [0, 1, 2, 3, 4, 5, 6, 7, 8, 9] (by decide) rfl
      refine kc_l (va_runS (As := [.ref ad, .int p1, .ref bd, .int p3, .int (if (bxs ((p3 + (1 : Int32))).toNatClampNeg) < (axs ((p1 + (1 : Int32))).toNatClampNeg) then (bxs ((p3 + (1 : Int32))).toNatClampNeg) else (axs ((p1 + (1 : Int32))).toNatClampNeg))]) (rest := []) ⟨hx, hb, hml, hown, hts⟩ (mD_scaledDistance l dC dI cI cL cT ad axa aya ala asa bd bxa bya bla bsa H.size fu asize axs ays aln asl bsize bxs bys bln bsl p1 p3 (if (bxs ((p3 + (1 : Int32))).toNatClampNeg) < (axs ((p1 + (1 : Int32))).toNatClampNeg) then (bxs ((p3 + (1 : Int32))).toNatClampNeg) else (axs ((p1 + (1 : Int32))).toNatClampNeg)) (r_69) q_69) ⟨callB_of 5 hts (gd_code kw_381) rfl rfl rfl (hts _ kw_34) (hts _ kw_379) (by decide +kernel) ⟨Nat.le_of_ble_eq_true rfl, Nat.le_of_ble_eq_true rfl⟩, hts _ kw_380⟩ (kP_S hPc hK hDc hN) rfl rfl hl.1 rfl (lv_room (Nat.le_of_ble_eq_true rfl)) dD_piecesComeNearer_69 ⟨Nat.le_of_ble_eq_true rfl, Nat.le_of_ble_eq_true rfl⟩) hP hD hS hA (wc := [(ad, .inr (0, [.ref axa, .ref aya, .ref ala, .ref asa, .int asize])), (axa, .inl (cI, 10, .inl axs)), (aya, .inl (cI, 10, .inl ays)), (ala, .inl (cI, 10, .inl aln)), (asa, .inl (cI, 10, .inl asl)), (bd, .inr (0, [.ref bxa, .ref bya, .ref bla, .ref bsa, .int bsize])), (bxa, .inl (cI, 10, .inl bxs)), (bya, .inl (cI, 10, .inl bys)), (bla, .inl (cI, 10, .inl bln)), (bsa, .inl (cI, 10, .inl bsl))]) (wr := []) (w1 := [(ad, .inr (0, [.ref axa, .ref aya, .ref ala, .ref asa, .int asize])), (axa, .inl (cI, 10, .inl axs)), (aya, .inl (cI, 10, .inl ays)), (ala, .inl (cI, 10, .inl aln)), (asa, .inl (cI, 10, .inl asl)), (bd, .inr (0, [.ref bxa, .ref bya, .ref bla, .ref bsa, .int bsize])), (bxa, .inl (cI, 10, .inl bxs)), (bya, .inl (cI, 10, .inl bys)), (bla, .inl (cI, 10, .inl bln)), (bsa, .inl (cI, 10, .inl bsl))]) (ws' := [(ad, .inr (0, [.ref axa, .ref aya, .ref ala, .ref asa, .int asize])), (axa, .inl (cI, 10, .inl axs)), (aya, .inl (cI, 10, .inl ays)), (ala, .inl (cI, 10, .inl aln)), (asa, .inl (cI, 10, .inl asl)), (bd, .inr (0, [.ref bxa, .ref bya, .ref bla, .ref bsa, .int bsize])), (bxa, .inl (cI, 10, .inl bxs)), (bya, .inl (cI, 10, .inl bys)), (bla, .inl (cI, 10, .inl bln)), (bsa, .inl (cI, 10, .inl bsl))]) [0, 1, 2, 3, 4, 5, 6, 7, 8, 9] [] [0, 1, 2, 3, 4, 5, 6, 7, 8, 9] rfl rfl (by decide) (by decide) rfl (by decide) rfl (fun H locs hP hD hS => ?_)
      refine lv_lstore (lv' := [(9, .long r_69), (7, .long r_58), (6, .int (if (bxs ((p3 + (1 : Int32))).toNatClampNeg) < (axs ((p1 + (1 : Int32))).toNatClampNeg) then (bxs ((p3 + (1 : Int32))).toNatClampNeg) else (axs ((p1 + (1 : Int32))).toNatClampNeg))), (5, .int (if (axs (p1).toNatClampNeg) < (bxs (p3).toNatClampNeg) then (bxs (p3).toNatClampNeg) else (axs (p1).toNatClampNeg))), (0, .ref ad), (1, .int p1), (2, .ref bd), (3, .int p3), (4, .int p4)]) hx hb dD_piecesComeNearer_72 hl (by decide) rfl (fun ls hl => ?_)
      refine lv_lload hx hb dD_piecesComeNearer_74 (lv_at hl 1 rfl) ?_
      refine lv_lconst (v := (0 : Int64)) hx hb dD_piecesComeNearer_76 (by decide) ?_
      obtain ⟨j_77, e_77, hf⟩ := o_b hf
      have J_107 : ∀ (H : Heap) (locs : List Loc) (ls : Array Slot), va_P (dC, dI) vwCl [(ad, .inr (0, [.ref axa, .ref aya, .ref ala, .ref asa, .int asize])), (axa, .inl (cI, 10, .inl axs)), (aya, .inl (cI, 10, .inl ays)), (ala, .inl (cI, 10, .inl aln)), (asa, .inl (cI, 10, .inl asl)), (bd, .inr (0, [.ref bxa, .ref bya, .ref bla, .ref bsa, .int bsize])), (bxa, .inl (cI, 10, .inl bxs)), (bya, .inl (cI, 10, .inl bys)), (bla, .inl (cI, 10, .inl bln)), (bsa, .inl (cI, 10, .inl bsl))] H → va_D A [(ad, .inr (0, [.ref axa, .ref aya, .ref ala, .ref asa, .int asize])), (axa, .inl (cI, 10, .inl axs)), (aya, .inl (cI, 10, .inl ays)), (ala, .inl (cI, 10, .inl aln)), (asa, .inl (cI, 10, .inl asl)), (bd, .inr (0, [.ref bxa, .ref bya, .ref bla, .ref bsa, .int bsize])), (bxa, .inl (cI, 10, .inl bxs)), (bya, .inl (cI, 10, .inl bys)), (bla, .inl (cI, 10, .inl bln)), (bsa, .inl (cI, 10, .inl bsl))] → va_S A s.heap H locs → lv_has ls 14 [(9, .long r_69), (7, .long r_58), (6, .int (if (bxs ((p3 + (1 : Int32))).toNatClampNeg) < (axs ((p1 + (1 : Int32))).toNatClampNeg) then (bxs ((p3 + (1 : Int32))).toNatClampNeg) else (axs ((p1 + (1 : Int32))).toNatClampNeg))), (5, .int (if (axs (p1).toNatClampNeg) < (bxs (p3).toNatClampNeg) then (bxs (p3).toNatClampNeg) else (axs (p1).toNatClampNeg))), (0, .ref ad), (1, .int p1), (2, .ref bd), (3, .int p3), (4, .int p4)] → W p l e (headSpec wD_piecesComeNearer rmD_piecesComeNearer).room s m ([.ref ad, .int p1, .ref bd, .int p3, .int p4] : List Value).toArray below meth c H locs 0 0 Q (F0 m 107 ls [.int j_77]) := by
        intro H locs ls hP hD hS hl
        refine lv_istore (lv' := [(11, .int j_77), (9, .long r_69), (7, .long r_58), (6, .int (if (bxs ((p3 + (1 : Int32))).toNatClampNeg) < (axs ((p1 + (1 : Int32))).toNatClampNeg) then (bxs ((p3 + (1 : Int32))).toNatClampNeg) else (axs ((p1 + (1 : Int32))).toNatClampNeg))), (5, .int (if (axs (p1).toNatClampNeg) < (bxs (p3).toNatClampNeg) then (bxs (p3).toNatClampNeg) else (axs (p1).toNatClampNeg))), (0, .ref ad), (1, .int p1), (2, .ref bd), (3, .int p3), (4, .int p4)]) hx hb dD_piecesComeNearer_107 hl (by decide) rfl (fun ls hl => ?_)
        refine lv_iload hx hb dD_piecesComeNearer_109 (lv_at hl 9 rfl) ?_
        refine lv_i2l (v := (p4).toInt64) hx hb dD_piecesComeNearer_111 rfl ?_
        refine lv_aload_n hx hb dD_piecesComeNearer_112 rfl (lv_at hl 5 rfl) ?_
        refine lv_iload_n hx hb dD_piecesComeNearer_113 rfl (lv_at hl 6 rfl) ?_
        obtain ⟨r_114, q_114, hf⟩ := o_b hf
        have hPc := hP.sub (ws' := [(ad, .inr (0, [.ref axa, .ref aya, .ref ala, .ref asa, .int asize])), (axa, .inl (cI, 10, .inl axs)), (aya, .inl (cI, 10, .inl ays)), (ala, .inl (cI, 10, .inl aln)), (asa, .inl (cI, 10, .inl asl))]) [0, 1, 2, 3, 4] rfl
        have hDc := hD.sub (ws' := [(ad, .inr (0, [.ref axa, .ref aya, .ref ala, .ref asa, .int asize])), (axa, .inl (cI, 10, .inl axs)), (aya, .inl (cI, 10, .inl ays)), (ala, .inl (cI, 10, .inl aln)), (asa, .inl (cI, 10, .inl asl))]) [0, 1, 2, 3, 4] (by decide) rfl
        refine kc_i (va_runV (As := [.int p1]) (rest := [.long (p4).toInt64]) ⟨hx, hb, hml, hown, hts⟩ (mD_widthOf l dC dI cI cL cT ad axa aya ala asa H.size fu asize axs ays aln asl p1 (r_114) q_114) ⟨callB_of 1 hts (gd_code kw_181) rfl rfl rfl (hts _ kw_34) (hts _ kw_178) (by decide +kernel) ⟨Nat.le_of_ble_eq_true rfl, Nat.le_of_ble_eq_true rfl⟩, hts _ kw_179, hts _ kw_180⟩ (kP_V hPc hK hDc hN (va_recv hK hPc (ci := 0) (q0 := 0) rfl rfl)) rfl rfl hl.1 rfl (lv_room (Nat.le_of_ble_eq_true rfl)) dD_piecesComeNearer_114 ⟨Nat.le_of_ble_eq_true rfl, Nat.le_of_ble_eq_true rfl⟩) hP hD hS hA (wc := [(ad, .inr (0, [.ref axa, .ref aya, .ref ala, .ref asa, .int asize])), (axa, .inl (cI, 10, .inl axs)), (aya, .inl (cI, 10, .inl ays)), (ala, .inl (cI, 10, .inl aln)), (asa, .inl (cI, 10, .inl asl))]) (wr := [(bd, .inr (0, [.ref bxa, .ref bya, .ref bla, .ref bsa, .int bsize])), (bxa, .inl (cI, 10, .inl bxs)), (bya, .inl (cI, 10, .inl bys)), (bla, .inl (cI, 10, .inl bln)), (bsa, .inl (cI, 10, .inl bsl))]) (w1 := [(ad, .inr (0, [.ref axa, .ref aya, .ref ala, .ref asa, .int asize])), (axa, .inl (cI, 10, .inl axs)), (aya, .inl (cI, 10, .inl ays)), (ala, .inl (cI, 10, .inl aln)), (asa, .inl (cI, 10, .inl asl))]) (ws' := [(ad, .inr (0, [.ref axa, .ref aya, .ref ala, .ref asa, .int asize])), (axa, .inl (cI, 10, .inl axs)), (aya, .inl (cI, 10, .inl ays)), (ala, .inl (cI, 10, .inl aln)), (asa, .inl (cI, 10, .inl asl)), (bd, .inr (0, [.ref bxa, .ref bya, .ref bla, .ref bsa, .int bsize])), (bxa, .inl (cI, 10, .inl bxs)), (bya, .inl (cI, 10, .inl bys)), (bla, .inl (cI, 10, .inl bln)), (bsa, .inl (cI, 10, .inl bsl))]) [0, 1, 2, 3, 4] [5, 6, 7, 8, 9] [5, 6, 7, 8, 9, 0, 1, 2, 3, 4] rfl rfl (by decide) (by decide) rfl (by decide) rfl (fun H locs hP hD hS => ?_)
        refine lv_i2l (v := (r_114).toInt64) hx hb dD_piecesComeNearer_117 rfl ?_
        refine lv_lmul hx hb dD_piecesComeNearer_118 ?_
        refine lv_aload_n hx hb dD_piecesComeNearer_119 rfl (lv_at hl 7 rfl) ?_
        refine lv_iload_n hx hb dD_piecesComeNearer_120 rfl (lv_at hl 8 rfl) ?_
        obtain ⟨r_121, q_121, hf⟩ := o_b hf
        have hPc := hP.sub (ws' := [(bd, .inr (0, [.ref bxa, .ref bya, .ref bla, .ref bsa, .int bsize])), (bxa, .inl (cI, 10, .inl bxs)), (bya, .inl (cI, 10, .inl bys)), (bla, .inl (cI, 10, .inl bln)), (bsa, .inl (cI, 10, .inl bsl))]) [5, 6, 7, 8, 9] rfl
        have hDc := hD.sub (ws' := [(bd, .inr (0, [.ref bxa, .ref bya, .ref bla, .ref bsa, .int bsize])), (bxa, .inl (cI, 10, .inl bxs)), (bya, .inl (cI, 10, .inl bys)), (bla, .inl (cI, 10, .inl bln)), (bsa, .inl (cI, 10, .inl bsl))]) [5, 6, 7, 8, 9] (by decide) rfl
        refine kc_i (va_runV (As := [.int p3]) (rest := [.long ((p4).toInt64 * (r_114).toInt64)]) ⟨hx, hb, hml, hown, hts⟩ (mD_widthOf l dC dI cI cL cT bd bxa bya bla bsa H.size fu bsize bxs bys bln bsl p3 (r_121) q_121) ⟨callB_of 1 hts (gd_code kw_181) rfl rfl rfl (hts _ kw_34) (hts _ kw_178) (by decide +kernel) ⟨Nat.le_of_ble_eq_true rfl, Nat.le_of_ble_eq_true rfl⟩, hts _ kw_179, hts _ kw_180⟩ (kP_V hPc hK hDc hN (va_recv hK hPc (ci := 0) (q0 := 0) rfl rfl)) rfl rfl hl.1 rfl (lv_room (Nat.le_of_ble_eq_true rfl)) dD_piecesComeNearer_121 ⟨Nat.le_of_ble_eq_true rfl, Nat.le_of_ble_eq_true rfl⟩) hP hD hS hA (wc := [(bd, .inr (0, [.ref bxa, .ref bya, .ref bla, .ref bsa, .int bsize])), (bxa, .inl (cI, 10, .inl bxs)), (bya, .inl (cI, 10, .inl bys)), (bla, .inl (cI, 10, .inl bln)), (bsa, .inl (cI, 10, .inl bsl))]) (wr := [(ad, .inr (0, [.ref axa, .ref aya, .ref ala, .ref asa, .int asize])), (axa, .inl (cI, 10, .inl axs)), (aya, .inl (cI, 10, .inl ays)), (ala, .inl (cI, 10, .inl aln)), (asa, .inl (cI, 10, .inl asl))]) (w1 := [(bd, .inr (0, [.ref bxa, .ref bya, .ref bla, .ref bsa, .int bsize])), (bxa, .inl (cI, 10, .inl bxs)), (bya, .inl (cI, 10, .inl bys)), (bla, .inl (cI, 10, .inl bln)), (bsa, .inl (cI, 10, .inl bsl))]) (ws' := [(ad, .inr (0, [.ref axa, .ref aya, .ref ala, .ref asa, .int asize])), (axa, .inl (cI, 10, .inl axs)), (aya, .inl (cI, 10, .inl ays)), (ala, .inl (cI, 10, .inl aln)), (asa, .inl (cI, 10, .inl asl)), (bd, .inr (0, [.ref bxa, .ref bya, .ref bla, .ref bsa, .int bsize])), (bxa, .inl (cI, 10, .inl bxs)), (bya, .inl (cI, 10, .inl bys)), (bla, .inl (cI, 10, .inl bln)), (bsa, .inl (cI, 10, .inl bsl))]) [5, 6, 7, 8, 9] [0, 1, 2, 3, 4] [0, 1, 2, 3, 4, 5, 6, 7, 8, 9] rfl rfl (by decide) (by decide) rfl (by decide) rfl (fun H locs hP hD hS => ?_)
        refine lv_i2l (v := (r_121).toInt64) hx hb dD_piecesComeNearer_124 rfl ?_
        refine lv_lmul hx hb dD_piecesComeNearer_125 ?_
        refine lv_lstore (lv' := [(12, .long (((p4).toInt64 * (r_114).toInt64) * (r_121).toInt64)), (11, .int j_77), (9, .long r_69), (7, .long r_58), (6, .int (if (bxs ((p3 + (1 : Int32))).toNatClampNeg) < (axs ((p1 + (1 : Int32))).toNatClampNeg) then (bxs ((p3 + (1 : Int32))).toNatClampNeg) else (axs ((p1 + (1 : Int32))).toNatClampNeg))), (5, .int (if (axs (p1).toNatClampNeg) < (bxs (p3).toNatClampNeg) then (bxs (p3).toNatClampNeg) else (axs (p1).toNatClampNeg))), (0, .ref ad), (1, .int p1), (2, .ref bd), (3, .int p3), (4, .int p4)]) hx hb dD_piecesComeNearer_126 hl (by decide) rfl (fun ls hl => ?_)
        refine lv_iload hx hb dD_piecesComeNearer_128 (lv_at hl 1 rfl) ?_
        refine lv_if_ne (tgt := 155) hx hb dD_piecesComeNearer_130 (by decide) (fun c_130 => ?_) (fun c_130 => ?_)
        · have hf := o_f hf c_130
          refine lv_iconst (v := (1 : Int32)) hx hb dD_piecesComeNearer_155 (by decide) ?_
          refine lv_goto (tgt := 160) hx hb dD_piecesComeNearer_156 (by decide) ?_
          have e9 := Option.some.inj hf
          subst e9
          subst hQ
          exact W.zret (v := (1 : Int32)) (ty := .boolean) hx hb hr rfl (fun t ht hW => ⟨⟨(1 : Int32), (), rfl, rfl, by rw [ht]; exact hP, va_K.moved hW.alike hK, hD⟩, hS.F ht⟩) hS.2.2 dD_piecesComeNearer_160
        · have hf := o_t hf c_130
          refine lv_lload hx hb dD_piecesComeNearer_133 (lv_at hl 3 rfl) ?_
          refine va_mabs_long hx hb (hml.trans hl.1.symm) hown (hts _ kw_386) (hts _ kw_387) (hts _ kw_35) (hts _ kw_388) (Nat.le_of_ble_eq_true rfl) (Nat.le_of_ble_eq_true rfl) (Nat.le_of_ble_eq_true rfl) (Nat.le_of_ble_eq_true rfl) dD_piecesComeNearer_135 ?_
          refine lv_lload hx hb dD_piecesComeNearer_138 (lv_at hl 0 rfl) ?_
          refine W.lcmp hx hb dD_piecesComeNearer_140 ?_
          refine lv_if_lt (tgt := 155) hx hb dD_piecesComeNearer_141 (by decide) (fun c_140 => ?_) (fun c_140 => ?_)
          · have c_140 := (lg_cmp_lt _ _).mp c_140
            have hf := o_t hf c_140
            refine lv_iconst (v := (1 : Int32)) hx hb dD_piecesComeNearer_155 (by decide) ?_
            refine lv_goto (tgt := 160) hx hb dD_piecesComeNearer_156 (by decide) ?_
            have e9 := Option.some.inj hf
            subst e9
            subst hQ
            exact W.zret (v := (1 : Int32)) (ty := .boolean) hx hb hr rfl (fun t ht hW => ⟨⟨(1 : Int32), (), rfl, rfl, by rw [ht]; exact hP, va_K.moved hW.alike hK, hD⟩, hS.F ht⟩) hS.2.2 dD_piecesComeNearer_160
          · have c_140 := fun z => c_140 ((lg_cmp_lt _ _).mpr z)
            have hf := o_f hf c_140
            refine lv_lload hx hb dD_piecesComeNearer_144 (lv_at hl 2 rfl) ?_
            refine va_mabs_long hx hb (hml.trans hl.1.symm) hown (hts _ kw_386) (hts _ kw_387) (hts _ kw_35) (hts _ kw_388) (Nat.le_of_ble_eq_true rfl) (Nat.le_of_ble_eq_true rfl) (Nat.le_of_ble_eq_true rfl) (Nat.le_of_ble_eq_true rfl) dD_piecesComeNearer_146 ?_
            refine lv_lload hx hb dD_piecesComeNearer_149 (lv_at hl 0 rfl) ?_
            refine W.lcmp hx hb dD_piecesComeNearer_151 ?_
            refine lv_if_ge (tgt := 159) hx hb dD_piecesComeNearer_152 (by decide) (fun c_151 => ?_) (fun c_151 => ?_)
            · have c_151 := (lg_cmp_ge _ _).mp c_151
              have hf := o_t hf c_151
              refine lv_iconst (v := (0 : Int32)) hx hb dD_piecesComeNearer_159 (by decide) ?_
              have e9 := Option.some.inj hf
              subst e9
              subst hQ
              exact W.zret (v := (0 : Int32)) (ty := .boolean) hx hb hr rfl (fun t ht hW => ⟨⟨(0 : Int32), (), rfl, rfl, by rw [ht]; exact hP, va_K.moved hW.alike hK, hD⟩, hS.F ht⟩) hS.2.2 dD_piecesComeNearer_160
            · have c_151 := fun z => c_151 ((lg_cmp_ge _ _).mpr z)
              have hf := o_f hf c_151
              refine lv_iconst (v := (1 : Int32)) hx hb dD_piecesComeNearer_155 (by decide) ?_
              refine lv_goto (tgt := 160) hx hb dD_piecesComeNearer_156 (by decide) ?_
              have e9 := Option.some.inj hf
              subst e9
              subst hQ
              exact W.zret (v := (1 : Int32)) (ty := .boolean) hx hb hr rfl (fun t ht hW => ⟨⟨(1 : Int32), (), rfl, rfl, by rw [ht]; exact hP, va_K.moved hW.alike hK, hD⟩, hS.F ht⟩) hS.2.2 dD_piecesComeNearer_160
      have hf := e_77
      refine W.lcmp hx hb dD_piecesComeNearer_77 ?_
      refine lv_if_ge (tgt := 88) hx hb dD_piecesComeNearer_78 (by decide) (fun c_77 => ?_) (fun c_77 => ?_)
      · have c_77 := (lg_cmp_ge _ _).mp c_77
        have hf := o_t hf c_77
        refine lv_lload hx hb dD_piecesComeNearer_88 (lv_at hl 1 rfl) ?_
        refine lv_lconst (v := (0 : Int64)) hx hb dD_piecesComeNearer_90 (by decide) ?_
        refine W.lcmp hx hb dD_piecesComeNearer_91 ?_
        refine lv_if_le (tgt := 106) hx hb dD_piecesComeNearer_92 (by decide) (fun c_91 => ?_) (fun c_91 => ?_)
        · have c_91 := (lg_cmp_le _ _).mp c_91
          have hf := o_t hf c_91
          refine lv_iconst (v := (0 : Int32)) hx hb dD_piecesComeNearer_106 (by decide) ?_
          have e9 := Option.some.inj hf
          subst e9
          exact J_107 _ _ ls hP hD hS (lv_sub hl [0, 1, 2, 3, 4, 5, 6, 7, 8] rfl)
        · have c_91 := fun z => c_91 ((lg_cmp_le _ _).mpr z)
          have hf := o_f hf c_91
          refine lv_lload hx hb dD_piecesComeNearer_95 (lv_at hl 0 rfl) ?_
          refine lv_lconst (v := (0 : Int64)) hx hb dD_piecesComeNearer_97 (by decide) ?_
          refine W.lcmp hx hb dD_piecesComeNearer_98 ?_
          refine lv_if_ge (tgt := 106) hx hb dD_piecesComeNearer_99 (by decide) (fun c_98 => ?_) (fun c_98 => ?_)
          · have c_98 := (lg_cmp_ge _ _).mp c_98
            have hf := o_t hf c_98
            refine lv_iconst (v := (0 : Int32)) hx hb dD_piecesComeNearer_106 (by decide) ?_
            have e9 := Option.some.inj hf
            subst e9
            exact J_107 _ _ ls hP hD hS (lv_sub hl [0, 1, 2, 3, 4, 5, 6, 7, 8] rfl)
          · have c_98 := fun z => c_98 ((lg_cmp_ge _ _).mpr z)
            have hf := o_f hf c_98
            refine lv_iconst (v := (1 : Int32)) hx hb dD_piecesComeNearer_102 (by decide) ?_
            refine lv_goto (tgt := 107) hx hb dD_piecesComeNearer_103 (by decide) ?_
            have e9 := Option.some.inj hf
            subst e9
            exact J_107 _ _ ls hP hD hS (lv_sub hl [0, 1, 2, 3, 4, 5, 6, 7, 8] rfl)
      · have c_77 := fun z => c_77 ((lg_cmp_ge _ _).mpr z)
        have hf := o_f hf c_77
        refine lv_lload hx hb dD_piecesComeNearer_81 (lv_at hl 0 rfl) ?_
        refine lv_lconst (v := (0 : Int64)) hx hb dD_piecesComeNearer_83 (by decide) ?_
        refine W.lcmp hx hb dD_piecesComeNearer_84 ?_
        refine lv_if_gt (tgt := 102) hx hb dD_piecesComeNearer_85 (by decide) (fun c_84 => ?_) (fun c_84 => ?_)
        · have c_84 := (lg_cmp_gt _ _).mp c_84
          have hf := o_t hf c_84
          refine lv_iconst (v := (1 : Int32)) hx hb dD_piecesComeNearer_102 (by decide) ?_
          refine lv_goto (tgt := 107) hx hb dD_piecesComeNearer_103 (by decide) ?_
          have e9 := Option.some.inj hf
          subst e9
          exact J_107 _ _ ls hP hD hS (lv_sub hl [0, 1, 2, 3, 4, 5, 6, 7, 8] rfl)
        · have c_84 := fun z => c_84 ((lg_cmp_gt _ _).mpr z)
          have hf := o_f hf c_84
          refine lv_lload hx hb dD_piecesComeNearer_88 (lv_at hl 1 rfl) ?_
          refine lv_lconst (v := (0 : Int64)) hx hb dD_piecesComeNearer_90 (by decide) ?_
          refine W.lcmp hx hb dD_piecesComeNearer_91 ?_
          refine lv_if_le (tgt := 106) hx hb dD_piecesComeNearer_92 (by decide) (fun c_91 => ?_) (fun c_91 => ?_)
          · have c_91 := (lg_cmp_le _ _).mp c_91
            have hf := o_t hf c_91
            refine lv_iconst (v := (0 : Int32)) hx hb dD_piecesComeNearer_106 (by decide) ?_
            have e9 := Option.some.inj hf
            subst e9
            exact J_107 _ _ ls hP hD hS (lv_sub hl [0, 1, 2, 3, 4, 5, 6, 7, 8] rfl)
          · have c_91 := fun z => c_91 ((lg_cmp_le _ _).mpr z)
            have hf := o_f hf c_91
            refine lv_lload hx hb dD_piecesComeNearer_95 (lv_at hl 0 rfl) ?_
            refine lv_lconst (v := (0 : Int64)) hx hb dD_piecesComeNearer_97 (by decide) ?_
            refine W.lcmp hx hb dD_piecesComeNearer_98 ?_
            refine lv_if_ge (tgt := 106) hx hb dD_piecesComeNearer_99 (by decide) (fun c_98 => ?_) (fun c_98 => ?_)
            · have c_98 := (lg_cmp_ge _ _).mp c_98
              have hf := o_t hf c_98
              refine lv_iconst (v := (0 : Int32)) hx hb dD_piecesComeNearer_106 (by decide) ?_
              have e9 := Option.some.inj hf
              subst e9
              exact J_107 _ _ ls hP hD hS (lv_sub hl [0, 1, 2, 3, 4, 5, 6, 7, 8] rfl)
            · have c_98 := fun z => c_98 ((lg_cmp_ge _ _).mpr z)
              have hf := o_f hf c_98
              refine lv_iconst (v := (1 : Int32)) hx hb dD_piecesComeNearer_102 (by decide) ?_
              refine lv_goto (tgt := 107) hx hb dD_piecesComeNearer_103 (by decide) ?_
              have e9 := Option.some.inj hf
              subst e9
              exact J_107 _ _ ls hP hD hS (lv_sub hl [0, 1, 2, 3, 4, 5, 6, 7, 8] rfl)
    · have hf := o_f hf c_47
      refine lv_iconst (v := (0 : Int32)) hx hb dD_piecesComeNearer_50 (by decide) ?_
      have e9 := Option.some.inj hf
      subst e9
      subst hQ
      exact W.zret (v := (0 : Int32)) (ty := .boolean) hx hb hr rfl (fun t ht hW => ⟨⟨(0 : Int32), (), rfl, rfl, by rw [ht]; exact hP, va_K.moved hW.alike hK, hD⟩, hS.F ht⟩) hS.2.2 dD_piecesComeNearer_51

def fD_comeNearer_L15 (fu : Nat) (asize : Int32) (axs : Nat → Int32) (ays : Nat → Int32) (aln : Nat → Int32) (asl : Nat → Int32) (bsize : Int32) (bxs : Nat → Int32) (bys : Nat → Int32) (bln : Nat → Int32) (bsl : Nat → Int32) (p2 : Int32) (z2l3 : Int32) (k2 : (Int32) → Option ((Int32))) : Nat → (Int32) → Option ((Int32))
  | 0, _ => none
  | n15 + 1, z15l4 => (if (bsize - (1 : Int32)) ≤ z15l4 then k2 (z2l3 + (1 : Int32)) else ((fD_piecesComeNearer fu asize axs ays aln asl bsize bxs bys bln bsl z2l3 z15l4 p2).bind fun r_32 => (if r_32 = (0 : Int32) then fD_comeNearer_L15 fu asize axs ays aln asl bsize bxs bys bln bsl p2 z2l3 k2 n15 (z15l4 + (1 : Int32)) else some (1 : Int32))))
theorem fD_comeNearer_L15_z (fu : Nat) (asize : Int32) (axs : Nat → Int32) (ays : Nat → Int32) (aln : Nat → Int32) (asl : Nat → Int32) (bsize : Int32) (bxs : Nat → Int32) (bys : Nat → Int32) (bln : Nat → Int32) (bsl : Nat → Int32) (p2 : Int32) (z2l3 : Int32) (k2 : (Int32) → Option ((Int32))) (z15l4 : Int32) : fD_comeNearer_L15 fu asize axs ays aln asl bsize bxs bys bln bsl p2 z2l3 k2 0 z15l4 = none := rfl
theorem fD_comeNearer_L15_s (fu : Nat) (asize : Int32) (axs : Nat → Int32) (ays : Nat → Int32) (aln : Nat → Int32) (asl : Nat → Int32) (bsize : Int32) (bxs : Nat → Int32) (bys : Nat → Int32) (bln : Nat → Int32) (bsl : Nat → Int32) (p2 : Int32) (z2l3 : Int32) (k2 : (Int32) → Option ((Int32))) (z15l4 : Int32) (n15 : Nat) : fD_comeNearer_L15 fu asize axs ays aln asl bsize bxs bys bln bsl p2 z2l3 k2 (n15 + 1) z15l4 = (if (bsize - (1 : Int32)) ≤ z15l4 then k2 (z2l3 + (1 : Int32)) else ((fD_piecesComeNearer fu asize axs ays aln asl bsize bxs bys bln bsl z2l3 z15l4 p2).bind fun r_32 => (if r_32 = (0 : Int32) then fD_comeNearer_L15 fu asize axs ays aln asl bsize bxs bys bln bsl p2 z2l3 k2 n15 (z15l4 + (1 : Int32)) else some (1 : Int32)))) := rfl
def fD_comeNearer_L2 (fu : Nat) (asize : Int32) (axs : Nat → Int32) (ays : Nat → Int32) (aln : Nat → Int32) (asl : Nat → Int32) (bsize : Int32) (bxs : Nat → Int32) (bys : Nat → Int32) (bln : Nat → Int32) (bsl : Nat → Int32) (p2 : Int32) : Nat → (Int32) → Option ((Int32))
  | 0, _ => none
  | n2 + 1, z2l3 => (if (asize - (1 : Int32)) ≤ z2l3 then some (0 : Int32) else fD_comeNearer_L15 fu asize axs ays aln asl bsize bxs bys bln bsl p2 z2l3 (fun a0 => fD_comeNearer_L2 fu asize axs ays aln asl bsize bxs bys bln bsl p2 n2 a0) fu (0 : Int32))
theorem fD_comeNearer_L2_z (fu : Nat) (asize : Int32) (axs : Nat → Int32) (ays : Nat → Int32) (aln : Nat → Int32) (asl : Nat → Int32) (bsize : Int32) (bxs : Nat → Int32) (bys : Nat → Int32) (bln : Nat → Int32) (bsl : Nat → Int32) (p2 : Int32) (z2l3 : Int32) : fD_comeNearer_L2 fu asize axs ays aln asl bsize bxs bys bln bsl p2 0 z2l3 = none := rfl
theorem fD_comeNearer_L2_s (fu : Nat) (asize : Int32) (axs : Nat → Int32) (ays : Nat → Int32) (aln : Nat → Int32) (asl : Nat → Int32) (bsize : Int32) (bxs : Nat → Int32) (bys : Nat → Int32) (bln : Nat → Int32) (bsl : Nat → Int32) (p2 : Int32) (z2l3 : Int32) (n2 : Nat) : fD_comeNearer_L2 fu asize axs ays aln asl bsize bxs bys bln bsl p2 (n2 + 1) z2l3 = (if (asize - (1 : Int32)) ≤ z2l3 then some (0 : Int32) else fD_comeNearer_L15 fu asize axs ays aln asl bsize bxs bys bln bsl p2 z2l3 (fun a0 => fD_comeNearer_L2 fu asize axs ays aln asl bsize bxs bys bln bsl p2 n2 a0) fu (0 : Int32)) := rfl
def fD_comeNearer (fu : Nat) (asize : Int32) (axs : Nat → Int32) (ays : Nat → Int32) (aln : Nat → Int32) (asl : Nat → Int32) (bsize : Int32) (bxs : Nat → Int32) (bys : Nat → Int32) (bln : Nat → Int32) (bsl : Nat → Int32) (p2 : Int32) : Option ((Int32)) := fD_comeNearer_L2 fu asize axs ays aln asl bsize bxs bys bln bsl p2 fu (0 : Int32)
def rmD_comeNearer : Room := { frames := 4, cells := 0, slots := 0, locals := 102 }
set_option maxHeartbeats 4000000 in
set_option maxRecDepth 100000 in
theorem mD_comeNearer (l : Launch) (dC : Nat → ClassId) (dI : Nat → Nat → Nat) (cI cL cT : ClassId) (ad axa aya ala asa bd bxa bya bla bsa : Nat) (sz : Nat) (fu : Nat) (asize : Int32) (axs : Nat → Int32) (ays : Nat → Int32) (aln : Nat → Int32) (asl : Nat → Int32) (bsize : Int32) (bxs : Nat → Int32) (bys : Nat → Int32) (bln : Nat → Int32) (bsl : Nat → Int32) (p2 : Int32) (o0 : Int32) (hf : fD_comeNearer fu asize axs ays aln asl bsize bxs bys bln bsl p2 = some (o0)) : Met l yD_comeNearer wD_comeNearer rmD_comeNearer (kP (dC, dI) [(cI, .int), (cL, .long), (cT, .object "TendonLosses$Tendon")] [.ref ad, .ref bd, .int p2] [(ad, .inr (0, [.ref axa, .ref aya, .ref ala, .ref asa, .int asize])), (axa, .inl (cI, 10, .inl axs)), (aya, .inl (cI, 10, .inl ays)), (ala, .inl (cI, 10, .inl aln)), (asa, .inl (cI, 10, .inl asl)), (bd, .inr (0, [.ref bxa, .ref bya, .ref bla, .ref bsa, .int bsize])), (bxa, .inl (cI, 10, .inl bxs)), (bya, .inl (cI, 10, .inl bys)), (bla, .inl (cI, 10, .inl bln)), (bsa, .inl (cI, 10, .inl bsl))] sz) (va_Qi (fun (r : Int32) (_ : Unit) => r = o0) (kB (dC, dI) [(cI, .int), (cL, .long), (cT, .object "TendonLosses$Tendon")] (va_A [(ad, .inr (0, [.ref axa, .ref aya, .ref ala, .ref asa, .int asize])), (axa, .inl (cI, 10, .inl axs)), (aya, .inl (cI, 10, .inl ays)), (ala, .inl (cI, 10, .inl aln)), (asa, .inl (cI, 10, .inl asl)), (bd, .inr (0, [.ref bxa, .ref bya, .ref bla, .ref bsa, .int bsize])), (bxa, .inl (cI, 10, .inl bxs)), (bya, .inl (cI, 10, .inl bys)), (bla, .inl (cI, 10, .inl bln)), (bsa, .inl (cI, 10, .inl bsl))] sz) [(ad, .inr (0, [.ref axa, .ref aya, .ref ala, .ref asa, .int asize])), (axa, .inl (cI, 10, .inl axs)), (aya, .inl (cI, 10, .inl ays)), (ala, .inl (cI, 10, .inl aln)), (asa, .inl (cI, 10, .inl asl)), (bd, .inr (0, [.ref bxa, .ref bya, .ref bla, .ref bsa, .int bsize])), (bxa, .inl (cI, 10, .inl bxs)), (bya, .inl (cI, 10, .inl bys)), (bla, .inl (cI, 10, .inl bln)), (bsa, .inl (cI, 10, .inl bsl))]) (va_A [(ad, .inr (0, [.ref axa, .ref aya, .ref ala, .ref asa, .int asize])), (axa, .inl (cI, 10, .inl axs)), (aya, .inl (cI, 10, .inl ays)), (ala, .inl (cI, 10, .inl aln)), (asa, .inl (cI, 10, .inl asl)), (bd, .inr (0, [.ref bxa, .ref bya, .ref bla, .ref bsa, .int bsize])), (bxa, .inl (cI, 10, .inl bxs)), (bya, .inl (cI, 10, .inl bys)), (bla, .inl (cI, 10, .inl bln)), (bsa, .inl (cI, 10, .inl bsl))] sz)) 0 0 (va_A [(ad, .inr (0, [.ref axa, .ref aya, .ref ala, .ref asa, .int asize])), (axa, .inl (cI, 10, .inl axs)), (aya, .inl (cI, 10, .inl ays)), (ala, .inl (cI, 10, .inl aln)), (asa, .inl (cI, 10, .inl asl)), (bd, .inr (0, [.ref bxa, .ref bya, .ref bla, .ref bsa, .int bsize])), (bxa, .inl (cI, 10, .inl bxs)), (bya, .inl (cI, 10, .inl bys)), (bla, .inl (cI, 10, .inl bln)), (bsa, .inl (cI, 10, .inl bsl))] sz) := by
  refine Met.ofW (cc := bD_comeNearer) (maxL := 5) (ret := (some .boolean)) (by decide) rfl ?_
  intro p e s m args below meth c s₁ B hml hv
  obtain ⟨rfl, hsz, hP, hK, hD0, hN⟩ := hv
  have hx := B.exec
  have hb := B.bytes
  have hr := B.returns
  have hts : ∀ w ∈ gt, w.before ([.ref ad, .ref bd, .int p2] : List Value).toArray s = true := fun w h => atoms_spec (ws := wD_comeNearer) B.pre w (List.mem_cons_of_mem _ h)
  have hown : s.vm.findClass "TendonLosses$Duct" = some m.cls := findClass_of_methodNamed B.named
  have hlocks := B.notSynchronized
  subst hsz
  have hD := hD0.self (sz := s.heap.size)
  generalize hAe : va_A [(ad, .inr (0, [.ref axa, .ref aya, .ref ala, .ref asa, .int asize])), (axa, .inl (cI, 10, .inl axs)), (aya, .inl (cI, 10, .inl ays)), (ala, .inl (cI, 10, .inl aln)), (asa, .inl (cI, 10, .inl asl)), (bd, .inr (0, [.ref bxa, .ref bya, .ref bla, .ref bsa, .int bsize])), (bxa, .inl (cI, 10, .inl bxs)), (bya, .inl (cI, 10, .inl bys)), (bla, .inl (cI, 10, .inl bln)), (bsa, .inl (cI, 10, .inl bsl))] s.heap.size = A at hD ⊢
  have hA : ∀ q : Nat, s.heap.size ≤ q → A q := fun q h => by rw [← hAe]; exact Or.inr h
  have hS : va_S A s.heap s.heap [] := va_S.rf
  have hP : va_P (dC, dI) vwCl [(ad, .inr (0, [.ref axa, .ref aya, .ref ala, .ref asa, .int asize])), (axa, .inl (cI, 10, .inl axs)), (aya, .inl (cI, 10, .inl ays)), (ala, .inl (cI, 10, .inl aln)), (asa, .inl (cI, 10, .inl asl)), (bd, .inr (0, [.ref bxa, .ref bya, .ref bla, .ref bsa, .int bsize])), (bxa, .inl (cI, 10, .inl bxs)), (bya, .inl (cI, 10, .inl bys)), (bla, .inl (cI, 10, .inl bln)), (bsa, .inl (cI, 10, .inl bsl))] s.heap := hP
  have hl := lv_entry ([.ref ad, .ref bd, .int p2]) (n := 5) (Nat.le_of_ble_eq_true rfl)
  rw [lg_entry_eq]
  generalize (lg_sl ([.ref ad, .ref bd, .int p2]) ++ List.replicate (5 - (lg_sl ([.ref ad, .ref bd, .int p2])).length) Slot.unset).toArray = ls at hl ⊢
  have hl : lv_has ls 5 [(0, .ref ad), (1, .ref bd), (2, .int p2)] := hl
  refine W.nameQ (fun Q hQ => ?_)
  unfold fD_comeNearer at hf
  refine lv_iconst (v := (0 : Int32)) hx hb dD_comeNearer_0 (by decide) ?_
  refine lv_istore_n (lv' := [(3, .int (0 : Int32)), (0, .ref ad), (1, .ref bd), (2, .int p2)]) hx hb dD_comeNearer_1 rfl hl (by decide) rfl (fun ls hl => ?_)
  have L2 : ∀ (n2 : Nat) (z2l3 : Int32) (H : Heap) (locs : List Loc) (ls : Array Slot), va_P (dC, dI) vwCl [(ad, .inr (0, [.ref axa, .ref aya, .ref ala, .ref asa, .int asize])), (axa, .inl (cI, 10, .inl axs)), (aya, .inl (cI, 10, .inl ays)), (ala, .inl (cI, 10, .inl aln)), (asa, .inl (cI, 10, .inl asl)), (bd, .inr (0, [.ref bxa, .ref bya, .ref bla, .ref bsa, .int bsize])), (bxa, .inl (cI, 10, .inl bxs)), (bya, .inl (cI, 10, .inl bys)), (bla, .inl (cI, 10, .inl bln)), (bsa, .inl (cI, 10, .inl bsl))] H → va_D A [(ad, .inr (0, [.ref axa, .ref aya, .ref ala, .ref asa, .int asize])), (axa, .inl (cI, 10, .inl axs)), (aya, .inl (cI, 10, .inl ays)), (ala, .inl (cI, 10, .inl aln)), (asa, .inl (cI, 10, .inl asl)), (bd, .inr (0, [.ref bxa, .ref bya, .ref bla, .ref bsa, .int bsize])), (bxa, .inl (cI, 10, .inl bxs)), (bya, .inl (cI, 10, .inl bys)), (bla, .inl (cI, 10, .inl bln)), (bsa, .inl (cI, 10, .inl bsl))] → va_S A s.heap H locs → lv_has ls 5 [(3, .int z2l3), (0, .ref ad), (1, .ref bd), (2, .int p2)] → fD_comeNearer_L2 fu asize axs ays aln asl bsize bxs bys bln bsl p2 n2 z2l3 = some (o0) → W p l e (headSpec wD_comeNearer rmD_comeNearer).room s m ([.ref ad, .ref bd, .int p2] : List Value).toArray below meth c H locs 0 0 Q (F0 m 2 ls []) := by
    intro n2
    induction n2 with
    | zero =>
      intro z2l3 H locs ls hP hD hS hl hf
      rw [fD_comeNearer_L2_z] at hf
      cases hf
    | succ n2 ih2 =>
      intro z2l3 H locs ls hP hD hS hl hf
      rw [fD_comeNearer_L2_s] at hf
      refine lv_iload_n hx hb dD_comeNearer_2 rfl (lv_at hl 0 rfl) ?_
      refine lv_aload_n hx hb dD_comeNearer_3 rfl (lv_at hl 1 rfl) ?_
      refine va_get (D := (dC, dI)) (ci := 0) (v := .int asize) (C := "TendonLosses$Duct") (T := TT_D) (N := 5) hx hb hts in_D hown hK hP 0 rfl rfl 4 (by decide) (hts _ kw_116) (fun _ h9 => h9) rfl dD_comeNearer_4 ?_
      refine lv_iconst (v := (1 : Int32)) hx hb dD_comeNearer_7 (by decide) ?_
      refine lv_isub hx hb dD_comeNearer_8 ?_
      refine lv_icmp_ge (tgt := 52) hx hb dD_comeNearer_9 (by decide) (fun c_9 => ?_) (fun c_9 => ?_)
      · have hf := o_t hf c_9
        refine lv_iconst (v := (0 : Int32)) hx hb dD_comeNearer_52 (by decide) ?_
        have e9 := Option.some.inj hf
        subst e9
        subst hQ
        exact W.zret (v := (0 : Int32)) (ty := .boolean) hx hb hr rfl (fun t ht hW => ⟨⟨(0 : Int32), (), rfl, rfl, by rw [ht]; exact hP, va_K.moved hW.alike hK, hD⟩, hS.F ht⟩) hS.2.2 dD_comeNearer_53
      · have hf := o_f hf c_9
        refine lv_iconst (v := (0 : Int32)) hx hb dD_comeNearer_12 (by decide) ?_
        refine lv_istore (lv' := [(4, .int (0 : Int32)), (3, .int z2l3), (0, .ref ad), (1, .ref bd), (2, .int p2)]) hx hb dD_comeNearer_13 hl (by decide) rfl (fun ls hl => ?_)
        have L15 : ∀ (n15 : Nat) (z15l4 : Int32) (H : Heap) (locs : List Loc) (ls : Array Slot), va_P (dC, dI) vwCl [(ad, .inr (0, [.ref axa, .ref aya, .ref ala, .ref asa, .int asize])), (axa, .inl (cI, 10, .inl axs)), (aya, .inl (cI, 10, .inl ays)), (ala, .inl (cI, 10, .inl aln)), (asa, .inl (cI, 10, .inl asl)), (bd, .inr (0, [.ref bxa, .ref bya, .ref bla, .ref bsa, .int bsize])), (bxa, .inl (cI, 10, .inl bxs)), (bya, .inl (cI, 10, .inl bys)), (bla, .inl (cI, 10, .inl bln)), (bsa, .inl (cI, 10, .inl bsl))] H → va_D A [(ad, .inr (0, [.ref axa, .ref aya, .ref ala, .ref asa, .int asize])), (axa, .inl (cI, 10, .inl axs)), (aya, .inl (cI, 10, .inl ays)), (ala, .inl (cI, 10, .inl aln)), (asa, .inl (cI, 10, .inl asl)), (bd, .inr (0, [.ref bxa, .ref bya, .ref bla, .ref bsa, .int bsize])), (bxa, .inl (cI, 10, .inl bxs)), (bya, .inl (cI, 10, .inl bys)), (bla, .inl (cI, 10, .inl bln)), (bsa, .inl (cI, 10, .inl bsl))] → va_S A s.heap H locs → lv_has ls 5 [(4, .int z15l4), (3, .int z2l3), (0, .ref ad), (1, .ref bd), (2, .int p2)] → fD_comeNearer_L15 fu asize axs ays aln asl bsize bxs bys bln bsl p2 z2l3 (fun a0 => fD_comeNearer_L2 fu asize axs ays aln asl bsize bxs bys bln bsl p2 n2 a0) n15 z15l4 = some (o0) → W p l e (headSpec wD_comeNearer rmD_comeNearer).room s m ([.ref ad, .ref bd, .int p2] : List Value).toArray below meth c H locs 0 0 Q (F0 m 15 ls []) := by
          intro n15
          induction n15 with
          | zero =>
            intro z15l4 H locs ls hP hD hS hl hf
            rw [fD_comeNearer_L15_z] at hf
            cases hf
          | succ n15 ih15 =>
            intro z15l4 H locs ls hP hD hS hl hf
            rw [fD_comeNearer_L15_s] at hf
            refine lv_iload hx hb dD_comeNearer_15 (lv_at hl 0 rfl) ?_
            refine lv_aload_n hx hb dD_comeNearer_17 rfl (lv_at hl 3 rfl) ?_
            refine va_get (D := (dC, dI)) (ci := 0) (v := .int bsize) (C := "TendonLosses$Duct") (T := TT_D) (N := 5) hx hb hts in_D hown hK hP 5 rfl rfl 4 (by decide) (hts _ kw_116) (fun _ h9 => h9) rfl dD_comeNearer_18 ?_
            refine lv_iconst (v := (1 : Int32)) hx hb dD_comeNearer_21 (by decide) ?_
            refine lv_isub hx hb dD_comeNearer_22 ?_
            refine lv_icmp_ge (tgt := 46) hx hb dD_comeNearer_23 (by decide) (fun c_23 => ?_) (fun c_23 => ?_)
            · have hf := o_t hf c_23
              refine lv_iinc (v := (z2l3 + (1 : Int32))) (lv' := [(3, .int (z2l3 + (1 : Int32))), (4, .int z15l4), (0, .ref ad), (1, .ref bd), (2, .int p2)]) hx hb dD_comeNearer_46 hl (k := 1) rfl rfl (by decide) rfl (fun ls hl => ?_)
              refine lv_goto (tgt := 2) hx hb dD_comeNearer_49 (by decide) ?_
              exact ih2 _ H locs ls hP hD hS (lv_sub hl [0, 2, 3, 4] rfl) hf
            · have hf := o_f hf c_23
              refine lv_aload_n hx hb dD_comeNearer_26 rfl (lv_at hl 2 rfl) ?_
              refine lv_iload_n hx hb dD_comeNearer_27 rfl (lv_at hl 1 rfl) ?_
              refine lv_aload_n hx hb dD_comeNearer_28 rfl (lv_at hl 3 rfl) ?_
              refine lv_iload hx hb dD_comeNearer_29 (lv_at hl 0 rfl) ?_
              refine lv_iload_n hx hb dD_comeNearer_31 rfl (lv_at hl 4 rfl) ?_
              obtain ⟨r_32, q_32, hf⟩ := o_b hf
              have hPc := hP.sub (ws' := [(ad, .inr (0, [.ref axa, .ref aya, .ref ala, .ref asa, .int asize])), (axa, .inl (cI, 10, .inl axs)), (aya, .inl (cI, 10, .inl ays)), (ala, .inl (cI, 10, .inl aln)), (asa, .inl (cI, 10, .inl asl)), (bd, .inr (0, [.ref bxa, .ref bya, .ref bla, .ref bsa, .int bsize])), (bxa, .inl (cI, 10, .inl bxs)), (bya, .inl (cI, 10, .inl bys)), (bla, .inl (cI, 10, .inl bln)), (bsa, .inl (cI, 10, .inl bsl))]) [0, 1, 2, 3, 4, 5, 6, 7, 8, 9] rfl
              have hDc := hD.sub (ws' := [(ad, .inr (0, [.ref axa, .ref aya, .ref ala, .ref asa, .int asize])), (axa, .inl (cI, 10, .inl axs)), (aya, .inl (cI, 10, .inl ays)), (ala, .inl (cI, 10, .inl aln)), (asa, .inl (cI, 10, .inl asl)), (bd, .inr (0, [.ref bxa, .ref bya, .ref bla, .ref bsa, .int bsize])), (bxa, .inl (cI, 10, .inl bxs)), (bya, .inl (cI, 10, .inl bys)), (bla, .inl (cI, 10, .inl bln)), (bsa, .inl (cI, 10, .inl bsl))]) [0, 1, 2, 3, 4, 5, 6, 7, 8, 9] (by decide) rfl
              refine kc_i (va_runS (As := [.ref ad, .int z2l3, .ref bd, .int z15l4, .int p2]) (rest := []) ⟨hx, hb, hml, hown, hts⟩ (mD_piecesComeNearer l dC dI cI cL cT ad axa aya ala asa bd bxa bya bla bsa H.size fu asize axs ays aln asl bsize bxs bys bln bsl z2l3 z15l4 p2 (r_32) q_32) ⟨callB_of 5 hts (gd_code kw_372) rfl rfl rfl (hts _ kw_34) (hts _ kw_370) (by decide +kernel) ⟨Nat.le_of_ble_eq_true rfl, Nat.le_of_ble_eq_true rfl⟩, hts _ kw_371⟩ (kP_S hPc hK hDc hN) rfl rfl hl.1 rfl (lv_room (Nat.le_of_ble_eq_true rfl)) dD_comeNearer_32 ⟨Nat.le_of_ble_eq_true rfl, Nat.le_of_ble_eq_true rfl⟩) hP hD hS hA (wc := [(ad, .inr (0, [.ref axa, .ref aya, .ref ala, .ref asa, .int asize])), (axa, .inl (cI, 10, .inl axs)), (aya, .inl (cI, 10, .inl ays)), (ala, .inl (cI, 10, .inl aln)), (asa, .inl (cI, 10, .inl asl)), (bd, .inr (0, [.ref bxa, .ref bya, .ref bla, .ref bsa, .int bsize])), (bxa, .inl (cI, 10, .inl bxs)), (bya, .inl (cI, 10, .inl bys)), (bla, .inl (cI, 10, .inl bln)), (bsa, .inl (cI, 10, .inl bsl))]) (wr := []) (w1 := [(ad, .inr (0, [.ref axa, .ref aya, .ref ala, .ref asa, .int asize])), (axa, .inl (cI, 10, .inl axs)), (aya, .inl (cI, 10, .inl ays)), (ala, .inl (cI, 10, .inl aln)), (asa, .inl (cI, 10, .inl asl)), (bd, .inr (0, [.ref bxa, .ref bya, .ref bla, .ref bsa, .int bsize])), (bxa, .inl (cI, 10, .inl bxs)), (bya, .inl (cI, 10, .inl bys)), (bla, .inl (cI, 10, .inl bln)), (bsa, .inl (cI, 10, .inl bsl))]) (ws' := [(ad, .inr (0, [.ref axa, .ref aya, .ref ala, .ref asa, .int asize])), (axa, .inl (cI, 10, .inl axs)), (aya, .inl (cI, 10, .inl ays)), (ala, .inl (cI, 10, .inl aln)), (asa, .inl (cI, 10, .inl asl)), (bd, .inr (0, [.ref bxa, .ref bya, .ref bla, .ref bsa, .int bsize])), (bxa, .inl (cI, 10, .inl bxs)), (bya, .inl (cI, 10, .inl bys)), (bla, .inl (cI, 10, .inl bln)), (bsa, .inl (cI, 10, .inl bsl))]) [0, 1, 2, 3, 4, 5, 6, 7, 8, 9] [] [0, 1, 2, 3, 4, 5, 6, 7, 8, 9] rfl rfl (by decide) (by decide) rfl (by decide) rfl (fun H locs hP hD hS => ?_)
              refine lv_if_eq (tgt := 40) hx hb dD_comeNearer_35 (by decide) (fun c_35 => ?_) (fun c_35 => ?_)
              · have hf := o_t hf c_35
                refine lv_iinc (v := (z15l4 + (1 : Int32))) (lv' := [(4, .int (z15l4 + (1 : Int32))), (3, .int z2l3), (0, .ref ad), (1, .ref bd), (2, .int p2)]) hx hb dD_comeNearer_40 hl (k := 0) rfl rfl (by decide) rfl (fun ls hl => ?_)
                refine lv_goto (tgt := 15) hx hb dD_comeNearer_43 (by decide) ?_
                exact ih15 _ H locs ls hP hD hS (lv_sub hl [0, 1, 2, 3, 4] rfl) hf
              · have hf := o_f hf c_35
                refine lv_iconst (v := (1 : Int32)) hx hb dD_comeNearer_38 (by decide) ?_
                have e9 := Option.some.inj hf
                subst e9
                subst hQ
                exact W.zret (v := (1 : Int32)) (ty := .boolean) hx hb hr rfl (fun t ht hW => ⟨⟨(1 : Int32), (), rfl, rfl, by rw [ht]; exact hP, va_K.moved hW.alike hK, hD⟩, hS.F ht⟩) hS.2.2 dD_comeNearer_39
        exact L15 fu _ _ _ ls hP hD hS (lv_sub hl [0, 1, 2, 3, 4] rfl) hf
  exact L2 fu _ _ _ ls hP hD hS (lv_sub hl [0, 1, 2, 3] rfl) hf
