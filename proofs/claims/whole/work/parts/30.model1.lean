def fM_in (fu : Nat) (p0 : Int32) (p1 : Int32) (p2 : Int32) : Option ((Int32)) := (if p0 < p1 then some (0 : Int32) else (if p2 < p0 then some (0 : Int32) else some (1 : Int32)))
def rmM_in : Room := { frames := 0, cells := 0, slots := 0, locals := 0 }
set_option maxHeartbeats 4000000 in
set_option maxRecDepth 100000 in
theorem mM_in (l : Launch) (dC : Nat → ClassId) (dI : Nat → Nat → Nat) (cI cL cT : ClassId) (sz : Nat) (fu : Nat) (p0 : Int32) (p1 : Int32) (p2 : Int32) (o0 : Int32) (hf : fM_in fu p0 p1 p2 = some (o0)) : Met l yM_in wM_in rmM_in (kP (dC, dI) [(cI, .int), (cL, .long), (cT, .object "TendonLosses$Tendon")] [.int p0, .int p1, .int p2] [] sz) (va_Qi (fun (r : Int32) (_ : Unit) => r = o0) (kB (dC, dI) [(cI, .int), (cL, .long), (cT, .object "TendonLosses$Tendon")] (va_A [] sz) []) (va_A [] sz)) 0 0 (va_A [] sz) := by
  refine Met.ofW (cc := bM_in) (maxL := 3) (ret := (some .boolean)) (by decide) rfl ?_
  intro p e s m args below meth c s₁ B hml hv
  obtain ⟨rfl, hsz, hP, hK, hD0, hN⟩ := hv
  have hx := B.exec
  have hb := B.bytes
  have hr := B.returns
  have hts : ∀ w ∈ gt, w.before ([.int p0, .int p1, .int p2] : List Value).toArray s = true := fun w h => atoms_spec (ws := wM_in) B.pre w (List.mem_cons_of_mem _ h)
  have hown : s.vm.findClass "TendonLossesModel" = some m.cls := findClass_of_methodNamed B.named
  have hlocks := B.notSynchronized
  subst hsz
  have hD := hD0.self (sz := s.heap.size)
  generalize hAe : va_A [] s.heap.size = A at hD ⊢
  have hA : ∀ q : Nat, s.heap.size ≤ q → A q := fun q h => by rw [← hAe]; exact Or.inr h
  have hS : va_S A s.heap s.heap [] := va_S.rf
  have hP : va_P (dC, dI) vwCl [] s.heap := hP
  have hl := lv_entry ([.int p0, .int p1, .int p2]) (n := 3) (Nat.le_of_ble_eq_true rfl)
  rw [lg_entry_eq]
  generalize (lg_sl ([.int p0, .int p1, .int p2]) ++ List.replicate (3 - (lg_sl ([.int p0, .int p1, .int p2])).length) Slot.unset).toArray = ls at hl ⊢
  have hl : lv_has ls 3 [(0, .int p0), (1, .int p1), (2, .int p2)] := hl
  refine W.nameQ (fun Q hQ => ?_)
  unfold fM_in at hf
  refine lv_iload_n hx hb dM_in_0 rfl (lv_at hl 0 rfl) ?_
  refine lv_iload_n hx hb dM_in_1 rfl (lv_at hl 1 rfl) ?_
  refine lv_icmp_lt (tgt := 14) hx hb dM_in_2 (by decide) (fun c_2 => ?_) (fun c_2 => ?_)
  · have hf := o_t hf c_2
    refine lv_iconst (v := (0 : Int32)) hx hb dM_in_14 (by decide) ?_
    have e9 := Option.some.inj hf
    subst e9
    subst hQ
    exact W.zret (v := (0 : Int32)) (ty := .boolean) hx hb hr rfl (fun t ht hW => ⟨⟨(0 : Int32), (), rfl, rfl, by rw [ht]; exact hP, va_K.moved hW.alike hK, hD⟩, hS.F ht⟩) hS.2.2 dM_in_15
  · have hf := o_f hf c_2
    refine lv_iload_n hx hb dM_in_5 rfl (lv_at hl 0 rfl) ?_
    refine lv_iload_n hx hb dM_in_6 rfl (lv_at hl 2 rfl) ?_
    refine lv_icmp_gt (tgt := 14) hx hb dM_in_7 (by decide) (fun c_7 => ?_) (fun c_7 => ?_)
    · have hf := o_t hf c_7
      refine lv_iconst (v := (0 : Int32)) hx hb dM_in_14 (by decide) ?_
      have e9 := Option.some.inj hf
      subst e9
      subst hQ
      exact W.zret (v := (0 : Int32)) (ty := .boolean) hx hb hr rfl (fun t ht hW => ⟨⟨(0 : Int32), (), rfl, rfl, by rw [ht]; exact hP, va_K.moved hW.alike hK, hD⟩, hS.F ht⟩) hS.2.2 dM_in_15
    · have hf := o_f hf c_7
      refine lv_iconst (v := (1 : Int32)) hx hb dM_in_10 (by decide) ?_
      refine lv_goto (tgt := 15) hx hb dM_in_11 (by decide) ?_
      have e9 := Option.some.inj hf
      subst e9
      subst hQ
      exact W.zret (v := (1 : Int32)) (ty := .boolean) hx hb hr rfl (fun t ht hW => ⟨⟨(1 : Int32), (), rfl, rfl, by rw [ht]; exact hP, va_K.moved hW.alike hK, hD⟩, hS.F ht⟩) hS.2.2 dM_in_15

def fM_isTendon (fu : Nat) (thr : Int32) (ten : Int32) (loc : Int32) (rou : Int32) (mum : Int32) (sli : Int32) (sha : Int32) (fad : Int32) (day : Int32) (mar : Nat → Int32) (msi : Nat → Int32) (mst : Nat → Int32) (men : Nat → Int32) (mpu : Nat → Int32) (mxs : Nat → Int32) (mys : Nat → Int32) (mfo : Nat → Int64) (mor : Nat → Int32) (mo1 : Nat → Int64) (mo2 : Nat → Int64) (p1 : Int32) : Option ((Int32)) := ((fM_in fu p1 (0 : Int32) (ten - (1 : Int32))).bind fun r_8 => (if r_8 &&& 1 = r_8 then some r_8 else none))
def rmM_isTendon : Room := { frames := 1, cells := 0, slots := 0, locals := 22 }
set_option maxHeartbeats 4000000 in
set_option maxRecDepth 100000 in
theorem mM_isTendon (l : Launch) (dC : Nat → ClassId) (dI : Nat → Nat → Nat) (cI cL cT : ClassId) (mo a_ar a_si a_st a_en a_pu a_xs a_ys a_fo a_or a_o1 a_o2 : Nat) (sz : Nat) (fu : Nat) (thr : Int32) (ten : Int32) (loc : Int32) (rou : Int32) (mum : Int32) (sli : Int32) (sha : Int32) (fad : Int32) (day : Int32) (mar : Nat → Int32) (msi : Nat → Int32) (mst : Nat → Int32) (men : Nat → Int32) (mpu : Nat → Int32) (mxs : Nat → Int32) (mys : Nat → Int32) (mfo : Nat → Int64) (mor : Nat → Int32) (mo1 : Nat → Int64) (mo2 : Nat → Int64) (p1 : Int32) (o0 : Int32) (hf : fM_isTendon fu thr ten loc rou mum sli sha fad day mar msi mst men mpu mxs mys mfo mor mo1 mo2 p1 = some (o0)) : Met l yM_isTendon wM_isTendon rmM_isTendon (kP (dC, dI) [(cI, .int), (cL, .long), (cT, .object "TendonLosses$Tendon")] [.ref mo, .int p1] [(mo, .inr (4, [.int thr, .int ten, .ref a_ar, .ref a_si, .ref a_st, .ref a_en, .ref a_pu, .ref a_xs, .ref a_ys, .ref a_fo, .ref a_or, .int loc, .int rou, .int mum, .int sli, .int sha, .int fad, .int day, .ref a_o1, .ref a_o2])), (a_ar, .inl (cI, 6, .inl mar)), (a_si, .inl (cI, 6, .inl msi)), (a_st, .inl (cI, 6, .inl mst)), (a_en, .inl (cI, 6, .inl men)), (a_pu, .inl (cI, 6, .inl mpu)), (a_xs, .inl (cI, 60, .inl mxs)), (a_ys, .inl (cI, 60, .inl mys)), (a_fo, .inl (cL, 60, .inr (.inl mfo))), (a_or, .inl (cI, 6, .inl mor)), (a_o1, .inl (cL, 10, .inr (.inl mo1))), (a_o2, .inl (cL, 10, .inr (.inl mo2)))] sz) (va_Qi (fun (r : Int32) (_ : Unit) => r = o0) (kB (dC, dI) [(cI, .int), (cL, .long), (cT, .object "TendonLosses$Tendon")] (va_A [(mo, .inr (4, [.int thr, .int ten, .ref a_ar, .ref a_si, .ref a_st, .ref a_en, .ref a_pu, .ref a_xs, .ref a_ys, .ref a_fo, .ref a_or, .int loc, .int rou, .int mum, .int sli, .int sha, .int fad, .int day, .ref a_o1, .ref a_o2])), (a_ar, .inl (cI, 6, .inl mar)), (a_si, .inl (cI, 6, .inl msi)), (a_st, .inl (cI, 6, .inl mst)), (a_en, .inl (cI, 6, .inl men)), (a_pu, .inl (cI, 6, .inl mpu)), (a_xs, .inl (cI, 60, .inl mxs)), (a_ys, .inl (cI, 60, .inl mys)), (a_fo, .inl (cL, 60, .inr (.inl mfo))), (a_or, .inl (cI, 6, .inl mor)), (a_o1, .inl (cL, 10, .inr (.inl mo1))), (a_o2, .inl (cL, 10, .inr (.inl mo2)))] sz) [(mo, .inr (4, [.int thr, .int ten, .ref a_ar, .ref a_si, .ref a_st, .ref a_en, .ref a_pu, .ref a_xs, .ref a_ys, .ref a_fo, .ref a_or, .int loc, .int rou, .int mum, .int sli, .int sha, .int fad, .int day, .ref a_o1, .ref a_o2])), (a_ar, .inl (cI, 6, .inl mar)), (a_si, .inl (cI, 6, .inl msi)), (a_st, .inl (cI, 6, .inl mst)), (a_en, .inl (cI, 6, .inl men)), (a_pu, .inl (cI, 6, .inl mpu)), (a_xs, .inl (cI, 60, .inl mxs)), (a_ys, .inl (cI, 60, .inl mys)), (a_fo, .inl (cL, 60, .inr (.inl mfo))), (a_or, .inl (cI, 6, .inl mor)), (a_o1, .inl (cL, 10, .inr (.inl mo1))), (a_o2, .inl (cL, 10, .inr (.inl mo2)))]) (va_A [(mo, .inr (4, [.int thr, .int ten, .ref a_ar, .ref a_si, .ref a_st, .ref a_en, .ref a_pu, .ref a_xs, .ref a_ys, .ref a_fo, .ref a_or, .int loc, .int rou, .int mum, .int sli, .int sha, .int fad, .int day, .ref a_o1, .ref a_o2])), (a_ar, .inl (cI, 6, .inl mar)), (a_si, .inl (cI, 6, .inl msi)), (a_st, .inl (cI, 6, .inl mst)), (a_en, .inl (cI, 6, .inl men)), (a_pu, .inl (cI, 6, .inl mpu)), (a_xs, .inl (cI, 60, .inl mxs)), (a_ys, .inl (cI, 60, .inl mys)), (a_fo, .inl (cL, 60, .inr (.inl mfo))), (a_or, .inl (cI, 6, .inl mor)), (a_o1, .inl (cL, 10, .inr (.inl mo1))), (a_o2, .inl (cL, 10, .inr (.inl mo2)))] sz)) 0 0 (va_A [(mo, .inr (4, [.int thr, .int ten, .ref a_ar, .ref a_si, .ref a_st, .ref a_en, .ref a_pu, .ref a_xs, .ref a_ys, .ref a_fo, .ref a_or, .int loc, .int rou, .int mum, .int sli, .int sha, .int fad, .int day, .ref a_o1, .ref a_o2])), (a_ar, .inl (cI, 6, .inl mar)), (a_si, .inl (cI, 6, .inl msi)), (a_st, .inl (cI, 6, .inl mst)), (a_en, .inl (cI, 6, .inl men)), (a_pu, .inl (cI, 6, .inl mpu)), (a_xs, .inl (cI, 60, .inl mxs)), (a_ys, .inl (cI, 60, .inl mys)), (a_fo, .inl (cL, 60, .inr (.inl mfo))), (a_or, .inl (cI, 6, .inl mor)), (a_o1, .inl (cL, 10, .inr (.inl mo1))), (a_o2, .inl (cL, 10, .inr (.inl mo2)))] sz) := by
  refine Met.ofW (cc := bM_isTendon) (maxL := 2) (ret := (some .boolean)) (by decide) rfl ?_
  intro p e s m args below meth c s₁ B hml hv
  obtain ⟨rfl, hsz, hP, hK, hD0, hN⟩ := hv
  have hx := B.exec
  have hb := B.bytes
  have hr := B.returns
  have hts : ∀ w ∈ gt, w.before ([.ref mo, .int p1] : List Value).toArray s = true := fun w h => atoms_spec (ws := wM_isTendon) B.pre w (List.mem_cons_of_mem _ h)
  have hown : s.vm.findClass "TendonLossesModel" = some m.cls := findClass_of_methodNamed B.named
  have hlocks := B.notSynchronized
  subst hsz
  have hD := hD0.self (sz := s.heap.size)
  generalize hAe : va_A [(mo, .inr (4, [.int thr, .int ten, .ref a_ar, .ref a_si, .ref a_st, .ref a_en, .ref a_pu, .ref a_xs, .ref a_ys, .ref a_fo, .ref a_or, .int loc, .int rou, .int mum, .int sli, .int sha, .int fad, .int day, .ref a_o1, .ref a_o2])), (a_ar, .inl (cI, 6, .inl mar)), (a_si, .inl (cI, 6, .inl msi)), (a_st, .inl (cI, 6, .inl mst)), (a_en, .inl (cI, 6, .inl men)), (a_pu, .inl (cI, 6, .inl mpu)), (a_xs, .inl (cI, 60, .inl mxs)), (a_ys, .inl (cI, 60, .inl mys)), (a_fo, .inl (cL, 60, .inr (.inl mfo))), (a_or, .inl (cI, 6, .inl mor)), (a_o1, .inl (cL, 10, .inr (.inl mo1))), (a_o2, .inl (cL, 10, .inr (.inl mo2)))] s.heap.size = A at hD ⊢
  have hA : ∀ q : Nat, s.heap.size ≤ q → A q := fun q h => by rw [← hAe]; exact Or.inr h
  have hS : va_S A s.heap s.heap [] := va_S.rf
  have hP : va_P (dC, dI) vwCl [(mo, .inr (4, [.int thr, .int ten, .ref a_ar, .ref a_si, .ref a_st, .ref a_en, .ref a_pu, .ref a_xs, .ref a_ys, .ref a_fo, .ref a_or, .int loc, .int rou, .int mum, .int sli, .int sha, .int fad, .int day, .ref a_o1, .ref a_o2])), (a_ar, .inl (cI, 6, .inl mar)), (a_si, .inl (cI, 6, .inl msi)), (a_st, .inl (cI, 6, .inl mst)), (a_en, .inl (cI, 6, .inl men)), (a_pu, .inl (cI, 6, .inl mpu)), (a_xs, .inl (cI, 60, .inl mxs)), (a_ys, .inl (cI, 60, .inl mys)), (a_fo, .inl (cL, 60, .inr (.inl mfo))), (a_or, .inl (cI, 6, .inl mor)), (a_o1, .inl (cL, 10, .inr (.inl mo1))), (a_o2, .inl (cL, 10, .inr (.inl mo2)))] s.heap := hP
  have hl := lv_entry ([.ref mo, .int p1]) (n := 2) (Nat.le_of_ble_eq_true rfl)
  rw [lg_entry_eq]
  generalize (lg_sl ([.ref mo, .int p1]) ++ List.replicate (2 - (lg_sl ([.ref mo, .int p1])).length) Slot.unset).toArray = ls at hl ⊢
  have hl : lv_has ls 2 [(0, .ref mo), (1, .int p1)] := hl
  refine W.nameQ (fun Q hQ => ?_)
  unfold fM_isTendon at hf
  refine lv_iload_n hx hb dM_isTendon_0 rfl (lv_at hl 1 rfl) ?_
  refine lv_iconst (v := (0 : Int32)) hx hb dM_isTendon_1 (by decide) ?_
  refine lv_aload_n hx hb dM_isTendon_2 rfl (lv_at hl 0 rfl) ?_
  refine va_get (D := (dC, dI)) (ci := 4) (v := .int ten) (C := "TendonLossesModel") (T := TT_M) (N := 20) hx hb hts in_M hown hK hP 0 rfl rfl 1 (by decide) (hts _ kw_423) (fun _ h9 => h9) rfl dM_isTendon_3 ?_
  refine lv_iconst (v := (1 : Int32)) hx hb dM_isTendon_6 (by decide) ?_
  refine lv_isub hx hb dM_isTendon_7 ?_
  obtain ⟨r_8, q_8, hf⟩ := o_b hf
  have hPc := hP.sub (ws' := []) [] rfl
  have hDc := hD.sub (ws' := []) [] (by decide) rfl
  refine kc_i (va_runS (As := [.int p1, .int (0 : Int32), .int (ten - (1 : Int32))]) (rest := []) ⟨hx, hb, hml, hown, hts⟩ (mM_in l dC dI cI cL cT  s.heap.size fu p1 (0 : Int32) (ten - (1 : Int32)) (r_8) q_8) ⟨callB_of 3 hts (gd_code kw_489) rfl rfl rfl (hts _ kw_32) (hts _ kw_487) (by decide +kernel) ⟨Nat.le_of_ble_eq_true rfl, Nat.le_of_ble_eq_true rfl⟩, hts _ kw_488⟩ (kP_S hPc hK hDc hN) rfl rfl hl.1 rfl (lv_room (Nat.le_of_ble_eq_true rfl)) dM_isTendon_8 ⟨Nat.le_of_ble_eq_true rfl, Nat.le_of_ble_eq_true rfl⟩) hP hD hS hA (wc := []) (wr := [(mo, .inr (4, [.int thr, .int ten, .ref a_ar, .ref a_si, .ref a_st, .ref a_en, .ref a_pu, .ref a_xs, .ref a_ys, .ref a_fo, .ref a_or, .int loc, .int rou, .int mum, .int sli, .int sha, .int fad, .int day, .ref a_o1, .ref a_o2])), (a_ar, .inl (cI, 6, .inl mar)), (a_si, .inl (cI, 6, .inl msi)), (a_st, .inl (cI, 6, .inl mst)), (a_en, .inl (cI, 6, .inl men)), (a_pu, .inl (cI, 6, .inl mpu)), (a_xs, .inl (cI, 60, .inl mxs)), (a_ys, .inl (cI, 60, .inl mys)), (a_fo, .inl (cL, 60, .inr (.inl mfo))), (a_or, .inl (cI, 6, .inl mor)), (a_o1, .inl (cL, 10, .inr (.inl mo1))), (a_o2, .inl (cL, 10, .inr (.inl mo2)))]) (w1 := []) (ws' := [(mo, .inr (4, [.int thr, .int ten, .ref a_ar, .ref a_si, .ref a_st, .ref a_en, .ref a_pu, .ref a_xs, .ref a_ys, .ref a_fo, .ref a_or, .int loc, .int rou, .int mum, .int sli, .int sha, .int fad, .int day, .ref a_o1, .ref a_o2])), (a_ar, .inl (cI, 6, .inl mar)), (a_si, .inl (cI, 6, .inl msi)), (a_st, .inl (cI, 6, .inl mst)), (a_en, .inl (cI, 6, .inl men)), (a_pu, .inl (cI, 6, .inl mpu)), (a_xs, .inl (cI, 60, .inl mxs)), (a_ys, .inl (cI, 60, .inl mys)), (a_fo, .inl (cL, 60, .inr (.inl mfo))), (a_or, .inl (cI, 6, .inl mor)), (a_o1, .inl (cL, 10, .inr (.inl mo1))), (a_o2, .inl (cL, 10, .inr (.inl mo2)))]) [] [0, 1, 2, 3, 4, 5, 6, 7, 8, 9, 10, 11] [0, 1, 2, 3, 4, 5, 6, 7, 8, 9, 10, 11] rfl rfl (by decide) (by decide) rfl (by decide) rfl (fun H locs hP hD hS => ?_)
  obtain ⟨h_11, hf⟩ := o_c hf
  have e9 := Option.some.inj hf
  subst e9
  subst hQ
  exact W.zret (v := r_8) (ty := .boolean) hx hb hr (congrArg Value.int h_11) (fun t ht hW => ⟨⟨r_8, (), rfl, rfl, by rw [ht]; exact hP, va_K.moved hW.alike hK, hD⟩, hS.F ht⟩) hS.2.2 dM_isTendon_11

def fM_hasForces (fu : Nat) (thr : Int32) (ten : Int32) (loc : Int32) (rou : Int32) (mum : Int32) (sli : Int32) (sha : Int32) (fad : Int32) (day : Int32) (mar : Nat → Int32) (msi : Nat → Int32) (mst : Nat → Int32) (men : Nat → Int32) (mpu : Nat → Int32) (mxs : Nat → Int32) (mys : Nat → Int32) (mfo : Nat → Int64) (mor : Nat → Int32) (mo1 : Nat → Int64) (mo2 : Nat → Int64) (p1 : Int32) : Option ((Int32)) := ((fM_isTendon fu thr ten loc rou mum sli sha fad day mar msi mst men mpu mxs mys mfo mor mo1 mo2 p1).bind fun r_2 => (if r_2 = (0 : Int32) then some (0 : Int32) else (if ¬ (p1 < 0 ∨ 6 ≤ (p1).toNatClampNeg) then (if (mst (p1).toNatClampNeg) ≤ (0 : Int32) then some (0 : Int32) else some (1 : Int32)) else none)))
def rmM_hasForces : Room := { frames := 2, cells := 0, slots := 0, locals := 43 }
set_option maxHeartbeats 4000000 in
set_option maxRecDepth 100000 in
theorem mM_hasForces (l : Launch) (dC : Nat → ClassId) (dI : Nat → Nat → Nat) (cI cL cT : ClassId) (mo a_ar a_si a_st a_en a_pu a_xs a_ys a_fo a_or a_o1 a_o2 : Nat) (sz : Nat) (fu : Nat) (thr : Int32) (ten : Int32) (loc : Int32) (rou : Int32) (mum : Int32) (sli : Int32) (sha : Int32) (fad : Int32) (day : Int32) (mar : Nat → Int32) (msi : Nat → Int32) (mst : Nat → Int32) (men : Nat → Int32) (mpu : Nat → Int32) (mxs : Nat → Int32) (mys : Nat → Int32) (mfo : Nat → Int64) (mor : Nat → Int32) (mo1 : Nat → Int64) (mo2 : Nat → Int64) (p1 : Int32) (o0 : Int32) (hf : fM_hasForces fu thr ten loc rou mum sli sha fad day mar msi mst men mpu mxs mys mfo mor mo1 mo2 p1 = some (o0)) : Met l yM_hasForces wM_hasForces rmM_hasForces (kP (dC, dI) [(cI, .int), (cL, .long), (cT, .object "TendonLosses$Tendon")] [.ref mo, .int p1] [(mo, .inr (4, [.int thr, .int ten, .ref a_ar, .ref a_si, .ref a_st, .ref a_en, .ref a_pu, .ref a_xs, .ref a_ys, .ref a_fo, .ref a_or, .int loc, .int rou, .int mum, .int sli, .int sha, .int fad, .int day, .ref a_o1, .ref a_o2])), (a_ar, .inl (cI, 6, .inl mar)), (a_si, .inl (cI, 6, .inl msi)), (a_st, .inl (cI, 6, .inl mst)), (a_en, .inl (cI, 6, .inl men)), (a_pu, .inl (cI, 6, .inl mpu)), (a_xs, .inl (cI, 60, .inl mxs)), (a_ys, .inl (cI, 60, .inl mys)), (a_fo, .inl (cL, 60, .inr (.inl mfo))), (a_or, .inl (cI, 6, .inl mor)), (a_o1, .inl (cL, 10, .inr (.inl mo1))), (a_o2, .inl (cL, 10, .inr (.inl mo2)))] sz) (va_Qi (fun (r : Int32) (_ : Unit) => r = o0) (kB (dC, dI) [(cI, .int), (cL, .long), (cT, .object "TendonLosses$Tendon")] (va_A [(mo, .inr (4, [.int thr, .int ten, .ref a_ar, .ref a_si, .ref a_st, .ref a_en, .ref a_pu, .ref a_xs, .ref a_ys, .ref a_fo, .ref a_or, .int loc, .int rou, .int mum, .int sli, .int sha, .int fad, .int day, .ref a_o1, .ref a_o2])), (a_ar, .inl (cI, 6, .inl mar)), (a_si, .inl (cI, 6, .inl msi)), (a_st, .inl (cI, 6, .inl mst)), (a_en, .inl (cI, 6, .inl men)), (a_pu, .inl (cI, 6, .inl mpu)), (a_xs, .inl (cI, 60, .inl mxs)), (a_ys, .inl (cI, 60, .inl mys)), (a_fo, .inl (cL, 60, .inr (.inl mfo))), (a_or, .inl (cI, 6, .inl mor)), (a_o1, .inl (cL, 10, .inr (.inl mo1))), (a_o2, .inl (cL, 10, .inr (.inl mo2)))] sz) [(mo, .inr (4, [.int thr, .int ten, .ref a_ar, .ref a_si, .ref a_st, .ref a_en, .ref a_pu, .ref a_xs, .ref a_ys, .ref a_fo, .ref a_or, .int loc, .int rou, .int mum, .int sli, .int sha, .int fad, .int day, .ref a_o1, .ref a_o2])), (a_ar, .inl (cI, 6, .inl mar)), (a_si, .inl (cI, 6, .inl msi)), (a_st, .inl (cI, 6, .inl mst)), (a_en, .inl (cI, 6, .inl men)), (a_pu, .inl (cI, 6, .inl mpu)), (a_xs, .inl (cI, 60, .inl mxs)), (a_ys, .inl (cI, 60, .inl mys)), (a_fo, .inl (cL, 60, .inr (.inl mfo))), (a_or, .inl (cI, 6, .inl mor)), (a_o1, .inl (cL, 10, .inr (.inl mo1))), (a_o2, .inl (cL, 10, .inr (.inl mo2)))]) (va_A [(mo, .inr (4, [.int thr, .int ten, .ref a_ar, .ref a_si, .ref a_st, .ref a_en, .ref a_pu, .ref a_xs, .ref a_ys, .ref a_fo, .ref a_or, .int loc, .int rou, .int mum, .int sli, .int sha, .int fad, .int day, .ref a_o1, .ref a_o2])), (a_ar, .inl (cI, 6, .inl mar)), (a_si, .inl (cI, 6, .inl msi)), (a_st, .inl (cI, 6, .inl mst)), (a_en, .inl (cI, 6, .inl men)), (a_pu, .inl (cI, 6, .inl mpu)), (a_xs, .inl (cI, 60, .inl mxs)), (a_ys, .inl (cI, 60, .inl mys)), (a_fo, .inl (cL, 60, .inr (.inl mfo))), (a_or, .inl (cI, 6, .inl mor)), (a_o1, .inl (cL, 10, .inr (.inl mo1))), (a_o2, .inl (cL, 10, .inr (.inl mo2)))] sz)) 0 0 (va_A [(mo, .inr (4, [.int thr, .int ten, .ref a_ar, .ref a_si, .ref a_st, .ref a_en, .ref a_pu, .ref a_xs, .ref a_ys, .ref a_fo, .ref a_or, .int loc, .int rou, .int mum, .int sli, .int sha, .int fad, .int day, .ref a_o1, .ref a_o2])), (a_ar, .inl (cI, 6, .inl mar)), (a_si, .inl (cI, 6, .inl msi)), (a_st, .inl (cI, 6, .inl mst)), (a_en, .inl (cI, 6, .inl men)), (a_pu, .inl (cI, 6, .inl mpu)), (a_xs, .inl (cI, 60, .inl mxs)), (a_ys, .inl (cI, 60, .inl mys)), (a_fo, .inl (cL, 60, .inr (.inl mfo))), (a_or, .inl (cI, 6, .inl mor)), (a_o1, .inl (cL, 10, .inr (.inl mo1))), (a_o2, .inl (cL, 10, .inr (.inl mo2)))] sz) := by
  refine Met.ofW (cc := bM_hasForces) (maxL := 2) (ret := (some .boolean)) (by decide) rfl ?_
  intro p e s m args below meth c s₁ B hml hv
  obtain ⟨rfl, hsz, hP, hK, hD0, hN⟩ := hv
  have hx := B.exec
  have hb := B.bytes
  have hr := B.returns
  have hts : ∀ w ∈ gt, w.before ([.ref mo, .int p1] : List Value).toArray s = true := fun w h => atoms_spec (ws := wM_hasForces) B.pre w (List.mem_cons_of_mem _ h)
  have hown : s.vm.findClass "TendonLossesModel" = some m.cls := findClass_of_methodNamed B.named
  have hlocks := B.notSynchronized
  subst hsz
  have hD := hD0.self (sz := s.heap.size)
  generalize hAe : va_A [(mo, .inr (4, [.int thr, .int ten, .ref a_ar, .ref a_si, .ref a_st, .ref a_en, .ref a_pu, .ref a_xs, .ref a_ys, .ref a_fo, .ref a_or, .int loc, .int rou, .int mum, .int sli, .int sha, .int fad, .int day, .ref a_o1, .ref a_o2])), (a_ar, .inl (cI, 6, .inl mar)), (a_si, .inl (cI, 6, .inl msi)), (a_st, .inl (cI, 6, .inl mst)), (a_en, .inl (cI, 6, .inl men)), (a_pu, .inl (cI, 6, .inl mpu)), (a_xs, .inl (cI, 60, .inl mxs)), (a_ys, .inl (cI, 60, .inl mys)), (a_fo, .inl (cL, 60, .inr (.inl mfo))), (a_or, .inl (cI, 6, .inl mor)), (a_o1, .inl (cL, 10, .inr (.inl mo1))), (a_o2, .inl (cL, 10, .inr (.inl mo2)))] s.heap.size = A at hD ⊢
  have hA : ∀ q : Nat, s.heap.size ≤ q → A q := fun q h => by rw [← hAe]; exact Or.inr h
  have hS : va_S A s.heap s.heap [] := va_S.rf
  have hP : va_P (dC, dI) vwCl [(mo, .inr (4, [.int thr, .int ten, .ref a_ar, .ref a_si, .ref a_st, .ref a_en, .ref a_pu, .ref a_xs, .ref a_ys, .ref a_fo, .ref a_or, .int loc, .int rou, .int mum, .int sli, .int sha, .int fad, .int day, .ref a_o1, .ref a_o2])), (a_ar, .inl (cI, 6, .inl mar)), (a_si, .inl (cI, 6, .inl msi)), (a_st, .inl (cI, 6, .inl mst)), (a_en, .inl (cI, 6, .inl men)), (a_pu, .inl (cI, 6, .inl mpu)), (a_xs, .inl (cI, 60, .inl mxs)), (a_ys, .inl (cI, 60, .inl mys)), (a_fo, .inl (cL, 60, .inr (.inl mfo))), (a_or, .inl (cI, 6, .inl mor)), (a_o1, .inl (cL, 10, .inr (.inl mo1))), (a_o2, .inl (cL, 10, .inr (.inl mo2)))] s.heap := hP
  have hl := lv_entry ([.ref mo, .int p1]) (n := 2) (Nat.le_of_ble_eq_true rfl)
  rw [lg_entry_eq]
  generalize (lg_sl ([.ref mo, .int p1]) ++ List.replicate (2 - (lg_sl ([.ref mo, .int p1])).length) Slot.unset).toArray = ls at hl ⊢
  have hl : lv_has ls 2 [(0, .ref mo), (1, .int p1)] := hl
  refine W.nameQ (fun Q hQ => ?_)
  unfold fM_hasForces at hf
  refine lv_aload_n hx hb dM_hasForces_0 rfl (lv_at hl 0 rfl) ?_
  refine lv_iload_n hx hb dM_hasForces_1 rfl (lv_at hl 1 rfl) ?_
  obtain ⟨r_2, q_2, hf⟩ := o_b hf
  have hPc := hP.sub (ws' := [(mo, .inr (4, [.int thr, .int ten, .ref a_ar, .ref a_si, .ref a_st, .ref a_en, .ref a_pu, .ref a_xs, .ref a_ys, .ref a_fo, .ref a_or, .int loc, .int rou, .int mum, .int sli, .int sha, .int fad, .int day, .ref a_o1, .ref a_o2])), (a_ar, .inl (cI, 6, .inl mar)), (a_si, .inl (cI, 6, .inl msi)), (a_st, .inl (cI, 6, .inl mst)), (a_en, .inl (cI, 6, .inl men)), (a_pu, .inl (cI, 6, .inl mpu)), (a_xs, .inl (cI, 60, .inl mxs)), (a_ys, .inl (cI, 60, .inl mys)), (a_fo, .inl (cL, 60, .inr (.inl mfo))), (a_or, .inl (cI, 6, .inl mor)), (a_o1, .inl (cL, 10, .inr (.inl mo1))), (a_o2, .inl (cL, 10, .inr (.inl mo2)))]) [0, 1, 2, 3, 4, 5, 6, 7, 8, 9, 10, 11] rfl
  have hDc := hD.sub (ws' := [(mo, .inr (4, [.int thr, .int ten, .ref a_ar, .ref a_si, .ref a_st, .ref a_en, .ref a_pu, .ref a_xs, .ref a_ys, .ref a_fo, .ref a_or, .int loc, .int rou, .int mum, .int sli, .int sha, .int fad, .int day, .ref a_o1, .ref a_o2])), (a_ar, .inl (cI, 6, .inl mar)), (a_si, .inl (cI, 6, .inl msi)), (a_st, .inl (cI, 6, .inl mst)), (a_en, .inl (cI, 6, .inl men)), (a_pu, .inl (cI, 6, .inl mpu)), (a_xs, .inl (cI, 60, .inl mxs)), (a_ys, .inl (cI, 60, .inl mys)), (a_fo, .inl (cL, 60, .inr (.inl mfo))), (a_or, .inl (cI, 6, .inl mor)), (a_o1, .inl (cL, 10, .inr (.inl mo1))), (a_o2, .inl (cL, 10, .inr (.inl mo2)))]) [0, 1, 2, 3, 4, 5, 6, 7, 8, 9, 10, 11] (by decide) rfl
  refine kc_i (va_runV (As := [.int p1]) (rest := []) ⟨hx, hb, hml, hown, hts⟩ (mM_isTendon l dC dI cI cL cT mo a_ar a_si a_st a_en a_pu a_xs a_ys a_fo a_or a_o1 a_o2 s.heap.size fu thr ten loc rou mum sli sha fad day mar msi mst men mpu mxs mys mfo mor mo1 mo2 p1 (r_2) q_2) ⟨callB_of 1 hts (gd_code kw_497) rfl rfl rfl (hts _ kw_32) (hts _ kw_494) (by decide +kernel) ⟨Nat.le_of_ble_eq_true rfl, Nat.le_of_ble_eq_true rfl⟩, hts _ kw_496, hts _ kw_14⟩ (kP_V hPc hK hDc hN (va_recv hK hPc (ci := 4) (q0 := 0) rfl rfl)) rfl rfl hl.1 rfl (lv_room (Nat.le_of_ble_eq_true rfl)) dM_hasForces_2 ⟨Nat.le_of_ble_eq_true rfl, Nat.le_of_ble_eq_true rfl⟩) hP hD hS hA (wc := [(mo, .inr (4, [.int thr, .int ten, .ref a_ar, .ref a_si, .ref a_st, .ref a_en, .ref a_pu, .ref a_xs, .ref a_ys, .ref a_fo, .ref a_or, .int loc, .int rou, .int mum, .int sli, .int sha, .int fad, .int day, .ref a_o1, .ref a_o2])), (a_ar, .inl (cI, 6, .inl mar)), (a_si, .inl (cI, 6, .inl msi)), (a_st, .inl (cI, 6, .inl mst)), (a_en, .inl (cI, 6, .inl men)), (a_pu, .inl (cI, 6, .inl mpu)), (a_xs, .inl (cI, 60, .inl mxs)), (a_ys, .inl (cI, 60, .inl mys)), (a_fo, .inl (cL, 60, .inr (.inl mfo))), (a_or, .inl (cI, 6, .inl mor)), (a_o1, .inl (cL, 10, .inr (.inl mo1))), (a_o2, .inl (cL, 10, .inr (.inl mo2)))]) (wr := []) (w1 := [(mo, .inr (4, [.int thr, .int ten, .ref a_ar, .ref a_si, .ref a_st, .ref a_en, .ref a_pu, .ref a_xs, .ref a_ys, .ref a_fo, .ref a_or, .int loc, .int rou, .int mum, .int sli, .int sha, .int fad, .int day, .ref a_o1, .ref a_o2])), (a_ar, .inl (cI, 6, .inl mar)), (a_si, .inl (cI, 6, .inl msi)), (a_st, .inl (cI, 6, .inl mst)), (a_en, .inl (cI, 6, .inl men)), (a_pu, .inl (cI, 6, .inl mpu)), (a_xs, .inl (cI, 60, .inl mxs)), (a_ys, .inl (cI, 60, .inl mys)), (a_fo, .inl (cL, 60, .inr (.inl mfo))), (a_or, .inl (cI, 6, .inl mor)), (a_o1, .inl (cL, 10, .inr (.inl mo1))), (a_o2, .inl (cL, 10, .inr (.inl mo2)))]) (ws' := [(mo, .inr (4, [.int thr, .int ten, .ref a_ar, .ref a_si, .ref a_st, .ref a_en, .ref a_pu, .ref a_xs, .ref a_ys, .ref a_fo, .ref a_or, .int loc, .int rou, .int mum, .int sli, .int sha, .int fad, .int day, .ref a_o1, .ref a_o2])), (a_ar, .inl (cI, 6, .inl mar)), (a_si, .inl (cI, 6, .inl msi)), (a_st, .inl (cI, 6, .inl mst)), (a_en, .inl (cI, 6, .inl men)), (a_pu, .inl (cI, 6, .inl mpu)), (a_xs, .inl (cI, 60, .inl mxs)), (a_ys, .inl (cI, 60, .inl mys)), (a_fo, .inl (cL, 60, .inr (.inl mfo))), (a_or, .inl (cI, 6, .inl mor)), (a_o1, .inl (cL, 10, .inr (.inl mo1))), (a_o2, .inl (cL, 10, .inr (.inl mo2)))]) [0, 1, 2, 3, 4, 5, 6, 7, 8, 9, 10, 11] [] [0, 1, 2, 3, 4, 5, 6, 7, 8, 9, 10, 11] rfl rfl (by decide) (by decide) rfl (by decide) rfl (fun H locs hP hD hS => ?_)
  refine lv_if_eq (tgt := 21) hx hb dM_hasForces_5 (by decide) (fun c_5 => ?_) (fun c_5 => ?_)
  · have hf := o_t hf c_5
    refine lv_iconst (v := (0 : Int32)) hx hb dM_hasForces_21 (by decide) ?_
    have e9 := Option.some.inj hf
    subst e9
    subst hQ
    exact W.zret (v := (0 : Int32)) (ty := .boolean) hx hb hr rfl (fun t ht hW => ⟨⟨(0 : Int32), (), rfl, rfl, by rw [ht]; exact hP, va_K.moved hW.alike hK, hD⟩, hS.F ht⟩) hS.2.2 dM_hasForces_22
  · have hf := o_f hf c_5
    refine lv_aload_n hx hb dM_hasForces_8 rfl (lv_at hl 0 rfl) ?_
    refine va_get (D := (dC, dI)) (ci := 4) (v := .ref a_st) (C := "TendonLossesModel") (T := TT_M) (N := 20) hx hb hts in_M hown hK hP 0 rfl rfl 4 (by decide) (hts _ kw_426) (fun _ h9 => h9) rfl dM_hasForces_9 ?_
    refine lv_iload_n hx hb dM_hasForces_12 rfl (lv_at hl 1 rfl) ?_
    obtain ⟨h_13, hf⟩ := o_c hf
    refine va_iald hx hb hK hP 3 0 rfl rfl h_13 dM_hasForces_13 ?_
    refine lv_if_le (tgt := 21) hx hb dM_hasForces_14 (by decide) (fun c_14 => ?_) (fun c_14 => ?_)
    · have hf := o_t hf c_14
      refine lv_iconst (v := (0 : Int32)) hx hb dM_hasForces_21 (by decide) ?_
      have e9 := Option.some.inj hf
      subst e9
      subst hQ
      exact W.zret (v := (0 : Int32)) (ty := .boolean) hx hb hr rfl (fun t ht hW => ⟨⟨(0 : Int32), (), rfl, rfl, by rw [ht]; exact hP, va_K.moved hW.alike hK, hD⟩, hS.F ht⟩) hS.2.2 dM_hasForces_22
    · have hf := o_f hf c_14
      refine lv_iconst (v := (1 : Int32)) hx hb dM_hasForces_17 (by decide) ?_
      refine lv_goto (tgt := 22) hx hb dM_hasForces_18 (by decide) ?_
      have e9 := Option.some.inj hf
      subst e9
      subst hQ
      exact W.zret (v := (1 : Int32)) (ty := .boolean) hx hb hr rfl (fun t ht hW => ⟨⟨(1 : Int32), (), rfl, rfl, by rw [ht]; exact hP, va_K.moved hW.alike hK, hD⟩, hS.F ht⟩) hS.2.2 dM_hasForces_22

def fM_tendon (fu : Nat) (thr : Int32) (ten : Int32) (loc : Int32) (rou : Int32) (mum : Int32) (sli : Int32) (sha : Int32) (fad : Int32) (day : Int32) (mar : Nat → Int32) (msi : Nat → Int32) (mst : Nat → Int32) (men : Nat → Int32) (mpu : Nat → Int32) (mxs : Nat → Int32) (mys : Nat → Int32) (mfo : Nat → Int64) (mor : Nat → Int32) (mo1 : Nat → Int64) (mo2 : Nat → Int64) (p1 : Int32) : Option ((Int32) × (Int32) × (Nat → Int32)) := ((fM_in fu p1 (50 : Int32) (10000 : Int32)).bind fun r_6 => (if r_6 = (0 : Int32) then some ((-1 : Int32), ten, mar) else (if ten = (6 : Int32) then some ((-1 : Int32), ten, mar) else (if ¬ (ten < 0 ∨ 6 ≤ (ten).toNatClampNeg) then some (((ten + (1 : Int32)) - (1 : Int32)), (ten + (1 : Int32)), (upd mar (ten).toNatClampNeg p1)) else none))))
def rmM_tendon : Room := { frames := 1, cells := 0, slots := 0, locals := 22 }
set_option maxHeartbeats 4000000 in
set_option maxRecDepth 100000 in
theorem mM_tendon (l : Launch) (dC : Nat → ClassId) (dI : Nat → Nat → Nat) (cI cL cT : ClassId) (mo a_ar a_si a_st a_en a_pu a_xs a_ys a_fo a_or a_o1 a_o2 : Nat) (sz : Nat) (fu : Nat) (thr : Int32) (ten : Int32) (loc : Int32) (rou : Int32) (mum : Int32) (sli : Int32) (sha : Int32) (fad : Int32) (day : Int32) (mar : Nat → Int32) (msi : Nat → Int32) (mst : Nat → Int32) (men : Nat → Int32) (mpu : Nat → Int32) (mxs : Nat → Int32) (mys : Nat → Int32) (mfo : Nat → Int64) (mor : Nat → Int32) (mo1 : Nat → Int64) (mo2 : Nat → Int64) (p1 : Int32) (o0 : Int32) (o1 : Int32) (o2 : Nat → Int32) (hf : fM_tendon fu thr ten loc rou mum sli sha fad day mar msi mst men mpu mxs mys mfo mor mo1 mo2 p1 = some (o0, o1, o2)) : Met l yM_tendon wM_tendon rmM_tendon (kP (dC, dI) [(cI, .int), (cL, .long), (cT, .object "TendonLosses$Tendon")] [.ref mo, .int p1] [(mo, .inr (4, [.int thr, .int ten, .ref a_ar, .ref a_si, .ref a_st, .ref a_en, .ref a_pu, .ref a_xs, .ref a_ys, .ref a_fo, .ref a_or, .int loc, .int rou, .int mum, .int sli, .int sha, .int fad, .int day, .ref a_o1, .ref a_o2])), (a_ar, .inl (cI, 6, .inl mar)), (a_si, .inl (cI, 6, .inl msi)), (a_st, .inl (cI, 6, .inl mst)), (a_en, .inl (cI, 6, .inl men)), (a_pu, .inl (cI, 6, .inl mpu)), (a_xs, .inl (cI, 60, .inl mxs)), (a_ys, .inl (cI, 60, .inl mys)), (a_fo, .inl (cL, 60, .inr (.inl mfo))), (a_or, .inl (cI, 6, .inl mor)), (a_o1, .inl (cL, 10, .inr (.inl mo1))), (a_o2, .inl (cL, 10, .inr (.inl mo2)))] sz) (va_Qi (fun (r : Int32) (_ : Unit) => r = o0) (kB (dC, dI) [(cI, .int), (cL, .long), (cT, .object "TendonLosses$Tendon")] (va_A [(mo, .inr (4, [.int thr, .int ten, .ref a_ar, .ref a_si, .ref a_st, .ref a_en, .ref a_pu, .ref a_xs, .ref a_ys, .ref a_fo, .ref a_or, .int loc, .int rou, .int mum, .int sli, .int sha, .int fad, .int day, .ref a_o1, .ref a_o2])), (a_ar, .inl (cI, 6, .inl mar)), (a_si, .inl (cI, 6, .inl msi)), (a_st, .inl (cI, 6, .inl mst)), (a_en, .inl (cI, 6, .inl men)), (a_pu, .inl (cI, 6, .inl mpu)), (a_xs, .inl (cI, 60, .inl mxs)), (a_ys, .inl (cI, 60, .inl mys)), (a_fo, .inl (cL, 60, .inr (.inl mfo))), (a_or, .inl (cI, 6, .inl mor)), (a_o1, .inl (cL, 10, .inr (.inl mo1))), (a_o2, .inl (cL, 10, .inr (.inl mo2)))] sz) [(mo, .inr (4, [.int thr, .int o1, .ref a_ar, .ref a_si, .ref a_st, .ref a_en, .ref a_pu, .ref a_xs, .ref a_ys, .ref a_fo, .ref a_or, .int loc, .int rou, .int mum, .int sli, .int sha, .int fad, .int day, .ref a_o1, .ref a_o2])), (a_ar, .inl (cI, 6, .inl o2)), (a_si, .inl (cI, 6, .inl msi)), (a_st, .inl (cI, 6, .inl mst)), (a_en, .inl (cI, 6, .inl men)), (a_pu, .inl (cI, 6, .inl mpu)), (a_xs, .inl (cI, 60, .inl mxs)), (a_ys, .inl (cI, 60, .inl mys)), (a_fo, .inl (cL, 60, .inr (.inl mfo))), (a_or, .inl (cI, 6, .inl mor)), (a_o1, .inl (cL, 10, .inr (.inl mo1))), (a_o2, .inl (cL, 10, .inr (.inl mo2)))]) (va_A [(mo, .inr (4, [.int thr, .int ten, .ref a_ar, .ref a_si, .ref a_st, .ref a_en, .ref a_pu, .ref a_xs, .ref a_ys, .ref a_fo, .ref a_or, .int loc, .int rou, .int mum, .int sli, .int sha, .int fad, .int day, .ref a_o1, .ref a_o2])), (a_ar, .inl (cI, 6, .inl mar)), (a_si, .inl (cI, 6, .inl msi)), (a_st, .inl (cI, 6, .inl mst)), (a_en, .inl (cI, 6, .inl men)), (a_pu, .inl (cI, 6, .inl mpu)), (a_xs, .inl (cI, 60, .inl mxs)), (a_ys, .inl (cI, 60, .inl mys)), (a_fo, .inl (cL, 60, .inr (.inl mfo))), (a_or, .inl (cI, 6, .inl mor)), (a_o1, .inl (cL, 10, .inr (.inl mo1))), (a_o2, .inl (cL, 10, .inr (.inl mo2)))] sz)) 0 0 (va_A [(mo, .inr (4, [.int thr, .int ten, .ref a_ar, .ref a_si, .ref a_st, .ref a_en, .ref a_pu, .ref a_xs, .ref a_ys, .ref a_fo, .ref a_or, .int loc, .int rou, .int mum, .int sli, .int sha, .int fad, .int day, .ref a_o1, .ref a_o2])), (a_ar, .inl (cI, 6, .inl mar)), (a_si, .inl (cI, 6, .inl msi)), (a_st, .inl (cI, 6, .inl mst)), (a_en, .inl (cI, 6, .inl men)), (a_pu, .inl (cI, 6, .inl mpu)), (a_xs, .inl (cI, 60, .inl mxs)), (a_ys, .inl (cI, 60, .inl mys)), (a_fo, .inl (cL, 60, .inr (.inl mfo))), (a_or, .inl (cI, 6, .inl mor)), (a_o1, .inl (cL, 10, .inr (.inl mo1))), (a_o2, .inl (cL, 10, .inr (.inl mo2)))] sz) := by
  refine Met.ofW (cc := bM_tendon) (maxL := 2) (ret := (some .int)) (by decide) rfl ?_
  intro p e s m args below meth c s₁ B hml hv
  obtain ⟨rfl, hsz, hP, hK, hD0, hN⟩ := hv
  have hx := B.exec
  have hb := B.bytes
  have hr := B.returns
  have hts : ∀ w ∈ gt, w.before ([.ref mo, .int p1] : List Value).toArray s = true := fun w h => atoms_spec (ws := wM_tendon) B.pre w (List.mem_cons_of_mem _ h)
  have hown : s.vm.findClass "TendonLossesModel" = some m.cls := findClass_of_methodNamed B.named
  have hlocks := B.notSynchronized
  subst hsz
  have hD := hD0.self (sz := s.heap.size)
  generalize hAe : va_A [(mo, .inr (4, [.int thr, .int ten, .ref a_ar, .ref a_si, .ref a_st, .ref a_en, .ref a_pu, .ref a_xs, .ref a_ys, .ref a_fo, .ref a_or, .int loc, .int rou, .int mum, .int sli, .int sha, .int fad, .int day, .ref a_o1, .ref a_o2])), (a_ar, .inl (cI, 6, .inl mar)), (a_si, .inl (cI, 6, .inl msi)), (a_st, .inl (cI, 6, .inl mst)), (a_en, .inl (cI, 6, .inl men)), (a_pu, .inl (cI, 6, .inl mpu)), (a_xs, .inl (cI, 60, .inl mxs)), (a_ys, .inl (cI, 60, .inl mys)), (a_fo, .inl (cL, 60, .inr (.inl mfo))), (a_or, .inl (cI, 6, .inl mor)), (a_o1, .inl (cL, 10, .inr (.inl mo1))), (a_o2, .inl (cL, 10, .inr (.inl mo2)))] s.heap.size = A at hD ⊢
  have hA : ∀ q : Nat, s.heap.size ≤ q → A q := fun q h => by rw [← hAe]; exact Or.inr h
  have hS : va_S A s.heap s.heap [] := va_S.rf
  have hP : va_P (dC, dI) vwCl [(mo, .inr (4, [.int thr, .int ten, .ref a_ar, .ref a_si, .ref a_st, .ref a_en, .ref a_pu, .ref a_xs, .ref a_ys, .ref a_fo, .ref a_or, .int loc, .int rou, .int mum, .int sli, .int sha, .int fad, .int day, .ref a_o1, .ref a_o2])), (a_ar, .inl (cI, 6, .inl mar)), (a_si, .inl (cI, 6, .inl msi)), (a_st, .inl (cI, 6, .inl mst)), (a_en, .inl (cI, 6, .inl men)), (a_pu, .inl (cI, 6, .inl mpu)), (a_xs, .inl (cI, 60, .inl mxs)), (a_ys, .inl (cI, 60, .inl mys)), (a_fo, .inl (cL, 60, .inr (.inl mfo))), (a_or, .inl (cI, 6, .inl mor)), (a_o1, .inl (cL, 10, .inr (.inl mo1))), (a_o2, .inl (cL, 10, .inr (.inl mo2)))] s.heap := hP
  have hl := lv_entry ([.ref mo, .int p1]) (n := 2) (Nat.le_of_ble_eq_true rfl)
  rw [lg_entry_eq]
  generalize (lg_sl ([.ref mo, .int p1]) ++ List.replicate (2 - (lg_sl ([.ref mo, .int p1])).length) Slot.unset).toArray = ls at hl ⊢
  have hl : lv_has ls 2 [(0, .ref mo), (1, .int p1)] := hl
  refine W.nameQ (fun Q hQ => ?_)
  unfold fM_tendon at hf
  refine lv_iload_n hx hb dM_tendon_0 rfl (lv_at hl 1 rfl) ?_
  refine lv_bipush (v := (50 : Int32)) hx hb dM_tendon_1 (by decide) ?_
  refine lv_sipush (v := (10000 : Int32)) hx hb dM_tendon_3 (by decide) ?_
  obtain ⟨r_6, q_6, hf⟩ := o_b hf
  have hPc := hP.sub (ws' := []) [] rfl
  have hDc := hD.sub (ws' := []) [] (by decide) rfl
  refine kc_i (va_runS (As := [.int p1, .int (50 : Int32), .int (10000 : Int32)]) (rest := []) ⟨hx, hb, hml, hown, hts⟩ (mM_in l dC dI cI cL cT  s.heap.size fu p1 (50 : Int32) (10000 : Int32) (r_6) q_6) ⟨callB_of 3 hts (gd_code kw_489) rfl rfl rfl (hts _ kw_32) (hts _ kw_487) (by decide +kernel) ⟨Nat.le_of_ble_eq_true rfl, Nat.le_of_ble_eq_true rfl⟩, hts _ kw_488⟩ (kP_S hPc hK hDc hN) rfl rfl hl.1 rfl (lv_room (Nat.le_of_ble_eq_true rfl)) dM_tendon_6 ⟨Nat.le_of_ble_eq_true rfl, Nat.le_of_ble_eq_true rfl⟩) hP hD hS hA (wc := []) (wr := [(mo, .inr (4, [.int thr, .int ten, .ref a_ar, .ref a_si, .ref a_st, .ref a_en, .ref a_pu, .ref a_xs, .ref a_ys, .ref a_fo, .ref a_or, .int loc, .int rou, .int mum, .int sli, .int sha, .int fad, .int day, .ref a_o1, .ref a_o2])), (a_ar, .inl (cI, 6, .inl mar)), (a_si, .inl (cI, 6, .inl msi)), (a_st, .inl (cI, 6, .inl mst)), (a_en, .inl (cI, 6, .inl men)), (a_pu, .inl (cI, 6, .inl mpu)), (a_xs, .inl (cI, 60, .inl mxs)), (a_ys, .inl (cI, 60, .inl mys)), (a_fo, .inl (cL, 60, .inr (.inl mfo))), (a_or, .inl (cI, 6, .inl mor)), (a_o1, .inl (cL, 10, .inr (.inl mo1))), (a_o2, .inl (cL, 10, .inr (.inl mo2)))]) (w1 := []) (ws' := [(mo, .inr (4, [.int thr, .int ten, .ref a_ar, .ref a_si, .ref a_st, .ref a_en, .ref a_pu, .ref a_xs, .ref a_ys, .ref a_fo, .ref a_or, .int loc, .int rou, .int mum, .int sli, .int sha, .int fad, .int day, .ref a_o1, .ref a_o2])), (a_ar, .inl (cI, 6, .inl mar)), (a_si, .inl (cI, 6, .inl msi)), (a_st, .inl (cI, 6, .inl mst)), (a_en, .inl (cI, 6, .inl men)), (a_pu, .inl (cI, 6, .inl mpu)), (a_xs, .inl (cI, 60, .inl mxs)), (a_ys, .inl (cI, 60, .inl mys)), (a_fo, .inl (cL, 60, .inr (.inl mfo))), (a_or, .inl (cI, 6, .inl mor)), (a_o1, .inl (cL, 10, .inr (.inl mo1))), (a_o2, .inl (cL, 10, .inr (.inl mo2)))]) [] [0, 1, 2, 3, 4, 5, 6, 7, 8, 9, 10, 11] [0, 1, 2, 3, 4, 5, 6, 7, 8, 9, 10, 11] rfl rfl (by decide) (by decide) rfl (by decide) rfl (fun H locs hP hD hS => ?_)
  refine lv_if_eq (tgt := 21) hx hb dM_tendon_9 (by decide) (fun c_9 => ?_) (fun c_9 => ?_)
  · have hf := o_t hf c_9
    refine lv_iconst (v := (-1 : Int32)) hx hb dM_tendon_21 (by decide) ?_
    have k0 := Option.some.inj hf
    obtain ⟨e0, k1⟩ := Prod.mk.inj k0
    obtain ⟨e1, k2⟩ := Prod.mk.inj k1
    subst e0
    subst e1
    subst k2
    subst hQ
    exact W.iret (v := (-1 : Int32)) hx hb hr (fun t ht hW => ⟨⟨(-1 : Int32), (), rfl, rfl, by rw [ht]; exact hP, va_K.moved hW.alike hK, hD⟩, hS.F ht⟩) hS.2.2 dM_tendon_22
  · have hf := o_f hf c_9
    refine lv_aload_n hx hb dM_tendon_12 rfl (lv_at hl 0 rfl) ?_
    refine va_get (D := (dC, dI)) (ci := 4) (v := .int ten) (C := "TendonLossesModel") (T := TT_M) (N := 20) hx hb hts in_M hown hK hP 0 rfl rfl 1 (by decide) (hts _ kw_423) (fun _ h9 => h9) rfl dM_tendon_13 ?_
    refine lv_bipush (v := (6 : Int32)) hx hb dM_tendon_16 (by decide) ?_
    refine lv_icmp_ne (tgt := 23) hx hb dM_tendon_18 (by decide) (fun c_18 => ?_) (fun c_18 => ?_)
    · have hf := o_f hf c_18
      refine lv_aload_n hx hb dM_tendon_23 rfl (lv_at hl 0 rfl) ?_
      refine va_get (D := (dC, dI)) (ci := 4) (v := .ref a_ar) (C := "TendonLossesModel") (T := TT_M) (N := 20) hx hb hts in_M hown hK hP 0 rfl rfl 2 (by decide) (hts _ kw_424) (fun _ h9 => h9) rfl dM_tendon_24 ?_
      refine lv_aload_n hx hb dM_tendon_27 rfl (lv_at hl 0 rfl) ?_
      refine va_get (D := (dC, dI)) (ci := 4) (v := .int ten) (C := "TendonLossesModel") (T := TT_M) (N := 20) hx hb hts in_M hown hK hP 0 rfl rfl 1 (by decide) (hts _ kw_423) (fun _ h9 => h9) rfl dM_tendon_28 ?_
      refine lv_iload_n hx hb dM_tendon_31 rfl (lv_at hl 1 rfl) ?_
      obtain ⟨h_32, hf⟩ := o_c hf
      refine va_iast hx hb hK hP hD hS 1 0 rfl rfl h_32 dM_tendon_32 (fun H locs hP hD hS => ?_)
      have hP : va_P (dC, dI) vwCl [(mo, .inr (4, [.int thr, .int ten, .ref a_ar, .ref a_si, .ref a_st, .ref a_en, .ref a_pu, .ref a_xs, .ref a_ys, .ref a_fo, .ref a_or, .int loc, .int rou, .int mum, .int sli, .int sha, .int fad, .int day, .ref a_o1, .ref a_o2])), (a_ar, .inl (cI, 6, .inl (upd mar (ten).toNatClampNeg p1))), (a_si, .inl (cI, 6, .inl msi)), (a_st, .inl (cI, 6, .inl mst)), (a_en, .inl (cI, 6, .inl men)), (a_pu, .inl (cI, 6, .inl mpu)), (a_xs, .inl (cI, 60, .inl mxs)), (a_ys, .inl (cI, 60, .inl mys)), (a_fo, .inl (cL, 60, .inr (.inl mfo))), (a_or, .inl (cI, 6, .inl mor)), (a_o1, .inl (cL, 10, .inr (.inl mo1))), (a_o2, .inl (cL, 10, .inr (.inl mo2)))] H := hP
      have hD : va_D A [(mo, .inr (4, [.int thr, .int ten, .ref a_ar, .ref a_si, .ref a_st, .ref a_en, .ref a_pu, .ref a_xs, .ref a_ys, .ref a_fo, .ref a_or, .int loc, .int rou, .int mum, .int sli, .int sha, .int fad, .int day, .ref a_o1, .ref a_o2])), (a_ar, .inl (cI, 6, .inl (upd mar (ten).toNatClampNeg p1))), (a_si, .inl (cI, 6, .inl msi)), (a_st, .inl (cI, 6, .inl mst)), (a_en, .inl (cI, 6, .inl men)), (a_pu, .inl (cI, 6, .inl mpu)), (a_xs, .inl (cI, 60, .inl mxs)), (a_ys, .inl (cI, 60, .inl mys)), (a_fo, .inl (cL, 60, .inr (.inl mfo))), (a_or, .inl (cI, 6, .inl mor)), (a_o1, .inl (cL, 10, .inr (.inl mo1))), (a_o2, .inl (cL, 10, .inr (.inl mo2)))] := hD
      refine lv_aload_n hx hb dM_tendon_33 rfl (lv_at hl 0 rfl) ?_
      refine lv_dup hx hb dM_tendon_34 rfl ?_
      refine va_get (D := (dC, dI)) (ci := 4) (v := .int ten) (C := "TendonLossesModel") (T := TT_M) (N := 20) hx hb hts in_M hown hK hP 0 rfl rfl 1 (by decide) (hts _ kw_423) (fun _ h9 => h9) rfl dM_tendon_35 ?_
      refine lv_iconst (v := (1 : Int32)) hx hb dM_tendon_38 (by decide) ?_
      refine lv_iadd hx hb dM_tendon_39 ?_
      refine va_put (D := (dC, dI)) (ci := 4) (v := .int (ten + (1 : Int32))) (ty := (.int)) (C := "TendonLossesModel") (T := TT_M) (N := 20) hx hb hts in_M ty_M ty_M_ok nn_M hown hK hP hD hS 0 rfl rfl 1 (by decide) (hts _ kw_423) (fun _ h9 => h9) rfl (by decide +kernel) rfl rfl (Nat.le_of_ble_eq_true rfl) dM_tendon_40 (fun H locs hP hD hS => ?_)
      have hP : va_P (dC, dI) vwCl [(mo, .inr (4, [.int thr, .int (ten + (1 : Int32)), .ref a_ar, .ref a_si, .ref a_st, .ref a_en, .ref a_pu, .ref a_xs, .ref a_ys, .ref a_fo, .ref a_or, .int loc, .int rou, .int mum, .int sli, .int sha, .int fad, .int day, .ref a_o1, .ref a_o2])), (a_ar, .inl (cI, 6, .inl (upd mar (ten).toNatClampNeg p1))), (a_si, .inl (cI, 6, .inl msi)), (a_st, .inl (cI, 6, .inl mst)), (a_en, .inl (cI, 6, .inl men)), (a_pu, .inl (cI, 6, .inl mpu)), (a_xs, .inl (cI, 60, .inl mxs)), (a_ys, .inl (cI, 60, .inl mys)), (a_fo, .inl (cL, 60, .inr (.inl mfo))), (a_or, .inl (cI, 6, .inl mor)), (a_o1, .inl (cL, 10, .inr (.inl mo1))), (a_o2, .inl (cL, 10, .inr (.inl mo2)))] H := hP
      have hD : va_D A [(mo, .inr (4, [.int thr, .int (ten + (1 : Int32)), .ref a_ar, .ref a_si, .ref a_st, .ref a_en, .ref a_pu, .ref a_xs, .ref a_ys, .ref a_fo, .ref a_or, .int loc, .int rou, .int mum, .int sli, .int sha, .int fad, .int day, .ref a_o1, .ref a_o2])), (a_ar, .inl (cI, 6, .inl (upd mar (ten).toNatClampNeg p1))), (a_si, .inl (cI, 6, .inl msi)), (a_st, .inl (cI, 6, .inl mst)), (a_en, .inl (cI, 6, .inl men)), (a_pu, .inl (cI, 6, .inl mpu)), (a_xs, .inl (cI, 60, .inl mxs)), (a_ys, .inl (cI, 60, .inl mys)), (a_fo, .inl (cL, 60, .inr (.inl mfo))), (a_or, .inl (cI, 6, .inl mor)), (a_o1, .inl (cL, 10, .inr (.inl mo1))), (a_o2, .inl (cL, 10, .inr (.inl mo2)))] := hD
      refine lv_aload_n hx hb dM_tendon_43 rfl (lv_at hl 0 rfl) ?_
      refine va_get (D := (dC, dI)) (ci := 4) (v := .int (ten + (1 : Int32))) (C := "TendonLossesModel") (T := TT_M) (N := 20) hx hb hts in_M hown hK hP 0 rfl rfl 1 (by decide) (hts _ kw_423) (fun _ h9 => h9) rfl dM_tendon_44 ?_
      refine lv_iconst (v := (1 : Int32)) hx hb dM_tendon_47 (by decide) ?_
      refine lv_isub hx hb dM_tendon_48 ?_
      have k0 := Option.some.inj hf
      obtain ⟨e0, k1⟩ := Prod.mk.inj k0
      obtain ⟨e1, k2⟩ := Prod.mk.inj k1
      subst e0
      subst e1
      subst k2
      subst hQ
      exact W.iret (v := ((ten + (1 : Int32)) - (1 : Int32))) hx hb hr (fun t ht hW => ⟨⟨((ten + (1 : Int32)) - (1 : Int32)), (), rfl, rfl, by rw [ht]; exact hP, va_K.moved hW.alike hK, hD⟩, hS.F ht⟩) hS.2.2 dM_tendon_49
    · have hf := o_t hf c_18
      refine lv_iconst (v := (-1 : Int32)) hx hb dM_tendon_21 (by decide) ?_
      have k0 := Option.some.inj hf
      obtain ⟨e0, k1⟩ := Prod.mk.inj k0
      obtain ⟨e1, k2⟩ := Prod.mk.inj k1
      subst e0
      subst e1
      subst k2
      subst hQ
      exact W.iret (v := (-1 : Int32)) hx hb hr (fun t ht hW => ⟨⟨(-1 : Int32), (), rfl, rfl, by rw [ht]; exact hP, va_K.moved hW.alike hK, hD⟩, hS.F ht⟩) hS.2.2 dM_tendon_22

def fM_point (fu : Nat) (thr : Int32) (ten : Int32) (loc : Int32) (rou : Int32) (mum : Int32) (sli : Int32) (sha : Int32) (fad : Int32) (day : Int32) (mar : Nat → Int32) (msi : Nat → Int32) (mst : Nat → Int32) (men : Nat → Int32) (mpu : Nat → Int32) (mxs : Nat → Int32) (mys : Nat → Int32) (mfo : Nat → Int64) (mor : Nat → Int32) (mo1 : Nat → Int64) (mo2 : Nat → Int64) (p1 : Int32) (p2 : Int32) (p3 : Int32) : Option ((Int32) × (Nat → Int32) × (Nat → Int32) × (Nat → Int32)) := ((fM_isTendon fu thr ten loc rou mum sli sha fad day mar msi mst men mpu mxs mys mfo mor mo1 mo2 p1).bind fun r_2 => (if r_2 = (0 : Int32) then some ((-1 : Int32), msi, mxs, mys) else (if ¬ (p1 < 0 ∨ 6 ≤ (p1).toNatClampNeg) then (if (0 : Int32) < (mst (p1).toNatClampNeg) then some ((-1 : Int32), msi, mxs, mys) else (if ¬ (p1 < 0 ∨ 6 ≤ (p1).toNatClampNeg) then (if (msi (p1).toNatClampNeg) = (10 : Int32) then some ((-1 : Int32), msi, mxs, mys) else (if ¬ (p1 < 0 ∨ 6 ≤ (p1).toNatClampNeg) then ((fM_in fu p2 (0 : Int32) (100000 : Int32)).bind fun r_42 => (if r_42 = (0 : Int32) then some ((-1 : Int32), msi, mxs, mys) else ((fM_in fu p3 (-3000 : Int32) (3000 : Int32)).bind fun r_55 => (if r_55 = (0 : Int32) then some ((-1 : Int32), msi, mxs, mys) else (if (msi (p1).toNatClampNeg) ≤ (0 : Int32) then (if ¬ ((((10 : Int32) * p1) + (msi (p1).toNatClampNeg)) < 0 ∨ 60 ≤ ((((10 : Int32) * p1) + (msi (p1).toNatClampNeg))).toNatClampNeg) then (if ¬ ((((10 : Int32) * p1) + (msi (p1).toNatClampNeg)) < 0 ∨ 60 ≤ ((((10 : Int32) * p1) + (msi (p1).toNatClampNeg))).toNatClampNeg) then (if ¬ (p1 < 0 ∨ 6 ≤ (p1).toNatClampNeg) then (if ¬ (p1 < 0 ∨ 6 ≤ (p1).toNatClampNeg) then (if ¬ (p1 < 0 ∨ 6 ≤ (p1).toNatClampNeg) then some (((upd msi (p1).toNatClampNeg ((msi (p1).toNatClampNeg) + (1 : Int32))) (p1).toNatClampNeg), (upd msi (p1).toNatClampNeg ((msi (p1).toNatClampNeg) + (1 : Int32))), (upd mxs ((((10 : Int32) * p1) + (msi (p1).toNatClampNeg))).toNatClampNeg p2), (upd mys ((((10 : Int32) * p1) + (msi (p1).toNatClampNeg))).toNatClampNeg p3)) else none) else none) else none) else none) else none) else (if ¬ (((((10 : Int32) * p1) + (msi (p1).toNatClampNeg)) - (1 : Int32)) < 0 ∨ 60 ≤ (((((10 : Int32) * p1) + (msi (p1).toNatClampNeg)) - (1 : Int32))).toNatClampNeg) then (if (100 : Int32) ≤ (p2 - (mxs (((((10 : Int32) * p1) + (msi (p1).toNatClampNeg)) - (1 : Int32))).toNatClampNeg)) then (if ¬ ((((10 : Int32) * p1) + (msi (p1).toNatClampNeg)) < 0 ∨ 60 ≤ ((((10 : Int32) * p1) + (msi (p1).toNatClampNeg))).toNatClampNeg) then (if ¬ ((((10 : Int32) * p1) + (msi (p1).toNatClampNeg)) < 0 ∨ 60 ≤ ((((10 : Int32) * p1) + (msi (p1).toNatClampNeg))).toNatClampNeg) then (if ¬ (p1 < 0 ∨ 6 ≤ (p1).toNatClampNeg) then (if ¬ (p1 < 0 ∨ 6 ≤ (p1).toNatClampNeg) then (if ¬ (p1 < 0 ∨ 6 ≤ (p1).toNatClampNeg) then some (((upd msi (p1).toNatClampNeg ((msi (p1).toNatClampNeg) + (1 : Int32))) (p1).toNatClampNeg), (upd msi (p1).toNatClampNeg ((msi (p1).toNatClampNeg) + (1 : Int32))), (upd mxs ((((10 : Int32) * p1) + (msi (p1).toNatClampNeg))).toNatClampNeg p2), (upd mys ((((10 : Int32) * p1) + (msi (p1).toNatClampNeg))).toNatClampNeg p3)) else none) else none) else none) else none) else none) else some ((-1 : Int32), msi, mxs, mys)) else none)))))) else none)) else none)) else none)))
def rmM_point : Room := { frames := 2, cells := 0, slots := 0, locals := 43 }
set_option maxHeartbeats 4000000 in
set_option maxRecDepth 100000 in
theorem mM_point (l : Launch) (dC : Nat → ClassId) (dI : Nat → Nat → Nat) (cI cL cT : ClassId) (mo a_ar a_si a_st a_en a_pu a_xs a_ys a_fo a_or a_o1 a_o2 : Nat) (sz : Nat) (fu : Nat) (thr : Int32) (ten : Int32) (loc : Int32) (rou : Int32) (mum : Int32) (sli : Int32) (sha : Int32) (fad : Int32) (day : Int32) (mar : Nat → Int32) (msi : Nat → Int32) (mst : Nat → Int32) (men : Nat → Int32) (mpu : Nat → Int32) (mxs : Nat → Int32) (mys : Nat → Int32) (mfo : Nat → Int64) (mor : Nat → Int32) (mo1 : Nat → Int64) (mo2 : Nat → Int64) (p1 : Int32) (p2 : Int32) (p3 : Int32) (o0 : Int32) (o1 : Nat → Int32) (o2 : Nat → Int32) (o3 : Nat → Int32) (hf : fM_point fu thr ten loc rou mum sli sha fad day mar msi mst men mpu mxs mys mfo mor mo1 mo2 p1 p2 p3 = some (o0, o1, o2, o3)) : Met l yM_point wM_point rmM_point (kP (dC, dI) [(cI, .int), (cL, .long), (cT, .object "TendonLosses$Tendon")] [.ref mo, .int p1, .int p2, .int p3] [(mo, .inr (4, [.int thr, .int ten, .ref a_ar, .ref a_si, .ref a_st, .ref a_en, .ref a_pu, .ref a_xs, .ref a_ys, .ref a_fo, .ref a_or, .int loc, .int rou, .int mum, .int sli, .int sha, .int fad, .int day, .ref a_o1, .ref a_o2])), (a_ar, .inl (cI, 6, .inl mar)), (a_si, .inl (cI, 6, .inl msi)), (a_st, .inl (cI, 6, .inl mst)), (a_en, .inl (cI, 6, .inl men)), (a_pu, .inl (cI, 6, .inl mpu)), (a_xs, .inl (cI, 60, .inl mxs)), (a_ys, .inl (cI, 60, .inl mys)), (a_fo, .inl (cL, 60, .inr (.inl mfo))), (a_or, .inl (cI, 6, .inl mor)), (a_o1, .inl (cL, 10, .inr (.inl mo1))), (a_o2, .inl (cL, 10, .inr (.inl mo2)))] sz) (va_Qi (fun (r : Int32) (_ : Unit) => r = o0) (kB (dC, dI) [(cI, .int), (cL, .long), (cT, .object "TendonLosses$Tendon")] (va_A [(mo, .inr (4, [.int thr, .int ten, .ref a_ar, .ref a_si, .ref a_st, .ref a_en, .ref a_pu, .ref a_xs, .ref a_ys, .ref a_fo, .ref a_or, .int loc, .int rou, .int mum, .int sli, .int sha, .int fad, .int day, .ref a_o1, .ref a_o2])), (a_ar, .inl (cI, 6, .inl mar)), (a_si, .inl (cI, 6, .inl msi)), (a_st, .inl (cI, 6, .inl mst)), (a_en, .inl (cI, 6, .inl men)), (a_pu, .inl (cI, 6, .inl mpu)), (a_xs, .inl (cI, 60, .inl mxs)), (a_ys, .inl (cI, 60, .inl mys)), (a_fo, .inl (cL, 60, .inr (.inl mfo))), (a_or, .inl (cI, 6, .inl mor)), (a_o1, .inl (cL, 10, .inr (.inl mo1))), (a_o2, .inl (cL, 10, .inr (.inl mo2)))] sz) [(mo, .inr (4, [.int thr, .int ten, .ref a_ar, .ref a_si, .ref a_st, .ref a_en, .ref a_pu, .ref a_xs, .ref a_ys, .ref a_fo, .ref a_or, .int loc, .int rou, .int mum, .int sli, .int sha, .int fad, .int day, .ref a_o1, .ref a_o2])), (a_ar, .inl (cI, 6, .inl mar)), (a_si, .inl (cI, 6, .inl o1)), (a_st, .inl (cI, 6, .inl mst)), (a_en, .inl (cI, 6, .inl men)), (a_pu, .inl (cI, 6, .inl mpu)), (a_xs, .inl (cI, 60, .inl o2)), (a_ys, .inl (cI, 60, .inl o3)), (a_fo, .inl (cL, 60, .inr (.inl mfo))), (a_or, .inl (cI, 6, .inl mor)), (a_o1, .inl (cL, 10, .inr (.inl mo1))), (a_o2, .inl (cL, 10, .inr (.inl mo2)))]) (va_A [(mo, .inr (4, [.int thr, .int ten, .ref a_ar, .ref a_si, .ref a_st, .ref a_en, .ref a_pu, .ref a_xs, .ref a_ys, .ref a_fo, .ref a_or, .int loc, .int rou, .int mum, .int sli, .int sha, .int fad, .int day, .ref a_o1, .ref a_o2])), (a_ar, .inl (cI, 6, .inl mar)), (a_si, .inl (cI, 6, .inl msi)), (a_st, .inl (cI, 6, .inl mst)), (a_en, .inl (cI, 6, .inl men)), (a_pu, .inl (cI, 6, .inl mpu)), (a_xs, .inl (cI, 60, .inl mxs)), (a_ys, .inl (cI, 60, .inl mys)), (a_fo, .inl (cL, 60, .inr (.inl mfo))), (a_or, .inl (cI, 6, .inl mor)), (a_o1, .inl (cL, 10, .inr (.inl mo1))), (a_o2, .inl (cL, 10, .inr (.inl mo2)))] sz)) 0 0 (va_A [(mo, .inr (4, [.int thr, .int ten, .ref a_ar, .ref a_si, .ref a_st, .ref a_en, .ref a_pu, .ref a_xs, .ref a_ys, .ref a_fo, .ref a_or, .int loc, .int rou, .int mum, .int sli, .int sha, .int fad, .int day, .ref a_o1, .ref a_o2])), (a_ar, .inl (cI, 6, .inl mar)), (a_si, .inl (cI, 6, .inl msi)), (a_st, .inl (cI, 6, .inl mst)), (a_en, .inl (cI, 6, .inl men)), (a_pu, .inl (cI, 6, .inl mpu)), (a_xs, .inl (cI, 60, .inl mxs)), (a_ys, .inl (cI, 60, .inl mys)), (a_fo, .inl (cL, 60, .inr (.inl mfo))), (a_or, .inl (cI, 6, .inl mor)), (a_o1, .inl (cL, 10, .inr (.inl mo1))), (a_o2, .inl (cL, 10, .inr (.inl mo2)))] sz) := by
  refine Met.ofW (cc := bM_point) (maxL := 5) (ret := (some .int)) (by decide) rfl ?_
  intro p e s m args below meth c s₁ B hml hv
  obtain ⟨rfl, hsz, hP, hK, hD0, hN⟩ := hv
  have hx := B.exec
  have hb := B.bytes
  have hr := B.returns
  have hts : ∀ w ∈ gt, w.before ([.ref mo, .int p1, .int p2, .int p3] : List Value).toArray s = true := fun w h => atoms_spec (ws := wM_point) B.pre w (List.mem_cons_of_mem _ h)
  have hown : s.vm.findClass "TendonLossesModel" = some m.cls := findClass_of_methodNamed B.named
  have hlocks := B.notSynchronized
  subst hsz
  have hD := hD0.self (sz := s.heap.size)
  generalize hAe : va_A [(mo, .inr (4, [.int thr, .int ten, .ref a_ar, .ref a_si, .ref a_st, .ref a_en, .ref a_pu, .ref a_xs, .ref a_ys, .ref a_fo, .ref a_or, .int loc, .int rou, .int mum, .int sli, .int sha, .int fad, .int day, .ref a_o1, .ref a_o2])), (a_ar, .inl (cI, 6, .inl mar)), (a_si, .inl (cI, 6, .inl msi)), (a_st, .inl (cI, 6, .inl mst)), (a_en, .inl (cI, 6, .inl men)), (a_pu, .inl (cI, 6, .inl mpu)), (a_xs, .inl (cI, 60, .inl mxs)), (a_ys, .inl (cI, 60, .inl mys)), (a_fo, .inl (cL, 60, .inr (.inl mfo))), (a_or, .inl (cI, 6, .inl mor)), (a_o1, .inl (cL, 10, .inr (.inl mo1))), (a_o2, .inl (cL, 10, .inr (.inl mo2)))] s.heap.size = A at hD ⊢
  have hA : ∀ q : Nat, s.heap.size ≤ q → A q := fun q h => by rw [← hAe]; exact Or.inr h
  have hS : va_S A s.heap s.heap [] := va_S.rf
  have hP : va_P (dC, dI) vwCl [(mo, .inr (4, [.int thr, .int ten, .ref a_ar, .ref a_si, .ref a_st, .ref a_en, .ref a_pu, .ref a_xs, .ref a_ys, .ref a_fo, .ref a_or, .int loc, .int rou, .int mum, .int sli, .int sha, .int fad, .int day, .ref a_o1, .ref a_o2])), (a_ar, .inl (cI, 6, .inl mar)), (a_si, .inl (cI, 6, .inl msi)), (a_st, .inl (cI, 6, .inl mst)), (a_en, .inl (cI, 6, .inl men)), (a_pu, .inl (cI, 6, .inl mpu)), (a_xs, .inl (cI, 60, .inl mxs)), (a_ys, .inl (cI, 60, .inl mys)), (a_fo, .inl (cL, 60, .inr (.inl mfo))), (a_or, .inl (cI, 6, .inl mor)), (a_o1, .inl (cL, 10, .inr (.inl mo1))), (a_o2, .inl (cL, 10, .inr (.inl mo2)))] s.heap := hP
  have hl := lv_entry ([.ref mo, .int p1, .int p2, .int p3]) (n := 5) (Nat.le_of_ble_eq_true rfl)
  rw [lg_entry_eq]
  generalize (lg_sl ([.ref mo, .int p1, .int p2, .int p3]) ++ List.replicate (5 - (lg_sl ([.ref mo, .int p1, .int p2, .int p3])).length) Slot.unset).toArray = ls at hl ⊢
  have hl : lv_has ls 5 [(0, .ref mo), (1, .int p1), (2, .int p2), (3, .int p3)] := hl
  refine W.nameQ (fun Q hQ => ?_)
  unfold fM_point at hf
  refine lv_aload_n hx hb dM_point_0 rfl (lv_at hl 0 rfl) ?_
  refine lv_iload_n hx hb dM_point_1 rfl (lv_at hl 1 rfl) ?_
  obtain ⟨r_2, q_2, hf⟩ := o_b hf
  have hPc := hP.sub (ws' := [(mo, .inr (4, [.int thr, .int ten, .ref a_ar, .ref a_si, .ref a_st, .ref a_en, .ref a_pu, .ref a_xs, .ref a_ys, .ref a_fo, .ref a_or, .int loc, .int rou, .int mum, .int sli, .int sha, .int fad, .int day, .ref a_o1, .ref a_o2])), (a_ar, .inl (cI, 6, .inl mar)), (a_si, .inl (cI, 6, .inl msi)), (a_st, .inl (cI, 6, .inl mst)), (a_en, .inl (cI, 6, .inl men)), (a_pu, .inl (cI, 6, .inl mpu)), (a_xs, .inl (cI, 60, .inl mxs)), (a_ys, .inl (cI, 60, .inl mys)), (a_fo, .inl (cL, 60, .inr (.inl mfo))), (a_or, .inl (cI, 6, .inl mor)), (a_o1, .inl (cL, 10, .inr (.inl mo1))), (a_o2, .inl (cL, 10, .inr (.inl mo2)))]) [0, 1, 2, 3, 4, 5, 6, 7, 8, 9, 10, 11] rfl
  have hDc := hD.sub (ws' := [(mo, .inr (4, [.int thr, .int ten, .ref a_ar, .ref a_si, .ref a_st, .ref a_en, .ref a_pu, .ref a_xs, .ref a_ys, .ref a_fo, .ref a_or, .int loc, .int rou, .int mum, .int sli, .int sha, .int fad, .int day, .ref a_o1, .ref a_o2])), (a_ar, .inl (cI, 6, .inl mar)), (a_si, .inl (cI, 6, .inl msi)), (a_st, .inl (cI, 6, .inl mst)), (a_en, .inl (cI, 6, .inl men)), (a_pu, .inl (cI, 6, .inl mpu)), (a_xs, .inl (cI, 60, .inl mxs)), (a_ys, .inl (cI, 60, .inl mys)), (a_fo, .inl (cL, 60, .inr (.inl mfo))), (a_or, .inl (cI, 6, .inl mor)), (a_o1, .inl (cL, 10, .inr (.inl mo1))), (a_o2, .inl (cL, 10, .inr (.inl mo2)))]) [0, 1, 2, 3, 4, 5, 6, 7, 8, 9, 10, 11] (by decide) rfl
  refine kc_i (va_runV (As := [.int p1]) (rest := []) ⟨hx, hb, hml, hown, hts⟩ (mM_isTendon l dC dI cI cL cT mo a_ar a_si a_st a_en a_pu a_xs a_ys a_fo a_or a_o1 a_o2 s.heap.size fu thr ten loc rou mum sli sha fad day mar msi mst men mpu mxs mys mfo mor mo1 mo2 p1 (r_2) q_2) ⟨callB_of 1 hts (gd_code kw_497) rfl rfl rfl (hts _ kw_32) (hts _ kw_494) (by decide +kernel) ⟨Nat.le_of_ble_eq_true rfl, Nat.le_of_ble_eq_true rfl⟩, hts _ kw_496, hts _ kw_14⟩ (kP_V hPc hK hDc hN (va_recv hK hPc (ci := 4) (q0 := 0) rfl rfl)) rfl rfl hl.1 rfl (lv_room (Nat.le_of_ble_eq_true rfl)) dM_point_2 ⟨Nat.le_of_ble_eq_true rfl, Nat.le_of_ble_eq_true rfl⟩) hP hD hS hA (wc := [(mo, .inr (4, [.int thr, .int ten, .ref a_ar, .ref a_si, .ref a_st, .ref a_en, .ref a_pu, .ref a_xs, .ref a_ys, .ref a_fo, .ref a_or, .int loc, .int rou, .int mum, .int sli, .int sha, .int fad, .int day, .ref a_o1, .ref a_o2])), (a_ar, .inl (cI, 6, .inl mar)), (a_si, .inl (cI, 6, .inl msi)), (a_st, .inl (cI, 6, .inl mst)), (a_en, .inl (cI, 6, .inl men)), (a_pu, .inl (cI, 6, .inl mpu)), (a_xs, .inl (cI, 60, .inl mxs)), (a_ys, .inl (cI, 60, .inl mys)), (a_fo, .inl (cL, 60, .inr (.inl mfo))), (a_or, .inl (cI, 6, .inl mor)), (a_o1, .inl (cL, 10, .inr (.inl mo1))), (a_o2, .inl (cL, 10, .inr (.inl mo2)))]) (wr := []) (w1 := [(mo, .inr (4, [.int thr, .int ten, .ref a_ar, .ref a_si, .ref a_st, .ref a_en, .ref a_pu, .ref a_xs, .ref a_ys, .ref a_fo, .ref a_or, .int loc, .int rou, .int mum, .int sli, .int sha, .int fad, .int day, .ref a_o1, .ref a_o2])), (a_ar, .inl (cI, 6, .inl mar)), (a_si, .inl (cI, 6, .inl msi)), (a_st, .inl (cI, 6, .inl mst)), (a_en, .inl (cI, 6, .inl men)), (a_pu, .inl (cI, 6, .inl mpu)), (a_xs, .inl (cI, 60, .inl mxs)), (a_ys, .inl (cI, 60, .inl mys)), (a_fo, .inl (cL, 60, .inr (.inl mfo))), (a_or, .inl (cI, 6, .inl mor)), (a_o1, .inl (cL, 10, .inr (.inl mo1))), (a_o2, .inl (cL, 10, .inr (.inl mo2)))]) (ws' := [(mo, .inr (4, [.int thr, .int ten, .ref a_ar, .ref a_si, .ref a_st, .ref a_en, .ref a_pu, .ref a_xs, .ref a_ys, .ref a_fo, .ref a_or, .int loc, .int rou, .int mum, .int sli, .int sha, .int fad, .int day, .ref a_o1, .ref a_o2])), (a_ar, .inl (cI, 6, .inl mar)), (a_si, .inl (cI, 6, .inl msi)), (a_st, .inl (cI, 6, .inl mst)), (a_en, .inl (cI, 6, .inl men)), (a_pu, .inl (cI, 6, .inl mpu)), (a_xs, .inl (cI, 60, .inl mxs)), (a_ys, .inl (cI, 60, .inl mys)), (a_fo, .inl (cL, 60, .inr (.inl mfo))), (a_or, .inl (cI, 6, .inl mor)), (a_o1, .inl (cL, 10, .inr (.inl mo1))), (a_o2, .inl (cL, 10, .inr (.inl mo2)))]) [0, 1, 2, 3, 4, 5, 6, 7, 8, 9, 10, 11] [] [0, 1, 2, 3, 4, 5, 6, 7, 8, 9, 10, 11] rfl rfl (by decide) (by decide) rfl (by decide) rfl (fun H locs hP hD hS => ?_)
  refine lv_if_eq (tgt := 28) hx hb dM_point_5 (by decide) (fun c_5 => ?_) (fun c_5 => ?_)
  · have hf := o_t hf c_5
    refine lv_iconst (v := (-1 : Int32)) hx hb dM_point_28 (by decide) ?_
    have k0 := Option.some.inj hf
    obtain ⟨e0, k1⟩ := Prod.mk.inj k0
    obtain ⟨e1, k2⟩ := Prod.mk.inj k1
    obtain ⟨e2, k3⟩ := Prod.mk.inj k2
    subst e0
    subst e1
    subst e2
    subst k3
    subst hQ
    exact W.iret (v := (-1 : Int32)) hx hb hr (fun t ht hW => ⟨⟨(-1 : Int32), (), rfl, rfl, by rw [ht]; exact hP, va_K.moved hW.alike hK, hD⟩, hS.F ht⟩) hS.2.2 dM_point_29
  · have hf := o_f hf c_5
    refine lv_aload_n hx hb dM_point_8 rfl (lv_at hl 0 rfl) ?_
    refine va_get (D := (dC, dI)) (ci := 4) (v := .ref a_st) (C := "TendonLossesModel") (T := TT_M) (N := 20) hx hb hts in_M hown hK hP 0 rfl rfl 4 (by decide) (hts _ kw_426) (fun _ h9 => h9) rfl dM_point_9 ?_
    refine lv_iload_n hx hb dM_point_12 rfl (lv_at hl 1 rfl) ?_
    obtain ⟨h_13, hf⟩ := o_c hf
    refine va_iald hx hb hK hP 3 0 rfl rfl h_13 dM_point_13 ?_
    refine lv_if_gt (tgt := 28) hx hb dM_point_14 (by decide) (fun c_14 => ?_) (fun c_14 => ?_)
    · have hf := o_t hf c_14
      refine lv_iconst (v := (-1 : Int32)) hx hb dM_point_28 (by decide) ?_
      have k0 := Option.some.inj hf
      obtain ⟨e0, k1⟩ := Prod.mk.inj k0
      obtain ⟨e1, k2⟩ := Prod.mk.inj k1
      obtain ⟨e2, k3⟩ := Prod.mk.inj k2
      subst e0
      subst e1
      subst e2
      subst k3
      subst hQ
      exact W.iret (v := (-1 : Int32)) hx hb hr (fun t ht hW => ⟨⟨(-1 : Int32), (), rfl, rfl, by rw [ht]; exact hP, va_K.moved hW.alike hK, hD⟩, hS.F ht⟩) hS.2.2 dM_point_29
    · have hf := o_f hf c_14
      refine lv_aload_n hx hb dM_point_17 rfl (lv_at hl 0 rfl) ?_
      refine va_get (D := (dC, dI)) (ci := 4) (v := .ref a_si) (C := "TendonLossesModel") (T := TT_M) (N := 20) hx hb hts in_M hown hK hP 0 rfl rfl 3 (by decide) (hts _ kw_425) (fun _ h9 => h9) rfl dM_point_18 ?_
      refine lv_iload_n hx hb dM_point_21 rfl (lv_at hl 1 rfl) ?_
      obtain ⟨h_22, hf⟩ := o_c hf
      refine va_iald hx hb hK hP 2 0 rfl rfl h_22 dM_point_22 ?_
      refine lv_bipush (v := (10 : Int32)) hx hb dM_point_23 (by decide) ?_
      refine lv_icmp_ne (tgt := 30) hx hb dM_point_25 (by decide) (fun c_25 => ?_) (fun c_25 => ?_)
      · have hf := o_f hf c_25
        refine lv_aload_n hx hb dM_point_30 rfl (lv_at hl 0 rfl) ?_
        refine va_get (D := (dC, dI)) (ci := 4) (v := .ref a_si) (C := "TendonLossesModel") (T := TT_M) (N := 20) hx hb hts in_M hown hK hP 0 rfl rfl 3 (by decide) (hts _ kw_425) (fun _ h9 => h9) rfl dM_point_31 ?_
        refine lv_iload_n hx hb dM_point_34 rfl (lv_at hl 1 rfl) ?_
        obtain ⟨h_35, hf⟩ := o_c hf
        refine va_iald hx hb hK hP 2 0 rfl rfl h_35 dM_point_35 ?_
        refine lv_istore (lv' := [(4, .int (msi (p1).toNatClampNeg)), (0, .ref mo), (1, .int p1), (2, .int p2), (3, .int p3)]) hx hb dM_point_36 hl (by decide) rfl (fun ls hl => ?_)
        refine lv_iload_n hx hb dM_point_38 rfl (lv_at hl 3 rfl) ?_
        refine lv_iconst (v := (0 : Int32)) hx hb dM_point_39 (by decide) ?_
        refine lv_ldc (v := (100000 : Int32)) hx hb hown (hts _ kw_498) dM_point_40 ?_
        obtain ⟨r_42, q_42, hf⟩ := o_b hf
        have hPc := hP.sub (ws' := []) [] rfl
        have hDc := hD.sub (ws' := []) [] (by decide) rfl
        refine kc_i (va_runS (As := [.int p2, .int (0 : Int32), .int (100000 : Int32)]) (rest := []) ⟨hx, hb, hml, hown, hts⟩ (mM_in l dC dI cI cL cT  H.size fu p2 (0 : Int32) (100000 : Int32) (r_42) q_42) ⟨callB_of 3 hts (gd_code kw_489) rfl rfl rfl (hts _ kw_32) (hts _ kw_487) (by decide +kernel) ⟨Nat.le_of_ble_eq_true rfl, Nat.le_of_ble_eq_true rfl⟩, hts _ kw_488⟩ (kP_S hPc hK hDc hN) rfl rfl hl.1 rfl (lv_room (Nat.le_of_ble_eq_true rfl)) dM_point_42 ⟨Nat.le_of_ble_eq_true rfl, Nat.le_of_ble_eq_true rfl⟩) hP hD hS hA (wc := []) (wr := [(mo, .inr (4, [.int thr, .int ten, .ref a_ar, .ref a_si, .ref a_st, .ref a_en, .ref a_pu, .ref a_xs, .ref a_ys, .ref a_fo, .ref a_or, .int loc, .int rou, .int mum, .int sli, .int sha, .int fad, .int day, .ref a_o1, .ref a_o2])), (a_ar, .inl (cI, 6, .inl mar)), (a_si, .inl (cI, 6, .inl msi)), (a_st, .inl (cI, 6, .inl mst)), (a_en, .inl (cI, 6, .inl men)), (a_pu, .inl (cI, 6, .inl mpu)), (a_xs, .inl (cI, 60, .inl mxs)), (a_ys, .inl (cI, 60, .inl mys)), (a_fo, .inl (cL, 60, .inr (.inl mfo))), (a_or, .inl (cI, 6, .inl mor)), (a_o1, .inl (cL, 10, .inr (.inl mo1))), (a_o2, .inl (cL, 10, .inr (.inl mo2)))]) (w1 := []) (ws' := [(mo, .inr (4, [.int thr, .int ten, .ref a_ar, .ref a_si, .ref a_st, .ref a_en, .ref a_pu, .ref a_xs, .ref a_ys, .ref a_fo, .ref a_or, .int loc, .int rou, .int mum, .int sli, .int sha, .int fad, .int day, .ref a_o1, .ref a_o2])), (a_ar, .inl (cI, 6, .inl mar)), (a_si, .inl (cI, 6, .inl msi)), (a_st, .inl (cI, 6, .inl mst)), (a_en, .inl (cI, 6, .inl men)), (a_pu, .inl (cI, 6, .inl mpu)), (a_xs, .inl (cI, 60, .inl mxs)), (a_ys, .inl (cI, 60, .inl mys)), (a_fo, .inl (cL, 60, .inr (.inl mfo))), (a_or, .inl (cI, 6, .inl mor)), (a_o1, .inl (cL, 10, .inr (.inl mo1))), (a_o2, .inl (cL, 10, .inr (.inl mo2)))]) [] [0, 1, 2, 3, 4, 5, 6, 7, 8, 9, 10, 11] [0, 1, 2, 3, 4, 5, 6, 7, 8, 9, 10, 11] rfl rfl (by decide) (by decide) rfl (by decide) rfl (fun H locs hP hD hS => ?_)
        refine lv_if_eq (tgt := 87) hx hb dM_point_45 (by decide) (fun c_45 => ?_) (fun c_45 => ?_)
        · have hf := o_t hf c_45
          refine lv_iconst (v := (-1 : Int32)) hx hb dM_point_87 (by decide) ?_
          have k0 := Option.some.inj hf
          obtain ⟨e0, k1⟩ := Prod.mk.inj k0
          obtain ⟨e1, k2⟩ := Prod.mk.inj k1
          obtain ⟨e2, k3⟩ := Prod.mk.inj k2
          subst e0
          subst e1
          subst e2
          subst k3
          subst hQ
          exact W.iret (v := (-1 : Int32)) hx hb hr (fun t ht hW => ⟨⟨(-1 : Int32), (), rfl, rfl, by rw [ht]; exact hP, va_K.moved hW.alike hK, hD⟩, hS.F ht⟩) hS.2.2 dM_point_88
        · have hf := o_f hf c_45
          refine lv_iload_n hx hb dM_point_48 rfl (lv_at hl 4 rfl) ?_
          refine lv_sipush (v := (-3000 : Int32)) hx hb dM_point_49 (by decide) ?_
          refine lv_sipush (v := (3000 : Int32)) hx hb dM_point_52 (by decide) ?_
          obtain ⟨r_55, q_55, hf⟩ := o_b hf
          have hPc := hP.sub (ws' := []) [] rfl
          have hDc := hD.sub (ws' := []) [] (by decide) rfl
          refine kc_i (va_runS (As := [.int p3, .int (-3000 : Int32), .int (3000 : Int32)]) (rest := []) ⟨hx, hb, hml, hown, hts⟩ (mM_in l dC dI cI cL cT  H.size fu p3 (-3000 : Int32) (3000 : Int32) (r_55) q_55) ⟨callB_of 3 hts (gd_code kw_489) rfl rfl rfl (hts _ kw_32) (hts _ kw_487) (by decide +kernel) ⟨Nat.le_of_ble_eq_true rfl, Nat.le_of_ble_eq_true rfl⟩, hts _ kw_488⟩ (kP_S hPc hK hDc hN) rfl rfl hl.1 rfl (lv_room (Nat.le_of_ble_eq_true rfl)) dM_point_55 ⟨Nat.le_of_ble_eq_true rfl, Nat.le_of_ble_eq_true rfl⟩) hP hD hS hA (wc := []) (wr := [(mo, .inr (4, [.int thr, .int ten, .ref a_ar, .ref a_si, .ref a_st, .ref a_en, .ref a_pu, .ref a_xs, .ref a_ys, .ref a_fo, .ref a_or, .int loc, .int rou, .int mum, .int sli, .int sha, .int fad, .int day, .ref a_o1, .ref a_o2])), (a_ar, .inl (cI, 6, .inl mar)), (a_si, .inl (cI, 6, .inl msi)), (a_st, .inl (cI, 6, .inl mst)), (a_en, .inl (cI, 6, .inl men)), (a_pu, .inl (cI, 6, .inl mpu)), (a_xs, .inl (cI, 60, .inl mxs)), (a_ys, .inl (cI, 60, .inl mys)), (a_fo, .inl (cL, 60, .inr (.inl mfo))), (a_or, .inl (cI, 6, .inl mor)), (a_o1, .inl (cL, 10, .inr (.inl mo1))), (a_o2, .inl (cL, 10, .inr (.inl mo2)))]) (w1 := []) (ws' := [(mo, .inr (4, [.int thr, .int ten, .ref a_ar, .ref a_si, .ref a_st, .ref a_en, .ref a_pu, .ref a_xs, .ref a_ys, .ref a_fo, .ref a_or, .int loc, .int rou, .int mum, .int sli, .int sha, .int fad, .int day, .ref a_o1, .ref a_o2])), (a_ar, .inl (cI, 6, .inl mar)), (a_si, .inl (cI, 6, .inl msi)), (a_st, .inl (cI, 6, .inl mst)), (a_en, .inl (cI, 6, .inl men)), (a_pu, .inl (cI, 6, .inl mpu)), (a_xs, .inl (cI, 60, .inl mxs)), (a_ys, .inl (cI, 60, .inl mys)), (a_fo, .inl (cL, 60, .inr (.inl mfo))), (a_or, .inl (cI, 6, .inl mor)), (a_o1, .inl (cL, 10, .inr (.inl mo1))), (a_o2, .inl (cL, 10, .inr (.inl mo2)))]) [] [0, 1, 2, 3, 4, 5, 6, 7, 8, 9, 10, 11] [0, 1, 2, 3, 4, 5, 6, 7, 8, 9, 10, 11] rfl rfl (by decide) (by decide) rfl (by decide) rfl (fun H locs hP hD hS => ?_)
          refine lv_if_eq (tgt := 87) hx hb dM_point_58 (by decide) (fun c_58 => ?_) (fun c_58 => ?_)
          · have hf := o_t hf c_58
            refine lv_iconst (v := (-1 : Int32)) hx hb dM_point_87 (by decide) ?_
            have k0 := Option.some.inj hf
            obtain ⟨e0, k1⟩ := Prod.mk.inj k0
            obtain ⟨e1, k2⟩ := Prod.mk.inj k1
            obtain ⟨e2, k3⟩ := Prod.mk.inj k2
            subst e0
            subst e1
            subst e2
            subst k3
            subst hQ
            exact W.iret (v := (-1 : Int32)) hx hb hr (fun t ht hW => ⟨⟨(-1 : Int32), (), rfl, rfl, by rw [ht]; exact hP, va_K.moved hW.alike hK, hD⟩, hS.F ht⟩) hS.2.2 dM_point_88
          · have hf := o_f hf c_58
            refine lv_iload hx hb dM_point_61 (lv_at hl 0 rfl) ?_
            refine lv_if_le (tgt := 89) hx hb dM_point_63 (by decide) (fun c_63 => ?_) (fun c_63 => ?_)
            · have hf := o_t hf c_63
              refine lv_aload_n hx hb dM_point_89 rfl (lv_at hl 1 rfl) ?_
              refine va_get (D := (dC, dI)) (ci := 4) (v := .ref a_xs) (C := "TendonLossesModel") (T := TT_M) (N := 20) hx hb hts in_M hown hK hP 0 rfl rfl 7 (by decide) (hts _ kw_429) (fun _ h9 => h9) rfl dM_point_90 ?_
              refine lv_bipush (v := (10 : Int32)) hx hb dM_point_93 (by decide) ?_
              refine lv_iload_n hx hb dM_point_95 rfl (lv_at hl 2 rfl) ?_
              refine lv_imul hx hb dM_point_96 ?_
              refine lv_iload hx hb dM_point_97 (lv_at hl 0 rfl) ?_
              refine lv_iadd hx hb dM_point_99 ?_
              refine lv_iload_n hx hb dM_point_100 rfl (lv_at hl 3 rfl) ?_
              obtain ⟨h_101, hf⟩ := o_c hf
              refine va_iast hx hb hK hP hD hS 6 0 rfl rfl h_101 dM_point_101 (fun H locs hP hD hS => ?_)
              have hP : va_P (dC, dI) vwCl [(mo, .inr (4, [.int thr, .int ten, .ref a_ar, .ref a_si, .ref a_st, .ref a_en, .ref a_pu, .ref a_xs, .ref a_ys, .ref a_fo, .ref a_or, .int loc, .int rou, .int mum, .int sli, .int sha, .int fad, .int day, .ref a_o1, .ref a_o2])), (a_ar, .inl (cI, 6, .inl mar)), (a_si, .inl (cI, 6, .inl msi)), (a_st, .inl (cI, 6, .inl mst)), (a_en, .inl (cI, 6, .inl men)), (a_pu, .inl (cI, 6, .inl mpu)), (a_xs, .inl (cI, 60, .inl (upd mxs ((((10 : Int32) * p1) + (msi (p1).toNatClampNeg))).toNatClampNeg p2))), (a_ys, .inl (cI, 60, .inl mys)), (a_fo, .inl (cL, 60, .inr (.inl mfo))), (a_or, .inl (cI, 6, .inl mor)), (a_o1, .inl (cL, 10, .inr (.inl mo1))), (a_o2, .inl (cL, 10, .inr (.inl mo2)))] H := hP
              have hD : va_D A [(mo, .inr (4, [.int thr, .int ten, .ref a_ar, .ref a_si, .ref a_st, .ref a_en, .ref a_pu, .ref a_xs, .ref a_ys, .ref a_fo, .ref a_or, .int loc, .int rou, .int mum, .int sli, .int sha, .int fad, .int day, .ref a_o1, .ref a_o2])), (a_ar, .inl (cI, 6, .inl mar)), (a_si, .inl (cI, 6, .inl msi)), (a_st, .inl (cI, 6, .inl mst)), (a_en, .inl (cI, 6, .inl men)), (a_pu, .inl (cI, 6, .inl mpu)), (a_xs, .inl (cI, 60, .inl (upd mxs ((((10 : Int32) * p1) + (msi (p1).toNatClampNeg))).toNatClampNeg p2))), (a_ys, .inl (cI, 60, .inl mys)), (a_fo, .inl (cL, 60, .inr (.inl mfo))), (a_or, .inl (cI, 6, .inl mor)), (a_o1, .inl (cL, 10, .inr (.inl mo1))), (a_o2, .inl (cL, 10, .inr (.inl mo2)))] := hD
              refine lv_aload_n hx hb dM_point_102 rfl (lv_at hl 1 rfl) ?_
              refine va_get (D := (dC, dI)) (ci := 4) (v := .ref a_ys) (C := "TendonLossesModel") (T := TT_M) (N := 20) hx hb hts in_M hown hK hP 0 rfl rfl 8 (by decide) (hts _ kw_430) (fun _ h9 => h9) rfl dM_point_103 ?_
              refine lv_bipush (v := (10 : Int32)) hx hb dM_point_106 (by decide) ?_
              refine lv_iload_n hx hb dM_point_108 rfl (lv_at hl 2 rfl) ?_
              refine lv_imul hx hb dM_point_109 ?_
              refine lv_iload hx hb dM_point_110 (lv_at hl 0 rfl) ?_
              refine lv_iadd hx hb dM_point_112 ?_
              refine lv_iload_n hx hb dM_point_113 rfl (lv_at hl 4 rfl) ?_
              obtain ⟨h_114, hf⟩ := o_c hf
              refine va_iast hx hb hK hP hD hS 7 0 rfl rfl h_114 dM_point_114 (fun H locs hP hD hS => ?_)
              have hP : va_P (dC, dI) vwCl [(mo, .inr (4, [.int thr, .int ten, .ref a_ar, .ref a_si, .ref a_st, .ref a_en, .ref a_pu, .ref a_xs, .ref a_ys, .ref a_fo, .ref a_or, .int loc, .int rou, .int mum, .int sli, .int sha, .int fad, .int day, .ref a_o1, .ref a_o2])), (a_ar, .inl (cI, 6, .inl mar)), (a_si, .inl (cI, 6, .inl msi)), (a_st, .inl (cI, 6, .inl mst)), (a_en, .inl (cI, 6, .inl men)), (a_pu, .inl (cI, 6, .inl mpu)), (a_xs, .inl (cI, 60, .inl (upd mxs ((((10 : Int32) * p1) + (msi (p1).toNatClampNeg))).toNatClampNeg p2))), (a_ys, .inl (cI, 60, .inl (upd mys ((((10 : Int32) * p1) + (msi (p1).toNatClampNeg))).toNatClampNeg p3))), (a_fo, .inl (cL, 60, .inr (.inl mfo))), (a_or, .inl (cI, 6, .inl mor)), (a_o1, .inl (cL, 10, .inr (.inl mo1))), (a_o2, .inl (cL, 10, .inr (.inl mo2)))] H := hP
              have hD : va_D A [(mo, .inr (4, [.int thr, .int ten, .ref a_ar, .ref a_si, .ref a_st, .ref a_en, .ref a_pu, .ref a_xs, .ref a_ys, .ref a_fo, .ref a_or, .int loc, .int rou, .int mum, .int sli, .int sha, .int fad, .int day, .ref a_o1, .ref a_o2])), (a_ar, .inl (cI, 6, .inl mar)), (a_si, .inl (cI, 6, .inl msi)), (a_st, .inl (cI, 6, .inl mst)), (a_en, .inl (cI, 6, .inl men)), (a_pu, .inl (cI, 6, .inl mpu)), (a_xs, .inl (cI, 60, .inl (upd mxs ((((10 : Int32) * p1) + (msi (p1).toNatClampNeg))).toNatClampNeg p2))), (a_ys, .inl (cI, 60, .inl (upd mys ((((10 : Int32) * p1) + (msi (p1).toNatClampNeg))).toNatClampNeg p3))), (a_fo, .inl (cL, 60, .inr (.inl mfo))), (a_or, .inl (cI, 6, .inl mor)), (a_o1, .inl (cL, 10, .inr (.inl mo1))), (a_o2, .inl (cL, 10, .inr (.inl mo2)))] := hD
              refine lv_aload_n hx hb dM_point_115 rfl (lv_at hl 1 rfl) ?_
              refine va_get (D := (dC, dI)) (ci := 4) (v := .ref a_si) (C := "TendonLossesModel") (T := TT_M) (N := 20) hx hb hts in_M hown hK hP 0 rfl rfl 3 (by decide) (hts _ kw_425) (fun _ h9 => h9) rfl dM_point_116 ?_
              refine lv_iload_n hx hb dM_point_119 rfl (lv_at hl 2 rfl) ?_
              refine lv_dup2_11 hx hb dM_point_120 rfl rfl ?_
              obtain ⟨h_121, hf⟩ := o_c hf
              refine va_iald hx hb hK hP 2 0 rfl rfl h_121 dM_point_121 ?_
              refine lv_iconst (v := (1 : Int32)) hx hb dM_point_122 (by decide) ?_
              refine lv_iadd hx hb dM_point_123 ?_
              obtain ⟨h_124, hf⟩ := o_c hf
              refine va_iast hx hb hK hP hD hS 2 0 rfl rfl h_124 dM_point_124 (fun H locs hP hD hS => ?_)
              have hP : va_P (dC, dI) vwCl [(mo, .inr (4, [.int thr, .int ten, .ref a_ar, .ref a_si, .ref a_st, .ref a_en, .ref a_pu, .ref a_xs, .ref a_ys, .ref a_fo, .ref a_or, .int loc, .int rou, .int mum, .int sli, .int sha, .int fad, .int day, .ref a_o1, .ref a_o2])), (a_ar, .inl (cI, 6, .inl mar)), (a_si, .inl (cI, 6, .inl (upd msi (p1).toNatClampNeg ((msi (p1).toNatClampNeg) + (1 : Int32))))), (a_st, .inl (cI, 6, .inl mst)), (a_en, .inl (cI, 6, .inl men)), (a_pu, .inl (cI, 6, .inl mpu)), (a_xs, .inl (cI, 60, .inl (upd mxs ((((10 : Int32) * p1) + (msi (p1).toNatClampNeg))).toNatClampNeg p2))), (a_ys, .inl (cI, 60, .inl (upd mys ((((10 : Int32) * p1) + (msi (p1).toNatClampNeg))).toNatClampNeg p3))), (a_fo, .inl (cL, 60, .inr (.inl mfo))), (a_or, .inl (cI, 6, .inl mor)), (a_o1, .inl (cL, 10, .inr (.inl mo1))), (a_o2, .inl (cL, 10, .inr (.inl mo2)))] H := hP
              have hD : va_D A [(mo, .inr (4, [.int thr, .int ten, .ref a_ar, .ref a_si, .ref a_st, .ref a_en, .ref a_pu, .ref a_xs, .ref a_ys, .ref a_fo, .ref a_or, .int loc, .int rou, .int mum, .int sli, .int sha, .int fad, .int day, .ref a_o1, .ref a_o2])), (a_ar, .inl (cI, 6, .inl mar)), (a_si, .inl (cI, 6, .inl (upd msi (p1).toNatClampNeg ((msi (p1).toNatClampNeg) + (1 : Int32))))), (a_st, .inl (cI, 6, .inl mst)), (a_en, .inl (cI, 6, .inl men)), (a_pu, .inl (cI, 6, .inl mpu)), (a_xs, .inl (cI, 60, .inl (upd mxs ((((10 : Int32) * p1) + (msi (p1).toNatClampNeg))).toNatClampNeg p2))), (a_ys, .inl (cI, 60, .inl (upd mys ((((10 : Int32) * p1) + (msi (p1).toNatClampNeg))).toNatClampNeg p3))), (a_fo, .inl (cL, 60, .inr (.inl mfo))), (a_or, .inl (cI, 6, .inl mor)), (a_o1, .inl (cL, 10, .inr (.inl mo1))), (a_o2, .inl (cL, 10, .inr (.inl mo2)))] := hD
              refine lv_aload_n hx hb dM_point_125 rfl (lv_at hl 1 rfl) ?_
              refine va_get (D := (dC, dI)) (ci := 4) (v := .ref a_si) (C := "TendonLossesModel") (T := TT_M) (N := 20) hx hb hts in_M hown hK hP 0 rfl rfl 3 (by decide) (hts _ kw_425) (fun _ h9 => h9) rfl dM_point_126 ?_
              refine lv_iload_n hx hb dM_point_129 rfl (lv_at hl 2 rfl) ?_
              obtain ⟨h_130, hf⟩ := o_c hf
              refine va_iald hx hb hK hP 2 0 rfl rfl h_130 dM_point_130 ?_
              have k0 := Option.some.inj hf
              obtain ⟨e0, k1⟩ := Prod.mk.inj k0
              obtain ⟨e1, k2⟩ := Prod.mk.inj k1
              obtain ⟨e2, k3⟩ := Prod.mk.inj k2
              subst e0
              subst e1
              subst e2
              subst k3
              subst hQ
              exact W.iret (v := ((upd msi (p1).toNatClampNeg ((msi (p1).toNatClampNeg) + (1 : Int32))) (p1).toNatClampNeg)) hx hb hr (fun t ht hW => ⟨⟨((upd msi (p1).toNatClampNeg ((msi (p1).toNatClampNeg) + (1 : Int32))) (p1).toNatClampNeg), (), rfl, rfl, by rw [ht]; exact hP, va_K.moved hW.alike hK, hD⟩, hS.F ht⟩) hS.2.2 dM_point_131
            · have hf := o_f hf c_63
              refine lv_iload_n hx hb dM_point_66 rfl (lv_at hl 3 rfl) ?_
              refine lv_aload_n hx hb dM_point_67 rfl (lv_at hl 1 rfl) ?_
              refine va_get (D := (dC, dI)) (ci := 4) (v := .ref a_xs) (C := "TendonLossesModel") (T := TT_M) (N := 20) hx hb hts in_M hown hK hP 0 rfl rfl 7 (by decide) (hts _ kw_429) (fun _ h9 => h9) rfl dM_point_68 ?_
              refine lv_bipush (v := (10 : Int32)) hx hb dM_point_71 (by decide) ?_
              refine lv_iload_n hx hb dM_point_73 rfl (lv_at hl 2 rfl) ?_
              refine lv_imul hx hb dM_point_74 ?_
              refine lv_iload hx hb dM_point_75 (lv_at hl 0 rfl) ?_
              refine lv_iadd hx hb dM_point_77 ?_
              refine lv_iconst (v := (1 : Int32)) hx hb dM_point_78 (by decide) ?_
              refine lv_isub hx hb dM_point_79 ?_
              obtain ⟨h_80, hf⟩ := o_c hf
              refine va_iald hx hb hK hP 6 0 rfl rfl h_80 dM_point_80 ?_
              refine lv_isub hx hb dM_point_81 ?_
              refine lv_bipush (v := (100 : Int32)) hx hb dM_point_82 (by decide) ?_
              refine lv_icmp_ge (tgt := 89) hx hb dM_point_84 (by decide) (fun c_84 => ?_) (fun c_84 => ?_)
              · have hf := o_t hf c_84
                refine lv_aload_n hx hb dM_point_89 rfl (lv_at hl 1 rfl) ?_
                refine va_get (D := (dC, dI)) (ci := 4) (v := .ref a_xs) (C := "TendonLossesModel") (T := TT_M) (N := 20) hx hb hts in_M hown hK hP 0 rfl rfl 7 (by decide) (hts _ kw_429) (fun _ h9 => h9) rfl dM_point_90 ?_
                refine lv_bipush (v := (10 : Int32)) hx hb dM_point_93 (by decide) ?_
                refine lv_iload_n hx hb dM_point_95 rfl (lv_at hl 2 rfl) ?_
                refine lv_imul hx hb dM_point_96 ?_
                refine lv_iload hx hb dM_point_97 (lv_at hl 0 rfl) ?_
                refine lv_iadd hx hb dM_point_99 ?_
                refine lv_iload_n hx hb dM_point_100 rfl (lv_at hl 3 rfl) ?_
                obtain ⟨h_101, hf⟩ := o_c hf
                refine va_iast hx hb hK hP hD hS 6 0 rfl rfl h_101 dM_point_101 (fun H locs hP hD hS => ?_)
                have hP : va_P (dC, dI) vwCl [(mo, .inr (4, [.int thr, .int ten, .ref a_ar, .ref a_si, .ref a_st, .ref a_en, .ref a_pu, .ref a_xs, .ref a_ys, .ref a_fo, .ref a_or, .int loc, .int rou, .int mum, .int sli, .int sha, .int fad, .int day, .ref a_o1, .ref a_o2])), (a_ar, .inl (cI, 6, .inl mar)), (a_si, .inl (cI, 6, .inl msi)), (a_st, .inl (cI, 6, .inl mst)), (a_en, .inl (cI, 6, .inl men)), (a_pu, .inl (cI, 6, .inl mpu)), (a_xs, .inl (cI, 60, .inl (upd mxs ((((10 : Int32) * p1) + (msi (p1).toNatClampNeg))).toNatClampNeg p2))), (a_ys, .inl (cI, 60, .inl mys)), (a_fo, .inl (cL, 60, .inr (.inl mfo))), (a_or, .inl (cI, 6, .inl mor)), (a_o1, .inl (cL, 10, .inr (.inl mo1))), (a_o2, .inl (cL, 10, .inr (.inl mo2)))] H := hP
                have hD : va_D A [(mo, .inr (4, [.int thr, .int ten, .ref a_ar, .ref a_si, .ref a_st, .ref a_en, .ref a_pu, .ref a_xs, .ref a_ys, .ref a_fo, .ref a_or, .int loc, .int rou, .int mum, .int sli, .int sha, .int fad, .int day, .ref a_o1, .ref a_o2])), (a_ar, .inl (cI, 6, .inl mar)), (a_si, .inl (cI, 6, .inl msi)), (a_st, .inl (cI, 6, .inl mst)), (a_en, .inl (cI, 6, .inl men)), (a_pu, .inl (cI, 6, .inl mpu)), (a_xs, .inl (cI, 60, .inl (upd mxs ((((10 : Int32) * p1) + (msi (p1).toNatClampNeg))).toNatClampNeg p2))), (a_ys, .inl (cI, 60, .inl mys)), (a_fo, .inl (cL, 60, .inr (.inl mfo))), (a_or, .inl (cI, 6, .inl mor)), (a_o1, .inl (cL, 10, .inr (.inl mo1))), (a_o2, .inl (cL, 10, .inr (.inl mo2)))] := hD
                refine lv_aload_n hx hb dM_point_102 rfl (lv_at hl 1 rfl) ?_
                refine va_get (D := (dC, dI)) (ci := 4) (v := .ref a_ys) (C := "TendonLossesModel") (T := TT_M) (N := 20) hx hb hts in_M hown hK hP 0 rfl rfl 8 (by decide) (hts _ kw_430) (fun _ h9 => h9) rfl dM_point_103 ?_
                refine lv_bipush (v := (10 : Int32)) hx hb dM_point_106 (by decide) ?_
                refine lv_iload_n hx hb dM_point_108 rfl (lv_at hl 2 rfl) ?_
                refine lv_imul hx hb dM_point_109 ?_
                refine lv_iload hx hb dM_point_110 (lv_at hl 0 rfl) ?_
                refine lv_iadd hx hb dM_point_112 ?_
                refine lv_iload_n hx hb dM_point_113 rfl (lv_at hl 4 rfl) ?_
                obtain ⟨h_114, hf⟩ := o_c hf
                refine va_iast hx hb hK hP hD hS 7 0 rfl rfl h_114 dM_point_114 (fun H locs hP hD hS => ?_)
                have hP : va_P (dC, dI) vwCl [(mo, .inr (4, [.int thr, .int ten, .ref a_ar, .ref a_si, .ref a_st, .ref a_en, .ref a_pu, .ref a_xs, .ref a_ys, .ref a_fo, .ref a_or, .int loc, .int rou, .int mum, .int sli, .int sha, .int fad, .int day, .ref a_o1, .ref a_o2])), (a_ar, .inl (cI, 6, .inl mar)), (a_si, .inl (cI, 6, .inl msi)), (a_st, .inl (cI, 6, .inl mst)), (a_en, .inl (cI, 6, .inl men)), (a_pu, .inl (cI, 6, .inl mpu)), (a_xs, .inl (cI, 60, .inl (upd mxs ((((10 : Int32) * p1) + (msi (p1).toNatClampNeg))).toNatClampNeg p2))), (a_ys, .inl (cI, 60, .inl (upd mys ((((10 : Int32) * p1) + (msi (p1).toNatClampNeg))).toNatClampNeg p3))), (a_fo, .inl (cL, 60, .inr (.inl mfo))), (a_or, .inl (cI, 6, .inl mor)), (a_o1, .inl (cL, 10, .inr (.inl mo1))), (a_o2, .inl (cL, 10, .inr (.inl mo2)))] H := hP
                have hD : va_D A [(mo, .inr (4, [.int thr, .int ten, .ref a_ar, .ref a_si, .ref a_st, .ref a_en, .ref a_pu, .ref a_xs, .ref a_ys, .ref a_fo, .ref a_or, .int loc, .int rou, .int mum, .int sli, .int sha, .int fad, .int day, .ref a_o1, .ref a_o2])), (a_ar, .inl (cI, 6, .inl mar)), (a_si, .inl (cI, 6, .inl msi)), (a_st, .inl (cI, 6, .inl mst)), (a_en, .inl (cI, 6, .inl men)), (a_pu, .inl (cI, 6, .inl mpu)), (a_xs, .inl (cI, 60, .inl (upd mxs ((((10 : Int32) * p1) + (msi (p1).toNatClampNeg))).toNatClampNeg p2))), (a_ys, .inl (cI, 60, .inl (upd mys ((((10 : Int32) * p1) + (msi (p1).toNatClampNeg))).toNatClampNeg p3))), (a_fo, .inl (cL, 60, .inr (.inl mfo))), (a_or, .inl (cI, 6, .inl mor)), (a_o1, .inl (cL, 10, .inr (.inl mo1))), (a_o2, .inl (cL, 10, .inr (.inl mo2)))] := hD
                refine lv_aload_n hx hb dM_point_115 rfl (lv_at hl 1 rfl) ?_
                refine va_get (D := (dC, dI)) (ci := 4) (v := .ref a_si) (C := "TendonLossesModel") (T := TT_M) (N := 20) hx hb hts in_M hown hK hP 0 rfl rfl 3 (by decide) (hts _ kw_425) (fun _ h9 => h9) rfl dM_point_116 ?_
                refine lv_iload_n hx hb dM_point_119 rfl (lv_at hl 2 rfl) ?_
                refine lv_dup2_11 hx hb dM_point_120 rfl rfl ?_
                obtain ⟨h_121, hf⟩ := o_c hf
                refine va_iald hx hb hK hP 2 0 rfl rfl h_121 dM_point_121 ?_
                refine lv_iconst (v := (1 : Int32)) hx hb dM_point_122 (by decide) ?_
                refine lv_iadd hx hb dM_point_123 ?_
                obtain ⟨h_124, hf⟩ := o_c hf
                refine va_iast hx hb hK hP hD hS 2 0 rfl rfl h_124 dM_point_124 (fun H locs hP hD hS => ?_)
                have hP : va_P (dC, dI) vwCl [(mo, .inr (4, [.int thr, .int ten, .ref a_ar, .ref a_si, .ref a_st, .ref a_en, .ref a_pu, .ref a_xs, .ref a_ys, .ref a_fo, .ref a_or, .int loc, .int rou, .int mum, .int sli, .int sha, .int fad, .int day, .ref a_o1, .ref a_o2])), (a_ar, .inl (cI, 6, .inl mar)), (a_si, .inl (cI, 6, .inl (upd msi (p1).toNatClampNeg ((msi (p1).toNatClampNeg) + (1 : Int32))))), (a_st, .inl (cI, 6, .inl mst)), (a_en, .inl (cI, 6, .inl men)), (a_pu, .inl (cI, 6, .inl mpu)), (a_xs, .inl (cI, 60, .inl (upd mxs ((((10 : Int32) * p1) + (msi (p1).toNatClampNeg))).toNatClampNeg p2))), (a_ys, .inl (cI, 60, .inl (upd mys ((((10 : Int32) * p1) + (msi (p1).toNatClampNeg))).toNatClampNeg p3))), (a_fo, .inl (cL, 60, .inr (.inl mfo))), (a_or, .inl (cI, 6, .inl mor)), (a_o1, .inl (cL, 10, .inr (.inl mo1))), (a_o2, .inl (cL, 10, .inr (.inl mo2)))] H := hP
                have hD : va_D A [(mo, .inr (4, [.int thr, .int ten, .ref a_ar, .ref a_si, .ref a_st, .ref a_en, .ref a_pu, .ref a_xs, .ref a_ys, .ref a_fo, .ref a_or, .int loc, .int rou, .int mum, .int sli, .int sha, .int fad, .int day, .ref a_o1, .ref a_o2])), (a_ar, .inl (cI, 6, .inl mar)), (a_si, .inl (cI, 6, .inl (upd msi (p1).toNatClampNeg ((msi (p1).toNatClampNeg) + (1 : Int32))))), (a_st, .inl (cI, 6, .inl mst)), (a_en, .inl (cI, 6, .inl men)), (a_pu, .inl (cI, 6, .inl mpu)), (a_xs, .inl (cI, 60, .inl (upd mxs ((((10 : Int32) * p1) + (msi (p1).toNatClampNeg))).toNatClampNeg p2))), (a_ys, .inl (cI, 60, .inl (upd mys ((((10 : Int32) * p1) + (msi (p1).toNatClampNeg))).toNatClampNeg p3))), (a_fo, .inl (cL, 60, .inr (.inl mfo))), (a_or, .inl (cI, 6, .inl mor)), (a_o1, .inl (cL, 10, .inr (.inl mo1))), (a_o2, .inl (cL, 10, .inr (.inl mo2)))] := hD
                refine lv_aload_n hx hb dM_point_125 rfl (lv_at hl 1 rfl) ?_
                refine va_get (D := (dC, dI)) (ci := 4) (v := .ref a_si) (C := "TendonLossesModel") (T := TT_M) (N := 20) hx hb hts in_M hown hK hP 0 rfl rfl 3 (by decide) (hts _ kw_425) (fun _ h9 => h9) rfl dM_point_126 ?_
                refine lv_iload_n hx hb dM_point_129 rfl (lv_at hl 2 rfl) ?_
                obtain ⟨h_130, hf⟩ := o_c hf
                refine va_iald hx hb hK hP 2 0 rfl rfl h_130 dM_point_130 ?_
                have k0 := Option.some.inj hf
                obtain ⟨e0, k1⟩ := Prod.mk.inj k0
                obtain ⟨e1, k2⟩ := Prod.mk.inj k1
                obtain ⟨e2, k3⟩ := Prod.mk.inj k2
                subst e0
                subst e1
                subst e2
                subst k3
                subst hQ
                exact W.iret (v := ((upd msi (p1).toNatClampNeg ((msi (p1).toNatClampNeg) + (1 : Int32))) (p1).toNatClampNeg)) hx hb hr (fun t ht hW => ⟨⟨((upd msi (p1).toNatClampNeg ((msi (p1).toNatClampNeg) + (1 : Int32))) (p1).toNatClampNeg), (), rfl, rfl, by rw [ht]; exact hP, va_K.moved hW.alike hK, hD⟩, hS.F ht⟩) hS.2.2 dM_point_131
              · have hf := o_f hf c_84
                refine lv_iconst (v := (-1 : Int32)) hx hb dM_point_87 (by decide) ?_
                have k0 := Option.some.inj hf
                obtain ⟨e0, k1⟩ := Prod.mk.inj k0
                obtain ⟨e1, k2⟩ := Prod.mk.inj k1
                obtain ⟨e2, k3⟩ := Prod.mk.inj k2
                subst e0
                subst e1
                subst e2
                subst k3
                subst hQ
                exact W.iret (v := (-1 : Int32)) hx hb hr (fun t ht hW => ⟨⟨(-1 : Int32), (), rfl, rfl, by rw [ht]; exact hP, va_K.moved hW.alike hK, hD⟩, hS.F ht⟩) hS.2.2 dM_point_88
      · have hf := o_t hf c_25
        refine lv_iconst (v := (-1 : Int32)) hx hb dM_point_28 (by decide) ?_
        have k0 := Option.some.inj hf
        obtain ⟨e0, k1⟩ := Prod.mk.inj k0
        obtain ⟨e1, k2⟩ := Prod.mk.inj k1
        obtain ⟨e2, k3⟩ := Prod.mk.inj k2
        subst e0
        subst e1
        subst e2
        subst k3
        subst hQ
        exact W.iret (v := (-1 : Int32)) hx hb hr (fun t ht hW => ⟨⟨(-1 : Int32), (), rfl, rfl, by rw [ht]; exact hP, va_K.moved hW.alike hK, hD⟩, hS.F ht⟩) hS.2.2 dM_point_29

def fM_friction (fu : Nat) (thr : Int32) (ten : Int32) (loc : Int32) (rou : Int32) (mum : Int32) (sli : Int32) (sha : Int32) (fad : Int32) (day : Int32) (mar : Nat → Int32) (msi : Nat → Int32) (mst : Nat → Int32) (men : Nat → Int32) (mpu : Nat → Int32) (mxs : Nat → Int32) (mys : Nat → Int32) (mfo : Nat → Int64) (mor : Nat → Int32) (mo1 : Nat → Int64) (mo2 : Nat → Int64) (p1 : Int32) (p2 : Int32) : Option ((Int32) × (Int32) × (Int32)) := ((fM_in fu p1 (0 : Int32) (1000 : Int32)).bind fun r_5 => (if r_5 = (0 : Int32) then some ((0 : Int32), rou, mum) else ((fM_in fu p2 (0 : Int32) (500 : Int32)).bind fun r_16 => (if r_16 = (0 : Int32) then some ((0 : Int32), rou, mum) else some ((1 : Int32), p1, p2)))))
def rmM_friction : Room := { frames := 1, cells := 0, slots := 0, locals := 22 }
set_option maxHeartbeats 4000000 in
set_option maxRecDepth 100000 in
theorem mM_friction (l : Launch) (dC : Nat → ClassId) (dI : Nat → Nat → Nat) (cI cL cT : ClassId) (mo a_ar a_si a_st a_en a_pu a_xs a_ys a_fo a_or a_o1 a_o2 : Nat) (sz : Nat) (fu : Nat) (thr : Int32) (ten : Int32) (loc : Int32) (rou : Int32) (mum : Int32) (sli : Int32) (sha : Int32) (fad : Int32) (day : Int32) (mar : Nat → Int32) (msi : Nat → Int32) (mst : Nat → Int32) (men : Nat → Int32) (mpu : Nat → Int32) (mxs : Nat → Int32) (mys : Nat → Int32) (mfo : Nat → Int64) (mor : Nat → Int32) (mo1 : Nat → Int64) (mo2 : Nat → Int64) (p1 : Int32) (p2 : Int32) (o0 : Int32) (o1 : Int32) (o2 : Int32) (hf : fM_friction fu thr ten loc rou mum sli sha fad day mar msi mst men mpu mxs mys mfo mor mo1 mo2 p1 p2 = some (o0, o1, o2)) : Met l yM_friction wM_friction rmM_friction (kP (dC, dI) [(cI, .int), (cL, .long), (cT, .object "TendonLosses$Tendon")] [.ref mo, .int p1, .int p2] [(mo, .inr (4, [.int thr, .int ten, .ref a_ar, .ref a_si, .ref a_st, .ref a_en, .ref a_pu, .ref a_xs, .ref a_ys, .ref a_fo, .ref a_or, .int loc, .int rou, .int mum, .int sli, .int sha, .int fad, .int day, .ref a_o1, .ref a_o2])), (a_ar, .inl (cI, 6, .inl mar)), (a_si, .inl (cI, 6, .inl msi)), (a_st, .inl (cI, 6, .inl mst)), (a_en, .inl (cI, 6, .inl men)), (a_pu, .inl (cI, 6, .inl mpu)), (a_xs, .inl (cI, 60, .inl mxs)), (a_ys, .inl (cI, 60, .inl mys)), (a_fo, .inl (cL, 60, .inr (.inl mfo))), (a_or, .inl (cI, 6, .inl mor)), (a_o1, .inl (cL, 10, .inr (.inl mo1))), (a_o2, .inl (cL, 10, .inr (.inl mo2)))] sz) (va_Qi (fun (r : Int32) (_ : Unit) => r = o0) (kB (dC, dI) [(cI, .int), (cL, .long), (cT, .object "TendonLosses$Tendon")] (va_A [(mo, .inr (4, [.int thr, .int ten, .ref a_ar, .ref a_si, .ref a_st, .ref a_en, .ref a_pu, .ref a_xs, .ref a_ys, .ref a_fo, .ref a_or, .int loc, .int rou, .int mum, .int sli, .int sha, .int fad, .int day, .ref a_o1, .ref a_o2])), (a_ar, .inl (cI, 6, .inl mar)), (a_si, .inl (cI, 6, .inl msi)), (a_st, .inl (cI, 6, .inl mst)), (a_en, .inl (cI, 6, .inl men)), (a_pu, .inl (cI, 6, .inl mpu)), (a_xs, .inl (cI, 60, .inl mxs)), (a_ys, .inl (cI, 60, .inl mys)), (a_fo, .inl (cL, 60, .inr (.inl mfo))), (a_or, .inl (cI, 6, .inl mor)), (a_o1, .inl (cL, 10, .inr (.inl mo1))), (a_o2, .inl (cL, 10, .inr (.inl mo2)))] sz) [(mo, .inr (4, [.int thr, .int ten, .ref a_ar, .ref a_si, .ref a_st, .ref a_en, .ref a_pu, .ref a_xs, .ref a_ys, .ref a_fo, .ref a_or, .int loc, .int o1, .int o2, .int sli, .int sha, .int fad, .int day, .ref a_o1, .ref a_o2])), (a_ar, .inl (cI, 6, .inl mar)), (a_si, .inl (cI, 6, .inl msi)), (a_st, .inl (cI, 6, .inl mst)), (a_en, .inl (cI, 6, .inl men)), (a_pu, .inl (cI, 6, .inl mpu)), (a_xs, .inl (cI, 60, .inl mxs)), (a_ys, .inl (cI, 60, .inl mys)), (a_fo, .inl (cL, 60, .inr (.inl mfo))), (a_or, .inl (cI, 6, .inl mor)), (a_o1, .inl (cL, 10, .inr (.inl mo1))), (a_o2, .inl (cL, 10, .inr (.inl mo2)))]) (va_A [(mo, .inr (4, [.int thr, .int ten, .ref a_ar, .ref a_si, .ref a_st, .ref a_en, .ref a_pu, .ref a_xs, .ref a_ys, .ref a_fo, .ref a_or, .int loc, .int rou, .int mum, .int sli, .int sha, .int fad, .int day, .ref a_o1, .ref a_o2])), (a_ar, .inl (cI, 6, .inl mar)), (a_si, .inl (cI, 6, .inl msi)), (a_st, .inl (cI, 6, .inl mst)), (a_en, .inl (cI, 6, .inl men)), (a_pu, .inl (cI, 6, .inl mpu)), (a_xs, .inl (cI, 60, .inl mxs)), (a_ys, .inl (cI, 60, .inl mys)), (a_fo, .inl (cL, 60, .inr (.inl mfo))), (a_or, .inl (cI, 6, .inl mor)), (a_o1, .inl (cL, 10, .inr (.inl mo1))), (a_o2, .inl (cL, 10, .inr (.inl mo2)))] sz)) 0 0 (va_A [(mo, .inr (4, [.int thr, .int ten, .ref a_ar, .ref a_si, .ref a_st, .ref a_en, .ref a_pu, .ref a_xs, .ref a_ys, .ref a_fo, .ref a_or, .int loc, .int rou, .int mum, .int sli, .int sha, .int fad, .int day, .ref a_o1, .ref a_o2])), (a_ar, .inl (cI, 6, .inl mar)), (a_si, .inl (cI, 6, .inl msi)), (a_st, .inl (cI, 6, .inl mst)), (a_en, .inl (cI, 6, .inl men)), (a_pu, .inl (cI, 6, .inl mpu)), (a_xs, .inl (cI, 60, .inl mxs)), (a_ys, .inl (cI, 60, .inl mys)), (a_fo, .inl (cL, 60, .inr (.inl mfo))), (a_or, .inl (cI, 6, .inl mor)), (a_o1, .inl (cL, 10, .inr (.inl mo1))), (a_o2, .inl (cL, 10, .inr (.inl mo2)))] sz) := by
  refine Met.ofW (cc := bM_friction) (maxL := 3) (ret := (some .boolean)) (by decide) rfl ?_
  intro p e s m args below meth c s₁ B hml hv
  obtain ⟨rfl, hsz, hP, hK, hD0, hN⟩ := hv
  have hx := B.exec
  have hb := B.bytes
  have hr := B.returns
  have hts : ∀ w ∈ gt, w.before ([.ref mo, .int p1, .int p2] : List Value).toArray s = true := fun w h => atoms_spec (ws := wM_friction) B.pre w (List.mem_cons_of_mem _ h)
  have hown : s.vm.findClass "TendonLossesModel" = some m.cls := findClass_of_methodNamed B.named
  have hlocks := B.notSynchronized
  subst hsz
  have hD := hD0.self (sz := s.heap.size)
  generalize hAe : va_A [(mo, .inr (4, [.int thr, .int ten, .ref a_ar, .ref a_si, .ref a_st, .ref a_en, .ref a_pu, .ref a_xs, .ref a_ys, .ref a_fo, .ref a_or, .int loc, .int rou, .int mum, .int sli, .int sha, .int fad, .int day, .ref a_o1, .ref a_o2])), (a_ar, .inl (cI, 6, .inl mar)), (a_si, .inl (cI, 6, .inl msi)), (a_st, .inl (cI, 6, .inl mst)), (a_en, .inl (cI, 6, .inl men)), (a_pu, .inl (cI, 6, .inl mpu)), (a_xs, .inl (cI, 60, .inl mxs)), (a_ys, .inl (cI, 60, .inl mys)), (a_fo, .inl (cL, 60, .inr (.inl mfo))), (a_or, .inl (cI, 6, .inl mor)), (a_o1, .inl (cL, 10, .inr (.inl mo1))), (a_o2, .inl (cL, 10, .inr (.inl mo2)))] s.heap.size = A at hD ⊢
  have hA : ∀ q : Nat, s.heap.size ≤ q → A q := fun q h => by rw [← hAe]; exact Or.inr h
  have hS : va_S A s.heap s.heap [] := va_S.rf
  have hP : va_P (dC, dI) vwCl [(mo, .inr (4, [.int thr, .int ten, .ref a_ar, .ref a_si, .ref a_st, .ref a_en, .ref a_pu, .ref a_xs, .ref a_ys, .ref a_fo, .ref a_or, .int loc, .int rou, .int mum, .int sli, .int sha, .int fad, .int day, .ref a_o1, .ref a_o2])), (a_ar, .inl (cI, 6, .inl mar)), (a_si, .inl (cI, 6, .inl msi)), (a_st, .inl (cI, 6, .inl mst)), (a_en, .inl (cI, 6, .inl men)), (a_pu, .inl (cI, 6, .inl mpu)), (a_xs, .inl (cI, 60, .inl mxs)), (a_ys, .inl (cI, 60, .inl mys)), (a_fo, .inl (cL, 60, .inr (.inl mfo))), (a_or, .inl (cI, 6, .inl mor)), (a_o1, .inl (cL, 10, .inr (.inl mo1))), (a_o2, .inl (cL, 10, .inr (.inl mo2)))] s.heap := hP
  have hl := lv_entry ([.ref mo, .int p1, .int p2]) (n := 3) (Nat.le_of_ble_eq_true rfl)
  rw [lg_entry_eq]
  generalize (lg_sl ([.ref mo, .int p1, .int p2]) ++ List.replicate (3 - (lg_sl ([.ref mo, .int p1, .int p2])).length) Slot.unset).toArray = ls at hl ⊢
  have hl : lv_has ls 3 [(0, .ref mo), (1, .int p1), (2, .int p2)] := hl
  refine W.nameQ (fun Q hQ => ?_)
  unfold fM_friction at hf
  refine lv_iload_n hx hb dM_friction_0 rfl (lv_at hl 1 rfl) ?_
  refine lv_iconst (v := (0 : Int32)) hx hb dM_friction_1 (by decide) ?_
  refine lv_sipush (v := (1000 : Int32)) hx hb dM_friction_2 (by decide) ?_
  obtain ⟨r_5, q_5, hf⟩ := o_b hf
  have hPc := hP.sub (ws' := []) [] rfl
  have hDc := hD.sub (ws' := []) [] (by decide) rfl
  refine kc_i (va_runS (As := [.int p1, .int (0 : Int32), .int (1000 : Int32)]) (rest := []) ⟨hx, hb, hml, hown, hts⟩ (mM_in l dC dI cI cL cT  s.heap.size fu p1 (0 : Int32) (1000 : Int32) (r_5) q_5) ⟨callB_of 3 hts (gd_code kw_489) rfl rfl rfl (hts _ kw_32) (hts _ kw_487) (by decide +kernel) ⟨Nat.le_of_ble_eq_true rfl, Nat.le_of_ble_eq_true rfl⟩, hts _ kw_488⟩ (kP_S hPc hK hDc hN) rfl rfl hl.1 rfl (lv_room (Nat.le_of_ble_eq_true rfl)) dM_friction_5 ⟨Nat.le_of_ble_eq_true rfl, Nat.le_of_ble_eq_true rfl⟩) hP hD hS hA (wc := []) (wr := [(mo, .inr (4, [.int thr, .int ten, .ref a_ar, .ref a_si, .ref a_st, .ref a_en, .ref a_pu, .ref a_xs, .ref a_ys, .ref a_fo, .ref a_or, .int loc, .int rou, .int mum, .int sli, .int sha, .int fad, .int day, .ref a_o1, .ref a_o2])), (a_ar, .inl (cI, 6, .inl mar)), (a_si, .inl (cI, 6, .inl msi)), (a_st, .inl (cI, 6, .inl mst)), (a_en, .inl (cI, 6, .inl men)), (a_pu, .inl (cI, 6, .inl mpu)), (a_xs, .inl (cI, 60, .inl mxs)), (a_ys, .inl (cI, 60, .inl mys)), (a_fo, .inl (cL, 60, .inr (.inl mfo))), (a_or, .inl (cI, 6, .inl mor)), (a_o1, .inl (cL, 10, .inr (.inl mo1))), (a_o2, .inl (cL, 10, .inr (.inl mo2)))]) (w1 := []) (ws' := [(mo, .inr (4, [.int thr, .int ten, .ref a_ar, .ref a_si, .ref a_st, .ref a_en, .ref a_pu, .ref a_xs, .ref a_ys, .ref a_fo, .ref a_or, .int loc, .int rou, .int mum, .int sli, .int sha, .int fad, .int day, .ref a_o1, .ref a_o2])), (a_ar, .inl (cI, 6, .inl mar)), (a_si, .inl (cI, 6, .inl msi)), (a_st, .inl (cI, 6, .inl mst)), (a_en, .inl (cI, 6, .inl men)), (a_pu, .inl (cI, 6, .inl mpu)), (a_xs, .inl (cI, 60, .inl mxs)), (a_ys, .inl (cI, 60, .inl mys)), (a_fo, .inl (cL, 60, .inr (.inl mfo))), (a_or, .inl (cI, 6, .inl mor)), (a_o1, .inl (cL, 10, .inr (.inl mo1))), (a_o2, .inl (cL, 10, .inr (.inl mo2)))]) [] [0, 1, 2, 3, 4, 5, 6, 7, 8, 9, 10, 11] [0, 1, 2, 3, 4, 5, 6, 7, 8, 9, 10, 11] rfl rfl (by decide) (by decide) rfl (by decide) rfl (fun H locs hP hD hS => ?_)
  refine lv_if_eq (tgt := 22) hx hb dM_friction_8 (by decide) (fun c_8 => ?_) (fun c_8 => ?_)
  · have hf := o_t hf c_8
    refine lv_iconst (v := (0 : Int32)) hx hb dM_friction_22 (by decide) ?_
    have k0 := Option.some.inj hf
    obtain ⟨e0, k1⟩ := Prod.mk.inj k0
    obtain ⟨e1, k2⟩ := Prod.mk.inj k1
    subst e0
    subst e1
    subst k2
    subst hQ
    exact W.zret (v := (0 : Int32)) (ty := .boolean) hx hb hr rfl (fun t ht hW => ⟨⟨(0 : Int32), (), rfl, rfl, by rw [ht]; exact hP, va_K.moved hW.alike hK, hD⟩, hS.F ht⟩) hS.2.2 dM_friction_23
  · have hf := o_f hf c_8
    refine lv_iload_n hx hb dM_friction_11 rfl (lv_at hl 2 rfl) ?_
    refine lv_iconst (v := (0 : Int32)) hx hb dM_friction_12 (by decide) ?_
    refine lv_sipush (v := (500 : Int32)) hx hb dM_friction_13 (by decide) ?_
    obtain ⟨r_16, q_16, hf⟩ := o_b hf
    have hPc := hP.sub (ws' := []) [] rfl
    have hDc := hD.sub (ws' := []) [] (by decide) rfl
    refine kc_i (va_runS (As := [.int p2, .int (0 : Int32), .int (500 : Int32)]) (rest := []) ⟨hx, hb, hml, hown, hts⟩ (mM_in l dC dI cI cL cT  H.size fu p2 (0 : Int32) (500 : Int32) (r_16) q_16) ⟨callB_of 3 hts (gd_code kw_489) rfl rfl rfl (hts _ kw_32) (hts _ kw_487) (by decide +kernel) ⟨Nat.le_of_ble_eq_true rfl, Nat.le_of_ble_eq_true rfl⟩, hts _ kw_488⟩ (kP_S hPc hK hDc hN) rfl rfl hl.1 rfl (lv_room (Nat.le_of_ble_eq_true rfl)) dM_friction_16 ⟨Nat.le_of_ble_eq_true rfl, Nat.le_of_ble_eq_true rfl⟩) hP hD hS hA (wc := []) (wr := [(mo, .inr (4, [.int thr, .int ten, .ref a_ar, .ref a_si, .ref a_st, .ref a_en, .ref a_pu, .ref a_xs, .ref a_ys, .ref a_fo, .ref a_or, .int loc, .int rou, .int mum, .int sli, .int sha, .int fad, .int day, .ref a_o1, .ref a_o2])), (a_ar, .inl (cI, 6, .inl mar)), (a_si, .inl (cI, 6, .inl msi)), (a_st, .inl (cI, 6, .inl mst)), (a_en, .inl (cI, 6, .inl men)), (a_pu, .inl (cI, 6, .inl mpu)), (a_xs, .inl (cI, 60, .inl mxs)), (a_ys, .inl (cI, 60, .inl mys)), (a_fo, .inl (cL, 60, .inr (.inl mfo))), (a_or, .inl (cI, 6, .inl mor)), (a_o1, .inl (cL, 10, .inr (.inl mo1))), (a_o2, .inl (cL, 10, .inr (.inl mo2)))]) (w1 := []) (ws' := [(mo, .inr (4, [.int thr, .int ten, .ref a_ar, .ref a_si, .ref a_st, .ref a_en, .ref a_pu, .ref a_xs, .ref a_ys, .ref a_fo, .ref a_or, .int loc, .int rou, .int mum, .int sli, .int sha, .int fad, .int day, .ref a_o1, .ref a_o2])), (a_ar, .inl (cI, 6, .inl mar)), (a_si, .inl (cI, 6, .inl msi)), (a_st, .inl (cI, 6, .inl mst)), (a_en, .inl (cI, 6, .inl men)), (a_pu, .inl (cI, 6, .inl mpu)), (a_xs, .inl (cI, 60, .inl mxs)), (a_ys, .inl (cI, 60, .inl mys)), (a_fo, .inl (cL, 60, .inr (.inl mfo))), (a_or, .inl (cI, 6, .inl mor)), (a_o1, .inl (cL, 10, .inr (.inl mo1))), (a_o2, .inl (cL, 10, .inr (.inl mo2)))]) [] [0, 1, 2, 3, 4, 5, 6, 7, 8, 9, 10, 11] [0, 1, 2, 3, 4, 5, 6, 7, 8, 9, 10, 11] rfl rfl (by decide) (by decide) rfl (by decide) rfl (fun H locs hP hD hS => ?_)
    refine lv_if_ne (tgt := 24) hx hb dM_friction_19 (by decide) (fun c_19 => ?_) (fun c_19 => ?_)
    · have hf := o_f hf c_19
      refine lv_aload_n hx hb dM_friction_24 rfl (lv_at hl 0 rfl) ?_
      refine lv_iload_n hx hb dM_friction_25 rfl (lv_at hl 1 rfl) ?_
      refine va_put (D := (dC, dI)) (ci := 4) (v := .int p1) (ty := (.int)) (C := "TendonLossesModel") (T := TT_M) (N := 20) hx hb hts in_M ty_M ty_M_ok nn_M hown hK hP hD hS 0 rfl rfl 12 (by decide) (hts _ kw_434) (fun _ h9 => h9) rfl (by decide +kernel) rfl rfl (Nat.le_of_ble_eq_true rfl) dM_friction_26 (fun H locs hP hD hS => ?_)
      have hP : va_P (dC, dI) vwCl [(mo, .inr (4, [.int thr, .int ten, .ref a_ar, .ref a_si, .ref a_st, .ref a_en, .ref a_pu, .ref a_xs, .ref a_ys, .ref a_fo, .ref a_or, .int loc, .int p1, .int mum, .int sli, .int sha, .int fad, .int day, .ref a_o1, .ref a_o2])), (a_ar, .inl (cI, 6, .inl mar)), (a_si, .inl (cI, 6, .inl msi)), (a_st, .inl (cI, 6, .inl mst)), (a_en, .inl (cI, 6, .inl men)), (a_pu, .inl (cI, 6, .inl mpu)), (a_xs, .inl (cI, 60, .inl mxs)), (a_ys, .inl (cI, 60, .inl mys)), (a_fo, .inl (cL, 60, .inr (.inl mfo))), (a_or, .inl (cI, 6, .inl mor)), (a_o1, .inl (cL, 10, .inr (.inl mo1))), (a_o2, .inl (cL, 10, .inr (.inl mo2)))] H := hP
      have hD : va_D A [(mo, .inr (4, [.int thr, .int ten, .ref a_ar, .ref a_si, .ref a_st, .ref a_en, .ref a_pu, .ref a_xs, .ref a_ys, .ref a_fo, .ref a_or, .int loc, .int p1, .int mum, .int sli, .int sha, .int fad, .int day, .ref a_o1, .ref a_o2])), (a_ar, .inl (cI, 6, .inl mar)), (a_si, .inl (cI, 6, .inl msi)), (a_st, .inl (cI, 6, .inl mst)), (a_en, .inl (cI, 6, .inl men)), (a_pu, .inl (cI, 6, .inl mpu)), (a_xs, .inl (cI, 60, .inl mxs)), (a_ys, .inl (cI, 60, .inl mys)), (a_fo, .inl (cL, 60, .inr (.inl mfo))), (a_or, .inl (cI, 6, .inl mor)), (a_o1, .inl (cL, 10, .inr (.inl mo1))), (a_o2, .inl (cL, 10, .inr (.inl mo2)))] := hD
      refine lv_aload_n hx hb dM_friction_29 rfl (lv_at hl 0 rfl) ?_
      refine lv_iload_n hx hb dM_friction_30 rfl (lv_at hl 2 rfl) ?_
      refine va_put (D := (dC, dI)) (ci := 4) (v := .int p2) (ty := (.int)) (C := "TendonLossesModel") (T := TT_M) (N := 20) hx hb hts in_M ty_M ty_M_ok nn_M hown hK hP hD hS 0 rfl rfl 13 (by decide) (hts _ kw_435) (fun _ h9 => h9) rfl (by decide +kernel) rfl rfl (Nat.le_of_ble_eq_true rfl) dM_friction_31 (fun H locs hP hD hS => ?_)
      have hP : va_P (dC, dI) vwCl [(mo, .inr (4, [.int thr, .int ten, .ref a_ar, .ref a_si, .ref a_st, .ref a_en, .ref a_pu, .ref a_xs, .ref a_ys, .ref a_fo, .ref a_or, .int loc, .int p1, .int p2, .int sli, .int sha, .int fad, .int day, .ref a_o1, .ref a_o2])), (a_ar, .inl (cI, 6, .inl mar)), (a_si, .inl (cI, 6, .inl msi)), (a_st, .inl (cI, 6, .inl mst)), (a_en, .inl (cI, 6, .inl men)), (a_pu, .inl (cI, 6, .inl mpu)), (a_xs, .inl (cI, 60, .inl mxs)), (a_ys, .inl (cI, 60, .inl mys)), (a_fo, .inl (cL, 60, .inr (.inl mfo))), (a_or, .inl (cI, 6, .inl mor)), (a_o1, .inl (cL, 10, .inr (.inl mo1))), (a_o2, .inl (cL, 10, .inr (.inl mo2)))] H := hP
      have hD : va_D A [(mo, .inr (4, [.int thr, .int ten, .ref a_ar, .ref a_si, .ref a_st, .ref a_en, .ref a_pu, .ref a_xs, .ref a_ys, .ref a_fo, .ref a_or, .int loc, .int p1, .int p2, .int sli, .int sha, .int fad, .int day, .ref a_o1, .ref a_o2])), (a_ar, .inl (cI, 6, .inl mar)), (a_si, .inl (cI, 6, .inl msi)), (a_st, .inl (cI, 6, .inl mst)), (a_en, .inl (cI, 6, .inl men)), (a_pu, .inl (cI, 6, .inl mpu)), (a_xs, .inl (cI, 60, .inl mxs)), (a_ys, .inl (cI, 60, .inl mys)), (a_fo, .inl (cL, 60, .inr (.inl mfo))), (a_or, .inl (cI, 6, .inl mor)), (a_o1, .inl (cL, 10, .inr (.inl mo1))), (a_o2, .inl (cL, 10, .inr (.inl mo2)))] := hD
      refine lv_iconst (v := (1 : Int32)) hx hb dM_friction_34 (by decide) ?_
      have k0 := Option.some.inj hf
      obtain ⟨e0, k1⟩ := Prod.mk.inj k0
      obtain ⟨e1, k2⟩ := Prod.mk.inj k1
      subst e0
      subst e1
      subst k2
      subst hQ
      exact W.zret (v := (1 : Int32)) (ty := .boolean) hx hb hr rfl (fun t ht hW => ⟨⟨(1 : Int32), (), rfl, rfl, by rw [ht]; exact hP, va_K.moved hW.alike hK, hD⟩, hS.F ht⟩) hS.2.2 dM_friction_35
    · have hf := o_t hf c_19
      refine lv_iconst (v := (0 : Int32)) hx hb dM_friction_22 (by decide) ?_
      have k0 := Option.some.inj hf
      obtain ⟨e0, k1⟩ := Prod.mk.inj k0
      obtain ⟨e1, k2⟩ := Prod.mk.inj k1
      subst e0
      subst e1
      subst k2
      subst hQ
      exact W.zret (v := (0 : Int32)) (ty := .boolean) hx hb hr rfl (fun t ht hW => ⟨⟨(0 : Int32), (), rfl, rfl, by rw [ht]; exact hP, va_K.moved hW.alike hK, hD⟩, hS.F ht⟩) hS.2.2 dM_friction_23

def fM_losses (fu : Nat) (thr : Int32) (ten : Int32) (loc : Int32) (rou : Int32) (mum : Int32) (sli : Int32) (sha : Int32) (fad : Int32) (day : Int32) (mar : Nat → Int32) (msi : Nat → Int32) (mst : Nat → Int32) (men : Nat → Int32) (mpu : Nat → Int32) (mxs : Nat → Int32) (mys : Nat → Int32) (mfo : Nat → Int64) (mor : Nat → Int32) (mo1 : Nat → Int64) (mo2 : Nat → Int64) (p1 : Int32) (p2 : Int32) (p3 : Int32) : Option ((Int32) × (Int32) × (Int32) × (Int32)) := ((fM_in fu p1 (0 : Int32) (20000 : Int32)).bind fun r_5 => (if r_5 = (0 : Int32) then some ((0 : Int32), sli, sha, fad) else ((fM_in fu p2 (0 : Int32) (100 : Int32)).bind fun r_15 => (if r_15 = (0 : Int32) then some ((0 : Int32), sli, sha, fad) else ((fM_in fu p3 (0 : Int32) (1000 : Int32)).bind fun r_26 => (if r_26 = (0 : Int32) then some ((0 : Int32), sli, sha, fad) else some ((1 : Int32), p1, p2, p3)))))))
def rmM_losses : Room := { frames := 1, cells := 0, slots := 0, locals := 22 }
set_option maxHeartbeats 4000000 in
set_option maxRecDepth 100000 in
theorem mM_losses (l : Launch) (dC : Nat → ClassId) (dI : Nat → Nat → Nat) (cI cL cT : ClassId) (mo a_ar a_si a_st a_en a_pu a_xs a_ys a_fo a_or a_o1 a_o2 : Nat) (sz : Nat) (fu : Nat) (thr : Int32) (ten : Int32) (loc : Int32) (rou : Int32) (mum : Int32) (sli : Int32) (sha : Int32) (fad : Int32) (day : Int32) (mar : Nat → Int32) (msi : Nat → Int32) (mst : Nat → Int32) (men : Nat → Int32) (mpu : Nat → Int32) (mxs : Nat → Int32) (mys : Nat → Int32) (mfo : Nat → Int64) (mor : Nat → Int32) (mo1 : Nat → Int64) (mo2 : Nat → Int64) (p1 : Int32) (p2 : Int32) (p3 : Int32) (o0 : Int32) (o1 : Int32) (o2 : Int32) (o3 : Int32) (hf : fM_losses fu thr ten loc rou mum sli sha fad day mar msi mst men mpu mxs mys mfo mor mo1 mo2 p1 p2 p3 = some (o0, o1, o2, o3)) : Met l yM_losses wM_losses rmM_losses (kP (dC, dI) [(cI, .int), (cL, .long), (cT, .object "TendonLosses$Tendon")] [.ref mo, .int p1, .int p2, .int p3] [(mo, .inr (4, [.int thr, .int ten, .ref a_ar, .ref a_si, .ref a_st, .ref a_en, .ref a_pu, .ref a_xs, .ref a_ys, .ref a_fo, .ref a_or, .int loc, .int rou, .int mum, .int sli, .int sha, .int fad, .int day, .ref a_o1, .ref a_o2])), (a_ar, .inl (cI, 6, .inl mar)), (a_si, .inl (cI, 6, .inl msi)), (a_st, .inl (cI, 6, .inl mst)), (a_en, .inl (cI, 6, .inl men)), (a_pu, .inl (cI, 6, .inl mpu)), (a_xs, .inl (cI, 60, .inl mxs)), (a_ys, .inl (cI, 60, .inl mys)), (a_fo, .inl (cL, 60, .inr (.inl mfo))), (a_or, .inl (cI, 6, .inl mor)), (a_o1, .inl (cL, 10, .inr (.inl mo1))), (a_o2, .inl (cL, 10, .inr (.inl mo2)))] sz) (va_Qi (fun (r : Int32) (_ : Unit) => r = o0) (kB (dC, dI) [(cI, .int), (cL, .long), (cT, .object "TendonLosses$Tendon")] (va_A [(mo, .inr (4, [.int thr, .int ten, .ref a_ar, .ref a_si, .ref a_st, .ref a_en, .ref a_pu, .ref a_xs, .ref a_ys, .ref a_fo, .ref a_or, .int loc, .int rou, .int mum, .int sli, .int sha, .int fad, .int day, .ref a_o1, .ref a_o2])), (a_ar, .inl (cI, 6, .inl mar)), (a_si, .inl (cI, 6, .inl msi)), (a_st, .inl (cI, 6, .inl mst)), (a_en, .inl (cI, 6, .inl men)), (a_pu, .inl (cI, 6, .inl mpu)), (a_xs, .inl (cI, 60, .inl mxs)), (a_ys, .inl (cI, 60, .inl mys)), (a_fo, .inl (cL, 60, .inr (.inl mfo))), (a_or, .inl (cI, 6, .inl mor)), (a_o1, .inl (cL, 10, .inr (.inl mo1))), (a_o2, .inl (cL, 10, .inr (.inl mo2)))] sz) [(mo, .inr (4, [.int thr, .int ten, .ref a_ar, .ref a_si, .ref a_st, .ref a_en, .ref a_pu, .ref a_xs, .ref a_ys, .ref a_fo, .ref a_or, .int loc, .int rou, .int mum, .int o1, .int o2, .int o3, .int day, .ref a_o1, .ref a_o2])), (a_ar, .inl (cI, 6, .inl mar)), (a_si, .inl (cI, 6, .inl msi)), (a_st, .inl (cI, 6, .inl mst)), (a_en, .inl (cI, 6, .inl men)), (a_pu, .inl (cI, 6, .inl mpu)), (a_xs, .inl (cI, 60, .inl mxs)), (a_ys, .inl (cI, 60, .inl mys)), (a_fo, .inl (cL, 60, .inr (.inl mfo))), (a_or, .inl (cI, 6, .inl mor)), (a_o1, .inl (cL, 10, .inr (.inl mo1))), (a_o2, .inl (cL, 10, .inr (.inl mo2)))]) (va_A [(mo, .inr (4, [.int thr, .int ten, .ref a_ar, .ref a_si, .ref a_st, .ref a_en, .ref a_pu, .ref a_xs, .ref a_ys, .ref a_fo, .ref a_or, .int loc, .int rou, .int mum, .int sli, .int sha, .int fad, .int day, .ref a_o1, .ref a_o2])), (a_ar, .inl (cI, 6, .inl mar)), (a_si, .inl (cI, 6, .inl msi)), (a_st, .inl (cI, 6, .inl mst)), (a_en, .inl (cI, 6, .inl men)), (a_pu, .inl (cI, 6, .inl mpu)), (a_xs, .inl (cI, 60, .inl mxs)), (a_ys, .inl (cI, 60, .inl mys)), (a_fo, .inl (cL, 60, .inr (.inl mfo))), (a_or, .inl (cI, 6, .inl mor)), (a_o1, .inl (cL, 10, .inr (.inl mo1))), (a_o2, .inl (cL, 10, .inr (.inl mo2)))] sz)) 0 0 (va_A [(mo, .inr (4, [.int thr, .int ten, .ref a_ar, .ref a_si, .ref a_st, .ref a_en, .ref a_pu, .ref a_xs, .ref a_ys, .ref a_fo, .ref a_or, .int loc, .int rou, .int mum, .int sli, .int sha, .int fad, .int day, .ref a_o1, .ref a_o2])), (a_ar, .inl (cI, 6, .inl mar)), (a_si, .inl (cI, 6, .inl msi)), (a_st, .inl (cI, 6, .inl mst)), (a_en, .inl (cI, 6, .inl men)), (a_pu, .inl (cI, 6, .inl mpu)), (a_xs, .inl (cI, 60, .inl mxs)), (a_ys, .inl (cI, 60, .inl mys)), (a_fo, .inl (cL, 60, .inr (.inl mfo))), (a_or, .inl (cI, 6, .inl mor)), (a_o1, .inl (cL, 10, .inr (.inl mo1))), (a_o2, .inl (cL, 10, .inr (.inl mo2)))] sz) := by
  refine Met.ofW (cc := bM_losses) (maxL := 4) (ret := (some .boolean)) (by decide) rfl ?_
  intro p e s m args below meth c s₁ B hml hv
  obtain ⟨rfl, hsz, hP, hK, hD0, hN⟩ := hv
  have hx := B.exec
  have hb := B.bytes
  have hr := B.returns
  have hts : ∀ w ∈ gt, w.before ([.ref mo, .int p1, .int p2, .int p3] : List Value).toArray s = true := fun w h => atoms_spec (ws := wM_losses) B.pre w (List.mem_cons_of_mem _ h)
  have hown : s.vm.findClass "TendonLossesModel" = some m.cls := findClass_of_methodNamed B.named
  have hlocks := B.notSynchronized
  subst hsz
  have hD := hD0.self (sz := s.heap.size)
  generalize hAe : va_A [(mo, .inr (4, [.int thr, .int ten, .ref a_ar, .ref a_si, .ref a_st, .ref a_en, .ref a_pu, .ref a_xs, .ref a_ys, .ref a_fo, .ref a_or, .int loc, .int rou, .int mum, .int sli, .int sha, .int fad, .int day, .ref a_o1, .ref a_o2])), (a_ar, .inl (cI, 6, .inl mar)), (a_si, .inl (cI, 6, .inl msi)), (a_st, .inl (cI, 6, .inl mst)), (a_en, .inl (cI, 6, .inl men)), (a_pu, .inl (cI, 6, .inl mpu)), (a_xs, .inl (cI, 60, .inl mxs)), (a_ys, .inl (cI, 60, .inl mys)), (a_fo, .inl (cL, 60, .inr (.inl mfo))), (a_or, .inl (cI, 6, .inl mor)), (a_o1, .inl (cL, 10, .inr (.inl mo1))), (a_o2, .inl (cL, 10, .inr (.inl mo2)))] s.heap.size = A at hD ⊢
  have hA : ∀ q : Nat, s.heap.size ≤ q → A q := fun q h => by rw [← hAe]; exact Or.inr h
  have hS : va_S A s.heap s.heap [] := va_S.rf
  have hP : va_P (dC, dI) vwCl [(mo, .inr (4, [.int thr, .int ten, .ref a_ar, .ref a_si, .ref a_st, .ref a_en, .ref a_pu, .ref a_xs, .ref a_ys, .ref a_fo, .ref a_or, .int loc, .int rou, .int mum, .int sli, .int sha, .int fad, .int day, .ref a_o1, .ref a_o2])), (a_ar, .inl (cI, 6, .inl mar)), (a_si, .inl (cI, 6, .inl msi)), (a_st, .inl (cI, 6, .inl mst)), (a_en, .inl (cI, 6, .inl men)), (a_pu, .inl (cI, 6, .inl mpu)), (a_xs, .inl (cI, 60, .inl mxs)), (a_ys, .inl (cI, 60, .inl mys)), (a_fo, .inl (cL, 60, .inr (.inl mfo))), (a_or, .inl (cI, 6, .inl mor)), (a_o1, .inl (cL, 10, .inr (.inl mo1))), (a_o2, .inl (cL, 10, .inr (.inl mo2)))] s.heap := hP
  have hl := lv_entry ([.ref mo, .int p1, .int p2, .int p3]) (n := 4) (Nat.le_of_ble_eq_true rfl)
  rw [lg_entry_eq]
  generalize (lg_sl ([.ref mo, .int p1, .int p2, .int p3]) ++ List.replicate (4 - (lg_sl ([.ref mo, .int p1, .int p2, .int p3])).length) Slot.unset).toArray = ls at hl ⊢
  have hl : lv_has ls 4 [(0, .ref mo), (1, .int p1), (2, .int p2), (3, .int p3)] := hl
  refine W.nameQ (fun Q hQ => ?_)
  unfold fM_losses at hf
  refine lv_iload_n hx hb dM_losses_0 rfl (lv_at hl 1 rfl) ?_
  refine lv_iconst (v := (0 : Int32)) hx hb dM_losses_1 (by decide) ?_
  refine lv_sipush (v := (20000 : Int32)) hx hb dM_losses_2 (by decide) ?_
  obtain ⟨r_5, q_5, hf⟩ := o_b hf
  have hPc := hP.sub (ws' := []) [] rfl
  have hDc := hD.sub (ws' := []) [] (by decide) rfl
  refine kc_i (va_runS (As := [.int p1, .int (0 : Int32), .int (20000 : Int32)]) (rest := []) ⟨hx, hb, hml, hown, hts⟩ (mM_in l dC dI cI cL cT  s.heap.size fu p1 (0 : Int32) (20000 : Int32) (r_5) q_5) ⟨callB_of 3 hts (gd_code kw_489) rfl rfl rfl (hts _ kw_32) (hts _ kw_487) (by decide +kernel) ⟨Nat.le_of_ble_eq_true rfl, Nat.le_of_ble_eq_true rfl⟩, hts _ kw_488⟩ (kP_S hPc hK hDc hN) rfl rfl hl.1 rfl (lv_room (Nat.le_of_ble_eq_true rfl)) dM_losses_5 ⟨Nat.le_of_ble_eq_true rfl, Nat.le_of_ble_eq_true rfl⟩) hP hD hS hA (wc := []) (wr := [(mo, .inr (4, [.int thr, .int ten, .ref a_ar, .ref a_si, .ref a_st, .ref a_en, .ref a_pu, .ref a_xs, .ref a_ys, .ref a_fo, .ref a_or, .int loc, .int rou, .int mum, .int sli, .int sha, .int fad, .int day, .ref a_o1, .ref a_o2])), (a_ar, .inl (cI, 6, .inl mar)), (a_si, .inl (cI, 6, .inl msi)), (a_st, .inl (cI, 6, .inl mst)), (a_en, .inl (cI, 6, .inl men)), (a_pu, .inl (cI, 6, .inl mpu)), (a_xs, .inl (cI, 60, .inl mxs)), (a_ys, .inl (cI, 60, .inl mys)), (a_fo, .inl (cL, 60, .inr (.inl mfo))), (a_or, .inl (cI, 6, .inl mor)), (a_o1, .inl (cL, 10, .inr (.inl mo1))), (a_o2, .inl (cL, 10, .inr (.inl mo2)))]) (w1 := []) (ws' := [(mo, .inr (4, [.int thr, .int ten, .ref a_ar, .ref a_si, .ref a_st, .ref a_en, .ref a_pu, .ref a_xs, .ref a_ys, .ref a_fo, .ref a_or, .int loc, .int rou, .int mum, .int sli, .int sha, .int fad, .int day, .ref a_o1, .ref a_o2])), (a_ar, .inl (cI, 6, .inl mar)), (a_si, .inl (cI, 6, .inl msi)), (a_st, .inl (cI, 6, .inl mst)), (a_en, .inl (cI, 6, .inl men)), (a_pu, .inl (cI, 6, .inl mpu)), (a_xs, .inl (cI, 60, .inl mxs)), (a_ys, .inl (cI, 60, .inl mys)), (a_fo, .inl (cL, 60, .inr (.inl mfo))), (a_or, .inl (cI, 6, .inl mor)), (a_o1, .inl (cL, 10, .inr (.inl mo1))), (a_o2, .inl (cL, 10, .inr (.inl mo2)))]) [] [0, 1, 2, 3, 4, 5, 6, 7, 8, 9, 10, 11] [0, 1, 2, 3, 4, 5, 6, 7, 8, 9, 10, 11] rfl rfl (by decide) (by decide) rfl (by decide) rfl (fun H locs hP hD hS => ?_)
  refine lv_if_eq (tgt := 32) hx hb dM_losses_8 (by decide) (fun c_8 => ?_) (fun c_8 => ?_)
  · have hf := o_t hf c_8
    refine lv_iconst (v := (0 : Int32)) hx hb dM_losses_32 (by decide) ?_
    have k0 := Option.some.inj hf
    obtain ⟨e0, k1⟩ := Prod.mk.inj k0
    obtain ⟨e1, k2⟩ := Prod.mk.inj k1
    obtain ⟨e2, k3⟩ := Prod.mk.inj k2
    subst e0
    subst e1
    subst e2
    subst k3
    subst hQ
    exact W.zret (v := (0 : Int32)) (ty := .boolean) hx hb hr rfl (fun t ht hW => ⟨⟨(0 : Int32), (), rfl, rfl, by rw [ht]; exact hP, va_K.moved hW.alike hK, hD⟩, hS.F ht⟩) hS.2.2 dM_losses_33
  · have hf := o_f hf c_8
    refine lv_iload_n hx hb dM_losses_11 rfl (lv_at hl 2 rfl) ?_
    refine lv_iconst (v := (0 : Int32)) hx hb dM_losses_12 (by decide) ?_
    refine lv_bipush (v := (100 : Int32)) hx hb dM_losses_13 (by decide) ?_
    obtain ⟨r_15, q_15, hf⟩ := o_b hf
    have hPc := hP.sub (ws' := []) [] rfl
    have hDc := hD.sub (ws' := []) [] (by decide) rfl
    refine kc_i (va_runS (As := [.int p2, .int (0 : Int32), .int (100 : Int32)]) (rest := []) ⟨hx, hb, hml, hown, hts⟩ (mM_in l dC dI cI cL cT  H.size fu p2 (0 : Int32) (100 : Int32) (r_15) q_15) ⟨callB_of 3 hts (gd_code kw_489) rfl rfl rfl (hts _ kw_32) (hts _ kw_487) (by decide +kernel) ⟨Nat.le_of_ble_eq_true rfl, Nat.le_of_ble_eq_true rfl⟩, hts _ kw_488⟩ (kP_S hPc hK hDc hN) rfl rfl hl.1 rfl (lv_room (Nat.le_of_ble_eq_true rfl)) dM_losses_15 ⟨Nat.le_of_ble_eq_true rfl, Nat.le_of_ble_eq_true rfl⟩) hP hD hS hA (wc := []) (wr := [(mo, .inr (4, [.int thr, .int ten, .ref a_ar, .ref a_si, .ref a_st, .ref a_en, .ref a_pu, .ref a_xs, .ref a_ys, .ref a_fo, .ref a_or, .int loc, .int rou, .int mum, .int sli, .int sha, .int fad, .int day, .ref a_o1, .ref a_o2])), (a_ar, .inl (cI, 6, .inl mar)), (a_si, .inl (cI, 6, .inl msi)), (a_st, .inl (cI, 6, .inl mst)), (a_en, .inl (cI, 6, .inl men)), (a_pu, .inl (cI, 6, .inl mpu)), (a_xs, .inl (cI, 60, .inl mxs)), (a_ys, .inl (cI, 60, .inl mys)), (a_fo, .inl (cL, 60, .inr (.inl mfo))), (a_or, .inl (cI, 6, .inl mor)), (a_o1, .inl (cL, 10, .inr (.inl mo1))), (a_o2, .inl (cL, 10, .inr (.inl mo2)))]) (w1 := []) (ws' := [(mo, .inr (4, [.int thr, .int ten, .ref a_ar, .ref a_si, .ref a_st, .ref a_en, .ref a_pu, .ref a_xs, .ref a_ys, .ref a_fo, .ref a_or, .int loc, .int rou, .int mum, .int sli, .int sha, .int fad, .int day, .ref a_o1, .ref a_o2])), (a_ar, .inl (cI, 6, .inl mar)), (a_si, .inl (cI, 6, .inl msi)), (a_st, .inl (cI, 6, .inl mst)), (a_en, .inl (cI, 6, .inl men)), (a_pu, .inl (cI, 6, .inl mpu)), (a_xs, .inl (cI, 60, .inl mxs)), (a_ys, .inl (cI, 60, .inl mys)), (a_fo, .inl (cL, 60, .inr (.inl mfo))), (a_or, .inl (cI, 6, .inl mor)), (a_o1, .inl (cL, 10, .inr (.inl mo1))), (a_o2, .inl (cL, 10, .inr (.inl mo2)))]) [] [0, 1, 2, 3, 4, 5, 6, 7, 8, 9, 10, 11] [0, 1, 2, 3, 4, 5, 6, 7, 8, 9, 10, 11] rfl rfl (by decide) (by decide) rfl (by decide) rfl (fun H locs hP hD hS => ?_)
    refine lv_if_eq (tgt := 32) hx hb dM_losses_18 (by decide) (fun c_18 => ?_) (fun c_18 => ?_)
    · have hf := o_t hf c_18
      refine lv_iconst (v := (0 : Int32)) hx hb dM_losses_32 (by decide) ?_
      have k0 := Option.some.inj hf
      obtain ⟨e0, k1⟩ := Prod.mk.inj k0
      obtain ⟨e1, k2⟩ := Prod.mk.inj k1
      obtain ⟨e2, k3⟩ := Prod.mk.inj k2
      subst e0
      subst e1
      subst e2
      subst k3
      subst hQ
      exact W.zret (v := (0 : Int32)) (ty := .boolean) hx hb hr rfl (fun t ht hW => ⟨⟨(0 : Int32), (), rfl, rfl, by rw [ht]; exact hP, va_K.moved hW.alike hK, hD⟩, hS.F ht⟩) hS.2.2 dM_losses_33
    · have hf := o_f hf c_18
      refine lv_iload_n hx hb dM_losses_21 rfl (lv_at hl 3 rfl) ?_
      refine lv_iconst (v := (0 : Int32)) hx hb dM_losses_22 (by decide) ?_
      refine lv_sipush (v := (1000 : Int32)) hx hb dM_losses_23 (by decide) ?_
      obtain ⟨r_26, q_26, hf⟩ := o_b hf
      have hPc := hP.sub (ws' := []) [] rfl
      have hDc := hD.sub (ws' := []) [] (by decide) rfl
      refine kc_i (va_runS (As := [.int p3, .int (0 : Int32), .int (1000 : Int32)]) (rest := []) ⟨hx, hb, hml, hown, hts⟩ (mM_in l dC dI cI cL cT  H.size fu p3 (0 : Int32) (1000 : Int32) (r_26) q_26) ⟨callB_of 3 hts (gd_code kw_489) rfl rfl rfl (hts _ kw_32) (hts _ kw_487) (by decide +kernel) ⟨Nat.le_of_ble_eq_true rfl, Nat.le_of_ble_eq_true rfl⟩, hts _ kw_488⟩ (kP_S hPc hK hDc hN) rfl rfl hl.1 rfl (lv_room (Nat.le_of_ble_eq_true rfl)) dM_losses_26 ⟨Nat.le_of_ble_eq_true rfl, Nat.le_of_ble_eq_true rfl⟩) hP hD hS hA (wc := []) (wr := [(mo, .inr (4, [.int thr, .int ten, .ref a_ar, .ref a_si, .ref a_st, .ref a_en, .ref a_pu, .ref a_xs, .ref a_ys, .ref a_fo, .ref a_or, .int loc, .int rou, .int mum, .int sli, .int sha, .int fad, .int day, .ref a_o1, .ref a_o2])), (a_ar, .inl (cI, 6, .inl mar)), (a_si, .inl (cI, 6, .inl msi)), (a_st, .inl (cI, 6, .inl mst)), (a_en, .inl (cI, 6, .inl men)), (a_pu, .inl (cI, 6, .inl mpu)), (a_xs, .inl (cI, 60, .inl mxs)), (a_ys, .inl (cI, 60, .inl mys)), (a_fo, .inl (cL, 60, .inr (.inl mfo))), (a_or, .inl (cI, 6, .inl mor)), (a_o1, .inl (cL, 10, .inr (.inl mo1))), (a_o2, .inl (cL, 10, .inr (.inl mo2)))]) (w1 := []) (ws' := [(mo, .inr (4, [.int thr, .int ten, .ref a_ar, .ref a_si, .ref a_st, .ref a_en, .ref a_pu, .ref a_xs, .ref a_ys, .ref a_fo, .ref a_or, .int loc, .int rou, .int mum, .int sli, .int sha, .int fad, .int day, .ref a_o1, .ref a_o2])), (a_ar, .inl (cI, 6, .inl mar)), (a_si, .inl (cI, 6, .inl msi)), (a_st, .inl (cI, 6, .inl mst)), (a_en, .inl (cI, 6, .inl men)), (a_pu, .inl (cI, 6, .inl mpu)), (a_xs, .inl (cI, 60, .inl mxs)), (a_ys, .inl (cI, 60, .inl mys)), (a_fo, .inl (cL, 60, .inr (.inl mfo))), (a_or, .inl (cI, 6, .inl mor)), (a_o1, .inl (cL, 10, .inr (.inl mo1))), (a_o2, .inl (cL, 10, .inr (.inl mo2)))]) [] [0, 1, 2, 3, 4, 5, 6, 7, 8, 9, 10, 11] [0, 1, 2, 3, 4, 5, 6, 7, 8, 9, 10, 11] rfl rfl (by decide) (by decide) rfl (by decide) rfl (fun H locs hP hD hS => ?_)
      refine lv_if_ne (tgt := 34) hx hb dM_losses_29 (by decide) (fun c_29 => ?_) (fun c_29 => ?_)
      · have hf := o_f hf c_29
        refine lv_aload_n hx hb dM_losses_34 rfl (lv_at hl 0 rfl) ?_
        refine lv_iload_n hx hb dM_losses_35 rfl (lv_at hl 1 rfl) ?_
        refine va_put (D := (dC, dI)) (ci := 4) (v := .int p1) (ty := (.int)) (C := "TendonLossesModel") (T := TT_M) (N := 20) hx hb hts in_M ty_M ty_M_ok nn_M hown hK hP hD hS 0 rfl rfl 14 (by decide) (hts _ kw_436) (fun _ h9 => h9) rfl (by decide +kernel) rfl rfl (Nat.le_of_ble_eq_true rfl) dM_losses_36 (fun H locs hP hD hS => ?_)
        have hP : va_P (dC, dI) vwCl [(mo, .inr (4, [.int thr, .int ten, .ref a_ar, .ref a_si, .ref a_st, .ref a_en, .ref a_pu, .ref a_xs, .ref a_ys, .ref a_fo, .ref a_or, .int loc, .int rou, .int mum, .int p1, .int sha, .int fad, .int day, .ref a_o1, .ref a_o2])), (a_ar, .inl (cI, 6, .inl mar)), (a_si, .inl (cI, 6, .inl msi)), (a_st, .inl (cI, 6, .inl mst)), (a_en, .inl (cI, 6, .inl men)), (a_pu, .inl (cI, 6, .inl mpu)), (a_xs, .inl (cI, 60, .inl mxs)), (a_ys, .inl (cI, 60, .inl mys)), (a_fo, .inl (cL, 60, .inr (.inl mfo))), (a_or, .inl (cI, 6, .inl mor)), (a_o1, .inl (cL, 10, .inr (.inl mo1))), (a_o2, .inl (cL, 10, .inr (.inl mo2)))] H := hP
        have hD : va_D A [(mo, .inr (4, [.int thr, .int ten, .ref a_ar, .ref a_si, .ref a_st, .ref a_en, .ref a_pu, .ref a_xs, .ref a_ys, .ref a_fo, .ref a_or, .int loc, .int rou, .int mum, .int p1, .int sha, .int fad, .int day, .ref a_o1, .ref a_o2])), (a_ar, .inl (cI, 6, .inl mar)), (a_si, .inl (cI, 6, .inl msi)), (a_st, .inl (cI, 6, .inl mst)), (a_en, .inl (cI, 6, .inl men)), (a_pu, .inl (cI, 6, .inl mpu)), (a_xs, .inl (cI, 60, .inl mxs)), (a_ys, .inl (cI, 60, .inl mys)), (a_fo, .inl (cL, 60, .inr (.inl mfo))), (a_or, .inl (cI, 6, .inl mor)), (a_o1, .inl (cL, 10, .inr (.inl mo1))), (a_o2, .inl (cL, 10, .inr (.inl mo2)))] := hD
        refine lv_aload_n hx hb dM_losses_39 rfl (lv_at hl 0 rfl) ?_
        refine lv_iload_n hx hb dM_losses_40 rfl (lv_at hl 2 rfl) ?_
        refine va_put (D := (dC, dI)) (ci := 4) (v := .int p2) (ty := (.int)) (C := "TendonLossesModel") (T := TT_M) (N := 20) hx hb hts in_M ty_M ty_M_ok nn_M hown hK hP hD hS 0 rfl rfl 15 (by decide) (hts _ kw_437) (fun _ h9 => h9) rfl (by decide +kernel) rfl rfl (Nat.le_of_ble_eq_true rfl) dM_losses_41 (fun H locs hP hD hS => ?_)
        have hP : va_P (dC, dI) vwCl [(mo, .inr (4, [.int thr, .int ten, .ref a_ar, .ref a_si, .ref a_st, .ref a_en, .ref a_pu, .ref a_xs, .ref a_ys, .ref a_fo, .ref a_or, .int loc, .int rou, .int mum, .int p1, .int p2, .int fad, .int day, .ref a_o1, .ref a_o2])), (a_ar, .inl (cI, 6, .inl mar)), (a_si, .inl (cI, 6, .inl msi)), (a_st, .inl (cI, 6, .inl mst)), (a_en, .inl (cI, 6, .inl men)), (a_pu, .inl (cI, 6, .inl mpu)), (a_xs, .inl (cI, 60, .inl mxs)), (a_ys, .inl (cI, 60, .inl mys)), (a_fo, .inl (cL, 60, .inr (.inl mfo))), (a_or, .inl (cI, 6, .inl mor)), (a_o1, .inl (cL, 10, .inr (.inl mo1))), (a_o2, .inl (cL, 10, .inr (.inl mo2)))] H := hP
        have hD : va_D A [(mo, .inr (4, [.int thr, .int ten, .ref a_ar, .ref a_si, .ref a_st, .ref a_en, .ref a_pu, .ref a_xs, .ref a_ys, .ref a_fo, .ref a_or, .int loc, .int rou, .int mum, .int p1, .int p2, .int fad, .int day, .ref a_o1, .ref a_o2])), (a_ar, .inl (cI, 6, .inl mar)), (a_si, .inl (cI, 6, .inl msi)), (a_st, .inl (cI, 6, .inl mst)), (a_en, .inl (cI, 6, .inl men)), (a_pu, .inl (cI, 6, .inl mpu)), (a_xs, .inl (cI, 60, .inl mxs)), (a_ys, .inl (cI, 60, .inl mys)), (a_fo, .inl (cL, 60, .inr (.inl mfo))), (a_or, .inl (cI, 6, .inl mor)), (a_o1, .inl (cL, 10, .inr (.inl mo1))), (a_o2, .inl (cL, 10, .inr (.inl mo2)))] := hD
        refine lv_aload_n hx hb dM_losses_44 rfl (lv_at hl 0 rfl) ?_
        refine lv_iload_n hx hb dM_losses_45 rfl (lv_at hl 3 rfl) ?_
        refine va_put (D := (dC, dI)) (ci := 4) (v := .int p3) (ty := (.int)) (C := "TendonLossesModel") (T := TT_M) (N := 20) hx hb hts in_M ty_M ty_M_ok nn_M hown hK hP hD hS 0 rfl rfl 16 (by decide) (hts _ kw_438) (fun _ h9 => h9) rfl (by decide +kernel) rfl rfl (Nat.le_of_ble_eq_true rfl) dM_losses_46 (fun H locs hP hD hS => ?_)
        have hP : va_P (dC, dI) vwCl [(mo, .inr (4, [.int thr, .int ten, .ref a_ar, .ref a_si, .ref a_st, .ref a_en, .ref a_pu, .ref a_xs, .ref a_ys, .ref a_fo, .ref a_or, .int loc, .int rou, .int mum, .int p1, .int p2, .int p3, .int day, .ref a_o1, .ref a_o2])), (a_ar, .inl (cI, 6, .inl mar)), (a_si, .inl (cI, 6, .inl msi)), (a_st, .inl (cI, 6, .inl mst)), (a_en, .inl (cI, 6, .inl men)), (a_pu, .inl (cI, 6, .inl mpu)), (a_xs, .inl (cI, 60, .inl mxs)), (a_ys, .inl (cI, 60, .inl mys)), (a_fo, .inl (cL, 60, .inr (.inl mfo))), (a_or, .inl (cI, 6, .inl mor)), (a_o1, .inl (cL, 10, .inr (.inl mo1))), (a_o2, .inl (cL, 10, .inr (.inl mo2)))] H := hP
        have hD : va_D A [(mo, .inr (4, [.int thr, .int ten, .ref a_ar, .ref a_si, .ref a_st, .ref a_en, .ref a_pu, .ref a_xs, .ref a_ys, .ref a_fo, .ref a_or, .int loc, .int rou, .int mum, .int p1, .int p2, .int p3, .int day, .ref a_o1, .ref a_o2])), (a_ar, .inl (cI, 6, .inl mar)), (a_si, .inl (cI, 6, .inl msi)), (a_st, .inl (cI, 6, .inl mst)), (a_en, .inl (cI, 6, .inl men)), (a_pu, .inl (cI, 6, .inl mpu)), (a_xs, .inl (cI, 60, .inl mxs)), (a_ys, .inl (cI, 60, .inl mys)), (a_fo, .inl (cL, 60, .inr (.inl mfo))), (a_or, .inl (cI, 6, .inl mor)), (a_o1, .inl (cL, 10, .inr (.inl mo1))), (a_o2, .inl (cL, 10, .inr (.inl mo2)))] := hD
        refine lv_iconst (v := (1 : Int32)) hx hb dM_losses_49 (by decide) ?_
        have k0 := Option.some.inj hf
        obtain ⟨e0, k1⟩ := Prod.mk.inj k0
        obtain ⟨e1, k2⟩ := Prod.mk.inj k1
        obtain ⟨e2, k3⟩ := Prod.mk.inj k2
        subst e0
        subst e1
        subst e2
        subst k3
        subst hQ
        exact W.zret (v := (1 : Int32)) (ty := .boolean) hx hb hr rfl (fun t ht hW => ⟨⟨(1 : Int32), (), rfl, rfl, by rw [ht]; exact hP, va_K.moved hW.alike hK, hD⟩, hS.F ht⟩) hS.2.2 dM_losses_50
      · have hf := o_t hf c_29
        refine lv_iconst (v := (0 : Int32)) hx hb dM_losses_32 (by decide) ?_
        have k0 := Option.some.inj hf
        obtain ⟨e0, k1⟩ := Prod.mk.inj k0
        obtain ⟨e1, k2⟩ := Prod.mk.inj k1
        obtain ⟨e2, k3⟩ := Prod.mk.inj k2
        subst e0
        subst e1
        subst e2
        subst k3
        subst hQ
        exact W.zret (v := (0 : Int32)) (ty := .boolean) hx hb hr rfl (fun t ht hW => ⟨⟨(0 : Int32), (), rfl, rfl, by rw [ht]; exact hP, va_K.moved hW.alike hK, hD⟩, hS.F ht⟩) hS.2.2 dM_losses_33
