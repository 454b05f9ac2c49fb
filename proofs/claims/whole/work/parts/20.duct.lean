def fL_isWithin (fu : Nat) (p0 : Int32) (p1 : Int32) (p2 : Int32) : Option ((Int32)) := (if p0 < p1 then some (0 : Int32) else (if p2 < p0 then some (0 : Int32) else some (1 : Int32)))
def rmL_isWithin : Room := { frames := 0, cells := 0, slots := 0, locals := 0 }
set_option maxHeartbeats 4000000 in
set_option maxRecDepth 100000 in
theorem mL_isWithin (l : Launch) (dC : Nat → ClassId) (dI : Nat → Nat → Nat) (cI cL cT : ClassId) (sz : Nat) (fu : Nat) (p0 : Int32) (p1 : Int32) (p2 : Int32) (o0 : Int32) (hf : fL_isWithin fu p0 p1 p2 = some (o0)) : Met l yL_isWithin wL_isWithin rmL_isWithin (kP (dC, dI) [(cI, .int), (cL, .long), (cT, .object "TendonLosses$Tendon")] [.int p0, .int p1, .int p2] [] sz) (va_Qi (fun (r : Int32) (_ : Unit) => r = o0) (kB (dC, dI) [(cI, .int), (cL, .long), (cT, .object "TendonLosses$Tendon")] (va_A [] sz) []) (va_A [] sz)) 0 0 (va_A [] sz) := by
  refine Met.ofW (cc := bL_isWithin) (maxL := 3) (ret := (some .boolean)) (by decide) rfl ?_
  intro p e s m args below meth c s₁ B hml hv
  obtain ⟨rfl, hsz, hP, hK, hD0, hN⟩ := hv
  have hx := B.exec
  have hb := B.bytes
  have hr := B.returns
  have hts : ∀ w ∈ gt, w.before ([.int p0, .int p1, .int p2] : List Value).toArray s = true := fun w h => atoms_spec (ws := wL_isWithin) B.pre w (List.mem_cons_of_mem _ h)
  have hown : s.vm.findClass "TendonLosses" = some m.cls := findClass_of_methodNamed B.named
  have hlocks := B.notSynchronized
  subst hsz
  have hD := hD0.self (sz := s.heap.size)
  generalize hAe : va_A [] s.heap.size = A at hD ⊢
  have hA : ∀ q : Nat, s.heap.size ≤ q → A q := fun q h => by rw [← hAe]; exact Or.inr h
  have hS : va_S A s.heap s.heap [] := va_S.rf
  have hP : va_P (dC, dI) vwCl [] s.heap := hP
  have hl := lv_entry ([.int p0, .int p1, .int p2]) (n := 3) (Nat.le_of_ble_eq_true rfl)
  rw [lg_entry_eq]
  generalize (lg_sl ([.int p0, .int p1, .int p2]) ++ List.replicate (3 - (lg_sl ([.int p0, .int p1, .int p2])).length) Slot.unset).toArray = ls at hl ⊢
  have hl : lv_has ls 3 [(0, .int p0), (1, .int p1), (2, .int p2)] := hl
  refine W.nameQ (fun Q hQ => ?_)
  unfold fL_isWithin at hf
  refine lv_iload_n hx hb dL_isWithin_0 rfl (lv_at hl 0 rfl) ?_
  refine lv_iload_n hx hb dL_isWithin_1 rfl (lv_at hl 1 rfl) ?_
  refine lv_icmp_lt (tgt := 14) hx hb dL_isWithin_2 (by decide) (fun c_2 => ?_) (fun c_2 => ?_)
  · have hf := o_t hf c_2
    refine lv_iconst (v := (0 : Int32)) hx hb dL_isWithin_14 (by decide) ?_
    have e9 := Option.some.inj hf
    subst e9
    subst hQ
    exact W.zret (v := (0 : Int32)) (ty := .boolean) hx hb hr rfl (fun t ht hW => ⟨⟨(0 : Int32), (), rfl, rfl, by rw [ht]; exact hP, va_K.moved hW.alike hK, hD⟩, hS.F ht⟩) hS.2.2 dL_isWithin_15
  · have hf := o_f hf c_2
    refine lv_iload_n hx hb dL_isWithin_5 rfl (lv_at hl 0 rfl) ?_
    refine lv_iload_n hx hb dL_isWithin_6 rfl (lv_at hl 2 rfl) ?_
    refine lv_icmp_gt (tgt := 14) hx hb dL_isWithin_7 (by decide) (fun c_7 => ?_) (fun c_7 => ?_)
    · have hf := o_t hf c_7
      refine lv_iconst (v := (0 : Int32)) hx hb dL_isWithin_14 (by decide) ?_
      have e9 := Option.some.inj hf
      subst e9
      subst hQ
      exact W.zret (v := (0 : Int32)) (ty := .boolean) hx hb hr rfl (fun t ht hW => ⟨⟨(0 : Int32), (), rfl, rfl, by rw [ht]; exact hP, va_K.moved hW.alike hK, hD⟩, hS.F ht⟩) hS.2.2 dL_isWithin_15
    · have hf := o_f hf c_7
      refine lv_iconst (v := (1 : Int32)) hx hb dL_isWithin_10 (by decide) ?_
      refine lv_goto (tgt := 15) hx hb dL_isWithin_11 (by decide) ?_
      have e9 := Option.some.inj hf
      subst e9
      subst hQ
      exact W.zret (v := (1 : Int32)) (ty := .boolean) hx hb hr rfl (fun t ht hW => ⟨⟨(1 : Int32), (), rfl, rfl, by rw [ht]; exact hP, va_K.moved hW.alike hK, hD⟩, hS.F ht⟩) hS.2.2 dL_isWithin_15

def fL_quotient (fu : Nat) (p0 : Int64) (p1 : Int64) : Option ((Int64)) := (if p1 = (0 : Int64) then some (0 : Int64) else (if ¬ (p1 = 0) then some (p0 / p1) else none))
def rmL_quotient : Room := { frames := 0, cells := 0, slots := 0, locals := 0 }
set_option maxHeartbeats 4000000 in
set_option maxRecDepth 100000 in
theorem mL_quotient (l : Launch) (dC : Nat → ClassId) (dI : Nat → Nat → Nat) (cI cL cT : ClassId) (sz : Nat) (fu : Nat) (p0 : Int64) (p1 : Int64) (o0 : Int64) (hf : fL_quotient fu p0 p1 = some (o0)) : Met l yL_quotient wL_quotient rmL_quotient (kP (dC, dI) [(cI, .int), (cL, .long), (cT, .object "TendonLosses$Tendon")] [.long p0, .long p1] [] sz) (va_Ql (fun (r : Int64) (_ : Unit) => r = o0) (kB (dC, dI) [(cI, .int), (cL, .long), (cT, .object "TendonLosses$Tendon")] (va_A [] sz) []) (va_A [] sz)) 0 0 (va_A [] sz) := by
  refine Met.ofW (cc := bL_quotient) (maxL := 4) (ret := (some .long)) (by decide) rfl ?_
  intro p e s m args below meth c s₁ B hml hv
  obtain ⟨rfl, hsz, hP, hK, hD0, hN⟩ := hv
  have hx := B.exec
  have hb := B.bytes
  have hr := B.returns
  have hts : ∀ w ∈ gt, w.before ([.long p0, .long p1] : List Value).toArray s = true := fun w h => atoms_spec (ws := wL_quotient) B.pre w (List.mem_cons_of_mem _ h)
  have hown : s.vm.findClass "TendonLosses" = some m.cls := findClass_of_methodNamed B.named
  have hlocks := B.notSynchronized
  subst hsz
  have hD := hD0.self (sz := s.heap.size)
  generalize hAe : va_A [] s.heap.size = A at hD ⊢
  have hA : ∀ q : Nat, s.heap.size ≤ q → A q := fun q h => by rw [← hAe]; exact Or.inr h
  have hS : va_S A s.heap s.heap [] := va_S.rf
  have hP : va_P (dC, dI) vwCl [] s.heap := hP
  have hl := lv_entry ([.long p0, .long p1]) (n := 4) (Nat.le_of_ble_eq_true rfl)
  rw [lg_entry_eq]
  generalize (lg_sl ([.long p0, .long p1]) ++ List.replicate (4 - (lg_sl ([.long p0, .long p1])).length) Slot.unset).toArray = ls at hl ⊢
  have hl : lv_has ls 4 [(0, .long p0), (2, .long p1)] := hl
  refine W.nameQ (fun Q hQ => ?_)
  unfold fL_quotient at hf
  refine lv_lload_n hx hb dL_quotient_0 rfl (lv_at hl 1 rfl) ?_
  refine lv_lconst (v := (0 : Int64)) hx hb dL_quotient_1 (by decide) ?_
  refine W.lcmp hx hb dL_quotient_2 ?_
  refine lv_if_ne (tgt := 10) hx hb dL_quotient_3 (by decide) (fun c_2 => ?_) (fun c_2 => ?_)
  · have c_2 := fun z => c_2 ((lg_cmp_eq _ _).mpr z)
    have hf := o_f hf c_2
    refine lv_lload_n hx hb dL_quotient_10 rfl (lv_at hl 0 rfl) ?_
    refine lv_lload_n hx hb dL_quotient_11 rfl (lv_at hl 1 rfl) ?_
    obtain ⟨h_12, hf⟩ := o_c hf
    refine lv_ldiv hx hb dL_quotient_12 h_12 ?_
    have e9 := Option.some.inj hf
    subst e9
    subst hQ
    exact W.lret (v := (p0 / p1)) hx hb hr (fun t ht hW => ⟨⟨(p0 / p1), (), rfl, rfl, by rw [ht]; exact hP, va_K.moved hW.alike hK, hD⟩, hS.F ht⟩) hS.2.2 dL_quotient_13
  · have c_2 := (lg_cmp_eq _ _).mp c_2
    have hf := o_t hf c_2
    refine lv_lconst (v := (0 : Int64)) hx hb dL_quotient_6 (by decide) ?_
    refine lv_goto (tgt := 13) hx hb dL_quotient_7 (by decide) ?_
    have e9 := Option.some.inj hf
    subst e9
    subst hQ
    exact W.lret (v := (0 : Int64)) hx hb hr (fun t ht hW => ⟨⟨(0 : Int64), (), rfl, rfl, by rw [ht]; exact hP, va_K.moved hW.alike hK, hD⟩, hS.F ht⟩) hS.2.2 dL_quotient_13

def fD_rootOf_L10 (fu : Nat) (p0 : Int64) : Nat → (Int32) → (Int64) → (Int64) → Option ((Int32))
  | 0, _, _, _ => none
  | n10 + 1, z10l6, z10l4, z10l2 => (if (40 : Int32) ≤ z10l6 then some (z10l2).toInt32 else (if z10l4 ≤ z10l2 then some (z10l2).toInt32 else (((if p0 < ((((z10l2 + z10l4) + (1 : Int64)) / (2 : Int64)) * (((z10l2 + z10l4) + (1 : Int64)) / (2 : Int64))) then some (((((z10l2 + z10l4) + (1 : Int64)) / (2 : Int64)) - (1 : Int64)), z10l2) else some (z10l4, (((z10l2 + z10l4) + (1 : Int64)) / (2 : Int64))))).bind fun j_42 => fD_rootOf_L10 fu p0 n10 (z10l6 + (1 : Int32)) (j_42.1) (j_42.2))))
theorem fD_rootOf_L10_z (fu : Nat) (p0 : Int64) (z10l6 : Int32) (z10l4 : Int64) (z10l2 : Int64) : fD_rootOf_L10 fu p0 0 z10l6 z10l4 z10l2 = none := rfl
theorem fD_rootOf_L10_s (fu : Nat) (p0 : Int64) (z10l6 : Int32) (z10l4 : Int64) (z10l2 : Int64) (n10 : Nat) : fD_rootOf_L10 fu p0 (n10 + 1) z10l6 z10l4 z10l2 = (if (40 : Int32) ≤ z10l6 then some (z10l2).toInt32 else (if z10l4 ≤ z10l2 then some (z10l2).toInt32 else (((if p0 < ((((z10l2 + z10l4) + (1 : Int64)) / (2 : Int64)) * (((z10l2 + z10l4) + (1 : Int64)) / (2 : Int64))) then some (((((z10l2 + z10l4) + (1 : Int64)) / (2 : Int64)) - (1 : Int64)), z10l2) else some (z10l4, (((z10l2 + z10l4) + (1 : Int64)) / (2 : Int64))))).bind fun j_42 => fD_rootOf_L10 fu p0 n10 (z10l6 + (1 : Int32)) (j_42.1) (j_42.2)))) := rfl
def fD_rootOf (fu : Nat) (p0 : Int64) : Option ((Int32)) := fD_rootOf_L10 fu p0 fu (0 : Int32) (200000 : Int64) (0 : Int64)
def rmD_rootOf : Room := { frames := 0, cells := 0, slots := 0, locals := 0 }
set_option maxHeartbeats 4000000 in
set_option maxRecDepth 100000 in
theorem mD_rootOf (l : Launch) (dC : Nat → ClassId) (dI : Nat → Nat → Nat) (cI cL cT : ClassId) (sz : Nat) (fu : Nat) (p0 : Int64) (o0 : Int32) (hf : fD_rootOf fu p0 = some (o0)) : Met l yD_rootOf wD_rootOf rmD_rootOf (kP (dC, dI) [(cI, .int), (cL, .long), (cT, .object "TendonLosses$Tendon")] [.long p0] [] sz) (va_Qi (fun (r : Int32) (_ : Unit) => r = o0) (kB (dC, dI) [(cI, .int), (cL, .long), (cT, .object "TendonLosses$Tendon")] (va_A [] sz) []) (va_A [] sz)) 0 0 (va_A [] sz) := by
  refine Met.ofW (cc := bD_rootOf) (maxL := 9) (ret := (some .int)) (by decide) rfl ?_
  intro p e s m args below meth c s₁ B hml hv
  obtain ⟨rfl, hsz, hP, hK, hD0, hN⟩ := hv
  have hx := B.exec
  have hb := B.bytes
  have hr := B.returns
  have hts : ∀ w ∈ gt, w.before ([.long p0] : List Value).toArray s = true := fun w h => atoms_spec (ws := wD_rootOf) B.pre w (List.mem_cons_of_mem _ h)
  have hown : s.vm.findClass "TendonLosses$Duct" = some m.cls := findClass_of_methodNamed B.named
  have hlocks := B.notSynchronized
  subst hsz
  have hD := hD0.self (sz := s.heap.size)
  generalize hAe : va_A [] s.heap.size = A at hD ⊢
  have hA : ∀ q : Nat, s.heap.size ≤ q → A q := fun q h => by rw [← hAe]; exact Or.inr h
  have hS : va_S A s.heap s.heap [] := va_S.rf
  have hP : va_P (dC, dI) vwCl [] s.heap := hP
  have hl := lv_entry ([.long p0]) (n := 9) (Nat.le_of_ble_eq_true rfl)
  rw [lg_entry_eq]
  generalize (lg_sl ([.long p0]) ++ List.replicate (9 - (lg_sl ([.long p0])).length) Slot.unset).toArray = ls at hl ⊢
  have hl : lv_has ls 9 [(0, .long p0)] := hl
  refine W.nameQ (fun Q hQ => ?_)
  unfold fD_rootOf at hf
  refine lv_lconst (v := (0 : Int64)) hx hb dD_rootOf_0 (by decide) ?_
  refine lv_lstore_n (lv' := [(2, .long (0 : Int64)), (0, .long p0)]) hx hb dD_rootOf_1 rfl hl (by decide) rfl (fun ls hl => ?_)
  refine lv_ldc2 (v := (200000 : Int64)) hx hb hown (hts _ kw_185) dD_rootOf_2 ?_
  refine lv_lstore (lv' := [(4, .long (200000 : Int64)), (2, .long (0 : Int64)), (0, .long p0)]) hx hb dD_rootOf_5 hl (by decide) rfl (fun ls hl => ?_)
  refine lv_iconst (v := (0 : Int32)) hx hb dD_rootOf_7 (by decide) ?_
  refine lv_istore (lv' := [(6, .int (0 : Int32)), (4, .long (200000 : Int64)), (2, .long (0 : Int64)), (0, .long p0)]) hx hb dD_rootOf_8 hl (by decide) rfl (fun ls hl => ?_)
  have L10 : ∀ (n10 : Nat) (z10l6 : Int32) (z10l4 : Int64) (z10l2 : Int64) (H : Heap) (locs : List Loc) (ls : Array Slot), va_P (dC, dI) vwCl [] H → va_D A [] → va_S A s.heap H locs → lv_has ls 9 [(6, .int z10l6), (4, .long z10l4), (2, .long z10l2), (0, .long p0)] → fD_rootOf_L10 fu p0 n10 z10l6 z10l4 z10l2 = some (o0) → W p l e (headSpec wD_rootOf rmD_rootOf).room s m ([.long p0] : List Value).toArray below meth c H locs 0 0 Q (F0 m 10 ls []) := by
    intro n10
    induction n10 with
    | zero =>
      intro z10l6 z10l4 z10l2 H locs ls hP hD hS hl hf
      rw [fD_rootOf_L10_z] at hf
      cases hf
    | succ n10 ih10 =>
      intro z10l6 z10l4 z10l2 H locs ls hP hD hS hl hf
      rw [fD_rootOf_L10_s] at hf
      refine lv_iload hx hb dD_rootOf_10 (lv_at hl 0 rfl) ?_
      refine lv_bipush (v := (40 : Int32)) hx hb dD_rootOf_12 (by decide) ?_
      refine lv_icmp_ge (tgt := 64) hx hb dD_rootOf_14 (by decide) (fun c_14 => ?_) (fun c_14 => ?_)
      · have hf := o_t hf c_14
        refine lv_lload_n hx hb dD_rootOf_64 rfl (lv_at hl 2 rfl) ?_
        refine lv_l2i (v := (z10l2).toInt32) hx hb dD_rootOf_65 rfl ?_
        have e9 := Option.some.inj hf
        subst e9
        subst hQ
        exact W.iret (v := (z10l2).toInt32) hx hb hr (fun t ht hW => ⟨⟨(z10l2).toInt32, (), rfl, rfl, by rw [ht]; exact hP, va_K.moved hW.alike hK, hD⟩, hS.F ht⟩) hS.2.2 dD_rootOf_66
      · have hf := o_f hf c_14
        refine lv_lload_n hx hb dD_rootOf_17 rfl (lv_at hl 2 rfl) ?_
        refine lv_lload hx hb dD_rootOf_18 (lv_at hl 1 rfl) ?_
        refine W.lcmp hx hb dD_rootOf_20 ?_
        refine lv_if_ge (tgt := 64) hx hb dD_rootOf_21 (by decide) (fun c_20 => ?_) (fun c_20 => ?_)
        · have c_20 := (lg_cmp_ge _ _).mp c_20
          have hf := o_t hf c_20
          refine lv_lload_n hx hb dD_rootOf_64 rfl (lv_at hl 2 rfl) ?_
          refine lv_l2i (v := (z10l2).toInt32) hx hb dD_rootOf_65 rfl ?_
          have e9 := Option.some.inj hf
          subst e9
          subst hQ
          exact W.iret (v := (z10l2).toInt32) hx hb hr (fun t ht hW => ⟨⟨(z10l2).toInt32, (), rfl, rfl, by rw [ht]; exact hP, va_K.moved hW.alike hK, hD⟩, hS.F ht⟩) hS.2.2 dD_rootOf_66
        · have c_20 := fun z => c_20 ((lg_cmp_ge _ _).mpr z)
          have hf := o_f hf c_20
          refine lv_lload_n hx hb dD_rootOf_24 rfl (lv_at hl 2 rfl) ?_
          refine lv_lload hx hb dD_rootOf_25 (lv_at hl 1 rfl) ?_
          refine lv_ladd hx hb dD_rootOf_27 ?_
          refine lv_lconst (v := (1 : Int64)) hx hb dD_rootOf_28 (by decide) ?_
          refine lv_ladd hx hb dD_rootOf_29 ?_
          refine lv_ldc2 (v := (2 : Int64)) hx hb hown (hts _ kw_186) dD_rootOf_30 ?_
          refine lv_ldiv hx hb dD_rootOf_33 (by decide) ?_
          refine lv_lstore (lv' := [(7, .long (((z10l2 + z10l4) + (1 : Int64)) / (2 : Int64))), (6, .int z10l6), (4, .long z10l4), (2, .long z10l2), (0, .long p0)]) hx hb dD_rootOf_34 hl (by decide) rfl (fun ls hl => ?_)
          refine lv_lload hx hb dD_rootOf_36 (lv_at hl 0 rfl) ?_
          refine lv_lload hx hb dD_rootOf_38 (lv_at hl 0 rfl) ?_
          refine lv_lmul hx hb dD_rootOf_40 ?_
          refine lv_lload_n hx hb dD_rootOf_41 rfl (lv_at hl 4 rfl) ?_
          obtain ⟨j_42, e_42, hf⟩ := o_b hf
          have J_58 : ∀ (H : Heap) (locs : List Loc) (ls : Array Slot), va_P (dC, dI) vwCl [] H → va_D A [] → va_S A s.heap H locs → lv_has ls 9 [(4, .long (j_42.1)), (7, .long (((z10l2 + z10l4) + (1 : Int64)) / (2 : Int64))), (6, .int z10l6), (2, .long (j_42.2)), (0, .long p0)] → W p l e (headSpec wD_rootOf rmD_rootOf).room s m ([.long p0] : List Value).toArray below meth c H locs 0 0 Q (F0 m 58 ls []) := by
            intro H locs ls hP hD hS hl
            refine lv_iinc (v := (z10l6 + (1 : Int32))) (lv' := [(6, .int (z10l6 + (1 : Int32))), (4, .long (j_42.1)), (7, .long (((z10l2 + z10l4) + (1 : Int64)) / (2 : Int64))), (2, .long (j_42.2)), (0, .long p0)]) hx hb dD_rootOf_58 hl (k := 2) rfl rfl (by decide) rfl (fun ls hl => ?_)
            refine lv_goto (tgt := 10) hx hb dD_rootOf_61 (by decide) ?_
            exact ih10 _ _ _ H locs ls hP hD hS (lv_sub hl [0, 1, 3, 4] rfl) hf
          have hf := e_42
          refine W.lcmp hx hb dD_rootOf_42 ?_
          refine lv_if_gt (tgt := 52) hx hb dD_rootOf_43 (by decide) (fun c_42 => ?_) (fun c_42 => ?_)
          · have c_42 := (lg_cmp_gt _ _).mp c_42
            have hf := o_t hf c_42
            refine lv_lload hx hb dD_rootOf_52 (lv_at hl 0 rfl) ?_
            refine lv_lconst (v := (1 : Int64)) hx hb dD_rootOf_54 (by decide) ?_
            refine lv_lsub hx hb dD_rootOf_55 ?_
            refine lv_lstore (lv' := [(4, .long ((((z10l2 + z10l4) + (1 : Int64)) / (2 : Int64)) - (1 : Int64))), (7, .long (((z10l2 + z10l4) + (1 : Int64)) / (2 : Int64))), (6, .int z10l6), (2, .long z10l2), (0, .long p0)]) hx hb dD_rootOf_56 hl (by decide) rfl (fun ls hl => ?_)
            have e9 := Option.some.inj hf
            subst e9
            exact J_58 _ _ ls hP hD hS (lv_sub hl [0, 1, 2, 3, 4] rfl)
          · have c_42 := fun z => c_42 ((lg_cmp_gt _ _).mpr z)
            have hf := o_f hf c_42
            refine lv_lload hx hb dD_rootOf_46 (lv_at hl 0 rfl) ?_
            refine lv_lstore_n (lv' := [(2, .long (((z10l2 + z10l4) + (1 : Int64)) / (2 : Int64))), (7, .long (((z10l2 + z10l4) + (1 : Int64)) / (2 : Int64))), (6, .int z10l6), (4, .long z10l4), (0, .long p0)]) hx hb dD_rootOf_48 rfl hl (by decide) rfl (fun ls hl => ?_)
            refine lv_goto (tgt := 58) hx hb dD_rootOf_49 (by decide) ?_
            have e9 := Option.some.inj hf
            subst e9
            exact J_58 _ _ ls hP hD hS (lv_sub hl [3, 1, 2, 0, 4] rfl)
  exact L10 fu _ _ _ _ _ ls hP hD hS (lv_sub hl [0, 1, 2, 3] rfl) hf

def fD_hasPoint (fu : Nat) (size : Int32) (xs : Nat → Int32) (ys : Nat → Int32) (ln : Nat → Int32) (sl : Nat → Int32) (p1 : Int32) : Option ((Int32)) := ((fL_isWithin fu p1 (0 : Int32) (size - (1 : Int32))).bind fun r_8 => (if r_8 &&& 1 = r_8 then some r_8 else none))
def rmD_hasPoint : Room := { frames := 1, cells := 0, slots := 0, locals := 22 }
set_option maxHeartbeats 4000000 in
set_option maxRecDepth 100000 in
theorem mD_hasPoint (l : Launch) (dC : Nat → ClassId) (dI : Nat → Nat → Nat) (cI cL cT : ClassId) (d xa ya la sa : Nat) (sz : Nat) (fu : Nat) (size : Int32) (xs : Nat → Int32) (ys : Nat → Int32) (ln : Nat → Int32) (sl : Nat → Int32) (p1 : Int32) (o0 : Int32) (hf : fD_hasPoint fu size xs ys ln sl p1 = some (o0)) : Met l yD_hasPoint wD_hasPoint rmD_hasPoint (kP (dC, dI) [(cI, .int), (cL, .long), (cT, .object "TendonLosses$Tendon")] [.ref d, .int p1] [(d, .inr (0, [.ref xa, .ref ya, .ref la, .ref sa, .int size])), (xa, .inl (cI, 10, .inl xs)), (ya, .inl (cI, 10, .inl ys)), (la, .inl (cI, 10, .inl ln)), (sa, .inl (cI, 10, .inl sl))] sz) (va_Qi (fun (r : Int32) (_ : Unit) => r = o0) (kB (dC, dI) [(cI, .int), (cL, .long), (cT, .object "TendonLosses$Tendon")] (va_A [(d, .inr (0, [.ref xa, .ref ya, .ref la, .ref sa, .int size])), (xa, .inl (cI, 10, .inl xs)), (ya, .inl (cI, 10, .inl ys)), (la, .inl (cI, 10, .inl ln)), (sa, .inl (cI, 10, .inl sl))] sz) [(d, .inr (0, [.ref xa, .ref ya, .ref la, .ref sa, .int size])), (xa, .inl (cI, 10, .inl xs)), (ya, .inl (cI, 10, .inl ys)), (la, .inl (cI, 10, .inl ln)), (sa, .inl (cI, 10, .inl sl))]) (va_A [(d, .inr (0, [.ref xa, .ref ya, .ref la, .ref sa, .int size])), (xa, .inl (cI, 10, .inl xs)), (ya, .inl (cI, 10, .inl ys)), (la, .inl (cI, 10, .inl ln)), (sa, .inl (cI, 10, .inl sl))] sz)) 0 0 (va_A [(d, .inr (0, [.ref xa, .ref ya, .ref la, .ref sa, .int size])), (xa, .inl (cI, 10, .inl xs)), (ya, .inl (cI, 10, .inl ys)), (la, .inl (cI, 10, .inl ln)), (sa, .inl (cI, 10, .inl sl))] sz) := by
  refine Met.ofW (cc := bD_hasPoint) (maxL := 2) (ret := (some .boolean)) (by decide) rfl ?_
  intro p e s m args below meth c s₁ B hml hv
  obtain ⟨rfl, hsz, hP, hK, hD0, hN⟩ := hv
  have hx := B.exec
  have hb := B.bytes
  have hr := B.returns
  have hts : ∀ w ∈ gt, w.before ([.ref d, .int p1] : List Value).toArray s = true := fun w h => atoms_spec (ws := wD_hasPoint) B.pre w (List.mem_cons_of_mem _ h)
  have hown : s.vm.findClass "TendonLosses$Duct" = some m.cls := findClass_of_methodNamed B.named
  have hlocks := B.notSynchronized
  subst hsz
  have hD := hD0.self (sz := s.heap.size)
  generalize hAe : va_A [(d, .inr (0, [.ref xa, .ref ya, .ref la, .ref sa, .int size])), (xa, .inl (cI, 10, .inl xs)), (ya, .inl (cI, 10, .inl ys)), (la, .inl (cI, 10, .inl ln)), (sa, .inl (cI, 10, .inl sl))] s.heap.size = A at hD ⊢
  have hA : ∀ q : Nat, s.heap.size ≤ q → A q := fun q h => by rw [← hAe]; exact Or.inr h
  have hS : va_S A s.heap s.heap [] := va_S.rf
  have hP : va_P (dC, dI) vwCl [(d, .inr (0, [.ref xa, .ref ya, .ref la, .ref sa, .int size])), (xa, .inl (cI, 10, .inl xs)), (ya, .inl (cI, 10, .inl ys)), (la, .inl (cI, 10, .inl ln)), (sa, .inl (cI, 10, .inl sl))] s.heap := hP
  have hl := lv_entry ([.ref d, .int p1]) (n := 2) (Nat.le_of_ble_eq_true rfl)
  rw [lg_entry_eq]
  generalize (lg_sl ([.ref d, .int p1]) ++ List.replicate (2 - (lg_sl ([.ref d, .int p1])).length) Slot.unset).toArray = ls at hl ⊢
  have hl : lv_has ls 2 [(0, .ref d), (1, .int p1)] := hl
  refine W.nameQ (fun Q hQ => ?_)
  unfold fD_hasPoint at hf
  refine lv_iload_n hx hb dD_hasPoint_0 rfl (lv_at hl 1 rfl) ?_
  refine lv_iconst (v := (0 : Int32)) hx hb dD_hasPoint_1 (by decide) ?_
  refine lv_aload_n hx hb dD_hasPoint_2 rfl (lv_at hl 0 rfl) ?_
  refine va_get (D := (dC, dI)) (ci := 0) (v := .int size) (C := "TendonLosses$Duct") (T := TT_D) (N := 5) hx hb hts in_D hown hK hP 0 rfl rfl 4 (by decide) (hts _ kw_116) (fun _ h9 => h9) rfl dD_hasPoint_3 ?_
  refine lv_iconst (v := (1 : Int32)) hx hb dD_hasPoint_6 (by decide) ?_
  refine lv_isub hx hb dD_hasPoint_7 ?_
  obtain ⟨r_8, q_8, hf⟩ := o_b hf
  have hPc := hP.sub (ws' := []) [] rfl
  have hDc := hD.sub (ws' := []) [] (by decide) rfl
  refine kc_i (va_runSN (As := [.int p1, .int (0 : Int32), .int (size - (1 : Int32))]) (rest := []) ⟨hx, hb, hml, hown, hts⟩ (mL_isWithin l dC dI cI cL cT  s.heap.size fu p1 (0 : Int32) (size - (1 : Int32)) (r_8) q_8) ⟨va_cnB 3 hts (gd_code kw_96) rfl rfl rfl hN.1 (hts _ kw_30) (by decide +kernel) ⟨Nat.le_of_ble_eq_true rfl, Nat.le_of_ble_eq_true rfl⟩, hts _ kw_95, trivial⟩ (kP_S hPc hK hDc hN) rfl rfl hl.1 rfl (lv_room (Nat.le_of_ble_eq_true rfl)) dD_hasPoint_8 ⟨Nat.le_of_ble_eq_true rfl, Nat.le_of_ble_eq_true rfl⟩) hP hD hS hA (wc := []) (wr := [(d, .inr (0, [.ref xa, .ref ya, .ref la, .ref sa, .int size])), (xa, .inl (cI, 10, .inl xs)), (ya, .inl (cI, 10, .inl ys)), (la, .inl (cI, 10, .inl ln)), (sa, .inl (cI, 10, .inl sl))]) (w1 := []) (ws' := [(d, .inr (0, [.ref xa, .ref ya, .ref la, .ref sa, .int size])), (xa, .inl (cI, 10, .inl xs)), (ya, .inl (cI, 10, .inl ys)), (la, .inl (cI, 10, .inl ln)), (sa, .inl (cI, 10, .inl sl))]) [] [0, 1, 2, 3, 4] [0, 1, 2, 3, 4] rfl rfl (by decide) (by decide) rfl (by decide) rfl (fun H locs hP hD hS => ?_)
  obtain ⟨h_11, hf⟩ := o_c hf
  have e9 := Option.some.inj hf
  subst e9
  subst hQ
  exact W.zret (v := r_8) (ty := .boolean) hx hb hr (congrArg Value.int h_11) (fun t ht hW => ⟨⟨r_8, (), rfl, rfl, by rw [ht]; exact hP, va_K.moved hW.alike hK, hD⟩, hS.F ht⟩) hS.2.2 dD_hasPoint_11

def fD_hasPiece (fu : Nat) (size : Int32) (xs : Nat → Int32) (ys : Nat → Int32) (ln : Nat → Int32) (sl : Nat → Int32) (p1 : Int32) : Option ((Int32)) := ((fL_isWithin fu p1 (0 : Int32) (size - (2 : Int32))).bind fun r_8 => (if r_8 &&& 1 = r_8 then some r_8 else none))
def rmD_hasPiece : Room := { frames := 1, cells := 0, slots := 0, locals := 22 }
set_option maxHeartbeats 4000000 in
set_option maxRecDepth 100000 in
theorem mD_hasPiece (l : Launch) (dC : Nat → ClassId) (dI : Nat → Nat → Nat) (cI cL cT : ClassId) (d xa ya la sa : Nat) (sz : Nat) (fu : Nat) (size : Int32) (xs : Nat → Int32) (ys : Nat → Int32) (ln : Nat → Int32) (sl : Nat → Int32) (p1 : Int32) (o0 : Int32) (hf : fD_hasPiece fu size xs ys ln sl p1 = some (o0)) : Met l yD_hasPiece wD_hasPiece rmD_hasPiece (kP (dC, dI) [(cI, .int), (cL, .long), (cT, .object "TendonLosses$Tendon")] [.ref d, .int p1] [(d, .inr (0, [.ref xa, .ref ya, .ref la, .ref sa, .int size])), (xa, .inl (cI, 10, .inl xs)), (ya, .inl (cI, 10, .inl ys)), (la, .inl (cI, 10, .inl ln)), (sa, .inl (cI, 10, .inl sl))] sz) (va_Qi (fun (r : Int32) (_ : Unit) => r = o0) (kB (dC, dI) [(cI, .int), (cL, .long), (cT, .object "TendonLosses$Tendon")] (va_A [(d, .inr (0, [.ref xa, .ref ya, .ref la, .ref sa, .int size])), (xa, .inl (cI, 10, .inl xs)), (ya, .inl (cI, 10, .inl ys)), (la, .inl (cI, 10, .inl ln)), (sa, .inl (cI, 10, .inl sl))] sz) [(d, .inr (0, [.ref xa, .ref ya, .ref la, .ref sa, .int size])), (xa, .inl (cI, 10, .inl xs)), (ya, .inl (cI, 10, .inl ys)), (la, .inl (cI, 10, .inl ln)), (sa, .inl (cI, 10, .inl sl))]) (va_A [(d, .inr (0, [.ref xa, .ref ya, .ref la, .ref sa, .int size])), (xa, .inl (cI, 10, .inl xs)), (ya, .inl (cI, 10, .inl ys)), (la, .inl (cI, 10, .inl ln)), (sa, .inl (cI, 10, .inl sl))] sz)) 0 0 (va_A [(d, .inr (0, [.ref xa, .ref ya, .ref la, .ref sa, .int size])), (xa, .inl (cI, 10, .inl xs)), (ya, .inl (cI, 10, .inl ys)), (la, .inl (cI, 10, .inl ln)), (sa, .inl (cI, 10, .inl sl))] sz) := by
  refine Met.ofW (cc := bD_hasPiece) (maxL := 2) (ret := (some .boolean)) (by decide) rfl ?_
  intro p e s m args below meth c s₁ B hml hv
  obtain ⟨rfl, hsz, hP, hK, hD0, hN⟩ := hv
  have hx := B.exec
  have hb := B.bytes
  have hr := B.returns
  have hts : ∀ w ∈ gt, w.before ([.ref d, .int p1] : List Value).toArray s = true := fun w h => atoms_spec (ws := wD_hasPiece) B.pre w (List.mem_cons_of_mem _ h)
  have hown : s.vm.findClass "TendonLosses$Duct" = some m.cls := findClass_of_methodNamed B.named
  have hlocks := B.notSynchronized
  subst hsz
  have hD := hD0.self (sz := s.heap.size)
  generalize hAe : va_A [(d, .inr (0, [.ref xa, .ref ya, .ref la, .ref sa, .int size])), (xa, .inl (cI, 10, .inl xs)), (ya, .inl (cI, 10, .inl ys)), (la, .inl (cI, 10, .inl ln)), (sa, .inl (cI, 10, .inl sl))] s.heap.size = A at hD ⊢
  have hA : ∀ q : Nat, s.heap.size ≤ q → A q := fun q h => by rw [← hAe]; exact Or.inr h
  have hS : va_S A s.heap s.heap [] := va_S.rf
  have hP : va_P (dC, dI) vwCl [(d, .inr (0, [.ref xa, .ref ya, .ref la, .ref sa, .int size])), (xa, .inl (cI, 10, .inl xs)), (ya, .inl (cI, 10, .inl ys)), (la, .inl (cI, 10, .inl ln)), (sa, .inl (cI, 10, .inl sl))] s.heap := hP
  have hl := lv_entry ([.ref d, .int p1]) (n := 2) (Nat.le_of_ble_eq_true rfl)
  rw [lg_entry_eq]
  generalize (lg_sl ([.ref d, .int p1]) ++ List.replicate (2 - (lg_sl ([.ref d, .int p1])).length) Slot.unset).toArray = ls at hl ⊢
  have hl : lv_has ls 2 [(0, .ref d), (1, .int p1)] := hl
  refine W.nameQ (fun Q hQ => ?_)
  unfold fD_hasPiece at hf
  refine lv_iload_n hx hb dD_hasPiece_0 rfl (lv_at hl 1 rfl) ?_
  refine lv_iconst (v := (0 : Int32)) hx hb dD_hasPiece_1 (by decide) ?_
  refine lv_aload_n hx hb dD_hasPiece_2 rfl (lv_at hl 0 rfl) ?_
  refine va_get (D := (dC, dI)) (ci := 0) (v := .int size) (C := "TendonLosses$Duct") (T := TT_D) (N := 5) hx hb hts in_D hown hK hP 0 rfl rfl 4 (by decide) (hts _ kw_116) (fun _ h9 => h9) rfl dD_hasPiece_3 ?_
  refine lv_iconst (v := (2 : Int32)) hx hb dD_hasPiece_6 (by decide) ?_
  refine lv_isub hx hb dD_hasPiece_7 ?_
  obtain ⟨r_8, q_8, hf⟩ := o_b hf
  have hPc := hP.sub (ws' := []) [] rfl
  have hDc := hD.sub (ws' := []) [] (by decide) rfl
  refine kc_i (va_runSN (As := [.int p1, .int (0 : Int32), .int (size - (2 : Int32))]) (rest := []) ⟨hx, hb, hml, hown, hts⟩ (mL_isWithin l dC dI cI cL cT  s.heap.size fu p1 (0 : Int32) (size - (2 : Int32)) (r_8) q_8) ⟨va_cnB 3 hts (gd_code kw_96) rfl rfl rfl hN.1 (hts _ kw_30) (by decide +kernel) ⟨Nat.le_of_ble_eq_true rfl, Nat.le_of_ble_eq_true rfl⟩, hts _ kw_95, trivial⟩ (kP_S hPc hK hDc hN) rfl rfl hl.1 rfl (lv_room (Nat.le_of_ble_eq_true rfl)) dD_hasPiece_8 ⟨Nat.le_of_ble_eq_true rfl, Nat.le_of_ble_eq_true rfl⟩) hP hD hS hA (wc := []) (wr := [(d, .inr (0, [.ref xa, .ref ya, .ref la, .ref sa, .int size])), (xa, .inl (cI, 10, .inl xs)), (ya, .inl (cI, 10, .inl ys)), (la, .inl (cI, 10, .inl ln)), (sa, .inl (cI, 10, .inl sl))]) (w1 := []) (ws' := [(d, .inr (0, [.ref xa, .ref ya, .ref la, .ref sa, .int size])), (xa, .inl (cI, 10, .inl xs)), (ya, .inl (cI, 10, .inl ys)), (la, .inl (cI, 10, .inl ln)), (sa, .inl (cI, 10, .inl sl))]) [] [0, 1, 2, 3, 4] [0, 1, 2, 3, 4] rfl rfl (by decide) (by decide) rfl (by decide) rfl (fun H locs hP hD hS => ?_)
  obtain ⟨h_11, hf⟩ := o_c hf
  have e9 := Option.some.inj hf
  subst e9
  subst hQ
  exact W.zret (v := r_8) (ty := .boolean) hx hb hr (congrArg Value.int h_11) (fun t ht hW => ⟨⟨r_8, (), rfl, rfl, by rw [ht]; exact hP, va_K.moved hW.alike hK, hD⟩, hS.F ht⟩) hS.2.2 dD_hasPiece_11

def fD_hasPieces (fu : Nat) (size : Int32) (xs : Nat → Int32) (ys : Nat → Int32) (ln : Nat → Int32) (sl : Nat → Int32) : Option ((Int32)) := (if size < (2 : Int32) then some (0 : Int32) else some (1 : Int32))
def rmD_hasPieces : Room := { frames := 0, cells := 0, slots := 0, locals := 0 }
set_option maxHeartbeats 4000000 in
set_option maxRecDepth 100000 in
theorem mD_hasPieces (l : Launch) (dC : Nat → ClassId) (dI : Nat → Nat → Nat) (cI cL cT : ClassId) (d xa ya la sa : Nat) (sz : Nat) (fu : Nat) (size : Int32) (xs : Nat → Int32) (ys : Nat → Int32) (ln : Nat → Int32) (sl : Nat → Int32) (o0 : Int32) (hf : fD_hasPieces fu size xs ys ln sl = some (o0)) : Met l yD_hasPieces wD_hasPieces rmD_hasPieces (kP (dC, dI) [(cI, .int), (cL, .long), (cT, .object "TendonLosses$Tendon")] [.ref d] [(d, .inr (0, [.ref xa, .ref ya, .ref la, .ref sa, .int size])), (xa, .inl (cI, 10, .inl xs)), (ya, .inl (cI, 10, .inl ys)), (la, .inl (cI, 10, .inl ln)), (sa, .inl (cI, 10, .inl sl))] sz) (va_Qi (fun (r : Int32) (_ : Unit) => r = o0) (kB (dC, dI) [(cI, .int), (cL, .long), (cT, .object "TendonLosses$Tendon")] (va_A [(d, .inr (0, [.ref xa, .ref ya, .ref la, .ref sa, .int size])), (xa, .inl (cI, 10, .inl xs)), (ya, .inl (cI, 10, .inl ys)), (la, .inl (cI, 10, .inl ln)), (sa, .inl (cI, 10, .inl sl))] sz) [(d, .inr (0, [.ref xa, .ref ya, .ref la, .ref sa, .int size])), (xa, .inl (cI, 10, .inl xs)), (ya, .inl (cI, 10, .inl ys)), (la, .inl (cI, 10, .inl ln)), (sa, .inl (cI, 10, .inl sl))]) (va_A [(d, .inr (0, [.ref xa, .ref ya, .ref la, .ref sa, .int size])), (xa, .inl (cI, 10, .inl xs)), (ya, .inl (cI, 10, .inl ys)), (la, .inl (cI, 10, .inl ln)), (sa, .inl (cI, 10, .inl sl))] sz)) 0 0 (va_A [(d, .inr (0, [.ref xa, .ref ya, .ref la, .ref sa, .int size])), (xa, .inl (cI, 10, .inl xs)), (ya, .inl (cI, 10, .inl ys)), (la, .inl (cI, 10, .inl ln)), (sa, .inl (cI, 10, .inl sl))] sz) := by
  refine Met.ofW (cc := bD_hasPieces) (maxL := 1) (ret := (some .boolean)) (by decide) rfl ?_
  intro p e s m args below meth c s₁ B hml hv
  obtain ⟨rfl, hsz, hP, hK, hD0, hN⟩ := hv
  have hx := B.exec
  have hb := B.bytes
  have hr := B.returns
  have hts : ∀ w ∈ gt, w.before ([.ref d] : List Value).toArray s = true := fun w h => atoms_spec (ws := wD_hasPieces) B.pre w (List.mem_cons_of_mem _ h)
  have hown : s.vm.findClass "TendonLosses$Duct" = some m.cls := findClass_of_methodNamed B.named
  have hlocks := B.notSynchronized
  subst hsz
  have hD := hD0.self (sz := s.heap.size)
  generalize hAe : va_A [(d, .inr (0, [.ref xa, .ref ya, .ref la, .ref sa, .int size])), (xa, .inl (cI, 10, .inl xs)), (ya, .inl (cI, 10, .inl ys)), (la, .inl (cI, 10, .inl ln)), (sa, .inl (cI, 10, .inl sl))] s.heap.size = A at hD ⊢
  have hA : ∀ q : Nat, s.heap.size ≤ q → A q := fun q h => by rw [← hAe]; exact Or.inr h
  have hS : va_S A s.heap s.heap [] := va_S.rf
  have hP : va_P (dC, dI) vwCl [(d, .inr (0, [.ref xa, .ref ya, .ref la, .ref sa, .int size])), (xa, .inl (cI, 10, .inl xs)), (ya, .inl (cI, 10, .inl ys)), (la, .inl (cI, 10, .inl ln)), (sa, .inl (cI, 10, .inl sl))] s.heap := hP
  have hl := lv_entry ([.ref d]) (n := 1) (Nat.le_of_ble_eq_true rfl)
  rw [lg_entry_eq]
  generalize (lg_sl ([.ref d]) ++ List.replicate (1 - (lg_sl ([.ref d])).length) Slot.unset).toArray = ls at hl ⊢
  have hl : lv_has ls 1 [(0, .ref d)] := hl
  refine W.nameQ (fun Q hQ => ?_)
  unfold fD_hasPieces at hf
  refine lv_aload_n hx hb dD_hasPieces_0 rfl (lv_at hl 0 rfl) ?_
  refine va_get (D := (dC, dI)) (ci := 0) (v := .int size) (C := "TendonLosses$Duct") (T := TT_D) (N := 5) hx hb hts in_D hown hK hP 0 rfl rfl 4 (by decide) (hts _ kw_116) (fun _ h9 => h9) rfl dD_hasPieces_1 ?_
  refine lv_iconst (v := (2 : Int32)) hx hb dD_hasPieces_4 (by decide) ?_
  refine lv_icmp_lt (tgt := 12) hx hb dD_hasPieces_5 (by decide) (fun c_5 => ?_) (fun c_5 => ?_)
  · have hf := o_t hf c_5
    refine lv_iconst (v := (0 : Int32)) hx hb dD_hasPieces_12 (by decide) ?_
    have e9 := Option.some.inj hf
    subst e9
    subst hQ
    exact W.zret (v := (0 : Int32)) (ty := .boolean) hx hb hr rfl (fun t ht hW => ⟨⟨(0 : Int32), (), rfl, rfl, by rw [ht]; exact hP, va_K.moved hW.alike hK, hD⟩, hS.F ht⟩) hS.2.2 dD_hasPieces_13
  · have hf := o_f hf c_5
    refine lv_iconst (v := (1 : Int32)) hx hb dD_hasPieces_8 (by decide) ?_
    refine lv_goto (tgt := 13) hx hb dD_hasPieces_9 (by decide) ?_
    have e9 := Option.some.inj hf
    subst e9
    subst hQ
    exact W.zret (v := (1 : Int32)) (ty := .boolean) hx hb hr rfl (fun t ht hW => ⟨⟨(1 : Int32), (), rfl, rfl, by rw [ht]; exact hP, va_K.moved hW.alike hK, hD⟩, hS.F ht⟩) hS.2.2 dD_hasPieces_13

def fD_isBetweenPieces (fu : Nat) (size : Int32) (xs : Nat → Int32) (ys : Nat → Int32) (ln : Nat → Int32) (sl : Nat → Int32) (p1 : Int32) : Option ((Int32)) := (if p1 ≤ (0 : Int32) then some (0 : Int32) else (if (size - (1 : Int32)) ≤ p1 then some (0 : Int32) else some (1 : Int32)))
def rmD_isBetweenPieces : Room := { frames := 0, cells := 0, slots := 0, locals := 0 }
set_option maxHeartbeats 4000000 in
set_option maxRecDepth 100000 in
theorem mD_isBetweenPieces (l : Launch) (dC : Nat → ClassId) (dI : Nat → Nat → Nat) (cI cL cT : ClassId) (d xa ya la sa : Nat) (sz : Nat) (fu : Nat) (size : Int32) (xs : Nat → Int32) (ys : Nat → Int32) (ln : Nat → Int32) (sl : Nat → Int32) (p1 : Int32) (o0 : Int32) (hf : fD_isBetweenPieces fu size xs ys ln sl p1 = some (o0)) : Met l yD_isBetweenPieces wD_isBetweenPieces rmD_isBetweenPieces (kP (dC, dI) [(cI, .int), (cL, .long), (cT, .object "TendonLosses$Tendon")] [.ref d, .int p1] [(d, .inr (0, [.ref xa, .ref ya, .ref la, .ref sa, .int size])), (xa, .inl (cI, 10, .inl xs)), (ya, .inl (cI, 10, .inl ys)), (la, .inl (cI, 10, .inl ln)), (sa, .inl (cI, 10, .inl sl))] sz) (va_Qi (fun (r : Int32) (_ : Unit) => r = o0) (kB (dC, dI) [(cI, .int), (cL, .long), (cT, .object "TendonLosses$Tendon")] (va_A [(d, .inr (0, [.ref xa, .ref ya, .ref la, .ref sa, .int size])), (xa, .inl (cI, 10, .inl xs)), (ya, .inl (cI, 10, .inl ys)), (la, .inl (cI, 10, .inl ln)), (sa, .inl (cI, 10, .inl sl))] sz) [(d, .inr (0, [.ref xa, .ref ya, .ref la, .ref sa, .int size])), (xa, .inl (cI, 10, .inl xs)), (ya, .inl (cI, 10, .inl ys)), (la, .inl (cI, 10, .inl ln)), (sa, .inl (cI, 10, .inl sl))]) (va_A [(d, .inr (0, [.ref xa, .ref ya, .ref la, .ref sa, .int size])), (xa, .inl (cI, 10, .inl xs)), (ya, .inl (cI, 10, .inl ys)), (la, .inl (cI, 10, .inl ln)), (sa, .inl (cI, 10, .inl sl))] sz)) 0 0 (va_A [(d, .inr (0, [.ref xa, .ref ya, .ref la, .ref sa, .int size])), (xa, .inl (cI, 10, .inl xs)), (ya, .inl (cI, 10, .inl ys)), (la, .inl (cI, 10, .inl ln)), (sa, .inl (cI, 10, .inl sl))] sz) := by
  refine Met.ofW (cc := bD_isBetweenPieces) (maxL := 2) (ret := (some .boolean)) (by decide) rfl ?_
  intro p e s m args below meth c s₁ B hml hv
  obtain ⟨rfl, hsz, hP, hK, hD0, hN⟩ := hv
  have hx := B.exec
  have hb := B.bytes
  have hr := B.returns
  have hts : ∀ w ∈ gt, w.before ([.ref d, .int p1] : List Value).toArray s = true := fun w h => atoms_spec (ws := wD_isBetweenPieces) B.pre w (List.mem_cons_of_mem _ h)
  have hown : s.vm.findClass "TendonLosses$Duct" = some m.cls := findClass_of_methodNamed B.named
  have hlocks := B.notSynchronized
  subst hsz
  have hD := hD0.self (sz := s.heap.size)
  generalize hAe : va_A [(d, .inr (0, [.ref xa, .ref ya, .ref la, .ref sa, .int size])), (xa, .inl (cI, 10, .inl xs)), (ya, .inl (cI, 10, .inl ys)), (la, .inl (cI, 10, .inl ln)), (sa, .inl (cI, 10, .inl sl))] s.heap.size = A at hD ⊢
  have hA : ∀ q : Nat, s.heap.size ≤ q → A q := fun q h => by rw [← hAe]; exact Or.inr h
  have hS : va_S A s.heap s.heap [] := va_S.rf
  have hP : va_P (dC, dI) vwCl [(d, .inr (0, [.ref xa, .ref ya, .ref la, .ref sa, .int size])), (xa, .inl (cI, 10, .inl xs)), (ya, .inl (cI, 10, .inl ys)), (la, .inl (cI, 10, .inl ln)), (sa, .inl (cI, 10, .inl sl))] s.heap := hP
  have hl := lv_entry ([.ref d, .int p1]) (n := 2) (Nat.le_of_ble_eq_true rfl)
  rw [lg_entry_eq]
  generalize (lg_sl ([.ref d, .int p1]) ++ List.replicate (2 - (lg_sl ([.ref d, .int p1])).length) Slot.unset).toArray = ls at hl ⊢
  have hl : lv_has ls 2 [(0, .ref d), (1, .int p1)] := hl
  refine W.nameQ (fun Q hQ => ?_)
  unfold fD_isBetweenPieces at hf
  refine lv_iload_n hx hb dD_isBetweenPieces_0 rfl (lv_at hl 1 rfl) ?_
  refine lv_if_le (tgt := 18) hx hb dD_isBetweenPieces_1 (by decide) (fun c_1 => ?_) (fun c_1 => ?_)
  · have hf := o_t hf c_1
    refine lv_iconst (v := (0 : Int32)) hx hb dD_isBetweenPieces_18 (by decide) ?_
    have e9 := Option.some.inj hf
    subst e9
    subst hQ
    exact W.zret (v := (0 : Int32)) (ty := .boolean) hx hb hr rfl (fun t ht hW => ⟨⟨(0 : Int32), (), rfl, rfl, by rw [ht]; exact hP, va_K.moved hW.alike hK, hD⟩, hS.F ht⟩) hS.2.2 dD_isBetweenPieces_19
  · have hf := o_f hf c_1
    refine lv_iload_n hx hb dD_isBetweenPieces_4 rfl (lv_at hl 1 rfl) ?_
    refine lv_aload_n hx hb dD_isBetweenPieces_5 rfl (lv_at hl 0 rfl) ?_
    refine va_get (D := (dC, dI)) (ci := 0) (v := .int size) (C := "TendonLosses$Duct") (T := TT_D) (N := 5) hx hb hts in_D hown hK hP 0 rfl rfl 4 (by decide) (hts _ kw_116) (fun _ h9 => h9) rfl dD_isBetweenPieces_6 ?_
    refine lv_iconst (v := (1 : Int32)) hx hb dD_isBetweenPieces_9 (by decide) ?_
    refine lv_isub hx hb dD_isBetweenPieces_10 ?_
    refine lv_icmp_ge (tgt := 18) hx hb dD_isBetweenPieces_11 (by decide) (fun c_11 => ?_) (fun c_11 => ?_)
    · have hf := o_t hf c_11
      refine lv_iconst (v := (0 : Int32)) hx hb dD_isBetweenPieces_18 (by decide) ?_
      have e9 := Option.some.inj hf
      subst e9
      subst hQ
      exact W.zret (v := (0 : Int32)) (ty := .boolean) hx hb hr rfl (fun t ht hW => ⟨⟨(0 : Int32), (), rfl, rfl, by rw [ht]; exact hP, va_K.moved hW.alike hK, hD⟩, hS.F ht⟩) hS.2.2 dD_isBetweenPieces_19
    · have hf := o_f hf c_11
      refine lv_iconst (v := (1 : Int32)) hx hb dD_isBetweenPieces_14 (by decide) ?_
      refine lv_goto (tgt := 19) hx hb dD_isBetweenPieces_15 (by decide) ?_
      have e9 := Option.some.inj hf
      subst e9
      subst hQ
      exact W.zret (v := (1 : Int32)) (ty := .boolean) hx hb hr rfl (fun t ht hW => ⟨⟨(1 : Int32), (), rfl, rfl, by rw [ht]; exact hP, va_K.moved hW.alike hK, hD⟩, hS.F ht⟩) hS.2.2 dD_isBetweenPieces_19

def fD_widthOf (fu : Nat) (size : Int32) (xs : Nat → Int32) (ys : Nat → Int32) (ln : Nat → Int32) (sl : Nat → Int32) (p1 : Int32) : Option ((Int32)) := (if ¬ ((p1 + (1 : Int32)) < 0 ∨ 10 ≤ ((p1 + (1 : Int32))).toNatClampNeg) then (if ¬ (p1 < 0 ∨ 10 ≤ (p1).toNatClampNeg) then some ((xs ((p1 + (1 : Int32))).toNatClampNeg) - (xs (p1).toNatClampNeg)) else none) else none)
def rmD_widthOf : Room := { frames := 0, cells := 0, slots := 0, locals := 0 }
set_option maxHeartbeats 4000000 in
set_option maxRecDepth 100000 in
theorem mD_widthOf (l : Launch) (dC : Nat → ClassId) (dI : Nat → Nat → Nat) (cI cL cT : ClassId) (d xa ya la sa : Nat) (sz : Nat) (fu : Nat) (size : Int32) (xs : Nat → Int32) (ys : Nat → Int32) (ln : Nat → Int32) (sl : Nat → Int32) (p1 : Int32) (o0 : Int32) (hf : fD_widthOf fu size xs ys ln sl p1 = some (o0)) : Met l yD_widthOf wD_widthOf rmD_widthOf (kP (dC, dI) [(cI, .int), (cL, .long), (cT, .object "TendonLosses$Tendon")] [.ref d, .int p1] [(d, .inr (0, [.ref xa, .ref ya, .ref la, .ref sa, .int size])), (xa, .inl (cI, 10, .inl xs)), (ya, .inl (cI, 10, .inl ys)), (la, .inl (cI, 10, .inl ln)), (sa, .inl (cI, 10, .inl sl))] sz) (va_Qi (fun (r : Int32) (_ : Unit) => r = o0) (kB (dC, dI) [(cI, .int), (cL, .long), (cT, .object "TendonLosses$Tendon")] (va_A [(d, .inr (0, [.ref xa, .ref ya, .ref la, .ref sa, .int size])), (xa, .inl (cI, 10, .inl xs)), (ya, .inl (cI, 10, .inl ys)), (la, .inl (cI, 10, .inl ln)), (sa, .inl (cI, 10, .inl sl))] sz) [(d, .inr (0, [.ref xa, .ref ya, .ref la, .ref sa, .int size])), (xa, .inl (cI, 10, .inl xs)), (ya, .inl (cI, 10, .inl ys)), (la, .inl (cI, 10, .inl ln)), (sa, .inl (cI, 10, .inl sl))]) (va_A [(d, .inr (0, [.ref xa, .ref ya, .ref la, .ref sa, .int size])), (xa, .inl (cI, 10, .inl xs)), (ya, .inl (cI, 10, .inl ys)), (la, .inl (cI, 10, .inl ln)), (sa, .inl (cI, 10, .inl sl))] sz)) 0 0 (va_A [(d, .inr (0, [.ref xa, .ref ya, .ref la, .ref sa, .int size])), (xa, .inl (cI, 10, .inl xs)), (ya, .inl (cI, 10, .inl ys)), (la, .inl (cI, 10, .inl ln)), (sa, .inl (cI, 10, .inl sl))] sz) := by
  refine Met.ofW (cc := bD_widthOf) (maxL := 2) (ret := (some .int)) (by decide) rfl ?_
  intro p e s m args below meth c s₁ B hml hv
  obtain ⟨rfl, hsz, hP, hK, hD0, hN⟩ := hv
  have hx := B.exec
  have hb := B.bytes
  have hr := B.returns
  have hts : ∀ w ∈ gt, w.before ([.ref d, .int p1] : List Value).toArray s = true := fun w h => atoms_spec (ws := wD_widthOf) B.pre w (List.mem_cons_of_mem _ h)
  have hown : s.vm.findClass "TendonLosses$Duct" = some m.cls := findClass_of_methodNamed B.named
  have hlocks := B.notSynchronized
  subst hsz
  have hD := hD0.self (sz := s.heap.size)
  generalize hAe : va_A [(d, .inr (0, [.ref xa, .ref ya, .ref la, .ref sa, .int size])), (xa, .inl (cI, 10, .inl xs)), (ya, .inl (cI, 10, .inl ys)), (la, .inl (cI, 10, .inl ln)), (sa, .inl (cI, 10, .inl sl))] s.heap.size = A at hD ⊢
  have hA : ∀ q : Nat, s.heap.size ≤ q → A q := fun q h => by rw [← hAe]; exact Or.inr h
  have hS : va_S A s.heap s.heap [] := va_S.rf
  have hP : va_P (dC, dI) vwCl [(d, .inr (0, [.ref xa, .ref ya, .ref la, .ref sa, .int size])), (xa, .inl (cI, 10, .inl xs)), (ya, .inl (cI, 10, .inl ys)), (la, .inl (cI, 10, .inl ln)), (sa, .inl (cI, 10, .inl sl))] s.heap := hP
  have hl := lv_entry ([.ref d, .int p1]) (n := 2) (Nat.le_of_ble_eq_true rfl)
  rw [lg_entry_eq]
  generalize (lg_sl ([.ref d, .int p1]) ++ List.replicate (2 - (lg_sl ([.ref d, .int p1])).length) Slot.unset).toArray = ls at hl ⊢
  have hl : lv_has ls 2 [(0, .ref d), (1, .int p1)] := hl
  refine W.nameQ (fun Q hQ => ?_)
  unfold fD_widthOf at hf
  refine lv_aload_n hx hb dD_widthOf_0 rfl (lv_at hl 0 rfl) ?_
  refine va_get (D := (dC, dI)) (ci := 0) (v := .ref xa) (C := "TendonLosses$Duct") (T := TT_D) (N := 5) hx hb hts in_D hown hK hP 0 rfl rfl 0 (by decide) (hts _ kw_108) (fun _ h9 => h9) rfl dD_widthOf_1 ?_
  refine lv_iload_n hx hb dD_widthOf_4 rfl (lv_at hl 1 rfl) ?_
  refine lv_iconst (v := (1 : Int32)) hx hb dD_widthOf_5 (by decide) ?_
  refine lv_iadd hx hb dD_widthOf_6 ?_
  obtain ⟨h_7, hf⟩ := o_c hf
  refine va_iald hx hb hK hP 1 0 rfl rfl h_7 dD_widthOf_7 ?_
  refine lv_aload_n hx hb dD_widthOf_8 rfl (lv_at hl 0 rfl) ?_
  refine va_get (D := (dC, dI)) (ci := 0) (v := .ref xa) (C := "TendonLosses$Duct") (T := TT_D) (N := 5) hx hb hts in_D hown hK hP 0 rfl rfl 0 (by decide) (hts _ kw_108) (fun _ h9 => h9) rfl dD_widthOf_9 ?_
  refine lv_iload_n hx hb dD_widthOf_12 rfl (lv_at hl 1 rfl) ?_
  obtain ⟨h_13, hf⟩ := o_c hf
  refine va_iald hx hb hK hP 1 0 rfl rfl h_13 dD_widthOf_13 ?_
  refine lv_isub hx hb dD_widthOf_14 ?_
  have e9 := Option.some.inj hf
  subst e9
  subst hQ
  exact W.iret (v := ((xs ((p1 + (1 : Int32))).toNatClampNeg) - (xs (p1).toNatClampNeg))) hx hb hr (fun t ht hW => ⟨⟨((xs ((p1 + (1 : Int32))).toNatClampNeg) - (xs (p1).toNatClampNeg)), (), rfl, rfl, by rw [ht]; exact hP, va_K.moved hW.alike hK, hD⟩, hS.F ht⟩) hS.2.2 dD_widthOf_15

def fD_bendAt (fu : Nat) (size : Int32) (xs : Nat → Int32) (ys : Nat → Int32) (ln : Nat → Int32) (sl : Nat → Int32) (p1 : Int32) : Option ((Int32)) := ((fD_isBetweenPieces fu size xs ys ln sl p1).bind fun r_2 => (if r_2 = (0 : Int32) then some (0 : Int32) else (if ¬ (p1 < 0 ∨ 10 ≤ (p1).toNatClampNeg) then (if ¬ ((p1 - (1 : Int32)) < 0 ∨ 10 ≤ ((p1 - (1 : Int32))).toNatClampNeg) then some ((sl (p1).toNatClampNeg) - (sl ((p1 - (1 : Int32))).toNatClampNeg)) else none) else none)))
def rmD_bendAt : Room := { frames := 1, cells := 0, slots := 0, locals := 21 }
set_option maxHeartbeats 4000000 in
set_option maxRecDepth 100000 in
theorem mD_bendAt (l : Launch) (dC : Nat → ClassId) (dI : Nat → Nat → Nat) (cI cL cT : ClassId) (d xa ya la sa : Nat) (sz : Nat) (fu : Nat) (size : Int32) (xs : Nat → Int32) (ys : Nat → Int32) (ln : Nat → Int32) (sl : Nat → Int32) (p1 : Int32) (o0 : Int32) (hf : fD_bendAt fu size xs ys ln sl p1 = some (o0)) : Met l yD_bendAt wD_bendAt rmD_bendAt (kP (dC, dI) [(cI, .int), (cL, .long), (cT, .object "TendonLosses$Tendon")] [.ref d, .int p1] [(d, .inr (0, [.ref xa, .ref ya, .ref la, .ref sa, .int size])), (xa, .inl (cI, 10, .inl xs)), (ya, .inl (cI, 10, .inl ys)), (la, .inl (cI, 10, .inl ln)), (sa, .inl (cI, 10, .inl sl))] sz) (va_Qi (fun (r : Int32) (_ : Unit) => r = o0) (kB (dC, dI) [(cI, .int), (cL, .long), (cT, .object "TendonLosses$Tendon")] (va_A [(d, .inr (0, [.ref xa, .ref ya, .ref la, .ref sa, .int size])), (xa, .inl (cI, 10, .inl xs)), (ya, .inl (cI, 10, .inl ys)), (la, .inl (cI, 10, .inl ln)), (sa, .inl (cI, 10, .inl sl))] sz) [(d, .inr (0, [.ref xa, .ref ya, .ref la, .ref sa, .int size])), (xa, .inl (cI, 10, .inl xs)), (ya, .inl (cI, 10, .inl ys)), (la, .inl (cI, 10, .inl ln)), (sa, .inl (cI, 10, .inl sl))]) (va_A [(d, .inr (0, [.ref xa, .ref ya, .ref la, .ref sa, .int size])), (xa, .inl (cI, 10, .inl xs)), (ya, .inl (cI, 10, .inl ys)), (la, .inl (cI, 10, .inl ln)), (sa, .inl (cI, 10, .inl sl))] sz)) 0 0 (va_A [(d, .inr (0, [.ref xa, .ref ya, .ref la, .ref sa, .int size])), (xa, .inl (cI, 10, .inl xs)), (ya, .inl (cI, 10, .inl ys)), (la, .inl (cI, 10, .inl ln)), (sa, .inl (cI, 10, .inl sl))] sz) := by
  refine Met.ofW (cc := bD_bendAt) (maxL := 2) (ret := (some .int)) (by decide) rfl ?_
  intro p e s m args below meth c s₁ B hml hv
  obtain ⟨rfl, hsz, hP, hK, hD0, hN⟩ := hv
  have hx := B.exec
  have hb := B.bytes
  have hr := B.returns
  have hts : ∀ w ∈ gt, w.before ([.ref d, .int p1] : List Value).toArray s = true := fun w h => atoms_spec (ws := wD_bendAt) B.pre w (List.mem_cons_of_mem _ h)
  have hown : s.vm.findClass "TendonLosses$Duct" = some m.cls := findClass_of_methodNamed B.named
  have hlocks := B.notSynchronized
  subst hsz
  have hD := hD0.self (sz := s.heap.size)
  generalize hAe : va_A [(d, .inr (0, [.ref xa, .ref ya, .ref la, .ref sa, .int size])), (xa, .inl (cI, 10, .inl xs)), (ya, .inl (cI, 10, .inl ys)), (la, .inl (cI, 10, .inl ln)), (sa, .inl (cI, 10, .inl sl))] s.heap.size = A at hD ⊢
  have hA : ∀ q : Nat, s.heap.size ≤ q → A q := fun q h => by rw [← hAe]; exact Or.inr h
  have hS : va_S A s.heap s.heap [] := va_S.rf
  have hP : va_P (dC, dI) vwCl [(d, .inr (0, [.ref xa, .ref ya, .ref la, .ref sa, .int size])), (xa, .inl (cI, 10, .inl xs)), (ya, .inl (cI, 10, .inl ys)), (la, .inl (cI, 10, .inl ln)), (sa, .inl (cI, 10, .inl sl))] s.heap := hP
  have hl := lv_entry ([.ref d, .int p1]) (n := 2) (Nat.le_of_ble_eq_true rfl)
  rw [lg_entry_eq]
  generalize (lg_sl ([.ref d, .int p1]) ++ List.replicate (2 - (lg_sl ([.ref d, .int p1])).length) Slot.unset).toArray = ls at hl ⊢
  have hl : lv_has ls 2 [(0, .ref d), (1, .int p1)] := hl
  refine W.nameQ (fun Q hQ => ?_)
  unfold fD_bendAt at hf
  refine lv_aload_n hx hb dD_bendAt_0 rfl (lv_at hl 0 rfl) ?_
  refine lv_iload_n hx hb dD_bendAt_1 rfl (lv_at hl 1 rfl) ?_
  obtain ⟨r_2, q_2, hf⟩ := o_b hf
  have hPc := hP.sub (ws' := [(d, .inr (0, [.ref xa, .ref ya, .ref la, .ref sa, .int size])), (xa, .inl (cI, 10, .inl xs)), (ya, .inl (cI, 10, .inl ys)), (la, .inl (cI, 10, .inl ln)), (sa, .inl (cI, 10, .inl sl))]) [0, 1, 2, 3, 4] rfl
  have hDc := hD.sub (ws' := [(d, .inr (0, [.ref xa, .ref ya, .ref la, .ref sa, .int size])), (xa, .inl (cI, 10, .inl xs)), (ya, .inl (cI, 10, .inl ys)), (la, .inl (cI, 10, .inl ln)), (sa, .inl (cI, 10, .inl sl))]) [0, 1, 2, 3, 4] (by decide) rfl
  refine kc_i (va_runV (As := [.int p1]) (rest := []) ⟨hx, hb, hml, hown, hts⟩ (mD_isBetweenPieces l dC dI cI cL cT d xa ya la sa s.heap.size fu size xs ys ln sl p1 (r_2) q_2) ⟨callB_of 1 hts (gd_code kw_244) rfl rfl rfl (hts _ kw_34) (hts _ kw_241) (by decide +kernel) ⟨Nat.le_of_ble_eq_true rfl, Nat.le_of_ble_eq_true rfl⟩, hts _ kw_242, hts _ kw_243⟩ (kP_V hPc hK hDc hN (va_recv hK hPc (ci := 0) (q0 := 0) rfl rfl)) rfl rfl hl.1 rfl (lv_room (Nat.le_of_ble_eq_true rfl)) dD_bendAt_2 ⟨Nat.le_of_ble_eq_true rfl, Nat.le_of_ble_eq_true rfl⟩) hP hD hS hA (wc := [(d, .inr (0, [.ref xa, .ref ya, .ref la, .ref sa, .int size])), (xa, .inl (cI, 10, .inl xs)), (ya, .inl (cI, 10, .inl ys)), (la, .inl (cI, 10, .inl ln)), (sa, .inl (cI, 10, .inl sl))]) (wr := []) (w1 := [(d, .inr (0, [.ref xa, .ref ya, .ref la, .ref sa, .int size])), (xa, .inl (cI, 10, .inl xs)), (ya, .inl (cI, 10, .inl ys)), (la, .inl (cI, 10, .inl ln)), (sa, .inl (cI, 10, .inl sl))]) (ws' := [(d, .inr (0, [.ref xa, .ref ya, .ref la, .ref sa, .int size])), (xa, .inl (cI, 10, .inl xs)), (ya, .inl (cI, 10, .inl ys)), (la, .inl (cI, 10, .inl ln)), (sa, .inl (cI, 10, .inl sl))]) [0, 1, 2, 3, 4] [] [0, 1, 2, 3, 4] rfl rfl (by decide) (by decide) rfl (by decide) rfl (fun H locs hP hD hS => ?_)
  refine lv_if_eq (tgt := 26) hx hb dD_bendAt_5 (by decide) (fun c_5 => ?_) (fun c_5 => ?_)
  · have hf := o_t hf c_5
    refine lv_iconst (v := (0 : Int32)) hx hb dD_bendAt_26 (by decide) ?_
    have e9 := Option.some.inj hf
    subst e9
    subst hQ
    exact W.iret (v := (0 : Int32)) hx hb hr (fun t ht hW => ⟨⟨(0 : Int32), (), rfl, rfl, by rw [ht]; exact hP, va_K.moved hW.alike hK, hD⟩, hS.F ht⟩) hS.2.2 dD_bendAt_27
  · have hf := o_f hf c_5
    refine lv_aload_n hx hb dD_bendAt_8 rfl (lv_at hl 0 rfl) ?_
    refine va_get (D := (dC, dI)) (ci := 0) (v := .ref sa) (C := "TendonLosses$Duct") (T := TT_D) (N := 5) hx hb hts in_D hown hK hP 0 rfl rfl 3 (by decide) (hts _ kw_114) (fun _ h9 => h9) rfl dD_bendAt_9 ?_
    refine lv_iload_n hx hb dD_bendAt_12 rfl (lv_at hl 1 rfl) ?_
    obtain ⟨h_13, hf⟩ := o_c hf
    refine va_iald hx hb hK hP 4 0 rfl rfl h_13 dD_bendAt_13 ?_
    refine lv_aload_n hx hb dD_bendAt_14 rfl (lv_at hl 0 rfl) ?_
    refine va_get (D := (dC, dI)) (ci := 0) (v := .ref sa) (C := "TendonLosses$Duct") (T := TT_D) (N := 5) hx hb hts in_D hown hK hP 0 rfl rfl 3 (by decide) (hts _ kw_114) (fun _ h9 => h9) rfl dD_bendAt_15 ?_
    refine lv_iload_n hx hb dD_bendAt_18 rfl (lv_at hl 1 rfl) ?_
    refine lv_iconst (v := (1 : Int32)) hx hb dD_bendAt_19 (by decide) ?_
    refine lv_isub hx hb dD_bendAt_20 ?_
    obtain ⟨h_21, hf⟩ := o_c hf
    refine va_iald hx hb hK hP 4 0 rfl rfl h_21 dD_bendAt_21 ?_
    refine lv_isub hx hb dD_bendAt_22 ?_
    refine lv_goto (tgt := 27) hx hb dD_bendAt_23 (by decide) ?_
    have e9 := Option.some.inj hf
    subst e9
    subst hQ
    exact W.iret (v := ((sl (p1).toNatClampNeg) - (sl ((p1 - (1 : Int32))).toNatClampNeg))) hx hb hr (fun t ht hW => ⟨⟨((sl (p1).toNatClampNeg) - (sl ((p1 - (1 : Int32))).toNatClampNeg)), (), rfl, rfl, by rw [ht]; exact hP, va_K.moved hW.alike hK, hD⟩, hS.F ht⟩) hS.2.2 dD_bendAt_27

def fD_turnAt (fu : Nat) (size : Int32) (xs : Nat → Int32) (ys : Nat → Int32) (ln : Nat → Int32) (sl : Nat → Int32) (p1 : Int32) : Option ((Int32)) := ((fD_bendAt fu size xs ys ln sl p1).bind fun r_2 => some (if 0 ≤ r_2 then r_2 else 0 - r_2))
def rmD_turnAt : Room := { frames := 2, cells := 0, slots := 0, locals := 42 }
set_option maxHeartbeats 4000000 in
set_option maxRecDepth 100000 in
theorem mD_turnAt (l : Launch) (dC : Nat → ClassId) (dI : Nat → Nat → Nat) (cI cL cT : ClassId) (d xa ya la sa : Nat) (sz : Nat) (fu : Nat) (size : Int32) (xs : Nat → Int32) (ys : Nat → Int32) (ln : Nat → Int32) (sl : Nat → Int32) (p1 : Int32) (o0 : Int32) (hf : fD_turnAt fu size xs ys ln sl p1 = some (o0)) : Met l yD_turnAt wD_turnAt rmD_turnAt (kP (dC, dI) [(cI, .int), (cL, .long), (cT, .object "TendonLosses$Tendon")] [.ref d, .int p1] [(d, .inr (0, [.ref xa, .ref ya, .ref la, .ref sa, .int size])), (xa, .inl (cI, 10, .inl xs)), (ya, .inl (cI, 10, .inl ys)), (la, .inl (cI, 10, .inl ln)), (sa, .inl (cI, 10, .inl sl))] sz) (va_Qi (fun (r : Int32) (_ : Unit) => r = o0) (kB (dC, dI) [(cI, .int), (cL, .long), (cT, .object "TendonLosses$Tendon")] (va_A [(d, .inr (0, [.ref xa, .ref ya, .ref la, .ref sa, .int size])), (xa, .inl (cI, 10, .inl xs)), (ya, .inl (cI, 10, .inl ys)), (la, .inl (cI, 10, .inl ln)), (sa, .inl (cI, 10, .inl sl))] sz) [(d, .inr (0, [.ref xa, .ref ya, .ref la, .ref sa, .int size])), (xa, .inl (cI, 10, .inl xs)), (ya, .inl (cI, 10, .inl ys)), (la, .inl (cI, 10, .inl ln)), (sa, .inl (cI, 10, .inl sl))]) (va_A [(d, .inr (0, [.ref xa, .ref ya, .ref la, .ref sa, .int size])), (xa, .inl (cI, 10, .inl xs)), (ya, .inl (cI, 10, .inl ys)), (la, .inl (cI, 10, .inl ln)), (sa, .inl (cI, 10, .inl sl))] sz)) 0 0 (va_A [(d, .inr (0, [.ref xa, .ref ya, .ref la, .ref sa, .int size])), (xa, .inl (cI, 10, .inl xs)), (ya, .inl (cI, 10, .inl ys)), (la, .inl (cI, 10, .inl ln)), (sa, .inl (cI, 10, .inl sl))] sz) := by
  refine Met.ofW (cc := bD_turnAt) (maxL := 2) (ret := (some .int)) (by decide) rfl ?_
  intro p e s m args below meth c s₁ B hml hv
  obtain ⟨rfl, hsz, hP, hK, hD0, hN⟩ := hv
  have hx := B.exec
  have hb := B.bytes
  have hr := B.returns
  have hts : ∀ w ∈ gt, w.before ([.ref d, .int p1] : List Value).toArray s = true := fun w h => atoms_spec (ws := wD_turnAt) B.pre w (List.mem_cons_of_mem _ h)
  have hown : s.vm.findClass "TendonLosses$Duct" = some m.cls := findClass_of_methodNamed B.named
  have hlocks := B.notSynchronized
  subst hsz
  have hD := hD0.self (sz := s.heap.size)
  generalize hAe : va_A [(d, .inr (0, [.ref xa, .ref ya, .ref la, .ref sa, .int size])), (xa, .inl (cI, 10, .inl xs)), (ya, .inl (cI, 10, .inl ys)), (la, .inl (cI, 10, .inl ln)), (sa, .inl (cI, 10, .inl sl))] s.heap.size = A at hD ⊢
  have hA : ∀ q : Nat, s.heap.size ≤ q → A q := fun q h => by rw [← hAe]; exact Or.inr h
  have hS : va_S A s.heap s.heap [] := va_S.rf
  have hP : va_P (dC, dI) vwCl [(d, .inr (0, [.ref xa, .ref ya, .ref la, .ref sa, .int size])), (xa, .inl (cI, 10, .inl xs)), (ya, .inl (cI, 10, .inl ys)), (la, .inl (cI, 10, .inl ln)), (sa, .inl (cI, 10, .inl sl))] s.heap := hP
  have hl := lv_entry ([.ref d, .int p1]) (n := 2) (Nat.le_of_ble_eq_true rfl)
  rw [lg_entry_eq]
  generalize (lg_sl ([.ref d, .int p1]) ++ List.replicate (2 - (lg_sl ([.ref d, .int p1])).length) Slot.unset).toArray = ls at hl ⊢
  have hl : lv_has ls 2 [(0, .ref d), (1, .int p1)] := hl
  refine W.nameQ (fun Q hQ => ?_)
  unfold fD_turnAt at hf
  refine lv_aload_n hx hb dD_turnAt_0 rfl (lv_at hl 0 rfl) ?_
  refine lv_iload_n hx hb dD_turnAt_1 rfl (lv_at hl 1 rfl) ?_
  obtain ⟨r_2, q_2, hf⟩ := o_b hf
  have hPc := hP.sub (ws' := [(d, .inr (0, [.ref xa, .ref ya, .ref la, .ref sa, .int size])), (xa, .inl (cI, 10, .inl xs)), (ya, .inl (cI, 10, .inl ys)), (la, .inl (cI, 10, .inl ln)), (sa, .inl (cI, 10, .inl sl))]) [0, 1, 2, 3, 4] rfl
  have hDc := hD.sub (ws' := [(d, .inr (0, [.ref xa, .ref ya, .ref la, .ref sa, .int size])), (xa, .inl (cI, 10, .inl xs)), (ya, .inl (cI, 10, .inl ys)), (la, .inl (cI, 10, .inl ln)), (sa, .inl (cI, 10, .inl sl))]) [0, 1, 2, 3, 4] (by decide) rfl
  refine kc_i (va_runV (As := [.int p1]) (rest := []) ⟨hx, hb, hml, hown, hts⟩ (mD_bendAt l dC dI cI cL cT d xa ya la sa s.heap.size fu size xs ys ln sl p1 (r_2) q_2) ⟨callB_of 1 hts (gd_code kw_240) rfl rfl rfl (hts _ kw_34) (hts _ kw_237) (by decide +kernel) ⟨Nat.le_of_ble_eq_true rfl, Nat.le_of_ble_eq_true rfl⟩, hts _ kw_238, hts _ kw_239⟩ (kP_V hPc hK hDc hN (va_recv hK hPc (ci := 0) (q0 := 0) rfl rfl)) rfl rfl hl.1 rfl (lv_room (Nat.le_of_ble_eq_true rfl)) dD_turnAt_2 ⟨Nat.le_of_ble_eq_true rfl, Nat.le_of_ble_eq_true rfl⟩) hP hD hS hA (wc := [(d, .inr (0, [.ref xa, .ref ya, .ref la, .ref sa, .int size])), (xa, .inl (cI, 10, .inl xs)), (ya, .inl (cI, 10, .inl ys)), (la, .inl (cI, 10, .inl ln)), (sa, .inl (cI, 10, .inl sl))]) (wr := []) (w1 := [(d, .inr (0, [.ref xa, .ref ya, .ref la, .ref sa, .int size])), (xa, .inl (cI, 10, .inl xs)), (ya, .inl (cI, 10, .inl ys)), (la, .inl (cI, 10, .inl ln)), (sa, .inl (cI, 10, .inl sl))]) (ws' := [(d, .inr (0, [.ref xa, .ref ya, .ref la, .ref sa, .int size])), (xa, .inl (cI, 10, .inl xs)), (ya, .inl (cI, 10, .inl ys)), (la, .inl (cI, 10, .inl ln)), (sa, .inl (cI, 10, .inl sl))]) [0, 1, 2, 3, 4] [] [0, 1, 2, 3, 4] rfl rfl (by decide) (by decide) rfl (by decide) rfl (fun H locs hP hD hS => ?_)
  refine va_mabs hx hb (hml.trans hl.1.symm) hown (hts _ kw_245) (hts _ kw_246) (hts _ kw_35) (hts _ kw_247) (Nat.le_of_ble_eq_true rfl) (Nat.le_of_ble_eq_true rfl) (Nat.le_of_ble_eq_true rfl) (Nat.le_of_ble_eq_true rfl) dD_turnAt_5 ?_
  have e9 := Option.some.inj hf
  subst e9
  subst hQ
  exact W.iret (v := (if 0 ≤ r_2 then r_2 else 0 - r_2)) hx hb hr (fun t ht hW => ⟨⟨(if 0 ≤ r_2 then r_2 else 0 - r_2), (), rfl, rfl, by rw [ht]; exact hP, va_K.moved hW.alike hK, hD⟩, hS.F ht⟩) hS.2.2 dD_turnAt_8

def fD_pieceOver_L2 (fu : Nat) (size : Int32) (xs : Nat → Int32) (p1 : Int32) : Nat → (Int32) → Option ((Int32))
  | 0, _ => none
  | n2 + 1, z2l2 => (if (size - (1 : Int32)) ≤ z2l2 then some (-1 : Int32) else (if ¬ (z2l2 < 0 ∨ 10 ≤ (z2l2).toNatClampNeg) then (if ¬ ((z2l2 + (1 : Int32)) < 0 ∨ 10 ≤ ((z2l2 + (1 : Int32))).toNatClampNeg) then ((fL_isWithin fu p1 (xs (z2l2).toNatClampNeg) (xs ((z2l2 + (1 : Int32))).toNatClampNeg)).bind fun r_27 => (if r_27 = (0 : Int32) then fD_pieceOver_L2 fu size xs p1 n2 (z2l2 + (1 : Int32)) else some z2l2)) else none) else none))
theorem fD_pieceOver_L2_z (fu : Nat) (size : Int32) (xs : Nat → Int32) (p1 : Int32) (z2l2 : Int32) : fD_pieceOver_L2 fu size xs p1 0 z2l2 = none := rfl
theorem fD_pieceOver_L2_s (fu : Nat) (size : Int32) (xs : Nat → Int32) (p1 : Int32) (z2l2 : Int32) (n2 : Nat) : fD_pieceOver_L2 fu size xs p1 (n2 + 1) z2l2 = (if (size - (1 : Int32)) ≤ z2l2 then some (-1 : Int32) else (if ¬ (z2l2 < 0 ∨ 10 ≤ (z2l2).toNatClampNeg) then (if ¬ ((z2l2 + (1 : Int32)) < 0 ∨ 10 ≤ ((z2l2 + (1 : Int32))).toNatClampNeg) then ((fL_isWithin fu p1 (xs (z2l2).toNatClampNeg) (xs ((z2l2 + (1 : Int32))).toNatClampNeg)).bind fun r_27 => (if r_27 = (0 : Int32) then fD_pieceOver_L2 fu size xs p1 n2 (z2l2 + (1 : Int32)) else some z2l2)) else none) else none)) := rfl
def fD_pieceOver (fu : Nat) (size : Int32) (xs : Nat → Int32) (ys : Nat → Int32) (ln : Nat → Int32) (sl : Nat → Int32) (p1 : Int32) : Option ((Int32)) := fD_pieceOver_L2 fu size xs p1 fu (0 : Int32)
def rmD_pieceOver : Room := { frames := 1, cells := 0, slots := 0, locals := 22 }
set_option maxHeartbeats 4000000 in
set_option maxRecDepth 100000 in
theorem mD_pieceOver (l : Launch) (dC : Nat → ClassId) (dI : Nat → Nat → Nat) (cI cL cT : ClassId) (d xa ya la sa : Nat) (sz : Nat) (fu : Nat) (size : Int32) (xs : Nat → Int32) (ys : Nat → Int32) (ln : Nat → Int32) (sl : Nat → Int32) (p1 : Int32) (o0 : Int32) (hf : fD_pieceOver fu size xs ys ln sl p1 = some (o0)) : Met l yD_pieceOver wD_pieceOver rmD_pieceOver (kP (dC, dI) [(cI, .int), (cL, .long), (cT, .object "TendonLosses$Tendon")] [.ref d, .int p1] [(d, .inr (0, [.ref xa, .ref ya, .ref la, .ref sa, .int size])), (xa, .inl (cI, 10, .inl xs)), (ya, .inl (cI, 10, .inl ys)), (la, .inl (cI, 10, .inl ln)), (sa, .inl (cI, 10, .inl sl))] sz) (va_Qi (fun (r : Int32) (_ : Unit) => r = o0) (kB (dC, dI) [(cI, .int), (cL, .long), (cT, .object "TendonLosses$Tendon")] (va_A [(d, .inr (0, [.ref xa, .ref ya, .ref la, .ref sa, .int size])), (xa, .inl (cI, 10, .inl xs)), (ya, .inl (cI, 10, .inl ys)), (la, .inl (cI, 10, .inl ln)), (sa, .inl (cI, 10, .inl sl))] sz) [(d, .inr (0, [.ref xa, .ref ya, .ref la, .ref sa, .int size])), (xa, .inl (cI, 10, .inl xs)), (ya, .inl (cI, 10, .inl ys)), (la, .inl (cI, 10, .inl ln)), (sa, .inl (cI, 10, .inl sl))]) (va_A [(d, .inr (0, [.ref xa, .ref ya, .ref la, .ref sa, .int size])), (xa, .inl (cI, 10, .inl xs)), (ya, .inl (cI, 10, .inl ys)), (la, .inl (cI, 10, .inl ln)), (sa, .inl (cI, 10, .inl sl))] sz)) 0 0 (va_A [(d, .inr (0, [.ref xa, .ref ya, .ref la, .ref sa, .int size])), (xa, .inl (cI, 10, .inl xs)), (ya, .inl (cI, 10, .inl ys)), (la, .inl (cI, 10, .inl ln)), (sa, .inl (cI, 10, .inl sl))] sz) := by
  refine Met.ofW (cc := bD_pieceOver) (maxL := 3) (ret := (some .int)) (by decide) rfl ?_
  intro p e s m args below meth c s₁ B hml hv
  obtain ⟨rfl, hsz, hP, hK, hD0, hN⟩ := hv
  have hx := B.exec
  have hb := B.bytes
  have hr := B.returns
  have hts : ∀ w ∈ gt, w.before ([.ref d, .int p1] : List Value).toArray s = true := fun w h => atoms_spec (ws := wD_pieceOver) B.pre w (List.mem_cons_of_mem _ h)
  have hown : s.vm.findClass "TendonLosses$Duct" = some m.cls := findClass_of_methodNamed B.named
  have hlocks := B.notSynchronized
  subst hsz
  have hD := hD0.self (sz := s.heap.size)
  generalize hAe : va_A [(d, .inr (0, [.ref xa, .ref ya, .ref la, .ref sa, .int size])), (xa, .inl (cI, 10, .inl xs)), (ya, .inl (cI, 10, .inl ys)), (la, .inl (cI, 10, .inl ln)), (sa, .inl (cI, 10, .inl sl))] s.heap.size = A at hD ⊢
  have hA : ∀ q : Nat, s.heap.size ≤ q → A q := fun q h => by rw [← hAe]; exact Or.inr h
  have hS : va_S A s.heap s.heap [] := va_S.rf
  have hP : va_P (dC, dI) vwCl [(d, .inr (0, [.ref xa, .ref ya, .ref la, .ref sa, .int size])), (xa, .inl (cI, 10, .inl xs)), (ya, .inl (cI, 10, .inl ys)), (la, .inl (cI, 10, .inl ln)), (sa, .inl (cI, 10, .inl sl))] s.heap := hP
  have hl := lv_entry ([.ref d, .int p1]) (n := 3) (Nat.le_of_ble_eq_true rfl)
  rw [lg_entry_eq]
  generalize (lg_sl ([.ref d, .int p1]) ++ List.replicate (3 - (lg_sl ([.ref d, .int p1])).length) Slot.unset).toArray = ls at hl ⊢
  have hl : lv_has ls 3 [(0, .ref d), (1, .int p1)] := hl
  refine W.nameQ (fun Q hQ => ?_)
  unfold fD_pieceOver at hf
  refine lv_iconst (v := (0 : Int32)) hx hb dD_pieceOver_0 (by decide) ?_
  refine lv_istore_n (lv' := [(2, .int (0 : Int32)), (0, .ref d), (1, .int p1)]) hx hb dD_pieceOver_1 rfl hl (by decide) rfl (fun ls hl => ?_)
  have L2 : ∀ (n2 : Nat) (z2l2 : Int32) (H : Heap) (locs : List Loc) (ls : Array Slot), va_P (dC, dI) vwCl [(d, .inr (0, [.ref xa, .ref ya, .ref la, .ref sa, .int size])), (xa, .inl (cI, 10, .inl xs)), (ya, .inl (cI, 10, .inl ys)), (la, .inl (cI, 10, .inl ln)), (sa, .inl (cI, 10, .inl sl))] H → va_D A [(d, .inr (0, [.ref xa, .ref ya, .ref la, .ref sa, .int size])), (xa, .inl (cI, 10, .inl xs)), (ya, .inl (cI, 10, .inl ys)), (la, .inl (cI, 10, .inl ln)), (sa, .inl (cI, 10, .inl sl))] → va_S A s.heap H locs → lv_has ls 3 [(2, .int z2l2), (0, .ref d), (1, .int p1)] → fD_pieceOver_L2 fu size xs p1 n2 z2l2 = some (o0) → W p l e (headSpec wD_pieceOver rmD_pieceOver).room s m ([.ref d, .int p1] : List Value).toArray below meth c H locs 0 0 Q (F0 m 2 ls []) := by
    intro n2
    induction n2 with
    | zero =>
      intro z2l2 H locs ls hP hD hS hl hf
      rw [fD_pieceOver_L2_z] at hf
      cases hf
    | succ n2 ih2 =>
      intro z2l2 H locs ls hP hD hS hl hf
      rw [fD_pieceOver_L2_s] at hf
      refine lv_iload_n hx hb dD_pieceOver_2 rfl (lv_at hl 0 rfl) ?_
      refine lv_aload_n hx hb dD_pieceOver_3 rfl (lv_at hl 1 rfl) ?_
      refine va_get (D := (dC, dI)) (ci := 0) (v := .int size) (C := "TendonLosses$Duct") (T := TT_D) (N := 5) hx hb hts in_D hown hK hP 0 rfl rfl 4 (by decide) (hts _ kw_116) (fun _ h9 => h9) rfl dD_pieceOver_4 ?_
      refine lv_iconst (v := (1 : Int32)) hx hb dD_pieceOver_7 (by decide) ?_
      refine lv_isub hx hb dD_pieceOver_8 ?_
      refine lv_icmp_ge (tgt := 41) hx hb dD_pieceOver_9 (by decide) (fun c_9 => ?_) (fun c_9 => ?_)
      · have hf := o_t hf c_9
        refine lv_iconst (v := (-1 : Int32)) hx hb dD_pieceOver_41 (by decide) ?_
        have e9 := Option.some.inj hf
        subst e9
        subst hQ
        exact W.iret (v := (-1 : Int32)) hx hb hr (fun t ht hW => ⟨⟨(-1 : Int32), (), rfl, rfl, by rw [ht]; exact hP, va_K.moved hW.alike hK, hD⟩, hS.F ht⟩) hS.2.2 dD_pieceOver_42
      · have hf := o_f hf c_9
        refine lv_iload_n hx hb dD_pieceOver_12 rfl (lv_at hl 2 rfl) ?_
        refine lv_aload_n hx hb dD_pieceOver_13 rfl (lv_at hl 1 rfl) ?_
        refine va_get (D := (dC, dI)) (ci := 0) (v := .ref xa) (C := "TendonLosses$Duct") (T := TT_D) (N := 5) hx hb hts in_D hown hK hP 0 rfl rfl 0 (by decide) (hts _ kw_108) (fun _ h9 => h9) rfl dD_pieceOver_14 ?_
        refine lv_iload_n hx hb dD_pieceOver_17 rfl (lv_at hl 0 rfl) ?_
        obtain ⟨h_18, hf⟩ := o_c hf
        refine va_iald hx hb hK hP 1 0 rfl rfl h_18 dD_pieceOver_18 ?_
        refine lv_aload_n hx hb dD_pieceOver_19 rfl (lv_at hl 1 rfl) ?_
        refine va_get (D := (dC, dI)) (ci := 0) (v := .ref xa) (C := "TendonLosses$Duct") (T := TT_D) (N := 5) hx hb hts in_D hown hK hP 0 rfl rfl 0 (by decide) (hts _ kw_108) (fun _ h9 => h9) rfl dD_pieceOver_20 ?_
        refine lv_iload_n hx hb dD_pieceOver_23 rfl (lv_at hl 0 rfl) ?_
        refine lv_iconst (v := (1 : Int32)) hx hb dD_pieceOver_24 (by decide) ?_
        refine lv_iadd hx hb dD_pieceOver_25 ?_
        obtain ⟨h_26, hf⟩ := o_c hf
        refine va_iald hx hb hK hP 1 0 rfl rfl h_26 dD_pieceOver_26 ?_
        obtain ⟨r_27, q_27, hf⟩ := o_b hf
        have hPc := hP.sub (ws' := []) [] rfl
        have hDc := hD.sub (ws' := []) [] (by decide) rfl
        refine kc_i (va_runSN (As := [.int p1, .int (xs (z2l2).toNatClampNeg), .int (xs ((z2l2 + (1 : Int32))).toNatClampNeg)]) (rest := []) ⟨hx, hb, hml, hown, hts⟩ (mL_isWithin l dC dI cI cL cT  H.size fu p1 (xs (z2l2).toNatClampNeg) (xs ((z2l2 + (1 : Int32))).toNatClampNeg) (r_27) q_27) ⟨va_cnB 3 hts (gd_code kw_96) rfl rfl rfl hN.1 (hts _ kw_30) (by decide +kernel) ⟨Nat.le_of_ble_eq_true rfl, Nat.le_of_ble_eq_true rfl⟩, hts _ kw_95, trivial⟩ (kP_S hPc hK hDc hN) rfl rfl hl.1 rfl (lv_room (Nat.le_of_ble_eq_true rfl)) dD_pieceOver_27 ⟨Nat.le_of_ble_eq_true rfl, Nat.le_of_ble_eq_true rfl⟩) hP hD hS hA (wc := []) (wr := [(d, .inr (0, [.ref xa, .ref ya, .ref la, .ref sa, .int size])), (xa, .inl (cI, 10, .inl xs)), (ya, .inl (cI, 10, .inl ys)), (la, .inl (cI, 10, .inl ln)), (sa, .inl (cI, 10, .inl sl))]) (w1 := []) (ws' := [(d, .inr (0, [.ref xa, .ref ya, .ref la, .ref sa, .int size])), (xa, .inl (cI, 10, .inl xs)), (ya, .inl (cI, 10, .inl ys)), (la, .inl (cI, 10, .inl ln)), (sa, .inl (cI, 10, .inl sl))]) [] [0, 1, 2, 3, 4] [0, 1, 2, 3, 4] rfl rfl (by decide) (by decide) rfl (by decide) rfl (fun H locs hP hD hS => ?_)
        refine lv_if_eq (tgt := 35) hx hb dD_pieceOver_30 (by decide) (fun c_30 => ?_) (fun c_30 => ?_)
        · have hf := o_t hf c_30
          refine lv_iinc (v := (z2l2 + (1 : Int32))) (lv' := [(2, .int (z2l2 + (1 : Int32))), (0, .ref d), (1, .int p1)]) hx hb dD_pieceOver_35 hl (k := 0) rfl rfl (by decide) rfl (fun ls hl => ?_)
          refine lv_goto (tgt := 2) hx hb dD_pieceOver_38 (by decide) ?_
          exact ih2 _ H locs ls hP hD hS (lv_sub hl [0, 1, 2] rfl) hf
        · have hf := o_f hf c_30
          refine lv_iload_n hx hb dD_pieceOver_33 rfl (lv_at hl 0 rfl) ?_
          have e9 := Option.some.inj hf
          subst e9
          subst hQ
          exact W.iret (v := z2l2) hx hb hr (fun t ht hW => ⟨⟨z2l2, (), rfl, rfl, by rw [ht]; exact hP, va_K.moved hW.alike hK, hD⟩, hS.F ht⟩) hS.2.2 dD_pieceOver_34
  exact L2 fu _ _ _ ls hP hD hS (lv_sub hl [0, 1, 2] rfl) hf

def fD_pointOnWay (fu : Nat) (size : Int32) (xs : Nat → Int32) (ys : Nat → Int32) (ln : Nat → Int32) (sl : Nat → Int32) (p1 : Int32) (p2 : Int32) : Option ((Int32)) := (if p1 = (2 : Int32) then some ((size - (1 : Int32)) - p2) else some p2)
def rmD_pointOnWay : Room := { frames := 0, cells := 0, slots := 0, locals := 0 }
set_option maxHeartbeats 4000000 in
set_option maxRecDepth 100000 in
theorem mD_pointOnWay (l : Launch) (dC : Nat → ClassId) (dI : Nat → Nat → Nat) (cI cL cT : ClassId) (d xa ya la sa : Nat) (sz : Nat) (fu : Nat) (size : Int32) (xs : Nat → Int32) (ys : Nat → Int32) (ln : Nat → Int32) (sl : Nat → Int32) (p1 : Int32) (p2 : Int32) (o0 : Int32) (hf : fD_pointOnWay fu size xs ys ln sl p1 p2 = some (o0)) : Met l yD_pointOnWay wD_pointOnWay rmD_pointOnWay (kP (dC, dI) [(cI, .int), (cL, .long), (cT, .object "TendonLosses$Tendon")] [.ref d, .int p1, .int p2] [(d, .inr (0, [.ref xa, .ref ya, .ref la, .ref sa, .int size])), (xa, .inl (cI, 10, .inl xs)), (ya, .inl (cI, 10, .inl ys)), (la, .inl (cI, 10, .inl ln)), (sa, .inl (cI, 10, .inl sl))] sz) (va_Qi (fun (r : Int32) (_ : Unit) => r = o0) (kB (dC, dI) [(cI, .int), (cL, .long), (cT, .object "TendonLosses$Tendon")] (va_A [(d, .inr (0, [.ref xa, .ref ya, .ref la, .ref sa, .int size])), (xa, .inl (cI, 10, .inl xs)), (ya, .inl (cI, 10, .inl ys)), (la, .inl (cI, 10, .inl ln)), (sa, .inl (cI, 10, .inl sl))] sz) [(d, .inr (0, [.ref xa, .ref ya, .ref la, .ref sa, .int size])), (xa, .inl (cI, 10, .inl xs)), (ya, .inl (cI, 10, .inl ys)), (la, .inl (cI, 10, .inl ln)), (sa, .inl (cI, 10, .inl sl))]) (va_A [(d, .inr (0, [.ref xa, .ref ya, .ref la, .ref sa, .int size])), (xa, .inl (cI, 10, .inl xs)), (ya, .inl (cI, 10, .inl ys)), (la, .inl (cI, 10, .inl ln)), (sa, .inl (cI, 10, .inl sl))] sz)) 0 0 (va_A [(d, .inr (0, [.ref xa, .ref ya, .ref la, .ref sa, .int size])), (xa, .inl (cI, 10, .inl xs)), (ya, .inl (cI, 10, .inl ys)), (la, .inl (cI, 10, .inl ln)), (sa, .inl (cI, 10, .inl sl))] sz) := by
  refine Met.ofW (cc := bD_pointOnWay) (maxL := 3) (ret := (some .int)) (by decide) rfl ?_
  intro p e s m args below meth c s₁ B hml hv
  obtain ⟨rfl, hsz, hP, hK, hD0, hN⟩ := hv
  have hx := B.exec
  have hb := B.bytes
  have hr := B.returns
  have hts : ∀ w ∈ gt, w.before ([.ref d, .int p1, .int p2] : List Value).toArray s = true := fun w h => atoms_spec (ws := wD_pointOnWay) B.pre w (List.mem_cons_of_mem _ h)
  have hown : s.vm.findClass "TendonLosses$Duct" = some m.cls := findClass_of_methodNamed B.named
  have hlocks := B.notSynchronized
  subst hsz
  have hD := hD0.self (sz := s.heap.size)
  generalize hAe : va_A [(d, .inr (0, [.ref xa, .ref ya, .ref la, .ref sa, .int size])), (xa, .inl (cI, 10, .inl xs)), (ya, .inl (cI, 10, .inl ys)), (la, .inl (cI, 10, .inl ln)), (sa, .inl (cI, 10, .inl sl))] s.heap.size = A at hD ⊢
  have hA : ∀ q : Nat, s.heap.size ≤ q → A q := fun q h => by rw [← hAe]; exact Or.inr h
  have hS : va_S A s.heap s.heap [] := va_S.rf
  have hP : va_P (dC, dI) vwCl [(d, .inr (0, [.ref xa, .ref ya, .ref la, .ref sa, .int size])), (xa, .inl (cI, 10, .inl xs)), (ya, .inl (cI, 10, .inl ys)), (la, .inl (cI, 10, .inl ln)), (sa, .inl (cI, 10, .inl sl))] s.heap := hP
  have hl := lv_entry ([.ref d, .int p1, .int p2]) (n := 3) (Nat.le_of_ble_eq_true rfl)
  rw [lg_entry_eq]
  generalize (lg_sl ([.ref d, .int p1, .int p2]) ++ List.replicate (3 - (lg_sl ([.ref d, .int p1, .int p2])).length) Slot.unset).toArray = ls at hl ⊢
  have hl : lv_has ls 3 [(0, .ref d), (1, .int p1), (2, .int p2)] := hl
  refine W.nameQ (fun Q hQ => ?_)
  unfold fD_pointOnWay at hf
  refine lv_iload_n hx hb dD_pointOnWay_0 rfl (lv_at hl 1 rfl) ?_
  refine lv_iconst (v := (2 : Int32)) hx hb dD_pointOnWay_1 (by decide) ?_
  refine lv_icmp_ne (tgt := 16) hx hb dD_pointOnWay_2 (by decide) (fun c_2 => ?_) (fun c_2 => ?_)
  · have hf := o_f hf c_2
    refine lv_iload_n hx hb dD_pointOnWay_16 rfl (lv_at hl 2 rfl) ?_
    have e9 := Option.some.inj hf
    subst e9
    subst hQ
    exact W.iret (v := p2) hx hb hr (fun t ht hW => ⟨⟨p2, (), rfl, rfl, by rw [ht]; exact hP, va_K.moved hW.alike hK, hD⟩, hS.F ht⟩) hS.2.2 dD_pointOnWay_17
  · have hf := o_t hf c_2
    refine lv_aload_n hx hb dD_pointOnWay_5 rfl (lv_at hl 0 rfl) ?_
    refine va_get (D := (dC, dI)) (ci := 0) (v := .int size) (C := "TendonLosses$Duct") (T := TT_D) (N := 5) hx hb hts in_D hown hK hP 0 rfl rfl 4 (by decide) (hts _ kw_116) (fun _ h9 => h9) rfl dD_pointOnWay_6 ?_
    refine lv_iconst (v := (1 : Int32)) hx hb dD_pointOnWay_9 (by decide) ?_
    refine lv_isub hx hb dD_pointOnWay_10 ?_
    refine lv_iload_n hx hb dD_pointOnWay_11 rfl (lv_at hl 2 rfl) ?_
    refine lv_isub hx hb dD_pointOnWay_12 ?_
    refine lv_goto (tgt := 17) hx hb dD_pointOnWay_13 (by decide) ?_
    have e9 := Option.some.inj hf
    subst e9
    subst hQ
    exact W.iret (v := ((size - (1 : Int32)) - p2)) hx hb hr (fun t ht hW => ⟨⟨((size - (1 : Int32)) - p2), (), rfl, rfl, by rw [ht]; exact hP, va_K.moved hW.alike hK, hD⟩, hS.F ht⟩) hS.2.2 dD_pointOnWay_17

def fD_lengthBefore (fu : Nat) (size : Int32) (xs : Nat → Int32) (ys : Nat → Int32) (ln : Nat → Int32) (sl : Nat → Int32) (p1 : Int32) (p2 : Int32) : Option ((Int32)) := (((if p1 = (2 : Int32) then some ((size - (1 : Int32)) - p2) else some (p2 - (1 : Int32)))).bind fun j_6 => (if ¬ (j_6 < 0 ∨ 10 ≤ (j_6).toNatClampNeg) then some (ln (j_6).toNatClampNeg) else none))
def rmD_lengthBefore : Room := { frames := 0, cells := 0, slots := 0, locals := 0 }
set_option maxHeartbeats 4000000 in
set_option maxRecDepth 100000 in
theorem mD_lengthBefore (l : Launch) (dC : Nat → ClassId) (dI : Nat → Nat → Nat) (cI cL cT : ClassId) (d xa ya la sa : Nat) (sz : Nat) (fu : Nat) (size : Int32) (xs : Nat → Int32) (ys : Nat → Int32) (ln : Nat → Int32) (sl : Nat → Int32) (p1 : Int32) (p2 : Int32) (o0 : Int32) (hf : fD_lengthBefore fu size xs ys ln sl p1 p2 = some (o0)) : Met l yD_lengthBefore wD_lengthBefore rmD_lengthBefore (kP (dC, dI) [(cI, .int), (cL, .long), (cT, .object "TendonLosses$Tendon")] [.ref d, .int p1, .int p2] [(d, .inr (0, [.ref xa, .ref ya, .ref la, .ref sa, .int size])), (xa, .inl (cI, 10, .inl xs)), (ya, .inl (cI, 10, .inl ys)), (la, .inl (cI, 10, .inl ln)), (sa, .inl (cI, 10, .inl sl))] sz) (va_Qi (fun (r : Int32) (_ : Unit) => r = o0) (kB (dC, dI) [(cI, .int), (cL, .long), (cT, .object "TendonLosses$Tendon")] (va_A [(d, .inr (0, [.ref xa, .ref ya, .ref la, .ref sa, .int size])), (xa, .inl (cI, 10, .inl xs)), (ya, .inl (cI, 10, .inl ys)), (la, .inl (cI, 10, .inl ln)), (sa, .inl (cI, 10, .inl sl))] sz) [(d, .inr (0, [.ref xa, .ref ya, .ref la, .ref sa, .int size])), (xa, .inl (cI, 10, .inl xs)), (ya, .inl (cI, 10, .inl ys)), (la, .inl (cI, 10, .inl ln)), (sa, .inl (cI, 10, .inl sl))]) (va_A [(d, .inr (0, [.ref xa, .ref ya, .ref la, .ref sa, .int size])), (xa, .inl (cI, 10, .inl xs)), (ya, .inl (cI, 10, .inl ys)), (la, .inl (cI, 10, .inl ln)), (sa, .inl (cI, 10, .inl sl))] sz)) 0 0 (va_A [(d, .inr (0, [.ref xa, .ref ya, .ref la, .ref sa, .int size])), (xa, .inl (cI, 10, .inl xs)), (ya, .inl (cI, 10, .inl ys)), (la, .inl (cI, 10, .inl ln)), (sa, .inl (cI, 10, .inl sl))] sz) := by
  refine Met.ofW (cc := bD_lengthBefore) (maxL := 3) (ret := (some .int)) (by decide) rfl ?_
  intro p e s m args below meth c s₁ B hml hv
  obtain ⟨rfl, hsz, hP, hK, hD0, hN⟩ := hv
  have hx := B.exec
  have hb := B.bytes
  have hr := B.returns
  have hts : ∀ w ∈ gt, w.before ([.ref d, .int p1, .int p2] : List Value).toArray s = true := fun w h => atoms_spec (ws := wD_lengthBefore) B.pre w (List.mem_cons_of_mem _ h)
  have hown : s.vm.findClass "TendonLosses$Duct" = some m.cls := findClass_of_methodNamed B.named
  have hlocks := B.notSynchronized
  subst hsz
  have hD := hD0.self (sz := s.heap.size)
  generalize hAe : va_A [(d, .inr (0, [.ref xa, .ref ya, .ref la, .ref sa, .int size])), (xa, .inl (cI, 10, .inl xs)), (ya, .inl (cI, 10, .inl ys)), (la, .inl (cI, 10, .inl ln)), (sa, .inl (cI, 10, .inl sl))] s.heap.size = A at hD ⊢
  have hA : ∀ q : Nat, s.heap.size ≤ q → A q := fun q h => by rw [← hAe]; exact Or.inr h
  have hS : va_S A s.heap s.heap [] := va_S.rf
  have hP : va_P (dC, dI) vwCl [(d, .inr (0, [.ref xa, .ref ya, .ref la, .ref sa, .int size])), (xa, .inl (cI, 10, .inl xs)), (ya, .inl (cI, 10, .inl ys)), (la, .inl (cI, 10, .inl ln)), (sa, .inl (cI, 10, .inl sl))] s.heap := hP
  have hl := lv_entry ([.ref d, .int p1, .int p2]) (n := 3) (Nat.le_of_ble_eq_true rfl)
  rw [lg_entry_eq]
  generalize (lg_sl ([.ref d, .int p1, .int p2]) ++ List.replicate (3 - (lg_sl ([.ref d, .int p1, .int p2])).length) Slot.unset).toArray = ls at hl ⊢
  have hl : lv_has ls 3 [(0, .ref d), (1, .int p1), (2, .int p2)] := hl
  refine W.nameQ (fun Q hQ => ?_)
  unfold fD_lengthBefore at hf
  refine lv_aload_n hx hb dD_lengthBefore_0 rfl (lv_at hl 0 rfl) ?_
  refine va_get (D := (dC, dI)) (ci := 0) (v := .ref la) (C := "TendonLosses$Duct") (T := TT_D) (N := 5) hx hb hts in_D hown hK hP 0 rfl rfl 2 (by decide) (hts _ kw_111) (fun _ h9 => h9) rfl dD_lengthBefore_1 ?_
  refine lv_iload_n hx hb dD_lengthBefore_4 rfl (lv_at hl 1 rfl) ?_
  refine lv_iconst (v := (2 : Int32)) hx hb dD_lengthBefore_5 (by decide) ?_
  obtain ⟨j_6, e_6, hf⟩ := o_b hf
  have J_23 : ∀ (H : Heap) (locs : List Loc) (ls : Array Slot), va_P (dC, dI) vwCl [(d, .inr (0, [.ref xa, .ref ya, .ref la, .ref sa, .int size])), (xa, .inl (cI, 10, .inl xs)), (ya, .inl (cI, 10, .inl ys)), (la, .inl (cI, 10, .inl ln)), (sa, .inl (cI, 10, .inl sl))] H → va_D A [(d, .inr (0, [.ref xa, .ref ya, .ref la, .ref sa, .int size])), (xa, .inl (cI, 10, .inl xs)), (ya, .inl (cI, 10, .inl ys)), (la, .inl (cI, 10, .inl ln)), (sa, .inl (cI, 10, .inl sl))] → va_S A s.heap H locs → lv_has ls 3 [(0, .ref d), (1, .int p1), (2, .int p2)] → W p l e (headSpec wD_lengthBefore rmD_lengthBefore).room s m ([.ref d, .int p1, .int p2] : List Value).toArray below meth c H locs 0 0 Q (F0 m 23 ls [.int j_6, .ref la]) := by
    intro H locs ls hP hD hS hl
    obtain ⟨h_23, hf⟩ := o_c hf
    refine va_iald hx hb hK hP 3 0 rfl rfl h_23 dD_lengthBefore_23 ?_
    have e9 := Option.some.inj hf
    subst e9
    subst hQ
    exact W.iret (v := (ln (j_6).toNatClampNeg)) hx hb hr (fun t ht hW => ⟨⟨(ln (j_6).toNatClampNeg), (), rfl, rfl, by rw [ht]; exact hP, va_K.moved hW.alike hK, hD⟩, hS.F ht⟩) hS.2.2 dD_lengthBefore_24
  have hf := e_6
  refine lv_icmp_ne (tgt := 20) hx hb dD_lengthBefore_6 (by decide) (fun c_6 => ?_) (fun c_6 => ?_)
  · have hf := o_f hf c_6
    refine lv_iload_n hx hb dD_lengthBefore_20 rfl (lv_at hl 2 rfl) ?_
    refine lv_iconst (v := (1 : Int32)) hx hb dD_lengthBefore_21 (by decide) ?_
    refine lv_isub hx hb dD_lengthBefore_22 ?_
    have e9 := Option.some.inj hf
    subst e9
    exact J_23 _ _ ls hP hD hS (lv_sub hl [0, 1, 2] rfl)
  · have hf := o_t hf c_6
    refine lv_aload_n hx hb dD_lengthBefore_9 rfl (lv_at hl 0 rfl) ?_
    refine va_get (D := (dC, dI)) (ci := 0) (v := .int size) (C := "TendonLosses$Duct") (T := TT_D) (N := 5) hx hb hts in_D hown hK hP 0 rfl rfl 4 (by decide) (hts _ kw_116) (fun _ h9 => h9) rfl dD_lengthBefore_10 ?_
    refine lv_iconst (v := (1 : Int32)) hx hb dD_lengthBefore_13 (by decide) ?_
    refine lv_isub hx hb dD_lengthBefore_14 ?_
    refine lv_iload_n hx hb dD_lengthBefore_15 rfl (lv_at hl 2 rfl) ?_
    refine lv_isub hx hb dD_lengthBefore_16 ?_
    refine lv_goto (tgt := 23) hx hb dD_lengthBefore_17 (by decide) ?_
    have e9 := Option.some.inj hf
    subst e9
    exact J_23 _ _ ls hP hD hS (lv_sub hl [0, 1, 2] rfl)
