def fM_wanted_L72 (fu : Nat) (msi : Nat → Int32) (p1 : Int32) (p3 : Int32) (p4 : Int32) (z42l5 : Int32) (r_58 : (Nat → Int64) × (Nat → Int64)) (k42 : (Int32) → (Nat → Int64) → (Nat → Int64) → Option ((Int32) × (Nat → Int64) × (Nat → Int64))) : Nat → (Int32) → (Int64) → Option ((Int32) × (Nat → Int64) × (Nat → Int64))
  | 0, _, _ => none
  | n72 + 1, z72l8, z72l6 => (if ¬ (p1 < 0 ∨ 6 ≤ (p1).toNatClampNeg) then (if (msi (p1).toNatClampNeg) ≤ z72l8 then (if z72l6 < (p4).toInt64 then k42 (z42l5 + (1 : Int32)) (r_58.1) (r_58.2) else some ((z42l5 * p3), (r_58.1), (r_58.2))) else (if ¬ (z72l8 < 0 ∨ 10 ≤ (z72l8).toNatClampNeg) then (((if z72l6 ≤ ((r_58.1) (z72l8).toNatClampNeg) then some z72l6 else (if ¬ (z72l8 < 0 ∨ 10 ≤ (z72l8).toNatClampNeg) then some ((r_58.1) (z72l8).toNatClampNeg) else none))).bind fun j_92 => fM_wanted_L72 fu msi p1 p3 p4 z42l5 r_58 k42 n72 (z72l8 + (1 : Int32)) j_92) else none)) else none)
theorem fM_wanted_L72_z (fu : Nat) (msi : Nat → Int32) (p1 : Int32) (p3 : Int32) (p4 : Int32) (z42l5 : Int32) (r_58 : (Nat → Int64) × (Nat → Int64)) (k42 : (Int32) → (Nat → Int64) → (Nat → Int64) → Option ((Int32) × (Nat → Int64) × (Nat → Int64))) (z72l8 : Int32) (z72l6 : Int64) : fM_wanted_L72 fu msi p1 p3 p4 z42l5 r_58 k42 0 z72l8 z72l6 = none := rfl
theorem fM_wanted_L72_s (fu : Nat) (msi : Nat → Int32) (p1 : Int32) (p3 : Int32) (p4 : Int32) (z42l5 : Int32) (r_58 : (Nat → Int64) × (Nat → Int64)) (k42 : (Int32) → (Nat → Int64) → (Nat → Int64) → Option ((Int32) × (Nat → Int64) × (Nat → Int64))) (z72l8 : Int32) (z72l6 : Int64) (n72 : Nat) : fM_wanted_L72 fu msi p1 p3 p4 z42l5 r_58 k42 (n72 + 1) z72l8 z72l6 = (if ¬ (p1 < 0 ∨ 6 ≤ (p1).toNatClampNeg) then (if (msi (p1).toNatClampNeg) ≤ z72l8 then (if z72l6 < (p4).toInt64 then k42 (z42l5 + (1 : Int32)) (r_58.1) (r_58.2) else some ((z42l5 * p3), (r_58.1), (r_58.2))) else (if ¬ (z72l8 < 0 ∨ 10 ≤ (z72l8).toNatClampNeg) then (((if z72l6 ≤ ((r_58.1) (z72l8).toNatClampNeg) then some z72l6 else (if ¬ (z72l8 < 0 ∨ 10 ≤ (z72l8).toNatClampNeg) then some ((r_58.1) (z72l8).toNatClampNeg) else none))).bind fun j_92 => fM_wanted_L72 fu msi p1 p3 p4 z42l5 r_58 k42 n72 (z72l8 + (1 : Int32)) j_92) else none)) else none) := rfl
def fM_wanted_L42 (fu : Nat) (thr : Int32) (ten : Int32) (loc : Int32) (rou : Int32) (mum : Int32) (sli : Int32) (sha : Int32) (fad : Int32) (day : Int32) (mar : Nat → Int32) (msi : Nat → Int32) (mst : Nat → Int32) (men : Nat → Int32) (mpu : Nat → Int32) (mxs : Nat → Int32) (mys : Nat → Int32) (mfo : Nat → Int64) (mor : Nat → Int32) (p1 : Int32) (p2 : Int32) (p3 : Int32) (p4 : Int32) : Nat → (Int32) → (Nat → Int64) → (Nat → Int64) → Option ((Int32) × (Nat → Int64) × (Nat → Int64))
  | 0, _, _, _ => none
  | n42 + 1, z42l5, z42c10, z42c11 => (if (51 : Int32) ≤ z42l5 then some ((-1 : Int32), z42c10, z42c11) else ((fM_drawAll fu thr ten loc rou mum sli sha fad day mar msi mst men mpu mxs mys mfo mor z42c10 z42c11 p1 p2 ((z42l5).toInt64 * (p3).toInt64)).bind fun r_58 => (if ¬ ((0 : Int32) < 0 ∨ 10 ≤ ((0 : Int32)).toNatClampNeg) then fM_wanted_L72 fu msi p1 p3 p4 z42l5 r_58 (fun a0 a1 a2 => fM_wanted_L42 fu thr ten loc rou mum sli sha fad day mar msi mst men mpu mxs mys mfo mor p1 p2 p3 p4 n42 a0 a1 a2) fu (1 : Int32) ((r_58.1) ((0 : Int32)).toNatClampNeg) else none)))
theorem fM_wanted_L42_z (fu : Nat) (thr : Int32) (ten : Int32) (loc : Int32) (rou : Int32) (mum : Int32) (sli : Int32) (sha : Int32) (fad : Int32) (day : Int32) (mar : Nat → Int32) (msi : Nat → Int32) (mst : Nat → Int32) (men : Nat → Int32) (mpu : Nat → Int32) (mxs : Nat → Int32) (mys : Nat → Int32) (mfo : Nat → Int64) (mor : Nat → Int32) (p1 : Int32) (p2 : Int32) (p3 : Int32) (p4 : Int32) (z42l5 : Int32) (z42c10 : Nat → Int64) (z42c11 : Nat → Int64) : fM_wanted_L42 fu thr ten loc rou mum sli sha fad day mar msi mst men mpu mxs mys mfo mor p1 p2 p3 p4 0 z42l5 z42c10 z42c11 = none := rfl
theorem fM_wanted_L42_s (fu : Nat) (thr : Int32) (ten : Int32) (loc : Int32) (rou : Int32) (mum : Int32) (sli : Int32) (sha : Int32) (fad : Int32) (day : Int32) (mar : Nat → Int32) (msi : Nat → Int32) (mst : Nat → Int32) (men : Nat → Int32) (mpu : Nat → Int32) (mxs : Nat → Int32) (mys : Nat → Int32) (mfo : Nat → Int64) (mor : Nat → Int32) (p1 : Int32) (p2 : Int32) (p3 : Int32) (p4 : Int32) (z42l5 : Int32) (z42c10 : Nat → Int64) (z42c11 : Nat → Int64) (n42 : Nat) : fM_wanted_L42 fu thr ten loc rou mum sli sha fad day mar msi mst men mpu mxs mys mfo mor p1 p2 p3 p4 (n42 + 1) z42l5 z42c10 z42c11 = (if (51 : Int32) ≤ z42l5 then some ((-1 : Int32), z42c10, z42c11) else ((fM_drawAll fu thr ten loc rou mum sli sha fad day mar msi mst men mpu mxs mys mfo mor z42c10 z42c11 p1 p2 ((z42l5).toInt64 * (p3).toInt64)).bind fun r_58 => (if ¬ ((0 : Int32) < 0 ∨ 10 ≤ ((0 : Int32)).toNatClampNeg) then fM_wanted_L72 fu msi p1 p3 p4 z42l5 r_58 (fun a0 a1 a2 => fM_wanted_L42 fu thr ten loc rou mum sli sha fad day mar msi mst men mpu mxs mys mfo mor p1 p2 p3 p4 n42 a0 a1 a2) fu (1 : Int32) ((r_58.1) ((0 : Int32)).toNatClampNeg) else none))) := rfl
def fM_wanted (fu : Nat) (thr : Int32) (ten : Int32) (loc : Int32) (rou : Int32) (mum : Int32) (sli : Int32) (sha : Int32) (fad : Int32) (day : Int32) (mar : Nat → Int32) (msi : Nat → Int32) (mst : Nat → Int32) (men : Nat → Int32) (mpu : Nat → Int32) (mxs : Nat → Int32) (mys : Nat → Int32) (mfo : Nat → Int64) (mor : Nat → Int32) (mo1 : Nat → Int64) (mo2 : Nat → Int64) (p1 : Int32) (p2 : Int32) (p3 : Int32) (p4 : Int32) : Option ((Int32) × (Nat → Int64) × (Nat → Int64)) := ((fM_isTendon fu thr ten loc rou mum sli sha fad day mar msi mst men mpu mxs mys mfo mor mo1 mo2 p1).bind fun r_2 => (if r_2 = (0 : Int32) then some ((-1 : Int32), mo1, mo2) else (if ¬ (p1 < 0 ∨ 6 ≤ (p1).toNatClampNeg) then (if (msi (p1).toNatClampNeg) < (2 : Int32) then some ((-1 : Int32), mo1, mo2) else ((fM_in fu p2 (1 : Int32) (3 : Int32)).bind fun r_21 => (if r_21 = (0 : Int32) then some ((-1 : Int32), mo1, mo2) else ((fM_in fu p3 (1 : Int32) (200000 : Int32)).bind fun r_31 => (if r_31 = (0 : Int32) then some ((-1 : Int32), mo1, mo2) else fM_wanted_L42 fu thr ten loc rou mum sli sha fad day mar msi mst men mpu mxs mys mfo mor p1 p2 p3 p4 fu (0 : Int32) mo1 mo2))))) else none)))
def rmM_wanted : Room := { frames := 4, cells := 0, slots := 0, locals := 110 }
set_option maxHeartbeats 4000000 in
set_option maxRecDepth 100000 in
theorem mM_wanted (l : Launch) (dC : Nat → ClassId) (dI : Nat → Nat → Nat) (cI cL cT : ClassId) (mo a_ar a_si a_st a_en a_pu a_xs a_ys a_fo a_or a_o1 a_o2 : Nat) (sz : Nat) (fu : Nat) (thr : Int32) (ten : Int32) (loc : Int32) (rou : Int32) (mum : Int32) (sli : Int32) (sha : Int32) (fad : Int32) (day : Int32) (mar : Nat → Int32) (msi : Nat → Int32) (mst : Nat → Int32) (men : Nat → Int32) (mpu : Nat → Int32) (mxs : Nat → Int32) (mys : Nat → Int32) (mfo : Nat → Int64) (mor : Nat → Int32) (mo1 : Nat → Int64) (mo2 : Nat → Int64) (p1 : Int32) (p2 : Int32) (p3 : Int32) (p4 : Int32) (o0 : Int32) (o1 : Nat → Int64) (o2 : Nat → Int64) (hf : fM_wanted fu thr ten loc rou mum sli sha fad day mar msi mst men mpu mxs mys mfo mor mo1 mo2 p1 p2 p3 p4 = some (o0, o1, o2)) : Met l yM_wanted wM_wanted rmM_wanted (kP (dC, dI) [(cI, .int), (cL, .long), (cT, .object "TendonLosses$Tendon")] [.ref mo, .int p1, .int p2, .int p3, .int p4] [(mo, .inr (4, [.int thr, .int ten, .ref a_ar, .ref a_si, .ref a_st, .ref a_en, .ref a_pu, .ref a_xs, .ref a_ys, .ref a_fo, .ref a_or, .int loc, .int rou, .int mum, .int sli, .int sha, .int fad, .int day, .ref a_o1, .ref a_o2])), (a_ar, .inl (cI, 6, .inl mar)), (a_si, .inl (cI, 6, .inl msi)), (a_st, .inl (cI, 6, .inl mst)), (a_en, .inl (cI, 6, .inl men)), (a_pu, .inl (cI, 6, .inl mpu)), (a_xs, .inl (cI, 60, .inl mxs)), (a_ys, .inl (cI, 60, .inl mys)), (a_fo, .inl (cL, 60, .inr (.inl mfo))), (a_or, .inl (cI, 6, .inl mor)), (a_o1, .inl (cL, 10, .inr (.inl mo1))), (a_o2, .inl (cL, 10, .inr (.inl mo2)))] sz) (va_Qi (fun (r : Int32) (_ : Unit) => r = o0) (kB (dC, dI) [(cI, .int), (cL, .long), (cT, .object "TendonLosses$Tendon")] (va_A [(mo, .inr (4, [.int thr, .int ten, .ref a_ar, .ref a_si, .ref a_st, .ref a_en, .ref a_pu, .ref a_xs, .ref a_ys, .ref a_fo, .ref a_or, .int loc, .int rou, .int mum, .int sli, .int sha, .int fad, .int day, .ref a_o1, .ref a_o2])), (a_ar, .inl (cI, 6, .inl mar)), (a_si, .inl (cI, 6, .inl msi)), (a_st, .inl (cI, 6, .inl mst)), (a_en, .inl (cI, 6, .inl men)), (a_pu, .inl (cI, 6, .inl mpu)), (a_xs, .inl (cI, 60, .inl mxs)), (a_ys, .inl (cI, 60, .inl mys)), (a_fo, .inl (cL, 60, .inr (.inl mfo))), (a_or, .inl (cI, 6, .inl mor)), (a_o1, .inl (cL, 10, .inr (.inl mo1))), (a_o2, .inl (cL, 10, .inr (.inl mo2)))] sz) [(mo, .inr (4, [.int thr, .int ten, .ref a_ar, .ref a_si, .ref a_st, .ref a_en, .ref a_pu, .ref a_xs, .ref a_ys, .ref a_fo, .ref a_or, .int loc, .int rou, .int mum, .int sli, .int sha, .int fad, .int day, .ref a_o1, .ref a_o2])), (a_ar, .inl (cI, 6, .inl mar)), (a_si, .inl (cI, 6, .inl msi)), (a_st, .inl (cI, 6, .inl mst)), (a_en, .inl (cI, 6, .inl men)), (a_pu, .inl (cI, 6, .inl mpu)), (a_xs, .inl (cI, 60, .inl mxs)), (a_ys, .inl (cI, 60, .inl mys)), (a_fo, .inl (cL, 60, .inr (.inl mfo))), (a_or, .inl (cI, 6, .inl mor)), (a_o1, .inl (cL, 10, .inr (.inl o1))), (a_o2, .inl (cL, 10, .inr (.inl o2)))]) (va_A [(mo, .inr (4, [.int thr, .int ten, .ref a_ar, .ref a_si, .ref a_st, .ref a_en, .ref a_pu, .ref a_xs, .ref a_ys, .ref a_fo, .ref a_or, .int loc, .int rou, .int mum, .int sli, .int sha, .int fad, .int day, .ref a_o1, .ref a_o2])), (a_ar, .inl (cI, 6, .inl mar)), (a_si, .inl (cI, 6, .inl msi)), (a_st, .inl (cI, 6, .inl mst)), (a_en, .inl (cI, 6, .inl men)), (a_pu, .inl (cI, 6, .inl mpu)), (a_xs, .inl (cI, 60, .inl mxs)), (a_ys, .inl (cI, 60, .inl mys)), (a_fo, .inl (cL, 60, .inr (.inl mfo))), (a_or, .inl (cI, 6, .inl mor)), (a_o1, .inl (cL, 10, .inr (.inl mo1))), (a_o2, .inl (cL, 10, .inr (.inl mo2)))] sz)) 0 0 (va_A [(mo, .inr (4, [.int thr, .int ten, .ref a_ar, .ref a_si, .ref a_st, .ref a_en, .ref a_pu, .ref a_xs, .ref a_ys, .ref a_fo, .ref a_or, .int loc, .int rou, .int mum, .int sli, .int sha, .int fad, .int day, .ref a_o1, .ref a_o2])), (a_ar, .inl (cI, 6, .inl mar)), (a_si, .inl (cI, 6, .inl msi)), (a_st, .inl (cI, 6, .inl mst)), (a_en, .inl (cI, 6, .inl men)), (a_pu, .inl (cI, 6, .inl mpu)), (a_xs, .inl (cI, 60, .inl mxs)), (a_ys, .inl (cI, 60, .inl mys)), (a_fo, .inl (cL, 60, .inr (.inl mfo))), (a_or, .inl (cI, 6, .inl mor)), (a_o1, .inl (cL, 10, .inr (.inl mo1))), (a_o2, .inl (cL, 10, .inr (.inl mo2)))] sz) := by
  refine Met.ofW (cc := bM_wanted) (maxL := 9) (ret := (some .int)) (by decide) rfl ?_
  intro p e s m args below meth c s₁ B hml hv
  obtain ⟨rfl, hsz, hP, hK, hD0, hN⟩ := hv
  have hx := B.exec
  have hb := B.bytes
  have hr := B.returns
  have hts : ∀ w ∈ gt, w.before ([.ref mo, .int p1, .int p2, .int p3, .int p4] : List Value).toArray s = true := fun w h => atoms_spec (ws := wM_wanted) B.pre w (List.mem_cons_of_mem _ h)
  have hown : s.vm.findClass "TendonLossesModel" = some m.cls := findClass_of_methodNamed B.named
  have hlocks := B.notSynchronized
  subst hsz
  have hD := hD0.self (sz := s.heap.size)
  generalize hAe : va_A [(mo, .inr (4, [.int thr, .int ten, .ref a_ar, .ref a_si, .ref a_st, .ref a_en, .ref a_pu, .ref a_xs, .ref a_ys, .ref a_fo, .ref a_or, .int loc, .int rou, .int mum, .int sli, .int sha, .int fad, .int day, .ref a_o1, .ref a_o2])), (a_ar, .inl (cI, 6, .inl mar)), (a_si, .inl (cI, 6, .inl msi)), (a_st, .inl (cI, 6, .inl mst)), (a_en, .inl (cI, 6, .inl men)), (a_pu, .inl (cI, 6, .inl mpu)), (a_xs, .inl (cI, 60, .inl mxs)), (a_ys, .inl (cI, 60, .inl mys)), (a_fo, .inl (cL, 60, .inr (.inl mfo))), (a_or, .inl (cI, 6, .inl mor)), (a_o1, .inl (cL, 10, .inr (.inl mo1))), (a_o2, .inl (cL, 10, .inr (.inl mo2)))] s.heap.size = A at hD ⊢
  have hA : ∀ q : Nat, s.heap.size ≤ q → A q := fun q h => by rw [← hAe]; exact Or.inr h
  have hS : va_S A s.heap s.heap [] := va_S.rf
  have hP : va_P (dC, dI) vwCl [(mo, .inr (4, [.int thr, .int ten, .ref a_ar, .ref a_si, .ref a_st, .ref a_en, .ref a_pu, .ref a_xs, .ref a_ys, .ref a_fo, .ref a_or, .int loc, .int rou, .int mum, .int sli, .int sha, .int fad, .int day, .ref a_o1, .ref a_o2])), (a_ar, .inl (cI, 6, .inl mar)), (a_si, .inl (cI, 6, .inl msi)), (a_st, .inl (cI, 6, .inl mst)), (a_en, .inl (cI, 6, .inl men)), (a_pu, .inl (cI, 6, .inl mpu)), (a_xs, .inl (cI, 60, .inl mxs)), (a_ys, .inl (cI, 60, .inl mys)), (a_fo, .inl (cL, 60, .inr (.inl mfo))), (a_or, .inl (cI, 6, .inl mor)), (a_o1, .inl (cL, 10, .inr (.inl mo1))), (a_o2, .inl (cL, 10, .inr (.inl mo2)))] s.heap := hP
  have hl := lv_entry ([.ref mo, .int p1, .int p2, .int p3, .int p4]) (n := 9) (Nat.le_of_ble_eq_true rfl)
  rw [lg_entry_eq]
  generalize (lg_sl ([.ref mo, .int p1, .int p2, .int p3, .int p4]) ++ List.replicate (9 - (lg_sl ([.ref mo, .int p1, .int p2, .int p3, .int p4])).length) Slot.unset).toArray = ls at hl ⊢
  have hl : lv_has ls 9 [(0, .ref mo), (1, .int p1), (2, .int p2), (3, .int p3), (4, .int p4)] := hl
  refine W.nameQ (fun Q hQ => ?_)
  unfold fM_wanted at hf
  refine lv_aload_n hx hb dM_wanted_0 rfl (lv_at hl 0 rfl) ?_
  refine lv_iload_n hx hb dM_wanted_1 rfl (lv_at hl 1 rfl) ?_
  obtain ⟨r_2, q_2, hf⟩ := o_b hf
  have hPc := hP.sub (ws' := [(mo, .inr (4, [.int thr, .int ten, .ref a_ar, .ref a_si, .ref a_st, .ref a_en, .ref a_pu, .ref a_xs, .ref a_ys, .ref a_fo, .ref a_or, .int loc, .int rou, .int mum, .int sli, .int sha, .int fad, .int day, .ref a_o1, .ref a_o2])), (a_ar, .inl (cI, 6, .inl mar)), (a_si, .inl (cI, 6, .inl msi)), (a_st, .inl (cI, 6, .inl mst)), (a_en, .inl (cI, 6, .inl men)), (a_pu, .inl (cI, 6, .inl mpu)), (a_xs, .inl (cI, 60, .inl mxs)), (a_ys, .inl (cI, 60, .inl mys)), (a_fo, .inl (cL, 60, .inr (.inl mfo))), (a_or, .inl (cI, 6, .inl mor)), (a_o1, .inl (cL, 10, .inr (.inl mo1))), (a_o2, .inl (cL, 10, .inr (.inl mo2)))]) [0, 1, 2, 3, 4, 5, 6, 7, 8, 9, 10, 11] rfl
  have hDc := hD.sub (ws' := [(mo, .inr (4, [.int thr, .int ten, .ref a_ar, .ref a_si, .ref a_st, .ref a_en, .ref a_pu, .ref a_xs, .ref a_ys, .ref a_fo, .ref a_or, .int loc, .int rou, .int mum, .int sli, .int sha, .int fad, .int day, .ref a_o1, .ref a_o2])), (a_ar, .inl (cI, 6, .inl mar)), (a_si, .inl (cI, 6, .inl msi)), (a_st, .inl (cI, 6, .inl mst)), (a_en, .inl (cI, 6, .inl men)), (a_pu, .inl (cI, 6, .inl mpu)), (a_xs, .inl (cI, 60, .inl mxs)), (a_ys, .inl (cI, 60, .inl mys)), (a_fo, .inl (cL, 60, .inr (.inl mfo))), (a_or, .inl (cI, 6, .inl mor)), (a_o1, .inl (cL, 10, .inr (.inl mo1))), (a_o2, .inl (cL, 10, .inr (.inl mo2)))]) [0, 1, 2, 3, 4, 5, 6, 7, 8, 9, 10, 11] (by decide) rfl
  refine kc_i (va_runV (As := [.int p1]) (rest := []) ⟨hx, hb, hml, hown, hts⟩ (mM_isTendon l dC dI cI cL cT mo a_ar a_si a_st a_en a_pu a_xs a_ys a_fo a_or a_o1 a_o2 s.heap.size fu thr ten loc rou mum sli sha fad day mar msi mst men mpu mxs mys mfo mor mo1 mo2 p1 (r_2) q_2) ⟨callB_of 1 hts (gd_code kw_497) rfl rfl rfl (hts _ kw_32) (hts _ kw_494) (by decide +kernel) ⟨Nat.le_of_ble_eq_true rfl, Nat.le_of_ble_eq_true rfl⟩, hts _ kw_496, hts _ kw_14⟩ (kP_V hPc hK hDc hN (va_recv hK hPc (ci := 4) (q0 := 0) rfl rfl)) rfl rfl hl.1 rfl (lv_room (Nat.le_of_ble_eq_true rfl)) dM_wanted_2 ⟨Nat.le_of_ble_eq_true rfl, Nat.le_of_ble_eq_true rfl⟩) hP hD hS hA (wc := [(mo, .inr (4, [.int thr, .int ten, .ref a_ar, .ref a_si, .ref a_st, .ref a_en, .ref a_pu, .ref a_xs, .ref a_ys, .ref a_fo, .ref a_or, .int loc, .int rou, .int mum, .int sli, .int sha, .int fad, .int day, .ref a_o1, .ref a_o2])), (a_ar, .inl (cI, 6, .inl mar)), (a_si, .inl (cI, 6, .inl msi)), (a_st, .inl (cI, 6, .inl mst)), (a_en, .inl (cI, 6, .inl men)), (a_pu, .inl (cI, 6, .inl mpu)), (a_xs, .inl (cI, 60, .inl mxs)), (a_ys, .inl (cI, 60, .inl mys)), (a_fo, .inl (cL, 60, .inr (.inl mfo))), (a_or, .inl (cI, 6, .inl mor)), (a_o1, .inl (cL, 10, .inr (.inl mo1))), (a_o2, .inl (cL, 10, .inr (.inl mo2)))]) (wr := []) (w1 := [(mo, .inr (4, [.int thr, .int ten, .ref a_ar, .ref a_si, .ref a_st, .ref a_en, .ref a_pu, .ref a_xs, .ref a_ys, .ref a_fo, .ref a_or, .int loc, .int rou, .int mum, .int sli, .int sha, .int fad, .int day, .ref a_o1, .ref a_o2])), (a_ar, .inl (cI, 6, .inl mar)), (a_si, .inl (cI, 6, .inl msi)), (a_st, .inl (cI, 6, .inl mst)), (a_en, .inl (cI, 6, .inl men)), (a_pu, .inl (cI, 6, .inl mpu)), (a_xs, .inl (cI, 60, .inl mxs)), (a_ys, .inl (cI, 60, .inl mys)), (a_fo, .inl (cL, 60, .inr (.inl mfo))), (a_or, .inl (cI, 6, .inl mor)), (a_o1, .inl (cL, 10, .inr (.inl mo1))), (a_o2, .inl (cL, 10, .inr (.inl mo2)))]) (ws' := [(mo, .inr (4, [.int thr, .int ten, .ref a_ar, .ref a_si, .ref a_st, .ref a_en, .ref a_pu, .ref a_xs, .ref a_ys, .ref a_fo, .ref a_or, .int loc, .int rou, .int mum, .int sli, .int sha, .int fad, .int day, .ref a_o1, .ref a_o2])), (a_ar, .inl (cI, 6, .inl mar)), (a_si, .inl (cI, 6, .inl msi)), (a_st, .inl (cI, 6, .inl mst)), (a_en, .inl (cI, 6, .inl men)), (a_pu, .inl (cI, 6, .inl mpu)), (a_xs, .inl (cI, 60, .inl mxs)), (a_ys, .inl (cI, 60, .inl mys)), (a_fo, .inl (cL, 60, .inr (.inl mfo))), (a_or, .inl (cI, 6, .inl mor)), (a_o1, .inl (cL, 10, .inr (.inl mo1))), (a_o2, .inl (cL, 10, .inr (.inl mo2)))]) [0, 1, 2, 3, 4, 5, 6, 7, 8, 9, 10, 11] [] [0, 1, 2, 3, 4, 5, 6, 7, 8, 9, 10, 11] rfl rfl (by decide) (by decide) rfl (by decide) rfl (fun H locs hP hD hS => ?_)
  refine lv_if_eq (tgt := 37) hx hb dM_wanted_5 (by decide) (fun c_5 => ?_) (fun c_5 => ?_)
  · have hf := o_t hf c_5
    refine lv_iconst (v := (-1 : Int32)) hx hb dM_wanted_37 (by decide) ?_
    have k0 := Option.some.inj hf
    obtain ⟨e0, k1⟩ := Prod.mk.inj k0
    obtain ⟨e1, k2⟩ := Prod.mk.inj k1
    subst e0
    subst e1
    subst k2
    subst hQ
    exact W.iret (v := (-1 : Int32)) hx hb hr (fun t ht hW => ⟨⟨(-1 : Int32), (), rfl, rfl, by rw [ht]; exact hP, va_K.moved hW.alike hK, hD⟩, hS.F ht⟩) hS.2.2 dM_wanted_38
  · have hf := o_f hf c_5
    refine lv_aload_n hx hb dM_wanted_8 rfl (lv_at hl 0 rfl) ?_
    refine va_get (D := (dC, dI)) (ci := 4) (v := .ref a_si) (C := "TendonLossesModel") (T := TT_M) (N := 20) hx hb hts in_M hown hK hP 0 rfl rfl 3 (by decide) (hts _ kw_425) (fun _ h9 => h9) rfl dM_wanted_9 ?_
    refine lv_iload_n hx hb dM_wanted_12 rfl (lv_at hl 1 rfl) ?_
    obtain ⟨h_13, hf⟩ := o_c hf
    refine va_iald hx hb hK hP 2 0 rfl rfl h_13 dM_wanted_13 ?_
    refine lv_iconst (v := (2 : Int32)) hx hb dM_wanted_14 (by decide) ?_
    refine lv_icmp_lt (tgt := 37) hx hb dM_wanted_15 (by decide) (fun c_15 => ?_) (fun c_15 => ?_)
    · have hf := o_t hf c_15
      refine lv_iconst (v := (-1 : Int32)) hx hb dM_wanted_37 (by decide) ?_
      have k0 := Option.some.inj hf
      obtain ⟨e0, k1⟩ := Prod.mk.inj k0
      obtain ⟨e1, k2⟩ := Prod.mk.inj k1
      subst e0
      subst e1
      subst k2
      subst hQ
      exact W.iret (v := (-1 : Int32)) hx hb hr (fun t ht hW => ⟨⟨(-1 : Int32), (), rfl, rfl, by rw [ht]; exact hP, va_K.moved hW.alike hK, hD⟩, hS.F ht⟩) hS.2.2 dM_wanted_38
    · have hf := o_f hf c_15
      refine lv_iload_n hx hb dM_wanted_18 rfl (lv_at hl 2 rfl) ?_
      refine lv_iconst (v := (1 : Int32)) hx hb dM_wanted_19 (by decide) ?_
      refine lv_iconst (v := (3 : Int32)) hx hb dM_wanted_20 (by decide) ?_
      obtain ⟨r_21, q_21, hf⟩ := o_b hf
      have hPc := hP.sub (ws' := []) [] rfl
      have hDc := hD.sub (ws' := []) [] (by decide) rfl
      refine kc_i (va_runS (As := [.int p2, .int (1 : Int32), .int (3 : Int32)]) (rest := []) ⟨hx, hb, hml, hown, hts⟩ (mM_in l dC dI cI cL cT  H.size fu p2 (1 : Int32) (3 : Int32) (r_21) q_21) ⟨callB_of 3 hts (gd_code kw_489) rfl rfl rfl (hts _ kw_32) (hts _ kw_487) (by decide +kernel) ⟨Nat.le_of_ble_eq_true rfl, Nat.le_of_ble_eq_true rfl⟩, hts _ kw_488⟩ (kP_S hPc hK hDc hN) rfl rfl hl.1 rfl (lv_room (Nat.le_of_ble_eq_true rfl)) dM_wanted_21 ⟨Nat.le_of_ble_eq_true rfl, Nat.le_of_ble_eq_true rfl⟩) hP hD hS hA (wc := []) (wr := [(mo, .inr (4, [.int thr, .int ten, .ref a_ar, .ref a_si, .ref a_st, .ref a_en, .ref a_pu, .ref a_xs, .ref a_ys, .ref a_fo, .ref a_or, .int loc, .int rou, .int mum, .int sli, .int sha, .int fad, .int day, .ref a_o1, .ref a_o2])), (a_ar, .inl (cI, 6, .inl mar)), (a_si, .inl (cI, 6, .inl msi)), (a_st, .inl (cI, 6, .inl mst)), (a_en, .inl (cI, 6, .inl men)), (a_pu, .inl (cI, 6, .inl mpu)), (a_xs, .inl (cI, 60, .inl mxs)), (a_ys, .inl (cI, 60, .inl mys)), (a_fo, .inl (cL, 60, .inr (.inl mfo))), (a_or, .inl (cI, 6, .inl mor)), (a_o1, .inl (cL, 10, .inr (.inl mo1))), (a_o2, .inl (cL, 10, .inr (.inl mo2)))]) (w1 := []) (ws' := [(mo, .inr (4, [.int thr, .int ten, .ref a_ar, .ref a_si, .ref a_st, .ref a_en, .ref a_pu, .ref a_xs, .ref a_ys, .ref a_fo, .ref a_or, .int loc, .int rou, .int mum, .int sli, .int sha, .int fad, .int day, .ref a_o1, .ref a_o2])), (a_ar, .inl (cI, 6, .inl mar)), (a_si, .inl (cI, 6, .inl msi)), (a_st, .inl (cI, 6, .inl mst)), (a_en, .inl (cI, 6, .inl men)), (a_pu, .inl (cI, 6, .inl mpu)), (a_xs, .inl (cI, 60, .inl mxs)), (a_ys, .inl (cI, 60, .inl mys)), (a_fo, .inl (cL, 60, .inr (.inl mfo))), (a_or, .inl (cI, 6, .inl mor)), (a_o1, .inl (cL, 10, .inr (.inl mo1))), (a_o2, .inl (cL, 10, .inr (.inl mo2)))]) [] [0, 1, 2, 3, 4, 5, 6, 7, 8, 9, 10, 11] [0, 1, 2, 3, 4, 5, 6, 7, 8, 9, 10, 11] rfl rfl (by decide) (by decide) rfl (by decide) rfl (fun H locs hP hD hS => ?_)
      refine lv_if_eq (tgt := 37) hx hb dM_wanted_24 (by decide) (fun c_24 => ?_) (fun c_24 => ?_)
      · have hf := o_t hf c_24
        refine lv_iconst (v := (-1 : Int32)) hx hb dM_wanted_37 (by decide) ?_
        have k0 := Option.some.inj hf
        obtain ⟨e0, k1⟩ := Prod.mk.inj k0
        obtain ⟨e1, k2⟩ := Prod.mk.inj k1
        subst e0
        subst e1
        subst k2
        subst hQ
        exact W.iret (v := (-1 : Int32)) hx hb hr (fun t ht hW => ⟨⟨(-1 : Int32), (), rfl, rfl, by rw [ht]; exact hP, va_K.moved hW.alike hK, hD⟩, hS.F ht⟩) hS.2.2 dM_wanted_38
      · have hf := o_f hf c_24
        refine lv_iload_n hx hb dM_wanted_27 rfl (lv_at hl 3 rfl) ?_
        refine lv_iconst (v := (1 : Int32)) hx hb dM_wanted_28 (by decide) ?_
        refine lv_ldc (v := (200000 : Int32)) hx hb hown (hts _ kw_622) dM_wanted_29 ?_
        obtain ⟨r_31, q_31, hf⟩ := o_b hf
        have hPc := hP.sub (ws' := []) [] rfl
        have hDc := hD.sub (ws' := []) [] (by decide) rfl
        refine kc_i (va_runS (As := [.int p3, .int (1 : Int32), .int (200000 : Int32)]) (rest := []) ⟨hx, hb, hml, hown, hts⟩ (mM_in l dC dI cI cL cT  H.size fu p3 (1 : Int32) (200000 : Int32) (r_31) q_31) ⟨callB_of 3 hts (gd_code kw_489) rfl rfl rfl (hts _ kw_32) (hts _ kw_487) (by decide +kernel) ⟨Nat.le_of_ble_eq_true rfl, Nat.le_of_ble_eq_true rfl⟩, hts _ kw_488⟩ (kP_S hPc hK hDc hN) rfl rfl hl.1 rfl (lv_room (Nat.le_of_ble_eq_true rfl)) dM_wanted_31 ⟨Nat.le_of_ble_eq_true rfl, Nat.le_of_ble_eq_true rfl⟩) hP hD hS hA (wc := []) (wr := [(mo, .inr (4, [.int thr, .int ten, .ref a_ar, .ref a_si, .ref a_st, .ref a_en, .ref a_pu, .ref a_xs, .ref a_ys, .ref a_fo, .ref a_or, .int loc, .int rou, .int mum, .int sli, .int sha, .int fad, .int day, .ref a_o1, .ref a_o2])), (a_ar, .inl (cI, 6, .inl mar)), (a_si, .inl (cI, 6, .inl msi)), (a_st, .inl (cI, 6, .inl mst)), (a_en, .inl (cI, 6, .inl men)), (a_pu, .inl (cI, 6, .inl mpu)), (a_xs, .inl (cI, 60, .inl mxs)), (a_ys, .inl (cI, 60, .inl mys)), (a_fo, .inl (cL, 60, .inr (.inl mfo))), (a_or, .inl (cI, 6, .inl mor)), (a_o1, .inl (cL, 10, .inr (.inl mo1))), (a_o2, .inl (cL, 10, .inr (.inl mo2)))]) (w1 := []) (ws' := [(mo, .inr (4, [.int thr, .int ten, .ref a_ar, .ref a_si, .ref a_st, .ref a_en, .ref a_pu, .ref a_xs, .ref a_ys, .ref a_fo, .ref a_or, .int loc, .int rou, .int mum, .int sli, .int sha, .int fad, .int day, .ref a_o1, .ref a_o2])), (a_ar, .inl (cI, 6, .inl mar)), (a_si, .inl (cI, 6, .inl msi)), (a_st, .inl (cI, 6, .inl mst)), (a_en, .inl (cI, 6, .inl men)), (a_pu, .inl (cI, 6, .inl mpu)), (a_xs, .inl (cI, 60, .inl mxs)), (a_ys, .inl (cI, 60, .inl mys)), (a_fo, .inl (cL, 60, .inr (.inl mfo))), (a_or, .inl (cI, 6, .inl mor)), (a_o1, .inl (cL, 10, .inr (.inl mo1))), (a_o2, .inl (cL, 10, .inr (.inl mo2)))]) [] [0, 1, 2, 3, 4, 5, 6, 7, 8, 9, 10, 11] [0, 1, 2, 3, 4, 5, 6, 7, 8, 9, 10, 11] rfl rfl (by decide) (by decide) rfl (by decide) rfl (fun H locs hP hD hS => ?_)
        refine lv_if_ne (tgt := 39) hx hb dM_wanted_34 (by decide) (fun c_34 => ?_) (fun c_34 => ?_)
        · have hf := o_f hf c_34
          refine lv_iconst (v := (0 : Int32)) hx hb dM_wanted_39 (by decide) ?_
          refine lv_istore (lv' := [(5, .int (0 : Int32)), (0, .ref mo), (1, .int p1), (2, .int p2), (3, .int p3), (4, .int p4)]) hx hb dM_wanted_40 hl (by decide) rfl (fun ls hl => ?_)
          have L42 : ∀ (n42 : Nat) (z42l5 : Int32) (z42c10 : Nat → Int64) (z42c11 : Nat → Int64) (H : Heap) (locs : List Loc) (ls : Array Slot), va_P (dC, dI) vwCl [(mo, .inr (4, [.int thr, .int ten, .ref a_ar, .ref a_si, .ref a_st, .ref a_en, .ref a_pu, .ref a_xs, .ref a_ys, .ref a_fo, .ref a_or, .int loc, .int rou, .int mum, .int sli, .int sha, .int fad, .int day, .ref a_o1, .ref a_o2])), (a_ar, .inl (cI, 6, .inl mar)), (a_si, .inl (cI, 6, .inl msi)), (a_st, .inl (cI, 6, .inl mst)), (a_en, .inl (cI, 6, .inl men)), (a_pu, .inl (cI, 6, .inl mpu)), (a_xs, .inl (cI, 60, .inl mxs)), (a_ys, .inl (cI, 60, .inl mys)), (a_fo, .inl (cL, 60, .inr (.inl mfo))), (a_or, .inl (cI, 6, .inl mor)), (a_o1, .inl (cL, 10, .inr (.inl z42c10))), (a_o2, .inl (cL, 10, .inr (.inl z42c11)))] H → va_D A [(mo, .inr (4, [.int thr, .int ten, .ref a_ar, .ref a_si, .ref a_st, .ref a_en, .ref a_pu, .ref a_xs, .ref a_ys, .ref a_fo, .ref a_or, .int loc, .int rou, .int mum, .int sli, .int sha, .int fad, .int day, .ref a_o1, .ref a_o2])), (a_ar, .inl (cI, 6, .inl mar)), (a_si, .inl (cI, 6, .inl msi)), (a_st, .inl (cI, 6, .inl mst)), (a_en, .inl (cI, 6, .inl men)), (a_pu, .inl (cI, 6, .inl mpu)), (a_xs, .inl (cI, 60, .inl mxs)), (a_ys, .inl (cI, 60, .inl mys)), (a_fo, .inl (cL, 60, .inr (.inl mfo))), (a_or, .inl (cI, 6, .inl mor)), (a_o1, .inl (cL, 10, .inr (.inl z42c10))), (a_o2, .inl (cL, 10, .inr (.inl z42c11)))] → va_S A s.heap H locs → lv_has ls 9 [(5, .int z42l5), (0, .ref mo), (1, .int p1), (2, .int p2), (3, .int p3), (4, .int p4)] → fM_wanted_L42 fu thr ten loc rou mum sli sha fad day mar msi mst men mpu mxs mys mfo mor p1 p2 p3 p4 n42 z42l5 z42c10 z42c11 = some (o0, o1, o2) → W p l e (headSpec wM_wanted rmM_wanted).room s m ([.ref mo, .int p1, .int p2, .int p3, .int p4] : List Value).toArray below meth c H locs 0 0 Q (F0 m 42 ls []) := by
            intro n42
            induction n42 with
            | zero =>
              intro z42l5 z42c10 z42c11 H locs ls hP hD hS hl hf
              rw [fM_wanted_L42_z] at hf
              cases hf
            | succ n42 ih42 =>
              intro z42l5 z42c10 z42c11 H locs ls hP hD hS hl hf
              rw [fM_wanted_L42_s] at hf
              refine lv_iload hx hb dM_wanted_42 (lv_at hl 0 rfl) ?_
              refine lv_bipush (v := (51 : Int32)) hx hb dM_wanted_44 (by decide) ?_
              refine lv_icmp_ge (tgt := 136) hx hb dM_wanted_46 (by decide) (fun c_46 => ?_) (fun c_46 => ?_)
              · have hf := o_t hf c_46
                refine lv_iconst (v := (-1 : Int32)) hx hb dM_wanted_136 (by decide) ?_
                have k0 := Option.some.inj hf
                obtain ⟨e0, k1⟩ := Prod.mk.inj k0
                obtain ⟨e1, k2⟩ := Prod.mk.inj k1
                subst e0
                subst e1
                subst k2
                subst hQ
                exact W.iret (v := (-1 : Int32)) hx hb hr (fun t ht hW => ⟨⟨(-1 : Int32), (), rfl, rfl, by rw [ht]; exact hP, va_K.moved hW.alike hK, hD⟩, hS.F ht⟩) hS.2.2 dM_wanted_137
              · have hf := o_f hf c_46
                refine lv_aload_n hx hb dM_wanted_49 rfl (lv_at hl 1 rfl) ?_
                refine lv_iload_n hx hb dM_wanted_50 rfl (lv_at hl 2 rfl) ?_
                refine lv_iload_n hx hb dM_wanted_51 rfl (lv_at hl 3 rfl) ?_
                refine lv_iload hx hb dM_wanted_52 (lv_at hl 0 rfl) ?_
                refine lv_i2l (v := (z42l5).toInt64) hx hb dM_wanted_54 rfl ?_
                refine lv_iload_n hx hb dM_wanted_55 rfl (lv_at hl 4 rfl) ?_
                refine lv_i2l (v := (p3).toInt64) hx hb dM_wanted_56 rfl ?_
                refine lv_lmul hx hb dM_wanted_57 ?_
                obtain ⟨r_58, q_58, hf⟩ := o_b hf
                have hPc := hP.sub (ws' := [(mo, .inr (4, [.int thr, .int ten, .ref a_ar, .ref a_si, .ref a_st, .ref a_en, .ref a_pu, .ref a_xs, .ref a_ys, .ref a_fo, .ref a_or, .int loc, .int rou, .int mum, .int sli, .int sha, .int fad, .int day, .ref a_o1, .ref a_o2])), (a_ar, .inl (cI, 6, .inl mar)), (a_si, .inl (cI, 6, .inl msi)), (a_st, .inl (cI, 6, .inl mst)), (a_en, .inl (cI, 6, .inl men)), (a_pu, .inl (cI, 6, .inl mpu)), (a_xs, .inl (cI, 60, .inl mxs)), (a_ys, .inl (cI, 60, .inl mys)), (a_fo, .inl (cL, 60, .inr (.inl mfo))), (a_or, .inl (cI, 6, .inl mor)), (a_o1, .inl (cL, 10, .inr (.inl z42c10))), (a_o2, .inl (cL, 10, .inr (.inl z42c11)))]) [0, 1, 2, 3, 4, 5, 6, 7, 8, 9, 10, 11] rfl
                have hDc := hD.sub (ws' := [(mo, .inr (4, [.int thr, .int ten, .ref a_ar, .ref a_si, .ref a_st, .ref a_en, .ref a_pu, .ref a_xs, .ref a_ys, .ref a_fo, .ref a_or, .int loc, .int rou, .int mum, .int sli, .int sha, .int fad, .int day, .ref a_o1, .ref a_o2])), (a_ar, .inl (cI, 6, .inl mar)), (a_si, .inl (cI, 6, .inl msi)), (a_st, .inl (cI, 6, .inl mst)), (a_en, .inl (cI, 6, .inl men)), (a_pu, .inl (cI, 6, .inl mpu)), (a_xs, .inl (cI, 60, .inl mxs)), (a_ys, .inl (cI, 60, .inl mys)), (a_fo, .inl (cL, 60, .inr (.inl mfo))), (a_or, .inl (cI, 6, .inl mor)), (a_o1, .inl (cL, 10, .inr (.inl z42c10))), (a_o2, .inl (cL, 10, .inr (.inl z42c11)))]) [0, 1, 2, 3, 4, 5, 6, 7, 8, 9, 10, 11] (by decide) rfl
                refine kc_v (va_runV (As := [.int p1, .int p2, .long ((z42l5).toInt64 * (p3).toInt64)]) (rest := []) ⟨hx, hb, hml, hown, hts⟩ (mM_drawAll l dC dI cI cL cT mo a_ar a_si a_st a_en a_pu a_xs a_ys a_fo a_or a_o1 a_o2 H.size fu thr ten loc rou mum sli sha fad day mar msi mst men mpu mxs mys mfo mor z42c10 z42c11 p1 p2 ((z42l5).toInt64 * (p3).toInt64) (r_58.1) (r_58.2) q_58) ⟨callB_of 3 hts (gd_code kw_515) rfl rfl rfl (hts _ kw_32) (hts _ kw_512) (by decide +kernel) ⟨Nat.le_of_ble_eq_true rfl, Nat.le_of_ble_eq_true rfl⟩, hts _ kw_514, hts _ kw_15⟩ (kP_V hPc hK hDc hN (va_recv hK hPc (ci := 4) (q0 := 0) rfl rfl)) rfl rfl hl.1 rfl (lv_room (Nat.le_of_ble_eq_true rfl)) dM_wanted_58 ⟨Nat.le_of_ble_eq_true rfl, Nat.le_of_ble_eq_true rfl⟩) hP hD hS hA (wc := [(mo, .inr (4, [.int thr, .int ten, .ref a_ar, .ref a_si, .ref a_st, .ref a_en, .ref a_pu, .ref a_xs, .ref a_ys, .ref a_fo, .ref a_or, .int loc, .int rou, .int mum, .int sli, .int sha, .int fad, .int day, .ref a_o1, .ref a_o2])), (a_ar, .inl (cI, 6, .inl mar)), (a_si, .inl (cI, 6, .inl msi)), (a_st, .inl (cI, 6, .inl mst)), (a_en, .inl (cI, 6, .inl men)), (a_pu, .inl (cI, 6, .inl mpu)), (a_xs, .inl (cI, 60, .inl mxs)), (a_ys, .inl (cI, 60, .inl mys)), (a_fo, .inl (cL, 60, .inr (.inl mfo))), (a_or, .inl (cI, 6, .inl mor)), (a_o1, .inl (cL, 10, .inr (.inl z42c10))), (a_o2, .inl (cL, 10, .inr (.inl z42c11)))]) (wr := []) (w1 := [(mo, .inr (4, [.int thr, .int ten, .ref a_ar, .ref a_si, .ref a_st, .ref a_en, .ref a_pu, .ref a_xs, .ref a_ys, .ref a_fo, .ref a_or, .int loc, .int rou, .int mum, .int sli, .int sha, .int fad, .int day, .ref a_o1, .ref a_o2])), (a_ar, .inl (cI, 6, .inl mar)), (a_si, .inl (cI, 6, .inl msi)), (a_st, .inl (cI, 6, .inl mst)), (a_en, .inl (cI, 6, .inl men)), (a_pu, .inl (cI, 6, .inl mpu)), (a_xs, .inl (cI, 60, .inl mxs)), (a_ys, .inl (cI, 60, .inl mys)), (a_fo, .inl (cL, 60, .inr (.inl mfo))), (a_or, .inl (cI, 6, .inl mor)), (a_o1, .inl (cL, 10, .inr (.inl (r_58.1)))), (a_o2, .inl (cL, 10, .inr (.inl (r_58.2))))]) (ws' := [(mo, .inr (4, [.int thr, .int ten, .ref a_ar, .ref a_si, .ref a_st, .ref a_en, .ref a_pu, .ref a_xs, .ref a_ys, .ref a_fo, .ref a_or, .int loc, .int rou, .int mum, .int sli, .int sha, .int fad, .int day, .ref a_o1, .ref a_o2])), (a_ar, .inl (cI, 6, .inl mar)), (a_si, .inl (cI, 6, .inl msi)), (a_st, .inl (cI, 6, .inl mst)), (a_en, .inl (cI, 6, .inl men)), (a_pu, .inl (cI, 6, .inl mpu)), (a_xs, .inl (cI, 60, .inl mxs)), (a_ys, .inl (cI, 60, .inl mys)), (a_fo, .inl (cL, 60, .inr (.inl mfo))), (a_or, .inl (cI, 6, .inl mor)), (a_o1, .inl (cL, 10, .inr (.inl (r_58.1)))), (a_o2, .inl (cL, 10, .inr (.inl (r_58.2))))]) [0, 1, 2, 3, 4, 5, 6, 7, 8, 9, 10, 11] [] [0, 1, 2, 3, 4, 5, 6, 7, 8, 9, 10, 11] rfl rfl (by decide) (by decide) rfl (by decide) rfl (fun H locs hP hD hS => ?_)
                refine lv_aload_n hx hb dM_wanted_61 rfl (lv_at hl 1 rfl) ?_
                refine va_get (D := (dC, dI)) (ci := 4) (v := .ref a_o1) (C := "TendonLossesModel") (T := TT_M) (N := 20) hx hb hts in_M hown hK hP 0 rfl rfl 18 (by decide) (hts _ kw_440) (fun _ h9 => h9) rfl dM_wanted_62 ?_
                refine lv_iconst (v := (0 : Int32)) hx hb dM_wanted_65 (by decide) ?_
                obtain ⟨h_66, hf⟩ := o_c hf
                refine va_lald hx hb hK hP 10 1 rfl rfl h_66 dM_wanted_66 ?_
                refine lv_lstore (lv' := [(6, .long ((r_58.1) ((0 : Int32)).toNatClampNeg)), (5, .int z42l5), (0, .ref mo), (1, .int p1), (2, .int p2), (3, .int p3), (4, .int p4)]) hx hb dM_wanted_67 hl (by decide) rfl (fun ls hl => ?_)
                refine lv_iconst (v := (1 : Int32)) hx hb dM_wanted_69 (by decide) ?_
                refine lv_istore (lv' := [(8, .int (1 : Int32)), (6, .long ((r_58.1) ((0 : Int32)).toNatClampNeg)), (5, .int z42l5), (0, .ref mo), (1, .int p1), (2, .int p2), (3, .int p3), (4, .int p4)]) hx hb dM_wanted_70 hl (by decide) rfl (fun ls hl => ?_)
                have L72 : ∀ (n72 : Nat) (z72l8 : Int32) (z72l6 : Int64) (H : Heap) (locs : List Loc) (ls : Array Slot), va_P (dC, dI) vwCl [(mo, .inr (4, [.int thr, .int ten, .ref a_ar, .ref a_si, .ref a_st, .ref a_en, .ref a_pu, .ref a_xs, .ref a_ys, .ref a_fo, .ref a_or, .int loc, .int rou, .int mum, .int sli, .int sha, .int fad, .int day, .ref a_o1, .ref a_o2])), (a_ar, .inl (cI, 6, .inl mar)), (a_si, .inl (cI, 6, .inl msi)), (a_st, .inl (cI, 6, .inl mst)), (a_en, .inl (cI, 6, .inl men)), (a_pu, .inl (cI, 6, .inl mpu)), (a_xs, .inl (cI, 60, .inl mxs)), (a_ys, .inl (cI, 60, .inl mys)), (a_fo, .inl (cL, 60, .inr (.inl mfo))), (a_or, .inl (cI, 6, .inl mor)), (a_o1, .inl (cL, 10, .inr (.inl (r_58.1)))), (a_o2, .inl (cL, 10, .inr (.inl (r_58.2))))] H → va_D A [(mo, .inr (4, [.int thr, .int ten, .ref a_ar, .ref a_si, .ref a_st, .ref a_en, .ref a_pu, .ref a_xs, .ref a_ys, .ref a_fo, .ref a_or, .int loc, .int rou, .int mum, .int sli, .int sha, .int fad, .int day, .ref a_o1, .ref a_o2])), (a_ar, .inl (cI, 6, .inl mar)), (a_si, .inl (cI, 6, .inl msi)), (a_st, .inl (cI, 6, .inl mst)), (a_en, .inl (cI, 6, .inl men)), (a_pu, .inl (cI, 6, .inl mpu)), (a_xs, .inl (cI, 60, .inl mxs)), (a_ys, .inl (cI, 60, .inl mys)), (a_fo, .inl (cL, 60, .inr (.inl mfo))), (a_or, .inl (cI, 6, .inl mor)), (a_o1, .inl (cL, 10, .inr (.inl (r_58.1)))), (a_o2, .inl (cL, 10, .inr (.inl (r_58.2))))] → va_S A s.heap H locs → lv_has ls 9 [(8, .int z72l8), (6, .long z72l6), (5, .int z42l5), (0, .ref mo), (1, .int p1), (2, .int p2), (3, .int p3), (4, .int p4)] → fM_wanted_L72 fu msi p1 p3 p4 z42l5 r_58 (fun a0 a1 a2 => fM_wanted_L42 fu thr ten loc rou mum sli sha fad day mar msi mst men mpu mxs mys mfo mor p1 p2 p3 p4 n42 a0 a1 a2) n72 z72l8 z72l6 = some (o0, o1, o2) → W p l e (headSpec wM_wanted rmM_wanted).room s m ([.ref mo, .int p1, .int p2, .int p3, .int p4] : List Value).toArray below meth c H locs 0 0 Q (F0 m 72 ls []) := by
                  intro n72
                  induction n72 with
                  | zero =>
                    intro z72l8 z72l6 H locs ls hP hD hS hl hf
                    rw [fM_wanted_L72_z] at hf
                    cases hf
                  | succ n72 ih72 =>
                    intro z72l8 z72l6 H locs ls hP hD hS hl hf
                    rw [fM_wanted_L72_s] at hf
                    refine lv_iload hx hb dM_wanted_72 (lv_at hl 0 rfl) ?_
                    refine lv_aload_n hx hb dM_wanted_74 rfl (lv_at hl 3 rfl) ?_
                    refine va_get (D := (dC, dI)) (ci := 4) (v := .ref a_si) (C := "TendonLossesModel") (T := TT_M) (N := 20) hx hb hts in_M hown hK hP 0 rfl rfl 3 (by decide) (hts _ kw_425) (fun _ h9 => h9) rfl dM_wanted_75 ?_
                    refine lv_iload_n hx hb dM_wanted_78 rfl (lv_at hl 4 rfl) ?_
                    obtain ⟨h_79, hf⟩ := o_c hf
                    refine va_iald hx hb hK hP 2 0 rfl rfl h_79 dM_wanted_79 ?_
                    refine lv_icmp_ge (tgt := 116) hx hb dM_wanted_80 (by decide) (fun c_80 => ?_) (fun c_80 => ?_)
                    · have hf := o_t hf c_80
                      refine lv_lload hx hb dM_wanted_116 (lv_at hl 1 rfl) ?_
                      refine lv_iload hx hb dM_wanted_118 (lv_at hl 7 rfl) ?_
                      refine lv_i2l (v := (p4).toInt64) hx hb dM_wanted_120 rfl ?_
                      refine W.lcmp hx hb dM_wanted_121 ?_
                      refine lv_if_lt (tgt := 130) hx hb dM_wanted_122 (by decide) (fun c_121 => ?_) (fun c_121 => ?_)
                      · have c_121 := (lg_cmp_lt _ _).mp c_121
                        have hf := o_t hf c_121
                        refine lv_iinc (v := (z42l5 + (1 : Int32))) (lv' := [(5, .int (z42l5 + (1 : Int32))), (8, .int z72l8), (6, .long z72l6), (0, .ref mo), (1, .int p1), (2, .int p2), (3, .int p3), (4, .int p4)]) hx hb dM_wanted_130 hl (k := 2) rfl rfl (by decide) rfl (fun ls hl => ?_)
                        refine lv_goto (tgt := 42) hx hb dM_wanted_133 (by decide) ?_
                        exact ih42 _ _ _ H locs ls hP hD hS (lv_sub hl [0, 3, 4, 5, 6, 7] rfl) hf
                      · have c_121 := fun z => c_121 ((lg_cmp_lt _ _).mpr z)
                        have hf := o_f hf c_121
                        refine lv_iload hx hb dM_wanted_125 (lv_at hl 2 rfl) ?_
                        refine lv_iload_n hx hb dM_wanted_127 rfl (lv_at hl 6 rfl) ?_
                        refine lv_imul hx hb dM_wanted_128 ?_
                        have k0 := Option.some.inj hf
                        obtain ⟨e0, k1⟩ := Prod.mk.inj k0
                        obtain ⟨e1, k2⟩ := Prod.mk.inj k1
                        subst e0
                        subst e1
                        subst k2
                        subst hQ
                        exact W.iret (v := (z42l5 * p3)) hx hb hr (fun t ht hW => ⟨⟨(z42l5 * p3), (), rfl, rfl, by rw [ht]; exact hP, va_K.moved hW.alike hK, hD⟩, hS.F ht⟩) hS.2.2 dM_wanted_129
                    · have hf := o_f hf c_80
                      refine lv_aload_n hx hb dM_wanted_83 rfl (lv_at hl 3 rfl) ?_
                      refine va_get (D := (dC, dI)) (ci := 4) (v := .ref a_o1) (C := "TendonLossesModel") (T := TT_M) (N := 20) hx hb hts in_M hown hK hP 0 rfl rfl 18 (by decide) (hts _ kw_440) (fun _ h9 => h9) rfl dM_wanted_84 ?_
                      refine lv_iload hx hb dM_wanted_87 (lv_at hl 0 rfl) ?_
                      obtain ⟨h_89, hf⟩ := o_c hf
                      refine va_lald hx hb hK hP 10 1 rfl rfl h_89 dM_wanted_89 ?_
                      refine lv_lload hx hb dM_wanted_90 (lv_at hl 1 rfl) ?_
                      obtain ⟨j_92, e_92, hf⟩ := o_b hf
                      have J_108 : ∀ (H : Heap) (locs : List Loc) (ls : Array Slot), va_P (dC, dI) vwCl [(mo, .inr (4, [.int thr, .int ten, .ref a_ar, .ref a_si, .ref a_st, .ref a_en, .ref a_pu, .ref a_xs, .ref a_ys, .ref a_fo, .ref a_or, .int loc, .int rou, .int mum, .int sli, .int sha, .int fad, .int day, .ref a_o1, .ref a_o2])), (a_ar, .inl (cI, 6, .inl mar)), (a_si, .inl (cI, 6, .inl msi)), (a_st, .inl (cI, 6, .inl mst)), (a_en, .inl (cI, 6, .inl men)), (a_pu, .inl (cI, 6, .inl mpu)), (a_xs, .inl (cI, 60, .inl mxs)), (a_ys, .inl (cI, 60, .inl mys)), (a_fo, .inl (cL, 60, .inr (.inl mfo))), (a_or, .inl (cI, 6, .inl mor)), (a_o1, .inl (cL, 10, .inr (.inl (r_58.1)))), (a_o2, .inl (cL, 10, .inr (.inl (r_58.2))))] H → va_D A [(mo, .inr (4, [.int thr, .int ten, .ref a_ar, .ref a_si, .ref a_st, .ref a_en, .ref a_pu, .ref a_xs, .ref a_ys, .ref a_fo, .ref a_or, .int loc, .int rou, .int mum, .int sli, .int sha, .int fad, .int day, .ref a_o1, .ref a_o2])), (a_ar, .inl (cI, 6, .inl mar)), (a_si, .inl (cI, 6, .inl msi)), (a_st, .inl (cI, 6, .inl mst)), (a_en, .inl (cI, 6, .inl men)), (a_pu, .inl (cI, 6, .inl mpu)), (a_xs, .inl (cI, 60, .inl mxs)), (a_ys, .inl (cI, 60, .inl mys)), (a_fo, .inl (cL, 60, .inr (.inl mfo))), (a_or, .inl (cI, 6, .inl mor)), (a_o1, .inl (cL, 10, .inr (.inl (r_58.1)))), (a_o2, .inl (cL, 10, .inr (.inl (r_58.2))))] → va_S A s.heap H locs → lv_has ls 9 [(8, .int z72l8), (6, .long z72l6), (5, .int z42l5), (0, .ref mo), (1, .int p1), (2, .int p2), (3, .int p3), (4, .int p4)] → W p l e (headSpec wM_wanted rmM_wanted).room s m ([.ref mo, .int p1, .int p2, .int p3, .int p4] : List Value).toArray below meth c H locs 0 0 Q (F0 m 108 ls [.long j_92]) := by
                        intro H locs ls hP hD hS hl
                        refine lv_lstore (lv' := [(6, .long j_92), (8, .int z72l8), (5, .int z42l5), (0, .ref mo), (1, .int p1), (2, .int p2), (3, .int p3), (4, .int p4)]) hx hb dM_wanted_108 hl (by decide) rfl (fun ls hl => ?_)
                        refine lv_iinc (v := (z72l8 + (1 : Int32))) (lv' := [(8, .int (z72l8 + (1 : Int32))), (6, .long j_92), (5, .int z42l5), (0, .ref mo), (1, .int p1), (2, .int p2), (3, .int p3), (4, .int p4)]) hx hb dM_wanted_110 hl (k := 1) rfl rfl (by decide) rfl (fun ls hl => ?_)
                        refine lv_goto (tgt := 72) hx hb dM_wanted_113 (by decide) ?_
                        exact ih72 _ _ H locs ls hP hD hS (lv_sub hl [0, 1, 2, 3, 4, 5, 6, 7] rfl) hf
                      have hf := e_92
                      refine W.lcmp hx hb dM_wanted_92 ?_
                      refine lv_if_ge (tgt := 106) hx hb dM_wanted_93 (by decide) (fun c_92 => ?_) (fun c_92 => ?_)
                      · have c_92 := (lg_cmp_ge _ _).mp c_92
                        have hf := o_t hf c_92
                        refine lv_lload hx hb dM_wanted_106 (lv_at hl 1 rfl) ?_
                        have e9 := Option.some.inj hf
                        subst e9
                        exact J_108 _ _ ls hP hD hS (lv_sub hl [0, 1, 2, 3, 4, 5, 6, 7] rfl)
                      · have c_92 := fun z => c_92 ((lg_cmp_ge _ _).mpr z)
                        have hf := o_f hf c_92
                        refine lv_aload_n hx hb dM_wanted_96 rfl (lv_at hl 3 rfl) ?_
                        refine va_get (D := (dC, dI)) (ci := 4) (v := .ref a_o1) (C := "TendonLossesModel") (T := TT_M) (N := 20) hx hb hts in_M hown hK hP 0 rfl rfl 18 (by decide) (hts _ kw_440) (fun _ h9 => h9) rfl dM_wanted_97 ?_
                        refine lv_iload hx hb dM_wanted_100 (lv_at hl 0 rfl) ?_
                        obtain ⟨h_102, hf⟩ := o_c hf
                        refine va_lald hx hb hK hP 10 1 rfl rfl h_102 dM_wanted_102 ?_
                        refine lv_goto (tgt := 108) hx hb dM_wanted_103 (by decide) ?_
                        have e9 := Option.some.inj hf
                        subst e9
                        exact J_108 _ _ ls hP hD hS (lv_sub hl [0, 1, 2, 3, 4, 5, 6, 7] rfl)
                exact L72 fu _ _ _ _ ls hP hD hS (lv_sub hl [0, 1, 2, 3, 4, 5, 6, 7] rfl) hf
          exact L42 fu _ _ _ _ _ ls hP hD hS (lv_sub hl [0, 1, 2, 3, 4, 5] rfl) hf
        · have hf := o_t hf c_34
          refine lv_iconst (v := (-1 : Int32)) hx hb dM_wanted_37 (by decide) ?_
          have k0 := Option.some.inj hf
          obtain ⟨e0, k1⟩ := Prod.mk.inj k0
          obtain ⟨e1, k2⟩ := Prod.mk.inj k1
          subst e0
          subst e1
          subst k2
          subst hQ
          exact W.iret (v := (-1 : Int32)) hx hb hr (fun t ht hW => ⟨⟨(-1 : Int32), (), rfl, rfl, by rw [ht]; exact hP, va_K.moved hW.alike hK, hD⟩, hS.F ht⟩) hS.2.2 dM_wanted_38

def fM_count_L7 (fu : Nat) (ten : Int32) (loc : Int32) (day : Int32) (msi : Nat → Int32) (mst : Nat → Int32) (p1 : Int32) : Nat → (Int32) → (Int32) → (Int32) → Option ((Int32))
  | 0, _, _, _ => none
  | n7 + 1, z7l4, z7l3, z7l2 => (if ten ≤ z7l4 then (if p1 = (0 : Int32) then some ten else (if p1 = (1 : Int32) then some loc else (if p1 = (2 : Int32) then some z7l2 else (if p1 = (3 : Int32) then some day else (if p1 = (4 : Int32) then some z7l3 else some (-1 : Int32)))))) else (if ¬ (z7l4 < 0 ∨ 6 ≤ (z7l4).toNatClampNeg) then (((if (mst (z7l4).toNatClampNeg) = (1 : Int32) then some (z7l2 + (1 : Int32)) else some z7l2)).bind fun j_24 => (if ¬ (z7l4 < 0 ∨ 6 ≤ (z7l4).toNatClampNeg) then fM_count_L7 fu ten loc day msi mst p1 n7 (z7l4 + (1 : Int32)) (z7l3 + (msi (z7l4).toNatClampNeg)) j_24 else none)) else none))
theorem fM_count_L7_z (fu : Nat) (ten : Int32) (loc : Int32) (day : Int32) (msi : Nat → Int32) (mst : Nat → Int32) (p1 : Int32) (z7l4 : Int32) (z7l3 : Int32) (z7l2 : Int32) : fM_count_L7 fu ten loc day msi mst p1 0 z7l4 z7l3 z7l2 = none := rfl
theorem fM_count_L7_s (fu : Nat) (ten : Int32) (loc : Int32) (day : Int32) (msi : Nat → Int32) (mst : Nat → Int32) (p1 : Int32) (z7l4 : Int32) (z7l3 : Int32) (z7l2 : Int32) (n7 : Nat) : fM_count_L7 fu ten loc day msi mst p1 (n7 + 1) z7l4 z7l3 z7l2 = (if ten ≤ z7l4 then (if p1 = (0 : Int32) then some ten else (if p1 = (1 : Int32) then some loc else (if p1 = (2 : Int32) then some z7l2 else (if p1 = (3 : Int32) then some day else (if p1 = (4 : Int32) then some z7l3 else some (-1 : Int32)))))) else (if ¬ (z7l4 < 0 ∨ 6 ≤ (z7l4).toNatClampNeg) then (((if (mst (z7l4).toNatClampNeg) = (1 : Int32) then some (z7l2 + (1 : Int32)) else some z7l2)).bind fun j_24 => (if ¬ (z7l4 < 0 ∨ 6 ≤ (z7l4).toNatClampNeg) then fM_count_L7 fu ten loc day msi mst p1 n7 (z7l4 + (1 : Int32)) (z7l3 + (msi (z7l4).toNatClampNeg)) j_24 else none)) else none)) := rfl
def fM_count (fu : Nat) (thr : Int32) (ten : Int32) (loc : Int32) (rou : Int32) (mum : Int32) (sli : Int32) (sha : Int32) (fad : Int32) (day : Int32) (mar : Nat → Int32) (msi : Nat → Int32) (mst : Nat → Int32) (men : Nat → Int32) (mpu : Nat → Int32) (mxs : Nat → Int32) (mys : Nat → Int32) (mfo : Nat → Int64) (mor : Nat → Int32) (mo1 : Nat → Int64) (mo2 : Nat → Int64) (p1 : Int32) : Option ((Int32)) := fM_count_L7 fu ten loc day msi mst p1 fu (0 : Int32) (0 : Int32) (0 : Int32)
def rmM_count : Room := { frames := 0, cells := 0, slots := 0, locals := 0 }
set_option maxHeartbeats 4000000 in
set_option maxRecDepth 100000 in
theorem mM_count (l : Launch) (dC : Nat → ClassId) (dI : Nat → Nat → Nat) (cI cL cT : ClassId) (mo a_ar a_si a_st a_en a_pu a_xs a_ys a_fo a_or a_o1 a_o2 : Nat) (sz : Nat) (fu : Nat) (thr : Int32) (ten : Int32) (loc : Int32) (rou : Int32) (mum : Int32) (sli : Int32) (sha : Int32) (fad : Int32) (day : Int32) (mar : Nat → Int32) (msi : Nat → Int32) (mst : Nat → Int32) (men : Nat → Int32) (mpu : Nat → Int32) (mxs : Nat → Int32) (mys : Nat → Int32) (mfo : Nat → Int64) (mor : Nat → Int32) (mo1 : Nat → Int64) (mo2 : Nat → Int64) (p1 : Int32) (o0 : Int32) (hf : fM_count fu thr ten loc rou mum sli sha fad day mar msi mst men mpu mxs mys mfo mor mo1 mo2 p1 = some (o0)) : Met l yM_count wM_count rmM_count (kP (dC, dI) [(cI, .int), (cL, .long), (cT, .object "TendonLosses$Tendon")] [.ref mo, .int p1] [(mo, .inr (4, [.int thr, .int ten, .ref a_ar, .ref a_si, .ref a_st, .ref a_en, .ref a_pu, .ref a_xs, .ref a_ys, .ref a_fo, .ref a_or, .int loc, .int rou, .int mum, .int sli, .int sha, .int fad, .int day, .ref a_o1, .ref a_o2])), (a_ar, .inl (cI, 6, .inl mar)), (a_si, .inl (cI, 6, .inl msi)), (a_st, .inl (cI, 6, .inl mst)), (a_en, .inl (cI, 6, .inl men)), (a_pu, .inl (cI, 6, .inl mpu)), (a_xs, .inl (cI, 60, .inl mxs)), (a_ys, .inl (cI, 60, .inl mys)), (a_fo, .inl (cL, 60, .inr (.inl mfo))), (a_or, .inl (cI, 6, .inl mor)), (a_o1, .inl (cL, 10, .inr (.inl mo1))), (a_o2, .inl (cL, 10, .inr (.inl mo2)))] sz) (va_Qi (fun (r : Int32) (_ : Unit) => r = o0) (kB (dC, dI) [(cI, .int), (cL, .long), (cT, .object "TendonLosses$Tendon")] (va_A [(mo, .inr (4, [.int thr, .int ten, .ref a_ar, .ref a_si, .ref a_st, .ref a_en, .ref a_pu, .ref a_xs, .ref a_ys, .ref a_fo, .ref a_or, .int loc, .int rou, .int mum, .int sli, .int sha, .int fad, .int day, .ref a_o1, .ref a_o2])), (a_ar, .inl (cI, 6, .inl mar)), (a_si, .inl (cI, 6, .inl msi)), (a_st, .inl (cI, 6, .inl mst)), (a_en, .inl (cI, 6, .inl men)), (a_pu, .inl (cI, 6, .inl mpu)), (a_xs, .inl (cI, 60, .inl mxs)), (a_ys, .inl (cI, 60, .inl mys)), (a_fo, .inl (cL, 60, .inr (.inl mfo))), (a_or, .inl (cI, 6, .inl mor)), (a_o1, .inl (cL, 10, .inr (.inl mo1))), (a_o2, .inl (cL, 10, .inr (.inl mo2)))] sz) [(mo, .inr (4, [.int thr, .int ten, .ref a_ar, .ref a_si, .ref a_st, .ref a_en, .ref a_pu, .ref a_xs, .ref a_ys, .ref a_fo, .ref a_or, .int loc, .int rou, .int mum, .int sli, .int sha, .int fad, .int day, .ref a_o1, .ref a_o2])), (a_ar, .inl (cI, 6, .inl mar)), (a_si, .inl (cI, 6, .inl msi)), (a_st, .inl (cI, 6, .inl mst)), (a_en, .inl (cI, 6, .inl men)), (a_pu, .inl (cI, 6, .inl mpu)), (a_xs, .inl (cI, 60, .inl mxs)), (a_ys, .inl (cI, 60, .inl mys)), (a_fo, .inl (cL, 60, .inr (.inl mfo))), (a_or, .inl (cI, 6, .inl mor)), (a_o1, .inl (cL, 10, .inr (.inl mo1))), (a_o2, .inl (cL, 10, .inr (.inl mo2)))]) (va_A [(mo, .inr (4, [.int thr, .int ten, .ref a_ar, .ref a_si, .ref a_st, .ref a_en, .ref a_pu, .ref a_xs, .ref a_ys, .ref a_fo, .ref a_or, .int loc, .int rou, .int mum, .int sli, .int sha, .int fad, .int day, .ref a_o1, .ref a_o2])), (a_ar, .inl (cI, 6, .inl mar)), (a_si, .inl (cI, 6, .inl msi)), (a_st, .inl (cI, 6, .inl mst)), (a_en, .inl (cI, 6, .inl men)), (a_pu, .inl (cI, 6, .inl mpu)), (a_xs, .inl (cI, 60, .inl mxs)), (a_ys, .inl (cI, 60, .inl mys)), (a_fo, .inl (cL, 60, .inr (.inl mfo))), (a_or, .inl (cI, 6, .inl mor)), (a_o1, .inl (cL, 10, .inr (.inl mo1))), (a_o2, .inl (cL, 10, .inr (.inl mo2)))] sz)) 0 0 (va_A [(mo, .inr (4, [.int thr, .int ten, .ref a_ar, .ref a_si, .ref a_st, .ref a_en, .ref a_pu, .ref a_xs, .ref a_ys, .ref a_fo, .ref a_or, .int loc, .int rou, .int mum, .int sli, .int sha, .int fad, .int day, .ref a_o1, .ref a_o2])), (a_ar, .inl (cI, 6, .inl mar)), (a_si, .inl (cI, 6, .inl msi)), (a_st, .inl (cI, 6, .inl mst)), (a_en, .inl (cI, 6, .inl men)), (a_pu, .inl (cI, 6, .inl mpu)), (a_xs, .inl (cI, 60, .inl mxs)), (a_ys, .inl (cI, 60, .inl mys)), (a_fo, .inl (cL, 60, .inr (.inl mfo))), (a_or, .inl (cI, 6, .inl mor)), (a_o1, .inl (cL, 10, .inr (.inl mo1))), (a_o2, .inl (cL, 10, .inr (.inl mo2)))] sz) := by
  refine Met.ofW (cc := bM_count) (maxL := 5) (ret := (some .int)) (by decide) rfl ?_
  intro p e s m args below meth c s₁ B hml hv
  obtain ⟨rfl, hsz, hP, hK, hD0, hN⟩ := hv
  have hx := B.exec
  have hb := B.bytes
  have hr := B.returns
  have hts : ∀ w ∈ gt, w.before ([.ref mo, .int p1] : List Value).toArray s = true := fun w h => atoms_spec (ws := wM_count) B.pre w (List.mem_cons_of_mem _ h)
  have hown : s.vm.findClass "TendonLossesModel" = some m.cls := findClass_of_methodNamed B.named
  have hlocks := B.notSynchronized
  subst hsz
  have hD := hD0.self (sz := s.heap.size)
  generalize hAe : va_A [(mo, .inr (4, [.int thr, .int ten, .ref a_ar, .ref a_si, .ref a_st, .ref a_en, .ref a_pu, .ref a_xs, .ref a_ys, .ref a_fo, .ref a_or, .int loc, .int rou, .int mum, .int sli, .int sha, .int fad, .int day, .ref a_o1, .ref a_o2])), (a_ar, .inl (cI, 6, .inl mar)), (a_si, .inl (cI, 6, .inl msi)), (a_st, .inl (cI, 6, .inl mst)), (a_en, .inl (cI, 6, .inl men)), (a_pu, .inl (cI, 6, .inl mpu)), (a_xs, .inl (cI, 60, .inl mxs)), (a_ys, .inl (cI, 60, .inl mys)), (a_fo, .inl (cL, 60, .inr (.inl mfo))), (a_or, .inl (cI, 6, .inl mor)), (a_o1, .inl (cL, 10, .inr (.inl mo1))), (a_o2, .inl (cL, 10, .inr (.inl mo2)))] s.heap.size = A at hD ⊢
  have hA : ∀ q : Nat, s.heap.size ≤ q → A q := fun q h => by rw [← hAe]; exact Or.inr h
  have hS : va_S A s.heap s.heap [] := va_S.rf
  have hP : va_P (dC, dI) vwCl [(mo, .inr (4, [.int thr, .int ten, .ref a_ar, .ref a_si, .ref a_st, .ref a_en, .ref a_pu, .ref a_xs, .ref a_ys, .ref a_fo, .ref a_or, .int loc, .int rou, .int mum, .int sli, .int sha, .int fad, .int day, .ref a_o1, .ref a_o2])), (a_ar, .inl (cI, 6, .inl mar)), (a_si, .inl (cI, 6, .inl msi)), (a_st, .inl (cI, 6, .inl mst)), (a_en, .inl (cI, 6, .inl men)), (a_pu, .inl (cI, 6, .inl mpu)), (a_xs, .inl (cI, 60, .inl mxs)), (a_ys, .inl (cI, 60, .inl mys)), (a_fo, .inl (cL, 60, .inr (.inl mfo))), (a_or, .inl (cI, 6, .inl mor)), (a_o1, .inl (cL, 10, .inr (.inl mo1))), (a_o2, .inl (cL, 10, .inr (.inl mo2)))] s.heap := hP
  have hl := lv_entry ([.ref mo, .int p1]) (n := 5) (Nat.le_of_ble_eq_true rfl)
  rw [lg_entry_eq]
  generalize (lg_sl ([.ref mo, .int p1]) ++ List.replicate (5 - (lg_sl ([.ref mo, .int p1])).length) Slot.unset).toArray = ls at hl ⊢
  have hl : lv_has ls 5 [(0, .ref mo), (1, .int p1)] := hl
  refine W.nameQ (fun Q hQ => ?_)
  unfold fM_count at hf
  refine lv_iconst (v := (0 : Int32)) hx hb dM_count_0 (by decide) ?_
  refine lv_istore_n (lv' := [(2, .int (0 : Int32)), (0, .ref mo), (1, .int p1)]) hx hb dM_count_1 rfl hl (by decide) rfl (fun ls hl => ?_)
  refine lv_iconst (v := (0 : Int32)) hx hb dM_count_2 (by decide) ?_
  refine lv_istore_n (lv' := [(3, .int (0 : Int32)), (2, .int (0 : Int32)), (0, .ref mo), (1, .int p1)]) hx hb dM_count_3 rfl hl (by decide) rfl (fun ls hl => ?_)
  refine lv_iconst (v := (0 : Int32)) hx hb dM_count_4 (by decide) ?_
  refine lv_istore (lv' := [(4, .int (0 : Int32)), (3, .int (0 : Int32)), (2, .int (0 : Int32)), (0, .ref mo), (1, .int p1)]) hx hb dM_count_5 hl (by decide) rfl (fun ls hl => ?_)
  have L7 : ∀ (n7 : Nat) (z7l4 : Int32) (z7l3 : Int32) (z7l2 : Int32) (H : Heap) (locs : List Loc) (ls : Array Slot), va_P (dC, dI) vwCl [(mo, .inr (4, [.int thr, .int ten, .ref a_ar, .ref a_si, .ref a_st, .ref a_en, .ref a_pu, .ref a_xs, .ref a_ys, .ref a_fo, .ref a_or, .int loc, .int rou, .int mum, .int sli, .int sha, .int fad, .int day, .ref a_o1, .ref a_o2])), (a_ar, .inl (cI, 6, .inl mar)), (a_si, .inl (cI, 6, .inl msi)), (a_st, .inl (cI, 6, .inl mst)), (a_en, .inl (cI, 6, .inl men)), (a_pu, .inl (cI, 6, .inl mpu)), (a_xs, .inl (cI, 60, .inl mxs)), (a_ys, .inl (cI, 60, .inl mys)), (a_fo, .inl (cL, 60, .inr (.inl mfo))), (a_or, .inl (cI, 6, .inl mor)), (a_o1, .inl (cL, 10, .inr (.inl mo1))), (a_o2, .inl (cL, 10, .inr (.inl mo2)))] H → va_D A [(mo, .inr (4, [.int thr, .int ten, .ref a_ar, .ref a_si, .ref a_st, .ref a_en, .ref a_pu, .ref a_xs, .ref a_ys, .ref a_fo, .ref a_or, .int loc, .int rou, .int mum, .int sli, .int sha, .int fad, .int day, .ref a_o1, .ref a_o2])), (a_ar, .inl (cI, 6, .inl mar)), (a_si, .inl (cI, 6, .inl msi)), (a_st, .inl (cI, 6, .inl mst)), (a_en, .inl (cI, 6, .inl men)), (a_pu, .inl (cI, 6, .inl mpu)), (a_xs, .inl (cI, 60, .inl mxs)), (a_ys, .inl (cI, 60, .inl mys)), (a_fo, .inl (cL, 60, .inr (.inl mfo))), (a_or, .inl (cI, 6, .inl mor)), (a_o1, .inl (cL, 10, .inr (.inl mo1))), (a_o2, .inl (cL, 10, .inr (.inl mo2)))] → va_S A s.heap H locs → lv_has ls 5 [(4, .int z7l4), (3, .int z7l3), (2, .int z7l2), (0, .ref mo), (1, .int p1)] → fM_count_L7 fu ten loc day msi mst p1 n7 z7l4 z7l3 z7l2 = some (o0) → W p l e (headSpec wM_count rmM_count).room s m ([.ref mo, .int p1] : List Value).toArray below meth c H locs 0 0 Q (F0 m 7 ls []) := by
    intro n7
    induction n7 with
    | zero =>
      intro z7l4 z7l3 z7l2 H locs ls hP hD hS hl hf
      rw [fM_count_L7_z] at hf
      cases hf
    | succ n7 ih7 =>
      intro z7l4 z7l3 z7l2 H locs ls hP hD hS hl hf
      rw [fM_count_L7_s] at hf
      refine lv_iload hx hb dM_count_7 (lv_at hl 0 rfl) ?_
      refine lv_aload_n hx hb dM_count_9 rfl (lv_at hl 3 rfl) ?_
      refine va_get (D := (dC, dI)) (ci := 4) (v := .int ten) (C := "TendonLossesModel") (T := TT_M) (N := 20) hx hb hts in_M hown hK hP 0 rfl rfl 1 (by decide) (hts _ kw_423) (fun _ h9 => h9) rfl dM_count_10 ?_
      refine lv_icmp_ge (tgt := 51) hx hb dM_count_13 (by decide) (fun c_13 => ?_) (fun c_13 => ?_)
      · have hf := o_t hf c_13
        refine lv_iload_n hx hb dM_count_51 rfl (lv_at hl 4 rfl) ?_
        refine lv_if_ne (tgt := 60) hx hb dM_count_52 (by decide) (fun c_52 => ?_) (fun c_52 => ?_)
        · have hf := o_f hf c_52
          refine lv_iload_n hx hb dM_count_60 rfl (lv_at hl 4 rfl) ?_
          refine lv_iconst (v := (1 : Int32)) hx hb dM_count_61 (by decide) ?_
          refine lv_icmp_ne (tgt := 70) hx hb dM_count_62 (by decide) (fun c_62 => ?_) (fun c_62 => ?_)
          · have hf := o_f hf c_62
            refine lv_iload_n hx hb dM_count_70 rfl (lv_at hl 4 rfl) ?_
            refine lv_iconst (v := (2 : Int32)) hx hb dM_count_71 (by decide) ?_
            refine lv_icmp_ne (tgt := 77) hx hb dM_count_72 (by decide) (fun c_72 => ?_) (fun c_72 => ?_)
            · have hf := o_f hf c_72
              refine lv_iload_n hx hb dM_count_77 rfl (lv_at hl 4 rfl) ?_
              refine lv_iconst (v := (3 : Int32)) hx hb dM_count_78 (by decide) ?_
              refine lv_icmp_ne (tgt := 89) hx hb dM_count_79 (by decide) (fun c_79 => ?_) (fun c_79 => ?_)
              · have hf := o_f hf c_79
                refine lv_iload_n hx hb dM_count_89 rfl (lv_at hl 4 rfl) ?_
                refine lv_iconst (v := (4 : Int32)) hx hb dM_count_90 (by decide) ?_
                refine lv_icmp_ne (tgt := 98) hx hb dM_count_91 (by decide) (fun c_91 => ?_) (fun c_91 => ?_)
                · have hf := o_f hf c_91
                  refine lv_iconst (v := (-1 : Int32)) hx hb dM_count_98 (by decide) ?_
                  have e9 := Option.some.inj hf
                  subst e9
                  subst hQ
                  exact W.iret (v := (-1 : Int32)) hx hb hr (fun t ht hW => ⟨⟨(-1 : Int32), (), rfl, rfl, by rw [ht]; exact hP, va_K.moved hW.alike hK, hD⟩, hS.F ht⟩) hS.2.2 dM_count_99
                · have hf := o_t hf c_91
                  refine lv_iload_n hx hb dM_count_94 rfl (lv_at hl 1 rfl) ?_
                  refine lv_goto (tgt := 99) hx hb dM_count_95 (by decide) ?_
                  have e9 := Option.some.inj hf
                  subst e9
                  subst hQ
                  exact W.iret (v := z7l3) hx hb hr (fun t ht hW => ⟨⟨z7l3, (), rfl, rfl, by rw [ht]; exact hP, va_K.moved hW.alike hK, hD⟩, hS.F ht⟩) hS.2.2 dM_count_99
              · have hf := o_t hf c_79
                refine lv_aload_n hx hb dM_count_82 rfl (lv_at hl 3 rfl) ?_
                refine va_get (D := (dC, dI)) (ci := 4) (v := .int day) (C := "TendonLossesModel") (T := TT_M) (N := 20) hx hb hts in_M hown hK hP 0 rfl rfl 17 (by decide) (hts _ kw_439) (fun _ h9 => h9) rfl dM_count_83 ?_
                refine lv_goto (tgt := 99) hx hb dM_count_86 (by decide) ?_
                have e9 := Option.some.inj hf
                subst e9
                subst hQ
                exact W.iret (v := day) hx hb hr (fun t ht hW => ⟨⟨day, (), rfl, rfl, by rw [ht]; exact hP, va_K.moved hW.alike hK, hD⟩, hS.F ht⟩) hS.2.2 dM_count_99
            · have hf := o_t hf c_72
              refine lv_iload_n hx hb dM_count_75 rfl (lv_at hl 2 rfl) ?_
              have e9 := Option.some.inj hf
              subst e9
              subst hQ
              exact W.iret (v := z7l2) hx hb hr (fun t ht hW => ⟨⟨z7l2, (), rfl, rfl, by rw [ht]; exact hP, va_K.moved hW.alike hK, hD⟩, hS.F ht⟩) hS.2.2 dM_count_76
          · have hf := o_t hf c_62
            refine lv_aload_n hx hb dM_count_65 rfl (lv_at hl 3 rfl) ?_
            refine va_get (D := (dC, dI)) (ci := 4) (v := .int loc) (C := "TendonLossesModel") (T := TT_M) (N := 20) hx hb hts in_M hown hK hP 0 rfl rfl 11 (by decide) (hts _ kw_433) (fun _ h9 => h9) rfl dM_count_66 ?_
            have e9 := Option.some.inj hf
            subst e9
            subst hQ
            exact W.iret (v := loc) hx hb hr (fun t ht hW => ⟨⟨loc, (), rfl, rfl, by rw [ht]; exact hP, va_K.moved hW.alike hK, hD⟩, hS.F ht⟩) hS.2.2 dM_count_69
        · have hf := o_t hf c_52
          refine lv_aload_n hx hb dM_count_55 rfl (lv_at hl 3 rfl) ?_
          refine va_get (D := (dC, dI)) (ci := 4) (v := .int ten) (C := "TendonLossesModel") (T := TT_M) (N := 20) hx hb hts in_M hown hK hP 0 rfl rfl 1 (by decide) (hts _ kw_423) (fun _ h9 => h9) rfl dM_count_56 ?_
          have e9 := Option.some.inj hf
          subst e9
          subst hQ
          exact W.iret (v := ten) hx hb hr (fun t ht hW => ⟨⟨ten, (), rfl, rfl, by rw [ht]; exact hP, va_K.moved hW.alike hK, hD⟩, hS.F ht⟩) hS.2.2 dM_count_59
      · have hf := o_f hf c_13
        refine lv_aload_n hx hb dM_count_16 rfl (lv_at hl 3 rfl) ?_
        refine va_get (D := (dC, dI)) (ci := 4) (v := .ref a_st) (C := "TendonLossesModel") (T := TT_M) (N := 20) hx hb hts in_M hown hK hP 0 rfl rfl 4 (by decide) (hts _ kw_426) (fun _ h9 => h9) rfl dM_count_17 ?_
        refine lv_iload hx hb dM_count_20 (lv_at hl 0 rfl) ?_
        obtain ⟨h_22, hf⟩ := o_c hf
        refine va_iald hx hb hK hP 3 0 rfl rfl h_22 dM_count_22 ?_
        refine lv_iconst (v := (1 : Int32)) hx hb dM_count_23 (by decide) ?_
        obtain ⟨j_24, e_24, hf⟩ := o_b hf
        have J_34 : ∀ (H : Heap) (locs : List Loc) (ls : Array Slot), va_P (dC, dI) vwCl [(mo, .inr (4, [.int thr, .int ten, .ref a_ar, .ref a_si, .ref a_st, .ref a_en, .ref a_pu, .ref a_xs, .ref a_ys, .ref a_fo, .ref a_or, .int loc, .int rou, .int mum, .int sli, .int sha, .int fad, .int day, .ref a_o1, .ref a_o2])), (a_ar, .inl (cI, 6, .inl mar)), (a_si, .inl (cI, 6, .inl msi)), (a_st, .inl (cI, 6, .inl mst)), (a_en, .inl (cI, 6, .inl men)), (a_pu, .inl (cI, 6, .inl mpu)), (a_xs, .inl (cI, 60, .inl mxs)), (a_ys, .inl (cI, 60, .inl mys)), (a_fo, .inl (cL, 60, .inr (.inl mfo))), (a_or, .inl (cI, 6, .inl mor)), (a_o1, .inl (cL, 10, .inr (.inl mo1))), (a_o2, .inl (cL, 10, .inr (.inl mo2)))] H → va_D A [(mo, .inr (4, [.int thr, .int ten, .ref a_ar, .ref a_si, .ref a_st, .ref a_en, .ref a_pu, .ref a_xs, .ref a_ys, .ref a_fo, .ref a_or, .int loc, .int rou, .int mum, .int sli, .int sha, .int fad, .int day, .ref a_o1, .ref a_o2])), (a_ar, .inl (cI, 6, .inl mar)), (a_si, .inl (cI, 6, .inl msi)), (a_st, .inl (cI, 6, .inl mst)), (a_en, .inl (cI, 6, .inl men)), (a_pu, .inl (cI, 6, .inl mpu)), (a_xs, .inl (cI, 60, .inl mxs)), (a_ys, .inl (cI, 60, .inl mys)), (a_fo, .inl (cL, 60, .inr (.inl mfo))), (a_or, .inl (cI, 6, .inl mor)), (a_o1, .inl (cL, 10, .inr (.inl mo1))), (a_o2, .inl (cL, 10, .inr (.inl mo2)))] → va_S A s.heap H locs → lv_has ls 5 [(4, .int z7l4), (3, .int z7l3), (2, .int z7l2), (0, .ref mo), (1, .int p1)] → W p l e (headSpec wM_count rmM_count).room s m ([.ref mo, .int p1] : List Value).toArray below meth c H locs 0 0 Q (F0 m 34 ls [.int j_24]) := by
          intro H locs ls hP hD hS hl
          refine lv_istore_n (lv' := [(2, .int j_24), (4, .int z7l4), (3, .int z7l3), (0, .ref mo), (1, .int p1)]) hx hb dM_count_34 rfl hl (by decide) rfl (fun ls hl => ?_)
          refine lv_iload_n hx hb dM_count_35 rfl (lv_at hl 2 rfl) ?_
          refine lv_aload_n hx hb dM_count_36 rfl (lv_at hl 3 rfl) ?_
          refine va_get (D := (dC, dI)) (ci := 4) (v := .ref a_si) (C := "TendonLossesModel") (T := TT_M) (N := 20) hx hb hts in_M hown hK hP 0 rfl rfl 3 (by decide) (hts _ kw_425) (fun _ h9 => h9) rfl dM_count_37 ?_
          refine lv_iload hx hb dM_count_40 (lv_at hl 1 rfl) ?_
          obtain ⟨h_42, hf⟩ := o_c hf
          refine va_iald hx hb hK hP 2 0 rfl rfl h_42 dM_count_42 ?_
          refine lv_iadd hx hb dM_count_43 ?_
          refine lv_istore_n (lv' := [(3, .int (z7l3 + (msi (z7l4).toNatClampNeg))), (2, .int j_24), (4, .int z7l4), (0, .ref mo), (1, .int p1)]) hx hb dM_count_44 rfl hl (by decide) rfl (fun ls hl => ?_)
          refine lv_iinc (v := (z7l4 + (1 : Int32))) (lv' := [(4, .int (z7l4 + (1 : Int32))), (3, .int (z7l3 + (msi (z7l4).toNatClampNeg))), (2, .int j_24), (0, .ref mo), (1, .int p1)]) hx hb dM_count_45 hl (k := 2) rfl rfl (by decide) rfl (fun ls hl => ?_)
          refine lv_goto (tgt := 7) hx hb dM_count_48 (by decide) ?_
          exact ih7 _ _ _ H locs ls hP hD hS (lv_sub hl [0, 1, 2, 3, 4] rfl) hf
        have hf := e_24
        refine lv_icmp_ne (tgt := 33) hx hb dM_count_24 (by decide) (fun c_24 => ?_) (fun c_24 => ?_)
        · have hf := o_f hf c_24
          refine lv_iload_n hx hb dM_count_33 rfl (lv_at hl 2 rfl) ?_
          have e9 := Option.some.inj hf
          subst e9
          exact J_34 _ _ ls hP hD hS (lv_sub hl [0, 1, 2, 3, 4] rfl)
        · have hf := o_t hf c_24
          refine lv_iload_n hx hb dM_count_27 rfl (lv_at hl 2 rfl) ?_
          refine lv_iconst (v := (1 : Int32)) hx hb dM_count_28 (by decide) ?_
          refine lv_iadd hx hb dM_count_29 ?_
          refine lv_goto (tgt := 34) hx hb dM_count_30 (by decide) ?_
          have e9 := Option.some.inj hf
          subst e9
          exact J_34 _ _ ls hP hD hS (lv_sub hl [0, 1, 2, 3, 4] rfl)
  exact L7 fu _ _ _ _ _ ls hP hD hS (lv_sub hl [0, 1, 2, 3, 4] rfl) hf
