def fL_find (fu : Nat) (N : Nat) (ad : Nat → Nat → Nat) (lc : Int32) (dc : Int32) (sp : Int32) (sh : Int32) (fd : Int32) (p1 : Int32) : Option ((Option Nat)) := ((fL_isWithin fu p1 (0 : Int32) ((nI N) - (1 : Int32))).bind fun r_8 => (if r_8 = (0 : Int32) then some (none : Option Nat) else (if ¬ (p1 < 0 ∨ 6 ≤ (p1).toNatClampNeg) then some ((kg ad N) (p1).toNatClampNeg) else none)))
def rmL_find : Room := { frames := 1, cells := 0, slots := 0, locals := 22 }
set_option maxHeartbeats 4000000 in
set_option maxRecDepth 100000 in
theorem mL_find (l : Launch) (dC : Nat → ClassId) (dI : Nat → Nat → Nat) (cI cL cT : ClassId) (tl ta lk fr : Nat) (ad : Nat → Nat → Nat) (sz : Nat) (fu : Nat) (N : Nat) (hN6 : N ≤ 6) (lc : Int32) (dc : Int32) (sp : Int32) (sh : Int32) (fd : Int32) (p1 : Int32) (o0 : Option Nat) (hf : fL_find fu N ad lc dc sp sh fd p1 = some (o0)) : Met l yL_find wL_find rmL_find (kP (dC, dI) [(cI, .int), (cL, .long), (cT, .object "TendonLosses$Tendon")] [.ref tl, .int p1] [(tl, .inr (3, [.ref ta, .ref lk, .ref fr, .int (nI N), .int lc, .int dc, .int sp, .int sh, .int fd])), (ta, .inl (cT, 6, .inr (.inr (.inr (.inr (kg ad N))))))] sz) (va_Qq (fun (r : Option Nat) (_ : Unit) => r = o0) (kB (dC, dI) [(cI, .int), (cL, .long), (cT, .object "TendonLosses$Tendon")] (va_A [(tl, .inr (3, [.ref ta, .ref lk, .ref fr, .int (nI N), .int lc, .int dc, .int sp, .int sh, .int fd])), (ta, .inl (cT, 6, .inr (.inr (.inr (.inr (kg ad N))))))] sz) [(tl, .inr (3, [.ref ta, .ref lk, .ref fr, .int (nI N), .int lc, .int dc, .int sp, .int sh, .int fd])), (ta, .inl (cT, 6, .inr (.inr (.inr (.inr (kg ad N))))))]) (va_A [(tl, .inr (3, [.ref ta, .ref lk, .ref fr, .int (nI N), .int lc, .int dc, .int sp, .int sh, .int fd])), (ta, .inl (cT, 6, .inr (.inr (.inr (.inr (kg ad N))))))] sz)) 0 0 (va_A [(tl, .inr (3, [.ref ta, .ref lk, .ref fr, .int (nI N), .int lc, .int dc, .int sp, .int sh, .int fd])), (ta, .inl (cT, 6, .inr (.inr (.inr (.inr (kg ad N))))))] sz) := by
  refine Met.ofW (cc := bL_find) (maxL := 2) (ret := (some (.object "TendonLosses$Tendon"))) (by decide) rfl ?_
  intro p e s m args below meth c s₁ B hml hv
  obtain ⟨rfl, hsz, hP, hK, hD0, hN⟩ := hv
  have hx := B.exec
  have hb := B.bytes
  have hr := B.returns
  have hts : ∀ w ∈ gt, w.before ([.ref tl, .int p1] : List Value).toArray s = true := fun w h => atoms_spec (ws := wL_find) B.pre w (List.mem_cons_of_mem _ h)
  have hown : s.vm.findClass "TendonLosses" = some m.cls := findClass_of_methodNamed B.named
  have hlocks := B.notSynchronized
  subst hsz
  have hD := hD0.self (sz := s.heap.size)
  generalize hAe : va_A [(tl, .inr (3, [.ref ta, .ref lk, .ref fr, .int (nI N), .int lc, .int dc, .int sp, .int sh, .int fd])), (ta, .inl (cT, 6, .inr (.inr (.inr (.inr (kg ad N))))))] s.heap.size = A at hD ⊢
  have hA : ∀ q : Nat, s.heap.size ≤ q → A q := fun q h => by rw [← hAe]; exact Or.inr h
  have hS : va_S A s.heap s.heap [] := va_S.rf
  have hP : va_P (dC, dI) vwCl [(tl, .inr (3, [.ref ta, .ref lk, .ref fr, .int (nI N), .int lc, .int dc, .int sp, .int sh, .int fd])), (ta, .inl (cT, 6, .inr (.inr (.inr (.inr (kg ad N))))))] s.heap := hP
  have hl := lv_entry ([.ref tl, .int p1]) (n := 2) (Nat.le_of_ble_eq_true rfl)
  rw [lg_entry_eq]
  generalize (lg_sl ([.ref tl, .int p1]) ++ List.replicate (2 - (lg_sl ([.ref tl, .int p1])).length) Slot.unset).toArray = ls at hl ⊢
  have hl : lv_has ls 2 [(0, .ref tl), (1, .int p1)] := hl
  refine W.nameQ (fun Q hQ => ?_)
  unfold fL_find at hf
  refine lv_iload_n hx hb dL_find_0 rfl (lv_at hl 1 rfl) ?_
  refine lv_iconst (v := (0 : Int32)) hx hb dL_find_1 (by decide) ?_
  refine lv_aload_n hx hb dL_find_2 rfl (lv_at hl 0 rfl) ?_
  refine va_get (D := (dC, dI)) (ci := 3) (v := .int (nI N)) (C := "TendonLosses") (T := TT_L) (N := 9) hx hb hts in_L hown hK hP 0 rfl rfl 3 (by decide) (hts _ kw_65) (fun _ h9 => h9) rfl dL_find_3 ?_
  refine lv_iconst (v := (1 : Int32)) hx hb dL_find_6 (by decide) ?_
  refine lv_isub hx hb dL_find_7 ?_
  obtain ⟨r_8, q_8, hf⟩ := o_b hf
  have hPc := hP.sub (ws' := []) [] rfl
  have hDc := hD.sub (ws' := []) [] (by decide) rfl
  refine kc_i (va_runS (As := [.int p1, .int (0 : Int32), .int ((nI N) - (1 : Int32))]) (rest := []) ⟨hx, hb, hml, hown, hts⟩ (mL_isWithin l dC dI cI cL cT  s.heap.size fu p1 (0 : Int32) ((nI N) - (1 : Int32)) (r_8) q_8) ⟨callB_of 3 hts (gd_code kw_96) rfl rfl rfl (hts _ kw_30) (hts _ kw_94) (by decide +kernel) ⟨Nat.le_of_ble_eq_true rfl, Nat.le_of_ble_eq_true rfl⟩, hts _ kw_95⟩ (kP_S hPc hK hDc hN) rfl rfl hl.1 rfl (lv_room (Nat.le_of_ble_eq_true rfl)) dL_find_8 ⟨Nat.le_of_ble_eq_true rfl, Nat.le_of_ble_eq_true rfl⟩) hP hD hS hA (wc := []) (wr := [(tl, .inr (3, [.ref ta, .ref lk, .ref fr, .int (nI N), .int lc, .int dc, .int sp, .int sh, .int fd])), (ta, .inl (cT, 6, .inr (.inr (.inr (.inr (kg ad N))))))]) (w1 := []) (ws' := [(tl, .inr (3, [.ref ta, .ref lk, .ref fr, .int (nI N), .int lc, .int dc, .int sp, .int sh, .int fd])), (ta, .inl (cT, 6, .inr (.inr (.inr (.inr (kg ad N))))))]) [] [0, 1] [0, 1] rfl rfl (by decide) (by decide) rfl (by decide) rfl (fun H locs hP hD hS => ?_)
  refine lv_if_eq (tgt := 23) hx hb dL_find_11 (by decide) (fun c_11 => ?_) (fun c_11 => ?_)
  · have hf := o_t hf c_11
    refine lv_null hx hb dL_find_23 ?_
    have e9 := Option.some.inj hf
    subst e9
    subst hQ
    exact W.aret (v := va_rf (none : Option Nat)) hx hb hr (Or.inl ⟨_, rfl⟩) (va_rf_or _) (fun t ht hW => ⟨⟨(none : Option Nat), (), rfl, rfl, by rw [ht]; exact hP, va_K.moved hW.alike hK, hD⟩, hS.F ht⟩) hS.2.2 dL_find_24
  · have hf := o_f hf c_11
    refine lv_aload_n hx hb dL_find_14 rfl (lv_at hl 0 rfl) ?_
    refine va_get (D := (dC, dI)) (ci := 3) (v := .ref ta) (C := "TendonLosses") (T := TT_L) (N := 9) hx hb hts in_L hown hK hP 0 rfl rfl 0 (by decide) (hts _ kw_62) (fun _ h9 => h9) rfl dL_find_15 ?_
    refine lv_iload_n hx hb dL_find_18 rfl (lv_at hl 1 rfl) ?_
    obtain ⟨h_19, hf⟩ := o_c hf
    refine va_aldq hx hb hK hP 1 2 rfl rfl h_19 dL_find_19 ?_
    refine lv_goto (tgt := 24) hx hb dL_find_20 (by decide) ?_
    have e9 := Option.some.inj hf
    subst e9
    subst hQ
    exact W.aret (v := va_rf ((kg ad N) (p1).toNatClampNeg)) hx hb hr (Or.inl ⟨_, rfl⟩) (va_rf_or _) (fun t ht hW => ⟨⟨((kg ad N) (p1).toNatClampNeg), (), rfl, rfl, by rw [ht]; exact hP, va_K.moved hW.alike hK, hD⟩, hS.F ht⟩) hS.2.2 dL_find_24

theorem z_clamp (x : Int32) : x.toNatClampNeg = x.toInt.toNat := rfl
theorem z_N1 : ∀ N, N < 7 → (nI N - (1 : Int32)).toInt = (N : Int) - 1 := by decide +kernel
theorem fL_isWithin_eq (fu : Nat) (a b c : Int32) : fL_isWithin fu a b c = some (if b.toInt ≤ a.toInt ∧ a.toInt ≤ c.toInt then 1 else 0) := by
  unfold fL_isWithin
  by_cases h1 : a < b
  · rw [if_pos h1, if_neg (by rw [Int32.lt_iff_toInt_lt] at h1; omega)]
  · rw [if_neg h1]
    by_cases h2 : c < a
    · rw [if_pos h2, if_neg (by rw [Int32.lt_iff_toInt_lt] at h2; omega)]
    · rw [if_neg h2, if_pos (by rw [Int32.lt_iff_toInt_lt] at h1 h2; omega)]
theorem z_in {p : Int32} {N : Nat} : (¬ (p < 0 ∨ N ≤ p.toNatClampNeg)) ↔ 0 ≤ p.toInt ∧ p.toInt < N := by
  rw [Int32.lt_iff_toInt_lt, z_clamp, show (0 : Int32).toInt = 0 from rfl]
  omega
theorem fL_find_some {fu N : Nat} {ad : Nat → Nat → Nat} {lc dc sp sh fd p1 : Int32} (hN6 : N ≤ 6) (h : ¬ (p1 < 0 ∨ N ≤ (p1).toNatClampNeg)) : fL_find fu N ad lc dc sp sh fd p1 = some (some (ad (p1).toNatClampNeg 0)) := by
  have h0 := z_in.mp h
  have e := z_N1 N (by omega)
  unfold fL_find
  rw [fL_isWithin_eq, if_pos (by rw [e, show (0 : Int32).toInt = 0 from rfl]; omega), Option.bind_some, if_neg (by decide), if_pos (z_in.mpr (by omega))]
  unfold kg
  rw [if_pos (by rw [z_clamp]; omega)]
theorem fL_find_none {fu N : Nat} {ad : Nat → Nat → Nat} {lc dc sp sh fd p1 : Int32} (hN6 : N ≤ 6) (h : ¬ ¬ (p1 < 0 ∨ N ≤ (p1).toNatClampNeg)) : fL_find fu N ad lc dc sp sh fd p1 = some none := by
  rw [z_in] at h
  have e := z_N1 N (by omega)
  unfold fL_find
  rw [fL_isWithin_eq, if_neg (by rw [e, show (0 : Int32).toInt = 0 from rfl]; omega), Option.bind_some, if_pos rfl]

def fL_findStrained (fu : Nat) (N : Nat) (ad : Nat → Nat → Nat) (lc : Int32) (dc : Int32) (sp : Int32) (sh : Int32) (fd : Int32) (lo : Nat → Int32) (rough : Int32) (mu : Int32) (Rs : Nat → kR) (p1 : Int32) : Option ((Option Nat)) := (if ¬ (p1 < 0 ∨ N ≤ (p1).toNatClampNeg) then (if (p1).toNatClampNeg ∈ (List.range N) then (if ((Rs (p1).toNatClampNeg).2.1) = (0 : Int32) then some (none : Option Nat) else some (some (ad (p1).toNatClampNeg 0))) else none) else some (none : Option Nat))
def rmL_findStrained : Room := { frames := 2, cells := 0, slots := 0, locals := 43 }
set_option maxHeartbeats 4000000 in
set_option maxRecDepth 100000 in
theorem mL_findStrained (l : Launch) (dC : Nat → ClassId) (dI : Nat → Nat → Nat) (cI cL cT : ClassId) (tl ta lk fr : Nat) (ad : Nat → Nat → Nat) (sz : Nat) (fu : Nat) (N : Nat) (hN6 : N ≤ 6) (lc : Int32) (dc : Int32) (sp : Int32) (sh : Int32) (fd : Int32) (lo : Nat → Int32) (rough : Int32) (mu : Int32) (Rs : Nat → kR) (p1 : Int32) (o0 : Option Nat) (hf : fL_findStrained fu N ad lc dc sp sh fd lo rough mu Rs p1 = some (o0)) : Met l yL_findStrained wL_findStrained rmL_findStrained (kP (dC, dI) [(cI, .int), (cL, .long), (cT, .object "TendonLosses$Tendon")] [.ref tl, .int p1] ([(tl, .inr (3, [.ref ta, .ref lk, .ref fr, .int (nI N), .int lc, .int dc, .int sp, .int sh, .int fd])), (ta, .inl (cT, 6, .inr (.inr (.inr (.inr (kg ad N)))))), (lk, .inl (cI, 6, .inl lo)), (fr, .inr (1, [.int rough, .int mu]))] ++ kpl cI cL ad (List.range N) Rs) sz) (va_Qq (fun (r : Option Nat) (_ : Unit) => r = o0) (kB (dC, dI) [(cI, .int), (cL, .long), (cT, .object "TendonLosses$Tendon")] (va_A ([(tl, .inr (3, [.ref ta, .ref lk, .ref fr, .int (nI N), .int lc, .int dc, .int sp, .int sh, .int fd])), (ta, .inl (cT, 6, .inr (.inr (.inr (.inr (kg ad N)))))), (lk, .inl (cI, 6, .inl lo)), (fr, .inr (1, [.int rough, .int mu]))] ++ kpl cI cL ad (List.range N) Rs) sz) ([(tl, .inr (3, [.ref ta, .ref lk, .ref fr, .int (nI N), .int lc, .int dc, .int sp, .int sh, .int fd])), (ta, .inl (cT, 6, .inr (.inr (.inr (.inr (kg ad N)))))), (lk, .inl (cI, 6, .inl lo)), (fr, .inr (1, [.int rough, .int mu]))] ++ kpl cI cL ad (List.range N) Rs)) (va_A ([(tl, .inr (3, [.ref ta, .ref lk, .ref fr, .int (nI N), .int lc, .int dc, .int sp, .int sh, .int fd])), (ta, .inl (cT, 6, .inr (.inr (.inr (.inr (kg ad N)))))), (lk, .inl (cI, 6, .inl lo)), (fr, .inr (1, [.int rough, .int mu]))] ++ kpl cI cL ad (List.range N) Rs) sz)) 0 0 (va_A ([(tl, .inr (3, [.ref ta, .ref lk, .ref fr, .int (nI N), .int lc, .int dc, .int sp, .int sh, .int fd])), (ta, .inl (cT, 6, .inr (.inr (.inr (.inr (kg ad N)))))), (lk, .inl (cI, 6, .inl lo)), (fr, .inr (1, [.int rough, .int mu]))] ++ kpl cI cL ad (List.range N) Rs) sz) := by
  refine Met.ofW (cc := bL_findStrained) (maxL := 3) (ret := (some (.object "TendonLosses$Tendon"))) (by decide) rfl ?_
  intro p e s m args below meth c s₁ B hml hv
  obtain ⟨rfl, hsz, hP, hK, hD0, hN⟩ := hv
  have hx := B.exec
  have hb := B.bytes
  have hr := B.returns
  have hts : ∀ w ∈ gt, w.before ([.ref tl, .int p1] : List Value).toArray s = true := fun w h => atoms_spec (ws := wL_findStrained) B.pre w (List.mem_cons_of_mem _ h)
  have hown : s.vm.findClass "TendonLosses" = some m.cls := findClass_of_methodNamed B.named
  have hlocks := B.notSynchronized
  subst hsz
  have hD := hD0.self (sz := s.heap.size)
  generalize hAe : va_A ([(tl, .inr (3, [.ref ta, .ref lk, .ref fr, .int (nI N), .int lc, .int dc, .int sp, .int sh, .int fd])), (ta, .inl (cT, 6, .inr (.inr (.inr (.inr (kg ad N)))))), (lk, .inl (cI, 6, .inl lo)), (fr, .inr (1, [.int rough, .int mu]))] ++ kpl cI cL ad (List.range N) Rs) s.heap.size = A at hD ⊢
  have hA : ∀ q : Nat, s.heap.size ≤ q → A q := fun q h => by rw [← hAe]; exact Or.inr h
  have hS : va_S A s.heap s.heap [] := va_S.rf
  have hP : va_P (dC, dI) vwCl ([(tl, .inr (3, [.ref ta, .ref lk, .ref fr, .int (nI N), .int lc, .int dc, .int sp, .int sh, .int fd])), (ta, .inl (cT, 6, .inr (.inr (.inr (.inr (kg ad N)))))), (lk, .inl (cI, 6, .inl lo)), (fr, .inr (1, [.int rough, .int mu]))] ++ kpl cI cL ad (List.range N) Rs) s.heap := hP
  have hl := lv_entry ([.ref tl, .int p1]) (n := 3) (Nat.le_of_ble_eq_true rfl)
  rw [lg_entry_eq]
  generalize (lg_sl ([.ref tl, .int p1]) ++ List.replicate (3 - (lg_sl ([.ref tl, .int p1])).length) Slot.unset).toArray = ls at hl ⊢
  have hl : lv_has ls 3 [(0, .ref tl), (1, .int p1)] := hl
  refine W.nameQ (fun Q hQ => ?_)
  unfold fL_findStrained at hf
  refine lv_aload_n hx hb dL_findStrained_0 rfl (lv_at hl 0 rfl) ?_
  refine lv_iload_n hx hb dL_findStrained_1 rfl (lv_at hl 1 rfl) ?_
  by_cases c_2 : ¬ (p1 < 0 ∨ N ≤ (p1).toNatClampNeg)
  · have hf := o_t hf c_2
    have hPc := kt_P (wc := [(tl, .inr (3, [.ref ta, .ref lk, .ref fr, .int (nI N), .int lc, .int dc, .int sp, .int sh, .int fd])), (ta, .inl (cT, 6, .inr (.inr (.inr (.inr (kg ad N))))))]) (is := [0, 1]) (X := [(tl, .inr (3, [.ref ta, .ref lk, .ref fr, .int (nI N), .int lc, .int dc, .int sp, .int sh, .int fd])), (ta, .inl (cT, 6, .inr (.inr (.inr (.inr (kg ad N)))))), (lk, .inl (cI, 6, .inl lo)), (fr, .inr (1, [.int rough, .int mu]))]) hP rfl
    have hDc := kt_D (wc := [(tl, .inr (3, [.ref ta, .ref lk, .ref fr, .int (nI N), .int lc, .int dc, .int sp, .int sh, .int fd])), (ta, .inl (cT, 6, .inr (.inr (.inr (.inr (kg ad N))))))]) (is := [0, 1]) (X := [(tl, .inr (3, [.ref ta, .ref lk, .ref fr, .int (nI N), .int lc, .int dc, .int sp, .int sh, .int fd])), (ta, .inl (cT, 6, .inr (.inr (.inr (.inr (kg ad N)))))), (lk, .inl (cI, 6, .inl lo)), (fr, .inr (1, [.int rough, .int mu]))]) hD (by decide) rfl
    refine kt_q (va_runV (As := [.int p1]) (rest := []) ⟨hx, hb, hml, hown, hts⟩ (mL_find l dC dI cI cL cT tl ta lk fr ad s.heap.size fu N hN6 lc dc sp sh fd p1 _ (fL_find_some hN6 c_2)) ⟨callB_of 1 hts (gd_code kw_163) rfl rfl rfl (hts _ kw_30) (hts _ kw_160) (by decide +kernel) ⟨Nat.le_of_ble_eq_true rfl, Nat.le_of_ble_eq_true rfl⟩, hts _ kw_162, hts _ kw_0⟩ (kP_V hPc hK hDc hN (va_recv hK hPc (ci := 3) (q0 := 0) rfl rfl)) rfl rfl hl.1 rfl (lv_room (Nat.le_of_ble_eq_true rfl)) dL_findStrained_2 ⟨Nat.le_of_ble_eq_true rfl, Nat.le_of_ble_eq_true rfl⟩) (X := [(tl, .inr (3, [.ref ta, .ref lk, .ref fr, .int (nI N), .int lc, .int dc, .int sp, .int sh, .int fd])), (ta, .inl (cT, 6, .inr (.inr (.inr (.inr (kg ad N)))))), (lk, .inl (cI, 6, .inl lo)), (fr, .inr (1, [.int rough, .int mu]))]) hP hD hS hA (wc := [(tl, .inr (3, [.ref ta, .ref lk, .ref fr, .int (nI N), .int lc, .int dc, .int sp, .int sh, .int fd])), (ta, .inl (cT, 6, .inr (.inr (.inr (.inr (kg ad N))))))]) (wr := [(lk, .inl (cI, 6, .inl lo)), (fr, .inr (1, [.int rough, .int mu]))]) (w1 := [(tl, .inr (3, [.ref ta, .ref lk, .ref fr, .int (nI N), .int lc, .int dc, .int sp, .int sh, .int fd])), (ta, .inl (cT, 6, .inr (.inr (.inr (.inr (kg ad N))))))]) (X' := [(tl, .inr (3, [.ref ta, .ref lk, .ref fr, .int (nI N), .int lc, .int dc, .int sp, .int sh, .int fd])), (ta, .inl (cT, 6, .inr (.inr (.inr (.inr (kg ad N)))))), (lk, .inl (cI, 6, .inl lo)), (fr, .inr (1, [.int rough, .int mu]))]) [0, 1] [2, 3] [2, 3, 0, 1] rfl rfl (by decide) (by decide) (by decide) rfl (fun H locs hP hD hS => ?_)
    have hP : va_P (dC, dI) vwCl ([(tl, .inr (3, [.ref ta, .ref lk, .ref fr, .int (nI N), .int lc, .int dc, .int sp, .int sh, .int fd])), (ta, .inl (cT, 6, .inr (.inr (.inr (.inr (kg ad N)))))), (lk, .inl (cI, 6, .inl lo)), (fr, .inr (1, [.int rough, .int mu]))] ++ kpl cI cL ad (List.range N) Rs) H := hP
    have hD : va_D A ([(tl, .inr (3, [.ref ta, .ref lk, .ref fr, .int (nI N), .int lc, .int dc, .int sp, .int sh, .int fd])), (ta, .inl (cT, 6, .inr (.inr (.inr (.inr (kg ad N)))))), (lk, .inl (cI, 6, .inl lo)), (fr, .inr (1, [.int rough, .int mu]))] ++ kpl cI cL ad (List.range N) Rs) := hD
    refine W.eq (g2 := F0 m 5 ls [.ref (ad (p1).toNatClampNeg 0)]) rfl ?_
    refine lv_astore_n (lv' := [(2, .ref (ad (p1).toNatClampNeg 0)), (0, .ref tl), (1, .int p1)]) hx hb dL_findStrained_5 rfl hl (by decide) rfl (fun ls hl => ?_)
    refine lv_aload_n hx hb dL_findStrained_6 rfl (lv_at hl 0 rfl) ?_
    refine lv_ifnull hx hb dL_findStrained_7 ?_
    refine lv_aload_n hx hb dL_findStrained_10 rfl (lv_at hl 0 rfl) ?_
    obtain ⟨h_11o0, hf⟩ := o_c hf
    obtain ⟨hP, hD⟩ := kp_open (X := [(tl, .inr (3, [.ref ta, .ref lk, .ref fr, .int (nI N), .int lc, .int dc, .int sp, .int sh, .int fd])), (ta, .inl (cT, 6, .inr (.inr (.inr (.inr (kg ad N)))))), (lk, .inl (cI, 6, .inl lo)), (fr, .inr (1, [.int rough, .int mu]))]) h_11o0 hP hD
    have hP : va_P (dC, dI) vwCl ([(tl, .inr (3, [.ref ta, .ref lk, .ref fr, .int (nI N), .int lc, .int dc, .int sp, .int sh, .int fd])), (ta, .inl (cT, 6, .inr (.inr (.inr (.inr (kg ad N)))))), (lk, .inl (cI, 6, .inl lo)), (fr, .inr (1, [.int rough, .int mu])), ((ad (p1).toNatClampNeg 0), .inr (2, [.ref (ad (p1).toNatClampNeg 1), .int ((Rs (p1).toNatClampNeg).1), .ref (ad (p1).toNatClampNeg 6), .ref (ad (p1).toNatClampNeg 7), .int ((Rs (p1).toNatClampNeg).2.1), .int ((Rs (p1).toNatClampNeg).2.2.1), .int ((Rs (p1).toNatClampNeg).2.2.2.1)])), ((ad (p1).toNatClampNeg 1), .inr (0, [.ref (ad (p1).toNatClampNeg 2), .ref (ad (p1).toNatClampNeg 3), .ref (ad (p1).toNatClampNeg 4), .ref (ad (p1).toNatClampNeg 5), .int ((Rs (p1).toNatClampNeg).2.2.2.2.1)])), ((ad (p1).toNatClampNeg 2), .inl (cI, 10, .inl ((Rs (p1).toNatClampNeg).2.2.2.2.2.1))), ((ad (p1).toNatClampNeg 3), .inl (cI, 10, .inl ((Rs (p1).toNatClampNeg).2.2.2.2.2.2.1))), ((ad (p1).toNatClampNeg 4), .inl (cI, 10, .inl ((Rs (p1).toNatClampNeg).2.2.2.2.2.2.2.1))), ((ad (p1).toNatClampNeg 5), .inl (cI, 10, .inl ((Rs (p1).toNatClampNeg).2.2.2.2.2.2.2.2.1))), ((ad (p1).toNatClampNeg 6), .inl (cL, 10, .inr (.inl ((Rs (p1).toNatClampNeg).2.2.2.2.2.2.2.2.2.1)))), ((ad (p1).toNatClampNeg 7), .inl (cL, 10, .inr (.inl ((Rs (p1).toNatClampNeg).2.2.2.2.2.2.2.2.2.2))))] ++ kpl cI cL ad ((List.range N).erase (p1).toNatClampNeg) Rs) H := hP
    have hD : va_D A ([(tl, .inr (3, [.ref ta, .ref lk, .ref fr, .int (nI N), .int lc, .int dc, .int sp, .int sh, .int fd])), (ta, .inl (cT, 6, .inr (.inr (.inr (.inr (kg ad N)))))), (lk, .inl (cI, 6, .inl lo)), (fr, .inr (1, [.int rough, .int mu])), ((ad (p1).toNatClampNeg 0), .inr (2, [.ref (ad (p1).toNatClampNeg 1), .int ((Rs (p1).toNatClampNeg).1), .ref (ad (p1).toNatClampNeg 6), .ref (ad (p1).toNatClampNeg 7), .int ((Rs (p1).toNatClampNeg).2.1), .int ((Rs (p1).toNatClampNeg).2.2.1), .int ((Rs (p1).toNatClampNeg).2.2.2.1)])), ((ad (p1).toNatClampNeg 1), .inr (0, [.ref (ad (p1).toNatClampNeg 2), .ref (ad (p1).toNatClampNeg 3), .ref (ad (p1).toNatClampNeg 4), .ref (ad (p1).toNatClampNeg 5), .int ((Rs (p1).toNatClampNeg).2.2.2.2.1)])), ((ad (p1).toNatClampNeg 2), .inl (cI, 10, .inl ((Rs (p1).toNatClampNeg).2.2.2.2.2.1))), ((ad (p1).toNatClampNeg 3), .inl (cI, 10, .inl ((Rs (p1).toNatClampNeg).2.2.2.2.2.2.1))), ((ad (p1).toNatClampNeg 4), .inl (cI, 10, .inl ((Rs (p1).toNatClampNeg).2.2.2.2.2.2.2.1))), ((ad (p1).toNatClampNeg 5), .inl (cI, 10, .inl ((Rs (p1).toNatClampNeg).2.2.2.2.2.2.2.2.1))), ((ad (p1).toNatClampNeg 6), .inl (cL, 10, .inr (.inl ((Rs (p1).toNatClampNeg).2.2.2.2.2.2.2.2.2.1)))), ((ad (p1).toNatClampNeg 7), .inl (cL, 10, .inr (.inl ((Rs (p1).toNatClampNeg).2.2.2.2.2.2.2.2.2.2))))] ++ kpl cI cL ad ((List.range N).erase (p1).toNatClampNeg) Rs) := hD
    refine va_get (D := (dC, dI)) (ci := 2) (v := .int ((Rs (p1).toNatClampNeg).2.1)) (C := "TendonLosses$Tendon") (T := TT_T) (N := 7) hx hb hts in_T hown hK hP 4 rfl rfl 4 (by decide) (hts _ kw_137) (fun _ h9 => h9) rfl dL_findStrained_11 ?_
    refine lv_if_ne (tgt := 21) hx hb dL_findStrained_14 (by decide) (fun c_14 => ?_) (fun c_14 => ?_)
    · have hf := o_f hf c_14
      refine lv_aload_n hx hb dL_findStrained_21 rfl (lv_at hl 0 rfl) ?_
      obtain ⟨hP, hD⟩ := kp_close0 (X := [(tl, .inr (3, [.ref ta, .ref lk, .ref fr, .int (nI N), .int lc, .int dc, .int sp, .int sh, .int fd])), (ta, .inl (cT, 6, .inr (.inr (.inr (.inr (kg ad N)))))), (lk, .inl (cI, 6, .inl lo)), (fr, .inr (1, [.int rough, .int mu]))]) h_11o0 hP hD
      have hP : va_P (dC, dI) vwCl ([(tl, .inr (3, [.ref ta, .ref lk, .ref fr, .int (nI N), .int lc, .int dc, .int sp, .int sh, .int fd])), (ta, .inl (cT, 6, .inr (.inr (.inr (.inr (kg ad N)))))), (lk, .inl (cI, 6, .inl lo)), (fr, .inr (1, [.int rough, .int mu]))] ++ kpl cI cL ad (List.range N) Rs) H := hP
      have hD : va_D A ([(tl, .inr (3, [.ref ta, .ref lk, .ref fr, .int (nI N), .int lc, .int dc, .int sp, .int sh, .int fd])), (ta, .inl (cT, 6, .inr (.inr (.inr (.inr (kg ad N)))))), (lk, .inl (cI, 6, .inl lo)), (fr, .inr (1, [.int rough, .int mu]))] ++ kpl cI cL ad (List.range N) Rs) := hD
      have e9 := Option.some.inj hf
      subst e9
      subst hQ
      exact W.aret (v := va_rf (some (ad (p1).toNatClampNeg 0))) hx hb hr (Or.inl ⟨_, rfl⟩) (va_rf_or _) (fun t ht hW => ⟨⟨(some (ad (p1).toNatClampNeg 0)), (), rfl, rfl, by rw [ht]; exact hP, va_K.moved hW.alike hK, hD⟩, hS.F ht⟩) hS.2.2 dL_findStrained_22
    · have hf := o_t hf c_14
      refine lv_null hx hb dL_findStrained_17 ?_
      refine lv_goto (tgt := 22) hx hb dL_findStrained_18 (by decide) ?_
      obtain ⟨hP, hD⟩ := kp_close0 (X := [(tl, .inr (3, [.ref ta, .ref lk, .ref fr, .int (nI N), .int lc, .int dc, .int sp, .int sh, .int fd])), (ta, .inl (cT, 6, .inr (.inr (.inr (.inr (kg ad N)))))), (lk, .inl (cI, 6, .inl lo)), (fr, .inr (1, [.int rough, .int mu]))]) h_11o0 hP hD
      have hP : va_P (dC, dI) vwCl ([(tl, .inr (3, [.ref ta, .ref lk, .ref fr, .int (nI N), .int lc, .int dc, .int sp, .int sh, .int fd])), (ta, .inl (cT, 6, .inr (.inr (.inr (.inr (kg ad N)))))), (lk, .inl (cI, 6, .inl lo)), (fr, .inr (1, [.int rough, .int mu]))] ++ kpl cI cL ad (List.range N) Rs) H := hP
      have hD : va_D A ([(tl, .inr (3, [.ref ta, .ref lk, .ref fr, .int (nI N), .int lc, .int dc, .int sp, .int sh, .int fd])), (ta, .inl (cT, 6, .inr (.inr (.inr (.inr (kg ad N)))))), (lk, .inl (cI, 6, .inl lo)), (fr, .inr (1, [.int rough, .int mu]))] ++ kpl cI cL ad (List.range N) Rs) := hD
      have e9 := Option.some.inj hf
      subst e9
      subst hQ
      exact W.aret (v := va_rf (none : Option Nat)) hx hb hr (Or.inl ⟨_, rfl⟩) (va_rf_or _) (fun t ht hW => ⟨⟨(none : Option Nat), (), rfl, rfl, by rw [ht]; exact hP, va_K.moved hW.alike hK, hD⟩, hS.F ht⟩) hS.2.2 dL_findStrained_22
  · have hf := o_f hf c_2
    have hPc := kt_P (wc := [(tl, .inr (3, [.ref ta, .ref lk, .ref fr, .int (nI N), .int lc, .int dc, .int sp, .int sh, .int fd])), (ta, .inl (cT, 6, .inr (.inr (.inr (.inr (kg ad N))))))]) (is := [0, 1]) (X := [(tl, .inr (3, [.ref ta, .ref lk, .ref fr, .int (nI N), .int lc, .int dc, .int sp, .int sh, .int fd])), (ta, .inl (cT, 6, .inr (.inr (.inr (.inr (kg ad N)))))), (lk, .inl (cI, 6, .inl lo)), (fr, .inr (1, [.int rough, .int mu]))]) hP rfl
    have hDc := kt_D (wc := [(tl, .inr (3, [.ref ta, .ref lk, .ref fr, .int (nI N), .int lc, .int dc, .int sp, .int sh, .int fd])), (ta, .inl (cT, 6, .inr (.inr (.inr (.inr (kg ad N))))))]) (is := [0, 1]) (X := [(tl, .inr (3, [.ref ta, .ref lk, .ref fr, .int (nI N), .int lc, .int dc, .int sp, .int sh, .int fd])), (ta, .inl (cT, 6, .inr (.inr (.inr (.inr (kg ad N)))))), (lk, .inl (cI, 6, .inl lo)), (fr, .inr (1, [.int rough, .int mu]))]) hD (by decide) rfl
    refine kt_q (va_runV (As := [.int p1]) (rest := []) ⟨hx, hb, hml, hown, hts⟩ (mL_find l dC dI cI cL cT tl ta lk fr ad s.heap.size fu N hN6 lc dc sp sh fd p1 _ (fL_find_none hN6 c_2)) ⟨callB_of 1 hts (gd_code kw_163) rfl rfl rfl (hts _ kw_30) (hts _ kw_160) (by decide +kernel) ⟨Nat.le_of_ble_eq_true rfl, Nat.le_of_ble_eq_true rfl⟩, hts _ kw_162, hts _ kw_0⟩ (kP_V hPc hK hDc hN (va_recv hK hPc (ci := 3) (q0 := 0) rfl rfl)) rfl rfl hl.1 rfl (lv_room (Nat.le_of_ble_eq_true rfl)) dL_findStrained_2 ⟨Nat.le_of_ble_eq_true rfl, Nat.le_of_ble_eq_true rfl⟩) (X := [(tl, .inr (3, [.ref ta, .ref lk, .ref fr, .int (nI N), .int lc, .int dc, .int sp, .int sh, .int fd])), (ta, .inl (cT, 6, .inr (.inr (.inr (.inr (kg ad N)))))), (lk, .inl (cI, 6, .inl lo)), (fr, .inr (1, [.int rough, .int mu]))]) hP hD hS hA (wc := [(tl, .inr (3, [.ref ta, .ref lk, .ref fr, .int (nI N), .int lc, .int dc, .int sp, .int sh, .int fd])), (ta, .inl (cT, 6, .inr (.inr (.inr (.inr (kg ad N))))))]) (wr := [(lk, .inl (cI, 6, .inl lo)), (fr, .inr (1, [.int rough, .int mu]))]) (w1 := [(tl, .inr (3, [.ref ta, .ref lk, .ref fr, .int (nI N), .int lc, .int dc, .int sp, .int sh, .int fd])), (ta, .inl (cT, 6, .inr (.inr (.inr (.inr (kg ad N))))))]) (X' := [(tl, .inr (3, [.ref ta, .ref lk, .ref fr, .int (nI N), .int lc, .int dc, .int sp, .int sh, .int fd])), (ta, .inl (cT, 6, .inr (.inr (.inr (.inr (kg ad N)))))), (lk, .inl (cI, 6, .inl lo)), (fr, .inr (1, [.int rough, .int mu]))]) [0, 1] [2, 3] [2, 3, 0, 1] rfl rfl (by decide) (by decide) (by decide) rfl (fun H locs hP hD hS => ?_)
    have hP : va_P (dC, dI) vwCl ([(tl, .inr (3, [.ref ta, .ref lk, .ref fr, .int (nI N), .int lc, .int dc, .int sp, .int sh, .int fd])), (ta, .inl (cT, 6, .inr (.inr (.inr (.inr (kg ad N)))))), (lk, .inl (cI, 6, .inl lo)), (fr, .inr (1, [.int rough, .int mu]))] ++ kpl cI cL ad (List.range N) Rs) H := hP
    have hD : va_D A ([(tl, .inr (3, [.ref ta, .ref lk, .ref fr, .int (nI N), .int lc, .int dc, .int sp, .int sh, .int fd])), (ta, .inl (cT, 6, .inr (.inr (.inr (.inr (kg ad N)))))), (lk, .inl (cI, 6, .inl lo)), (fr, .inr (1, [.int rough, .int mu]))] ++ kpl cI cL ad (List.range N) Rs) := hD
    refine W.eq (g2 := F0 m 5 ls [.null]) rfl ?_
    refine lv_astore_nN (lv' := [(2, .null), (0, .ref tl), (1, .int p1)]) hx hb dL_findStrained_5 rfl hl (by decide) rfl (fun ls hl => ?_)
    refine lv_aload_nN hx hb dL_findStrained_6 rfl (lv_at hl 0 rfl) ?_
    refine lv_ifnullN (tgt := 17) hx hb dL_findStrained_7 (by decide) ?_
    refine lv_null hx hb dL_findStrained_17 ?_
    refine lv_goto (tgt := 22) hx hb dL_findStrained_18 (by decide) ?_
    have e9 := Option.some.inj hf
    subst e9
    subst hQ
    exact W.aret (v := va_rf (none : Option Nat)) hx hb hr (Or.inl ⟨_, rfl⟩) (va_rf_or _) (fun t ht hW => ⟨⟨(none : Option Nat), (), rfl, rfl, by rw [ht]; exact hP, va_K.moved hW.alike hK, hD⟩, hS.F ht⟩) hS.2.2 dL_findStrained_22

theorem fL_findStrained_some {fu N : Nat} {ad : Nat → Nat → Nat} {lc dc sp sh fd : Int32} {lo : Nat → Int32} {rough mu : Int32} {Rs : Nat → kR} {p1 : Int32} (hN6 : N ≤ 6) (h : (¬ (p1 < 0 ∨ N ≤ (p1).toNatClampNeg)) ∧ ¬ (Rs (p1).toNatClampNeg).2.1 = 0) : fL_findStrained fu N ad lc dc sp sh fd lo rough mu Rs p1 = some (some (ad (p1).toNatClampNeg 0)) := by
  have h0 := z_in.mp h.1
  unfold fL_findStrained
  rw [if_pos h.1, if_pos (List.mem_range.mpr (by rw [z_clamp]; omega)), if_neg h.2]
theorem fL_findStrained_none {fu N : Nat} {ad : Nat → Nat → Nat} {lc dc sp sh fd : Int32} {lo : Nat → Int32} {rough mu : Int32} {Rs : Nat → kR} {p1 : Int32} (hN6 : N ≤ 6) (h : ¬ ((¬ (p1 < 0 ∨ N ≤ (p1).toNatClampNeg)) ∧ ¬ (Rs (p1).toNatClampNeg).2.1 = 0)) : fL_findStrained fu N ad lc dc sp sh fd lo rough mu Rs p1 = some none := by
  unfold fL_findStrained
  by_cases c : ¬ (p1 < 0 ∨ N ≤ (p1).toNatClampNeg)
  · have h0 := z_in.mp c
    rw [if_pos c, if_pos (List.mem_range.mpr (by rw [z_clamp]; omega)), if_pos (Decidable.byContradiction (fun q => h ⟨c, q⟩))]
  · rw [if_neg c]
