set_option maxHeartbeats 8000000 in
set_option maxRecDepth 100000 in
theorem whole_start {p : Program} {e : Env} {s : State} {m : MethodId} {below : List Frame} {meth : Method} {c : Code} (l : Launch) {b L : Nat} {xs : Nat → Int32} (hL : L ≤ 2560) (C0 : lw_At p s m meth c b L xs) : W p l e room_1 s m #[Value.ref b] below meth c s.heap [] 0 0 (lw_Z below #[Value.ref b] s) (entryFrame m ([Value.ref b] : List Value).toArray 4) := by
  obtain ⟨hx, hb, hr, hml, hown0, hts0, hX, hbl, hlocks, hgv⟩ := id C0
  have hown : s.vm.findClass "TendonLossesLaw" = some m.cls := hown0
  have hts : ∀ w ∈ gt, w.before #[Value.ref b] s = true := fun w h => hts0 w (List.mem_filter.mp h).1
  have hA : ∀ q : Nat, s.heap.size ≤ q → (fun q : Nat => s.heap.size ≤ q) q := fun _ h => h
  obtain ⟨c0, iS0, hKn0⟩ := u_known (C := "TendonLosses$Duct") (T := TT_D) (N := 5) (n := 5) hts in_D (hts _ kw_103)
  obtain ⟨c1, iS1, hKn1⟩ := u_known (C := "TendonLosses$Friction") (T := TT_F) (N := 2) (n := 2) hts in_F (hts _ kw_47)
  obtain ⟨c2, iS2, hKn2⟩ := u_known (C := "TendonLosses$Tendon") (T := TT_T) (N := 7) (n := 7) hts in_T (hts _ kw_97)
  obtain ⟨c3, iS3, hKn3⟩ := u_known (C := "TendonLosses") (T := TT_L) (N := 9) (n := 9) hts in_L (hts _ kw_37)
  obtain ⟨c4, iS4, hKn4⟩ := u_known (C := "TendonLossesModel") (T := TT_M) (N := 20) (n := 20) hts in_M (hts _ kw_418)
  obtain ⟨dC, dI, hKc⟩ : ∃ (dC : Nat → ClassId) (dI : Nat → Nat → Nat), ∀ (k : Nat) (q : vw_C), vwCl[k]? = some q → u_Kn s q.1 q.2.1 q.2.2 (dC k) (dI k) := by
    refine ⟨fun k => if k = 0 then c0 else if k = 1 then c1 else if k = 2 then c2 else if k = 3 then c3 else c4, fun k => if k = 0 then iS0 else if k = 1 then iS1 else if k = 2 then iS2 else if k = 3 then iS3 else iS4, ?_⟩
    intro k q hq
    match k, hq with
    | 0, hq => cases hq; exact hKn0
    | 1, hq => cases hq; exact hKn1
    | 2, hq => cases hq; exact hKn2
    | 3, hq => cases hq; exact hKn3
    | 4, hq => cases hq; exact hKn4
    | k + 5, hq => simp [vwCl] at hq
  obtain ⟨cI, kI, coI, hI1, hI2, hI3⟩ := Cond.arrayClass_spec (hts _ kw_61)
  obtain ⟨cL, kL, coL, hL1, hL2, hL3⟩ := Cond.arrayClass_spec (hts _ kw_155)
  have hAO := hts0 (.arrayOver (.object "TendonLosses$Tendon")) (List.mem_of_getElem? (i := 45) (by decide +kernel))
  obtain ⟨coT, cT, kT, hT1, -, hT2, hT3, hT4⟩ := Cond.arrayOver_spec hAO
  have hN : kN s := ⟨va_Nw.of rfl (hts0 (Cond.methodLinkNest "TendonLosses$Duct" 28 yL_isWithin "TendonLosses") (List.mem_of_getElem? (i := 168) (by decide +kernel))), va_Nw.of rfl (hts0 (Cond.methodLinkNest "TendonLosses$Duct" 47 yL_quotient "TendonLosses") (List.mem_of_getElem? (i := 188) (by decide +kernel))), va_Nw.of rfl (hts0 (Cond.methodLinkNest "TendonLosses$Tendon" 102 yL_quotient "TendonLosses") (List.mem_of_getElem? (i := 267) (by decide +kernel))), va_AO.of hAO⟩
  have hK : va_K (dC, dI) vwCl [(cI, .int), (cL, .long), (cT, .object "TendonLosses$Tendon")] s := by
    refine ⟨hKc, ?_⟩
    intro k q hq
    match k, hq with
    | 0, hq => cases hq; exact ⟨fun n z => ⟨fun k h => (by cases h), kI, hI2, coI, hI3⟩, hI1⟩
    | 1, hq => cases hq; exact ⟨fun n z => ⟨fun k h => (by cases h), kL, hL2, coL, hL3⟩, hL1⟩
    | 2, hq => cases hq; exact ⟨fun n z => ⟨fun k h => (by cases h), kT, hT2, coT, hT3⟩, kT, coT, hT2, hT3, hT1, hT4⟩
    | k + 3, hq => simp at hq
  have hS : va_S (fun q : Nat => s.heap.size ≤ q) s.heap s.heap [] := va_S.rf
  have hP : va_P (dC, dI) vwCl [] s.heap := fun k q h => by simp at h
  have hD : va_D (fun q : Nat => s.heap.size ≤ q) [] := ⟨fun i j p q h => by simp at h, fun k q h => by simp at h⟩
  have hl := lv_entry ([.ref b]) (n := 4) (Nat.le_of_ble_eq_true rfl)
  rw [lg_entry_eq]
  generalize (lg_sl ([.ref b]) ++ List.replicate (4 - (lg_sl ([.ref b])).length) Slot.unset).toArray = ls at hl ⊢
  have hl : lv_has ls 4 [(0, .ref b)] := hl
  refine va_new (ci := 3) (fs := [.null, .null, .null, .int (0 : Int32), .int (0 : Int32), .int (0 : Int32), .int (0 : Int32), .int (0 : Int32), .int (0 : Int32)]) (C := "TendonLosses") (T := TT_L) (N := 9) hx hb hts in_L ty_L ty_L_ok hown (hts _ kw_36) (hts _ kw_37) (hts _ kw_30) hK hP hD hS hA rfl (fun j hj => by rcases (show j = 0 ∨ j = 1 ∨ j = 2 ∨ j = 3 ∨ j = 4 ∨ j = 5 ∨ j = 6 ∨ j = 7 ∨ j = 8 by omega) with rfl | rfl | rfl | rfl | rfl | rfl | rfl | rfl | rfl <;> rfl) (Nat.le_of_ble_eq_true rfl) (Nat.le_of_ble_eq_true rfl) dW_0 (fun q0 H hP hD hS => ?_)
  refine lv_dup hx hb dW_3 rfl ?_
  have hPc : va_P (dC, dI) vwCl [(q0, .inr (3, [.null, .null, .null, .int (0 : Int32), .int (0 : Int32), .int (0 : Int32), .int (0 : Int32), .int (0 : Int32), .int (0 : Int32)]))] H := kf_P (wr := []) hP
  have hDc : va_D (fun q : Nat => s.heap.size ≤ q) [(q0, .inr (3, [.null, .null, .null, .int (0 : Int32), .int (0 : Int32), .int (0 : Int32), .int (0 : Int32), .int (0 : Int32), .int (0 : Int32)]))] := kf_D (wr := []) hD
  refine kn_v (va_runI (As := []) (rest := [.ref q0]) ⟨hx, hb, hml, hown, hts⟩ (mL_init l dC dI cI cL cT q0 H.size) ⟨callB_of 0 hts (gd_code kw_40) rfl rfl rfl (hts _ kw_30) (hts _ kw_38) (by decide +kernel) ⟨Nat.le_of_ble_eq_true rfl, Nat.le_of_ble_eq_true rfl⟩, rfl, hts _ kw_39⟩ (kP_S hPc hK hDc hN) rfl rfl hl.1 rfl (lv_room (Nat.le_of_ble_eq_true rfl)) dW_4 ⟨Nat.le_of_ble_eq_true rfl, Nat.le_of_ble_eq_true rfl⟩) hP hD (wr := []) (List.Perm.refl _) hS hA (fun u H locs hu hP hD hS => ?_)
  have hP : va_P (dC, dI) vwCl [(q0, .inr (3, [.ref u.1, .ref u.2.1, .ref u.2.2, .int 0, .int 0, .int 0, .int 0, .int 10, .int 3])), (u.1, .inl (cT, 6, .inr (.inr (.inr (.inr (fun _ => none)))))), (u.2.1, .inl (cI, 6, .inl (fun _ => 0))), (u.2.2, .inr (1, [.int 5, .int 200]))] H := hP
  have hD : va_D (fun q : Nat => s.heap.size ≤ q) [(q0, .inr (3, [.ref u.1, .ref u.2.1, .ref u.2.2, .int 0, .int 0, .int 0, .int 0, .int 10, .int 3])), (u.1, .inl (cT, 6, .inr (.inr (.inr (.inr (fun _ => none)))))), (u.2.1, .inl (cI, 6, .inl (fun _ => 0))), (u.2.2, .inr (1, [.int 5, .int 200]))] := hD
  refine lv_astore_n (lv' := [(1, .ref q0), (0, .ref b)]) hx hb dW_7 rfl hl (by decide) rfl (fun ls hl => ?_)
  refine va_new (ci := 4) (fs := [.int (0 : Int32), .int (0 : Int32), .null, .null, .null, .null, .null, .null, .null, .null, .null, .int (0 : Int32), .int (0 : Int32), .int (0 : Int32), .int (0 : Int32), .int (0 : Int32), .int (0 : Int32), .int (0 : Int32), .null, .null]) (C := "TendonLossesModel") (T := TT_M) (N := 20) hx hb hts in_M ty_M ty_M_ok hown (hts _ kw_417) (hts _ kw_418) (hts _ kw_32) hK hP hD hS hA rfl (fun j hj => by rcases (show j = 0 ∨ j = 1 ∨ j = 2 ∨ j = 3 ∨ j = 4 ∨ j = 5 ∨ j = 6 ∨ j = 7 ∨ j = 8 ∨ j = 9 ∨ j = 10 ∨ j = 11 ∨ j = 12 ∨ j = 13 ∨ j = 14 ∨ j = 15 ∨ j = 16 ∨ j = 17 ∨ j = 18 ∨ j = 19 by omega) with rfl | rfl | rfl | rfl | rfl | rfl | rfl | rfl | rfl | rfl | rfl | rfl | rfl | rfl | rfl | rfl | rfl | rfl | rfl | rfl <;> rfl) (Nat.le_of_ble_eq_true rfl) (Nat.le_of_ble_eq_true rfl) dW_8 (fun q8 H hP hD hS => ?_)
  refine lv_dup hx hb dW_11 rfl ?_
  have hPc : va_P (dC, dI) vwCl [(q8, .inr (4, [.int (0 : Int32), .int (0 : Int32), .null, .null, .null, .null, .null, .null, .null, .null, .null, .int (0 : Int32), .int (0 : Int32), .int (0 : Int32), .int (0 : Int32), .int (0 : Int32), .int (0 : Int32), .int (0 : Int32), .null, .null]))] H := kf_P (wr := [(q0, .inr (3, [.ref u.1, .ref u.2.1, .ref u.2.2, .int 0, .int 0, .int 0, .int 0, .int 10, .int 3])), (u.1, .inl (cT, 6, .inr (.inr (.inr (.inr (fun _ => none)))))), (u.2.1, .inl (cI, 6, .inl (fun _ => 0))), (u.2.2, .inr (1, [.int 5, .int 200]))]) hP
  have hDc : va_D (fun q : Nat => s.heap.size ≤ q) [(q8, .inr (4, [.int (0 : Int32), .int (0 : Int32), .null, .null, .null, .null, .null, .null, .null, .null, .null, .int (0 : Int32), .int (0 : Int32), .int (0 : Int32), .int (0 : Int32), .int (0 : Int32), .int (0 : Int32), .int (0 : Int32), .null, .null]))] := kf_D (wr := [(q0, .inr (3, [.ref u.1, .ref u.2.1, .ref u.2.2, .int 0, .int 0, .int 0, .int 0, .int 10, .int 3])), (u.1, .inl (cT, 6, .inr (.inr (.inr (.inr (fun _ => none)))))), (u.2.1, .inl (cI, 6, .inl (fun _ => 0))), (u.2.2, .inr (1, [.int 5, .int 200]))]) hD
  refine kn_v (va_runI (As := []) (rest := [.ref q8]) ⟨hx, hb, hml, hown, hts⟩ (mM_init l dC dI cI cL cT q8 H.size) ⟨callB_of 0 hts (gd_code kw_421) rfl rfl rfl (hts _ kw_32) (hts _ kw_419) (by decide +kernel) ⟨Nat.le_of_ble_eq_true rfl, Nat.le_of_ble_eq_true rfl⟩, rfl, hts _ kw_420⟩ (kP_S hPc hK hDc hN) rfl rfl hl.1 rfl (lv_room (Nat.le_of_ble_eq_true rfl)) dW_12 ⟨Nat.le_of_ble_eq_true rfl, Nat.le_of_ble_eq_true rfl⟩) hP hD (wr := [(q0, .inr (3, [.ref u.1, .ref u.2.1, .ref u.2.2, .int 0, .int 0, .int 0, .int 0, .int 10, .int 3])), (u.1, .inl (cT, 6, .inr (.inr (.inr (.inr (fun _ => none)))))), (u.2.1, .inl (cI, 6, .inl (fun _ => 0))), (u.2.2, .inr (1, [.int 5, .int 200]))]) (List.Perm.refl _) hS hA (fun u2 H locs hu hP hD hS => ?_)
  refine lv_astore_n (lv' := [(2, .ref q8), (1, .ref q0), (0, .ref b)]) hx hb dW_15 rfl hl (by decide) rfl (fun ls hl => ?_)
  refine lv_iconst (v := 0) hx hb dW_16 (by decide) ?_
  refine lv_istore_n (lv' := [(3, .int 0), (2, .ref q8), (1, .ref q0), (0, .ref b)]) hx hb dW_17 rfl hl (by decide) rfl (fun ls hl => ?_)
  have ek : kg (fun _ _ => 0) 0 = (fun _ => none) := by funext i; simp [kg]
  have hP : va_P (dC, dI) vwCl (([(q0, .inr (3, [.ref u.1, .ref u.2.1, .ref u.2.2, .int (nI 0), .int 0, .int 0, .int 0, .int 10, .int 3])), (u.1, .inl (cT, 6, .inr (.inr (.inr (.inr (kg (fun _ _ => 0) 0)))))), (u.2.1, .inl (cI, 6, .inl (fun _ => 0))), (u.2.2, .inr (1, [.int 5, .int 200]))] ++ kpl cI cL (fun _ _ => 0) (List.range 0) Rs0) ++ [(q8, .inr (4, [.int 0, .int 0, .ref u2.1, .ref u2.2.1, .ref u2.2.2.1, .ref u2.2.2.2.1, .ref u2.2.2.2.2.1, .ref u2.2.2.2.2.2.1, .ref u2.2.2.2.2.2.2.1, .ref u2.2.2.2.2.2.2.2.1, .ref u2.2.2.2.2.2.2.2.2.1, .int 0, .int 5, .int 200, .int 0, .int 10, .int 3, .int 0, .ref u2.2.2.2.2.2.2.2.2.2.1, .ref u2.2.2.2.2.2.2.2.2.2.2])), (u2.1, .inl (cI, 6, .inl (fun _ => 0))), (u2.2.1, .inl (cI, 6, .inl (fun _ => 0))), (u2.2.2.1, .inl (cI, 6, .inl (fun _ => 0))), (u2.2.2.2.1, .inl (cI, 6, .inl (fun _ => 0))), (u2.2.2.2.2.1, .inl (cI, 6, .inl (fun _ => 0))), (u2.2.2.2.2.2.1, .inl (cI, 60, .inl (fun _ => 0))), (u2.2.2.2.2.2.2.1, .inl (cI, 60, .inl (fun _ => 0))), (u2.2.2.2.2.2.2.2.1, .inl (cL, 60, .inr (.inl (fun _ => 0)))), (u2.2.2.2.2.2.2.2.2.1, .inl (cI, 6, .inl (fun _ => 0))), (u2.2.2.2.2.2.2.2.2.2.1, .inl (cL, 10, .inr (.inl (fun _ => 0)))), (u2.2.2.2.2.2.2.2.2.2.2, .inl (cL, 10, .inr (.inl (fun _ => 0))))]) H := by rw [ek]; exact hP
  have hD : va_D (fun q : Nat => s.heap.size ≤ q) (([(q0, .inr (3, [.ref u.1, .ref u.2.1, .ref u.2.2, .int (nI 0), .int 0, .int 0, .int 0, .int 10, .int 3])), (u.1, .inl (cT, 6, .inr (.inr (.inr (.inr (kg (fun _ _ => 0) 0)))))), (u.2.1, .inl (cI, 6, .inl (fun _ => 0))), (u.2.2, .inr (1, [.int 5, .int 200]))] ++ kpl cI cL (fun _ _ => 0) (List.range 0) Rs0) ++ [(q8, .inr (4, [.int 0, .int 0, .ref u2.1, .ref u2.2.1, .ref u2.2.2.1, .ref u2.2.2.2.1, .ref u2.2.2.2.2.1, .ref u2.2.2.2.2.2.1, .ref u2.2.2.2.2.2.2.1, .ref u2.2.2.2.2.2.2.2.1, .ref u2.2.2.2.2.2.2.2.2.1, .int 0, .int 5, .int 200, .int 0, .int 10, .int 3, .int 0, .ref u2.2.2.2.2.2.2.2.2.2.1, .ref u2.2.2.2.2.2.2.2.2.2.2])), (u2.1, .inl (cI, 6, .inl (fun _ => 0))), (u2.2.1, .inl (cI, 6, .inl (fun _ => 0))), (u2.2.2.1, .inl (cI, 6, .inl (fun _ => 0))), (u2.2.2.2.1, .inl (cI, 6, .inl (fun _ => 0))), (u2.2.2.2.2.1, .inl (cI, 6, .inl (fun _ => 0))), (u2.2.2.2.2.2.1, .inl (cI, 60, .inl (fun _ => 0))), (u2.2.2.2.2.2.2.1, .inl (cI, 60, .inl (fun _ => 0))), (u2.2.2.2.2.2.2.2.1, .inl (cL, 60, .inr (.inl (fun _ => 0)))), (u2.2.2.2.2.2.2.2.2.1, .inl (cI, 6, .inl (fun _ => 0))), (u2.2.2.2.2.2.2.2.2.2.1, .inl (cL, 10, .inr (.inl (fun _ => 0)))), (u2.2.2.2.2.2.2.2.2.2.2, .inl (cL, 10, .inr (.inl (fun _ => 0))))]) := by rw [ek]; exact hD
  refine W.widen (k := 100 + 9 * 0) (n := 1000 + 100 * 0) (by decide) (by decide) ?_
  exact law_loop hL C0 hK hN q0 u.1 u.2.1 u.2.2 q8 (u2.1) (u2.2.1) (u2.2.2.1) (u2.2.2.2.1) (u2.2.2.2.2.1) (u2.2.2.2.2.2.1) (u2.2.2.2.2.2.2.1) (u2.2.2.2.2.2.2.2.1) (u2.2.2.2.2.2.2.2.2.1) (u2.2.2.2.2.2.2.2.2.2.1) (u2.2.2.2.2.2.2.2.2.2.2) (L + 1) 0 (Nat.zero_le L) (by omega) (fun _ _ => 0) 0 0 0 0 10 3 (fun _ => 0) 5 200 Rs0 0 0 0 5 200 0 10 3 0 (fun _ => 0) (fun _ => 0) (fun _ => 0) (fun _ => 0) (fun _ => 0) (fun _ => 0) (fun _ => 0) (fun _ => 0) (fun _ => 0) (fun _ => 0) (fun _ => 0) Rl_init H locs hP hD hS ls (lv_sub hl [3, 2, 1, 0] rfl)

-- ===== YOUR PART ENDS =====
set_option maxHeartbeats 4000000 in
theorem lw_walk (l : Launch) (b : Addr) (xs : List Int32) : MetFree l x (headSpec (Jvm.Cond.code x code maxLocals ret :: tables_1) room_1) (lw_P b xs) (fun _ _ _ _ _ => True) lw_Q := by
  refine MetFree.of_bodyS (code := code) (maxLocals := maxLocals) (ret := ret) (by decide) ?_ ?_
  · intro args s m h hn
    obtain ⟨meth, c, h1, h2, h3, h4, h5, h6, -, -⟩ := Cond.code_spec hn (atoms_spec (ws := Jvm.Cond.code x code maxLocals ret :: tables_1) h _ List.mem_cons_self)
    exact ⟨meth, c, h1, h2, h3, h4, h5, h6⟩
  · intro p e s m args below meth c s₁ B hml0 hP _
    obtain ⟨rfl, hx, hbd, hgv⟩ := hP
    obtain ⟨scr, harrAt, hlist, hof, hsmall⟩ := hx
    obtain ⟨hcb, hkn, -, -⟩ := State.arrayAt?_spec harrAt
    have hown : s.vm.findClass R_law = some m.cls := findClass_of_methodNamed B.named
    have hts0 : ∀ c ∈ (Jvm.Cond.code x code maxLocals ret :: tables_1), c.before #[Value.ref b] s = true := atoms_spec (ws := Jvm.Cond.code x code maxLocals ret :: tables_1) B.pre
    have hts : ∀ w ∈ lw_tbl, w.before #[Value.ref b] s = true := k2_hts_sels lw_privs (fun w hw => hts0 w (List.mem_cons_of_mem _ hw)) lw_privs_ok
    have hml : c.maxLocals = 4 := B.maxLocals_eq (hts0 _ List.mem_cons_self)
    have X₀ : Stand p l e room_1 s m #[Value.ref b] below meth c s₁ [] 0 0 := Stand.of_body B
    have hh0 : s₁.heap = s.heap := by rw [B.state]; rfl
    have hsz : scr.slots.size = xs.length := by rw [← Array.length_toList, hlist, List.length_map]
    have hval : ∀ j : Nat, j < xs.length → scr.slots[j]? = some (.int (xs.getD j 0)) := fun j hj => by
      rw [← Array.getElem?_toList, hlist]
      simp [hj]
    have hbl : b < s.heap.size := (Array.getElem?_eq_some_iff.mp hcb).1
    have hX : va_X b xs.length (fun j => xs.getD j 0) s s.heap := ⟨scr, hcb, hof, hkn, hsz, hval⟩
    have K : W p l e room_1 s m #[Value.ref b] below meth c s₁.heap [] 0 0 (lw_Z below #[Value.ref b] s) (entryFrame m ([Value.ref b] : List Value).toArray 4) := by
      rw [hh0]
      exact whole_start l hbd ⟨B.exec, B.bytes, B.returns, hml, hown, hts, hX, hbl, B.notSynchronized, hgv⟩
    obtain ⟨t, a1, o, b1, b2, b3⟩ := K s₁ rfl X₀
    exact ⟨t, o, a1, b1, b2, b3⟩
theorem lw_pre_spec {args : Array Value} {s : State} (h : (Jvm.Cond.and given_1 narrow_1).before args s = true) (hr : rest_1_c.before args s = true) : ∃ (b : Addr) (xs : List Int32), lw_P b xs args s := by
  have hs := flat_of_before _ h
  have hq := flat_of_before _ hr
  have hc : (Cond.count 1).before args s = true := hs _ (by decide +kernel)
  have harr : (Cond.arrayOf (.arg 0) .int).before args s = true := hs _ (by decide +kernel)
  have hle : (Cond.le (.length (.arg 0)) (.int 2560)).before args s = true := hs _ (by decide +kernel)
  have hlen : (Cond.isInt (.length (.arg 0))).before args s = true := hq _ (by decide +kernel)
  have hall : (Cond.all (.arg 0) (.isInt (.elem (.arg 0) (.index 0)))).before args s = true := hq _ (by decide +kernel)
  obtain ⟨b, xs, hb, hx⟩ := State.ints_of_pre rfl harr hlen hall
  have hsm : xs.length < 2 ^ 31 := hx.choose_spec.2.2.2
  have hev : (Term.length (.arg 0)).eval args s none [] s = some (.int xs.length.toInt32) := hx.length_eval hb
  have hv := Cond.le_ints hev (show (Term.int 2560).eval args s none [] s = some (.int 2560) from rfl)
  have hd : xs.length.toInt32 ≤ 2560 := by
    simpa [Cond.before, Cond.holds, hv] using hle
  have hN : xs.length ≤ 2560 := (Int32.ofNat_le_ofNat hsm (by decide)).mp (show Int32.ofNat xs.length ≤ Int32.ofNat 2560 from hd)
  exact ⟨b, xs, Cond.one_arg hc (show args[0]? = some (.ref b) from hb), hx, hN, h⟩
theorem lw_comes (l : Launch) : Comes l x (Jvm.Cond.code x code maxLocals ret :: tables_1) room_1 (fun tb e args s => Calls_1 tb e args s ∧ rest_1 tb e args s ∧ Pre_1 tb e args s)
    (fun _ _ args s o t => lw_Q args s o t) := by
  intro p e ha hc hk s m args below hf hfit hheap happ hpre
  obtain ⟨b, xs, hP⟩ := lw_pre_spec hpre.2.2 hpre.2.1
  obtain ⟨k, o, h1, h2, h3, hQ⟩ := lw_walk l b xs p e ha hc hk s m args below hf ((Spec.applies_iff_loose hf).mp happ).1 hP trivial
  exact ⟨k, o, h1, h2, h3, hQ⟩
theorem lw_frame {s t : State} {o : Outcome} {args : Array Value} (h : Framed s o t [] 600000 7302250) :
    Framed s o t (fieldLocs frame_1_writes args s ++ arrayLocs frame_1_arrays args s ++ staticLocs frame_1_statics s) 600000 7302250 := h
theorem lw_limb (L : Cond) (hL : ∀ (args : Array Value) (s t : State), L.after args s (.returned (some (.int 1))) t = true) :
    ArmFor flags0 classFile x code maxLocals ret World_1 tables_1 room_1 Calls_1 rest_1 Pre_1
      (fun tb e a s o t => postC L tb e a s o t ∧ Framed s o t (fieldLocs frame_1_writes a s ++ arrayLocs frame_1_arrays a s ++ staticLocs frame_1_statics s) 600000 7302250) := by
  intro l _ _ _ p e ha hc hk s m args below hf hfit hheap happ hpre
  obtain ⟨k, o, h1, h2, h3, rfl, hF⟩ := lw_comes l p e ha hc hk s m args below hf hfit hheap happ hpre
  exact ⟨k, _, h1, h2, h3, hL args s _, lw_frame hF⟩
theorem i_vc : Claimed_1_1 ∧ Claimed_1_2 := ⟨lw_limb limb_1_1 (fun args s t => by simp [limb_1_1, Cond.after, Cond.holds, Cond.value]), lw_limb limb_1_2 (fun args s t => Cond.after_iff.mpr (by
  first | (rw [show limb_1_2 = Cond.eq .result (.int 1) from rfl, Cond.eq_ints (x := 1) (y := 1) rfl rfl]; simp; done) | (simp [limb_1_2, Cond.value, Term.eval]; done)))⟩
