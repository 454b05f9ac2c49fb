theorem kpl_congr2 {cI cL : ClassId} {ad ad' : Nat → Nat → Nat} {R R' : Nat → kR} : ∀ {ks : List Nat}, (∀ k ∈ ks, ad k = ad' k ∧ R k = R' k) → kpl cI cL ad ks R = kpl cI cL ad' ks R'
  | [], _ => rfl
  | k :: ks, h => by
    show ktc cI cL (ad k) (R k) ++ kpl cI cL ad ks R = ktc cI cL (ad' k) (R' k) ++ kpl cI cL ad' ks R'
    rw [(h k List.mem_cons_self).1, (h k List.mem_cons_self).2, kpl_congr2 (fun j hj => h j (List.mem_cons_of_mem _ hj))]
theorem kp_grow {cI cL : ClassId} {ad : Nat → Nat → Nat} {u : Nat → Nat} {Rs : Nat → kR} {r : kR} {N : Nat} {X : va_W} {G : va_G} {A : Nat → Prop} {H : Heap} (hP : va_P G vwCl ((X ++ ktc cI cL u r) ++ kpl cI cL ad (List.range N) Rs) H) (hD : va_D A ((X ++ ktc cI cL u r) ++ kpl cI cL ad (List.range N) Rs)) :
    va_P G vwCl (X ++ kpl cI cL (va_up ad N u) (List.range (N + 1)) (va_up Rs N r)) H ∧ va_D A (X ++ kpl cI cL (va_up ad N u) (List.range (N + 1)) (va_up Rs N r)) := by
  have e : kpl cI cL ad (List.range N) Rs = kpl cI cL (va_up ad N u) (List.range N) (va_up Rs N r) := kpl_congr2 (fun k hk => by
    have : k ≠ N := fun z => by rw [z] at hk; exact absurd (List.mem_range.mp hk) (Nat.lt_irrefl _)
    exact ⟨by simp [va_up, this], by simp [va_up, this]⟩)
  have e2 : kpl cI cL (va_up ad N u) (List.range (N + 1)) (va_up Rs N r) = kpl cI cL (va_up ad N u) (List.range N) (va_up Rs N r) ++ ktc cI cL u r := by
    rw [List.range_succ]
    show List.flatMap _ _ = _
    rw [List.flatMap_append]
    congr 1
    show ktc cI cL (va_up ad N u N) (va_up Rs N r N) ++ [] = _
    simp [va_up]
  rw [e2, ← e]
  have hp : ((X ++ ktc cI cL u r) ++ kpl cI cL ad (List.range N) Rs).Perm (X ++ (kpl cI cL ad (List.range N) Rs ++ ktc cI cL u r)) := by
    rw [List.append_assoc]
    exact List.Perm.append_left X List.perm_append_comm
  exact ⟨kq_pP hp hP, kq_pD hp hD⟩
theorem kg_grow {ad : Nat → Nat → Nat} {u : Nat → Nat} {N : Nat} (hN : N ≤ 6) : va_up (kg ad N) (nI N).toNatClampNeg (some (u 0)) = kg (va_up ad N u) (N + 1) := by
  rw [nI_clamp (by omega)]
  funext i
  unfold va_up kg
  by_cases h : i = N
  · subst h
    simp
  · rw [if_neg h]
    by_cases h2 : i < N
    · rw [if_pos h2, if_pos (by omega)]
      simp [h]
    · rw [if_neg h2, if_neg (by omega)]
def fL_tendon (fu : Nat) (N : Nat) (Rs : Nat → kR) (p1 : Int32) : Option (Int32 × Nat × (Nat → kR)) := ((fL_isWithin fu p1 (50 : Int32) (10000 : Int32)).bind fun r_6 => (if r_6 = (0 : Int32) then some ((-1 : Int32), N, Rs) else (if (nI N) < (6 : Int32) then some ((nI N), N + 1, va_up Rs N (p1, 0, 0, 0, 0, (fun _ => 0), (fun _ => 0), (fun _ => 0), (fun _ => 0), (fun _ => 0), (fun _ => 0))) else some ((-1 : Int32), N, Rs))))
def rmL_tendon : Room := { frames := 3, cells := 8, slots := 72, locals := 53 }
set_option maxHeartbeats 4000000 in
set_option maxRecDepth 100000 in
theorem mL_tendon (l : Launch) (dC : Nat → ClassId) (dI : Nat → Nat → Nat) (cI cL cT : ClassId) (tl ta lk fr : Nat) (ad : Nat → Nat → Nat) (sz : Nat) (fu : Nat) (N : Nat) (hN6 : N ≤ 6) (lc dc sp sh fd : Int32) (lo : Nat → Int32) (rough mu : Int32) (Rs : Nat → kR) (p1 : Int32) (o0 : Int32) (o1 : Nat) (o2 : Nat → kR) (hf : fL_tendon fu N Rs p1 = some (o0, o1, o2)) : Met l yL_tendon wL_tendon rmL_tendon (kP (dC, dI) [(cI, .int), (cL, .long), (cT, .object "TendonLosses$Tendon")] [.ref tl, .int p1] ([(tl, .inr (3, [.ref ta, .ref lk, .ref fr, .int (nI N), .int lc, .int dc, .int sp, .int sh, .int fd])), (ta, .inl (cT, 6, .inr (.inr (.inr (.inr (kg ad N)))))), (lk, .inl (cI, 6, .inl lo)), (fr, .inr (1, [.int rough, .int mu]))] ++ kpl cI cL ad (List.range N) Rs) sz) (va_Qi (fun (r : Int32) (u : Nat → Nat → Nat) => r = o0 ∧ ∀ k, k < N → u k = ad k) (fun (u : Nat → Nat → Nat) (t : State) => va_P (dC, dI) vwCl ([(tl, .inr (3, [.ref ta, .ref lk, .ref fr, .int (nI o1), .int lc, .int dc, .int sp, .int sh, .int fd])), (ta, .inl (cT, 6, .inr (.inr (.inr (.inr (kg u o1)))))), (lk, .inl (cI, 6, .inl lo)), (fr, .inr (1, [.int rough, .int mu]))] ++ kpl cI cL u (List.range o1) o2) t.heap ∧ va_K (dC, dI) vwCl [(cI, .int), (cL, .long), (cT, .object "TendonLosses$Tendon")] t ∧ va_D (va_A ([(tl, .inr (3, [.ref ta, .ref lk, .ref fr, .int (nI N), .int lc, .int dc, .int sp, .int sh, .int fd])), (ta, .inl (cT, 6, .inr (.inr (.inr (.inr (kg ad N)))))), (lk, .inl (cI, 6, .inl lo)), (fr, .inr (1, [.int rough, .int mu]))] ++ kpl cI cL ad (List.range N) Rs) sz) ([(tl, .inr (3, [.ref ta, .ref lk, .ref fr, .int (nI o1), .int lc, .int dc, .int sp, .int sh, .int fd])), (ta, .inl (cT, 6, .inr (.inr (.inr (.inr (kg u o1)))))), (lk, .inl (cI, 6, .inl lo)), (fr, .inr (1, [.int rough, .int mu]))] ++ kpl cI cL u (List.range o1) o2)) (va_A ([(tl, .inr (3, [.ref ta, .ref lk, .ref fr, .int (nI N), .int lc, .int dc, .int sp, .int sh, .int fd])), (ta, .inl (cT, 6, .inr (.inr (.inr (.inr (kg ad N)))))), (lk, .inl (cI, 6, .inl lo)), (fr, .inr (1, [.int rough, .int mu]))] ++ kpl cI cL ad (List.range N) Rs) sz)) 8 72 (va_A ([(tl, .inr (3, [.ref ta, .ref lk, .ref fr, .int (nI N), .int lc, .int dc, .int sp, .int sh, .int fd])), (ta, .inl (cT, 6, .inr (.inr (.inr (.inr (kg ad N)))))), (lk, .inl (cI, 6, .inl lo)), (fr, .inr (1, [.int rough, .int mu]))] ++ kpl cI cL ad (List.range N) Rs) sz) := by
  refine Met.ofW (cc := bL_tendon) (maxL := 3) (ret := (some .int)) (by decide) rfl ?_
  intro p e s m args below meth c s₁ B hml hv
  obtain ⟨rfl, hsz, hP, hK, hD0, hN⟩ := hv
  have hx := B.exec
  have hb := B.bytes
  have hr := B.returns
  have hts : ∀ w ∈ gt, w.before ([.ref tl, .int p1] : List Value).toArray s = true := fun w h => atoms_spec (ws := wL_tendon) B.pre w (List.mem_cons_of_mem _ h)
  have hown : s.vm.findClass "TendonLosses" = some m.cls := findClass_of_methodNamed B.named
  have hlocks := B.notSynchronized
  subst hsz
  have hD := hD0.self (sz := s.heap.size)
  generalize hAe : va_A ([(tl, .inr (3, [.ref ta, .ref lk, .ref fr, .int (nI N), .int lc, .int dc, .int sp, .int sh, .int fd])), (ta, .inl (cT, 6, .inr (.inr (.inr (.inr (kg ad N)))))), (lk, .inl (cI, 6, .inl lo)), (fr, .inr (1, [.int rough, .int mu]))] ++ kpl cI cL ad (List.range N) Rs) s.heap.size = A at hD ⊢
  have hA : ∀ q : Nat, s.heap.size ≤ q → A q := fun q h => by rw [← hAe]; exact Or.inr h
  have hS : va_S A s.heap s.heap [] := va_S.rf
  have hP : va_P (dC, dI) vwCl ([(tl, .inr (3, [.ref ta, .ref lk, .ref fr, .int (nI N), .int lc, .int dc, .int sp, .int sh, .int fd])), (ta, .inl (cT, 6, .inr (.inr (.inr (.inr (kg ad N)))))), (lk, .inl (cI, 6, .inl lo)), (fr, .inr (1, [.int rough, .int mu]))] ++ kpl cI cL ad (List.range N) Rs) s.heap := hP
  have hl := lv_entry ([.ref tl, .int p1]) (n := 3) (Nat.le_of_ble_eq_true rfl)
  rw [lg_entry_eq]
  generalize (lg_sl ([.ref tl, .int p1]) ++ List.replicate (3 - (lg_sl ([.ref tl, .int p1])).length) Slot.unset).toArray = ls at hl ⊢
  have hl : lv_has ls 3 [(0, .ref tl), (1, .int p1)] := hl
  refine W.nameQ (fun Q hQ => ?_)
  unfold fL_tendon at hf
  refine lv_iload_n hx hb dL_tendon_0 rfl (lv_at hl 1 rfl) ?_
  refine lv_bipush (v := (50 : Int32)) hx hb dL_tendon_1 (by decide) ?_
  refine lv_sipush (v := (10000 : Int32)) hx hb dL_tendon_3 (by decide) ?_
  obtain ⟨r_6, q_6, hf⟩ := o_b hf
  have hPc := kt_P (wc := []) (is := []) (X := [(tl, .inr (3, [.ref ta, .ref lk, .ref fr, .int (nI N), .int lc, .int dc, .int sp, .int sh, .int fd])), (ta, .inl (cT, 6, .inr (.inr (.inr (.inr (kg ad N)))))), (lk, .inl (cI, 6, .inl lo)), (fr, .inr (1, [.int rough, .int mu]))]) hP rfl
  have hDc := kt_D (wc := []) (is := []) (X := [(tl, .inr (3, [.ref ta, .ref lk, .ref fr, .int (nI N), .int lc, .int dc, .int sp, .int sh, .int fd])), (ta, .inl (cT, 6, .inr (.inr (.inr (.inr (kg ad N)))))), (lk, .inl (cI, 6, .inl lo)), (fr, .inr (1, [.int rough, .int mu]))]) hD (by decide) rfl
  refine kt_i (va_runS (As := [.int p1, .int (50 : Int32), .int (10000 : Int32)]) (rest := []) ⟨hx, hb, hml, hown, hts⟩ (mL_isWithin l dC dI cI cL cT s.heap.size fu p1 (50 : Int32) (10000 : Int32) (r_6) q_6) ⟨callB_of 3 hts (gd_code kw_96) rfl rfl rfl (hts _ kw_30) (hts _ kw_94) (by decide +kernel) ⟨Nat.le_of_ble_eq_true rfl, Nat.le_of_ble_eq_true rfl⟩, hts _ kw_95⟩ (kP_S hPc hK hDc hN) rfl rfl hl.1 rfl (lv_room (Nat.le_of_ble_eq_true rfl)) dL_tendon_6 ⟨Nat.le_of_ble_eq_true rfl, Nat.le_of_ble_eq_true rfl⟩) (X := [(tl, .inr (3, [.ref ta, .ref lk, .ref fr, .int (nI N), .int lc, .int dc, .int sp, .int sh, .int fd])), (ta, .inl (cT, 6, .inr (.inr (.inr (.inr (kg ad N)))))), (lk, .inl (cI, 6, .inl lo)), (fr, .inr (1, [.int rough, .int mu]))]) hP hD hS hA (wc := []) (wr := [(tl, .inr (3, [.ref ta, .ref lk, .ref fr, .int (nI N), .int lc, .int dc, .int sp, .int sh, .int fd])), (ta, .inl (cT, 6, .inr (.inr (.inr (.inr (kg ad N)))))), (lk, .inl (cI, 6, .inl lo)), (fr, .inr (1, [.int rough, .int mu]))]) (w1 := []) (X' := [(tl, .inr (3, [.ref ta, .ref lk, .ref fr, .int (nI N), .int lc, .int dc, .int sp, .int sh, .int fd])), (ta, .inl (cT, 6, .inr (.inr (.inr (.inr (kg ad N)))))), (lk, .inl (cI, 6, .inl lo)), (fr, .inr (1, [.int rough, .int mu]))]) [] [0, 1, 2, 3] [0, 1, 2, 3] rfl rfl (by decide) (by decide) (by decide) rfl (fun H locs hP hD hS => ?_)
  have hbad : ∀ (ls : Array Slot), lv_has ls 3 [(0, .ref tl), (1, .int p1)] → (some ((-1 : Int32), N, Rs) = some (o0, o1, o2)) → W p l e (headSpec wL_tendon rmL_tendon).room s m ([.ref tl, .int p1] : List Value).toArray below meth c H locs 0 0 Q (F0 m 21 ls []) := by
    intro ls hl hf
    refine lv_iconst (v := (-1 : Int32)) hx hb dL_tendon_21 (by decide) ?_
    have k0 := Option.some.inj hf
    obtain ⟨e0, k1⟩ := Prod.mk.inj k0
    obtain ⟨e1, k2⟩ := Prod.mk.inj k1
    subst e0
    subst e1
    subst k2
    subst hQ
    refine W.widen (k := 8) (n := 72) (by decide) (by decide) ?_
    exact W.iret (v := (-1 : Int32)) hx hb hr (fun t ht hW => ⟨⟨(-1 : Int32), ad, rfl, ⟨rfl, fun k _ => rfl⟩, by rw [ht]; exact hP, va_K.moved hW.alike hK, hD⟩, hS.F ht⟩) hS.2.2 dL_tendon_22
  refine lv_if_eq (tgt := 21) hx hb dL_tendon_9 (by decide) (fun c_9 => ?_) (fun c_9 => ?_)
  · exact hbad ls hl (o_t hf c_9)
  · have hf := o_f hf c_9
    refine lv_aload_n hx hb dL_tendon_12 rfl (lv_at hl 0 rfl) ?_
    refine va_get (D := (dC, dI)) (ci := 3) (v := .int (nI N)) (C := "TendonLosses") (T := TT_L) (N := 9) hx hb hts in_L hown hK hP 0 rfl rfl 3 (by decide) (hts _ kw_65) (fun _ h9 => h9) rfl dL_tendon_13 ?_
    refine lv_bipush (v := (6 : Int32)) hx hb dL_tendon_16 (by decide) ?_
    refine lv_icmp_lt (tgt := 23) hx hb dL_tendon_18 (by decide) (fun c_18 => ?_) (fun c_18 => ?_)
    · have hf := o_t hf c_18
      have hlt : N < 6 := by rw [Int32.lt_iff_toInt_lt, nI_toInt (by omega), show (6 : Int32).toInt = 6 from rfl] at c_18; omega
      refine lv_aload_n hx hb dL_tendon_23 rfl (lv_at hl 0 rfl) ?_
      refine va_get (D := (dC, dI)) (ci := 3) (v := .int (nI N)) (C := "TendonLosses") (T := TT_L) (N := 9) hx hb hts in_L hown hK hP 0 rfl rfl 3 (by decide) (hts _ kw_65) (fun _ h9 => h9) rfl dL_tendon_24 ?_
      refine lv_istore_n (lv' := [(2, .int (nI N)), (0, .ref tl), (1, .int p1)]) hx hb dL_tendon_27 rfl hl (by decide) rfl (fun ls hl => ?_)
      refine lv_aload_n hx hb dL_tendon_28 rfl (lv_at hl 1 rfl) ?_
      refine va_get (D := (dC, dI)) (ci := 3) (v := .ref ta) (C := "TendonLosses") (T := TT_L) (N := 9) hx hb hts in_L hown hK hP 0 rfl rfl 0 (by decide) (hts _ kw_62) (fun _ h9 => h9) rfl dL_tendon_29 ?_
      refine lv_iload_n hx hb dL_tendon_32 rfl (lv_at hl 0 rfl) ?_
      refine va_new (ci := 2) (fs := [.null, .int (0 : Int32), .null, .null, .int (0 : Int32), .int (0 : Int32), .int (0 : Int32)]) (C := "TendonLosses$Tendon") (T := TT_T) (N := 7) hx hb hts in_T ty_T ty_T_ok hown (hts _ kw_44) (hts _ kw_97) (hts _ kw_33) hK hP hD hS hA rfl (fun j hj => by rcases (show j = 0 ∨ j = 1 ∨ j = 2 ∨ j = 3 ∨ j = 4 ∨ j = 5 ∨ j = 6 by omega) with rfl | rfl | rfl | rfl | rfl | rfl | rfl <;> rfl) (Nat.le_of_ble_eq_true rfl) (Nat.le_of_ble_eq_true rfl) dL_tendon_33 (fun q_33 H hP hD hS => ?_)
      refine lv_dup hx hb dL_tendon_36 rfl ?_
      refine lv_iload_n hx hb dL_tendon_37 rfl (lv_at hl 2 rfl) ?_
      have hPc : va_P (dC, dI) vwCl [(q_33, .inr (2, [.null, .int (0 : Int32), .null, .null, .int (0 : Int32), .int (0 : Int32), .int (0 : Int32)]))] H := kf_P (wr := ([(tl, .inr (3, [.ref ta, .ref lk, .ref fr, .int (nI N), .int lc, .int dc, .int sp, .int sh, .int fd])), (ta, .inl (cT, 6, .inr (.inr (.inr (.inr (kg ad N)))))), (lk, .inl (cI, 6, .inl lo)), (fr, .inr (1, [.int rough, .int mu]))] ++ kpl cI cL ad (List.range N) Rs)) hP
      have hDc : va_D A [(q_33, .inr (2, [.null, .int (0 : Int32), .null, .null, .int (0 : Int32), .int (0 : Int32), .int (0 : Int32)]))] := kf_D (wr := ([(tl, .inr (3, [.ref ta, .ref lk, .ref fr, .int (nI N), .int lc, .int dc, .int sp, .int sh, .int fd])), (ta, .inl (cT, 6, .inr (.inr (.inr (.inr (kg ad N)))))), (lk, .inl (cI, 6, .inl lo)), (fr, .inr (1, [.int rough, .int mu]))] ++ kpl cI cL ad (List.range N) Rs)) hD
      refine kn_v (va_runI (As := [.int p1]) (rest := [.ref q_33, .int (nI N), .ref ta]) ⟨hx, hb, hml, hown, hts⟩ (mT_init l dC dI cI cL cT q_33 H.size p1) ⟨callB_of 1 hts (gd_code kw_100) rfl rfl rfl (hts _ kw_33) (hts _ kw_98) (by decide +kernel) ⟨Nat.le_of_ble_eq_true rfl, Nat.le_of_ble_eq_true rfl⟩, rfl, hts _ kw_99⟩ (kP_S hPc hK hDc hN) rfl rfl hl.1 rfl (lv_room (Nat.le_of_ble_eq_true rfl)) dL_tendon_38 ⟨Nat.le_of_ble_eq_true rfl, Nat.le_of_ble_eq_true rfl⟩) hP hD (wr := ([(tl, .inr (3, [.ref ta, .ref lk, .ref fr, .int (nI N), .int lc, .int dc, .int sp, .int sh, .int fd])), (ta, .inl (cT, 6, .inr (.inr (.inr (.inr (kg ad N)))))), (lk, .inl (cI, 6, .inl lo)), (fr, .inr (1, [.int rough, .int mu]))] ++ kpl cI cL ad (List.range N) Rs)) (List.Perm.refl _) hS hA (fun u H locs hu hP hD hS => ?_)
      refine W.eq (g2 := F0 m 41 ls [.ref (u 0), .int (nI N), .ref ta]) (congrArg (fun z => F0 m 41 ls [.ref z, .int (nI N), .ref ta]) hu.symm) ?_
      have hP := hP.swap
      have hD := hD.swap
      refine va_astq hx hb hK hP hD hS 1 2 4 2 rfl rfl rfl rfl (z_in.mpr (by rw [nI_toInt (by omega)]; omega)) dL_tendon_41 (fun H locs hP hD hS => ?_)
      have hP : va_P (dC, dI) vwCl (([(tl, .inr (3, [.ref ta, .ref lk, .ref fr, .int (nI N), .int lc, .int dc, .int sp, .int sh, .int fd])), (ta, .inl (cT, 6, .inr (.inr (.inr (.inr (va_up (kg ad N) (nI N).toNatClampNeg (some (u 0)))))))), (lk, .inl (cI, 6, .inl lo)), (fr, .inr (1, [.int rough, .int mu]))] ++ ktc cI cL u (p1, 0, 0, 0, 0, (fun _ => 0), (fun _ => 0), (fun _ => 0), (fun _ => 0), (fun _ => 0), (fun _ => 0))) ++ kpl cI cL ad (List.range N) Rs) H := hP
      have hD : va_D A (([(tl, .inr (3, [.ref ta, .ref lk, .ref fr, .int (nI N), .int lc, .int dc, .int sp, .int sh, .int fd])), (ta, .inl (cT, 6, .inr (.inr (.inr (.inr (va_up (kg ad N) (nI N).toNatClampNeg (some (u 0)))))))), (lk, .inl (cI, 6, .inl lo)), (fr, .inr (1, [.int rough, .int mu]))] ++ ktc cI cL u (p1, 0, 0, 0, 0, (fun _ => 0), (fun _ => 0), (fun _ => 0), (fun _ => 0), (fun _ => 0), (fun _ => 0))) ++ kpl cI cL ad (List.range N) Rs) := hD
      refine lv_aload_n hx hb dL_tendon_42 rfl (lv_at hl 1 rfl) ?_
      refine lv_iload_n hx hb dL_tendon_43 rfl (lv_at hl 0 rfl) ?_
      refine lv_iconst (v := (1 : Int32)) hx hb dL_tendon_44 (by decide) ?_
      refine lv_iadd hx hb dL_tendon_45 ?_
      refine va_put (D := (dC, dI)) (ci := 3) (v := .int (nI N + (1 : Int32))) (ty := (.int)) (C := "TendonLosses") (T := TT_L) (N := 9) hx hb hts in_L ty_L ty_L_ok nn_L hown hK hP hD hS 0 rfl rfl 3 (by decide) (hts _ kw_65) (fun _ h9 => h9) rfl (by decide +kernel) rfl rfl (Nat.le_of_ble_eq_true rfl) dL_tendon_46 (fun H locs hP hD hS => ?_)
      have hP : va_P (dC, dI) vwCl (([(tl, .inr (3, [.ref ta, .ref lk, .ref fr, .int (nI N + (1 : Int32)), .int lc, .int dc, .int sp, .int sh, .int fd])), (ta, .inl (cT, 6, .inr (.inr (.inr (.inr (va_up (kg ad N) (nI N).toNatClampNeg (some (u 0)))))))), (lk, .inl (cI, 6, .inl lo)), (fr, .inr (1, [.int rough, .int mu]))] ++ ktc cI cL u (p1, 0, 0, 0, 0, (fun _ => 0), (fun _ => 0), (fun _ => 0), (fun _ => 0), (fun _ => 0), (fun _ => 0))) ++ kpl cI cL ad (List.range N) Rs) H := hP
      have hD : va_D A (([(tl, .inr (3, [.ref ta, .ref lk, .ref fr, .int (nI N + (1 : Int32)), .int lc, .int dc, .int sp, .int sh, .int fd])), (ta, .inl (cT, 6, .inr (.inr (.inr (.inr (va_up (kg ad N) (nI N).toNatClampNeg (some (u 0)))))))), (lk, .inl (cI, 6, .inl lo)), (fr, .inr (1, [.int rough, .int mu]))] ++ ktc cI cL u (p1, 0, 0, 0, 0, (fun _ => 0), (fun _ => 0), (fun _ => 0), (fun _ => 0), (fun _ => 0), (fun _ => 0))) ++ kpl cI cL ad (List.range N) Rs) := hD
      rw [show nI N + (1 : Int32) = nI (N + 1) from nI_1 N, kg_grow hN6] at hP hD
      obtain ⟨hP, hD⟩ := kp_grow hP hD
      refine lv_iload_n hx hb dL_tendon_49 rfl (lv_at hl 0 rfl) ?_
      have k0 := Option.some.inj hf
      obtain ⟨e0, k1⟩ := Prod.mk.inj k0
      obtain ⟨e1, k2⟩ := Prod.mk.inj k1
      subst e0
      subst e1
      subst k2
      subst hQ
      refine W.widen (k := 8) (n := 72) (by decide) (by decide) ?_
      exact W.iret (v := nI N) hx hb hr (fun t ht hW => ⟨⟨nI N, va_up ad N u, rfl, ⟨rfl, fun k hk => by simp [va_up, Nat.ne_of_lt hk]⟩, by rw [ht]; exact hP, va_K.moved hW.alike hK, hD⟩, hS.F ht⟩) hS.2.2 dL_tendon_50
    · exact hbad ls hl (o_f hf c_18)
