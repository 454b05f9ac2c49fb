-- ===== PART A: goes FIRST, ahead of the names: the tables' words, and 'selects' of the private methods out of them =====
/-- a private method of a class that the tables say can be made, by its rows of tables_1 -/
def lw_okq (q : MethodName × Nat) : Prop := (q.1.cls ≠ "java/lang/invoke/MethodHandle" ∧ q.1.cls ≠ "java/lang/invoke/VarHandle") ∧ Cond.instantiable q.1.cls q.2 ∈ tables_1 ∧ Cond.privateMethod q.1 ∈ tables_1 ∧ Cond.instanceMethod q.1 ∈ tables_1
theorem lw_p0 : lw_okq (⟨"TendonLosses", "find", "(I)LTendonLosses$Tendon;"⟩, 9) := ⟨⟨by decide +kernel, by decide +kernel⟩, List.mem_of_getElem? (i := 8) (by decide +kernel), List.mem_of_getElem? (i := 132) (by decide +kernel), List.mem_of_getElem? (i := 133) (by decide +kernel)⟩
theorem lw_p1 : lw_okq (⟨"TendonLosses$Duct", "measurePiece", "(I)V"⟩, 5) := ⟨⟨by decide +kernel, by decide +kernel⟩, List.mem_of_getElem? (i := 74) (by decide +kernel), List.mem_of_getElem? (i := 146) (by decide +kernel), List.mem_of_getElem? (i := 147) (by decide +kernel)⟩
theorem lw_p2 : lw_okq (⟨"TendonLosses$Tendon", "strain", "([JIILTendonLosses$Friction;)V"⟩, 7) := ⟨⟨by decide +kernel, by decide +kernel⟩, List.mem_of_getElem? (i := 68) (by decide +kernel), List.mem_of_getElem? (i := 184) (by decide +kernel), List.mem_of_getElem? (i := 185) (by decide +kernel)⟩
theorem lw_p3 : lw_okq (⟨"TendonLosses$Tendon", "strainFromEnd", "([JIILTendonLosses$Friction;)V"⟩, 7) := ⟨⟨by decide +kernel, by decide +kernel⟩, List.mem_of_getElem? (i := 68) (by decide +kernel), List.mem_of_getElem? (i := 188) (by decide +kernel), List.mem_of_getElem? (i := 189) (by decide +kernel)⟩
theorem lw_p4 : lw_okq (⟨"TendonLosses$Tendon", "stretchOf", "(IJ)J"⟩, 7) := ⟨⟨by decide +kernel, by decide +kernel⟩, List.mem_of_getElem? (i := 68) (by decide +kernel), List.mem_of_getElem? (i := 232) (by decide +kernel), List.mem_of_getElem? (i := 233) (by decide +kernel)⟩
theorem lw_p5 : lw_okq (⟨"TendonLosses$Tendon", "slipAtEnd", "(IILTendonLosses$Friction;)V"⟩, 7) := ⟨⟨by decide +kernel, by decide +kernel⟩, List.mem_of_getElem? (i := 68) (by decide +kernel), List.mem_of_getElem? (i := 248) (by decide +kernel), List.mem_of_getElem? (i := 249) (by decide +kernel)⟩
theorem lw_p6 : lw_okq (⟨"TendonLosses$Tendon", "tryAnchor", "(IILTendonLosses$Friction;)V"⟩, 7) := ⟨⟨by decide +kernel, by decide +kernel⟩, List.mem_of_getElem? (i := 68) (by decide +kernel), List.mem_of_getElem? (i := 252) (by decide +kernel), List.mem_of_getElem? (i := 253) (by decide +kernel)⟩
theorem lw_p7 : lw_okq (⟨"TendonLosses$Tendon", "shortening", "()J"⟩, 7) := ⟨⟨by decide +kernel, by decide +kernel⟩, List.mem_of_getElem? (i := 68) (by decide +kernel), List.mem_of_getElem? (i := 256) (by decide +kernel), List.mem_of_getElem? (i := 257) (by decide +kernel)⟩
theorem lw_p8 : lw_okq (⟨"TendonLosses", "weakenLockedOnes", "(J)V"⟩, 9) := ⟨⟨by decide +kernel, by decide +kernel⟩, List.mem_of_getElem? (i := 8) (by decide +kernel), List.mem_of_getElem? (i := 265) (by decide +kernel), List.mem_of_getElem? (i := 266) (by decide +kernel)⟩
theorem lw_p9 : lw_okq (⟨"TendonLosses", "forgetLocked", "(I)V"⟩, 9) := ⟨⟨by decide +kernel, by decide +kernel⟩, List.mem_of_getElem? (i := 8) (by decide +kernel), List.mem_of_getElem? (i := 277) (by decide +kernel), List.mem_of_getElem? (i := 278) (by decide +kernel)⟩
theorem lw_p10 : lw_okq (⟨"TendonLosses", "findStrained", "(I)LTendonLosses$Tendon;"⟩, 9) := ⟨⟨by decide +kernel, by decide +kernel⟩, List.mem_of_getElem? (i := 8) (by decide +kernel), List.mem_of_getElem? (i := 294) (by decide +kernel), List.mem_of_getElem? (i := 295) (by decide +kernel)⟩
theorem lw_p11 : lw_okq (⟨"TendonLosses$Duct", "scaledHeight", "(II)J"⟩, 5) := ⟨⟨by decide +kernel, by decide +kernel⟩, List.mem_of_getElem? (i := 74) (by decide +kernel), List.mem_of_getElem? (i := 354) (by decide +kernel), List.mem_of_getElem? (i := 355) (by decide +kernel)⟩
theorem lw_p12 : lw_okq (⟨"TendonLosses", "countPulled", "()I"⟩, 9) := ⟨⟨by decide +kernel, by decide +kernel⟩, List.mem_of_getElem? (i := 8) (by decide +kernel), List.mem_of_getElem? (i := 381) (by decide +kernel), List.mem_of_getElem? (i := 382) (by decide +kernel)⟩
theorem lw_p13 : lw_okq (⟨"TendonLosses", "countPoints", "()I"⟩, 9) := ⟨⟨by decide +kernel, by decide +kernel⟩, List.mem_of_getElem? (i := 8) (by decide +kernel), List.mem_of_getElem? (i := 385) (by decide +kernel), List.mem_of_getElem? (i := 386) (by decide +kernel)⟩
theorem lw_p14 : lw_okq (⟨"TendonLossesModel", "isTendon", "(I)Z"⟩, 20) := ⟨⟨by decide +kernel, by decide +kernel⟩, List.mem_of_getElem? (i := 389) (by decide +kernel), List.mem_of_getElem? (i := 466) (by decide +kernel), List.mem_of_getElem? (i := 467) (by decide +kernel)⟩
theorem lw_p15 : lw_okq (⟨"TendonLossesModel", "drawAll", "(IIJ)V"⟩, 20) := ⟨⟨by decide +kernel, by decide +kernel⟩, List.mem_of_getElem? (i := 389) (by decide +kernel), List.mem_of_getElem? (i := 484) (by decide +kernel), List.mem_of_getElem? (i := 485) (by decide +kernel)⟩
def lw_privs_1 : List (MethodName × Nat) := [(⟨"TendonLosses", "find", "(I)LTendonLosses$Tendon;"⟩, 9), (⟨"TendonLosses$Duct", "measurePiece", "(I)V"⟩, 5), (⟨"TendonLosses$Tendon", "strain", "([JIILTendonLosses$Friction;)V"⟩, 7), (⟨"TendonLosses$Tendon", "strainFromEnd", "([JIILTendonLosses$Friction;)V"⟩, 7), (⟨"TendonLosses$Tendon", "stretchOf", "(IJ)J"⟩, 7), (⟨"TendonLosses$Tendon", "slipAtEnd", "(IILTendonLosses$Friction;)V"⟩, 7), (⟨"TendonLosses$Tendon", "tryAnchor", "(IILTendonLosses$Friction;)V"⟩, 7), (⟨"TendonLosses$Tendon", "shortening", "()J"⟩, 7), (⟨"TendonLosses", "weakenLockedOnes", "(J)V"⟩, 9), (⟨"TendonLosses", "forgetLocked", "(I)V"⟩, 9), (⟨"TendonLosses", "findStrained", "(I)LTendonLosses$Tendon;"⟩, 9), (⟨"TendonLosses$Duct", "scaledHeight", "(II)J"⟩, 5), (⟨"TendonLosses", "countPulled", "()I"⟩, 9), (⟨"TendonLosses", "countPoints", "()I"⟩, 9), (⟨"TendonLossesModel", "isTendon", "(I)Z"⟩, 20), (⟨"TendonLossesModel", "drawAll", "(IIJ)V"⟩, 20)]
theorem lw_r1 : ∀ q ∈ lw_privs_1, lw_okq q := List.forall_mem_cons.mpr ⟨lw_p0, List.forall_mem_cons.mpr ⟨lw_p1, List.forall_mem_cons.mpr ⟨lw_p2, List.forall_mem_cons.mpr ⟨lw_p3, List.forall_mem_cons.mpr ⟨lw_p4, List.forall_mem_cons.mpr ⟨lw_p5, List.forall_mem_cons.mpr ⟨lw_p6, List.forall_mem_cons.mpr ⟨lw_p7, List.forall_mem_cons.mpr ⟨lw_p8, List.forall_mem_cons.mpr ⟨lw_p9, List.forall_mem_cons.mpr ⟨lw_p10, List.forall_mem_cons.mpr ⟨lw_p11, List.forall_mem_cons.mpr ⟨lw_p12, List.forall_mem_cons.mpr ⟨lw_p13, List.forall_mem_cons.mpr ⟨lw_p14, List.forall_mem_cons.mpr ⟨lw_p15, fun _ h => absurd h List.not_mem_nil⟩⟩⟩⟩⟩⟩⟩⟩⟩⟩⟩⟩⟩⟩⟩⟩
theorem lw_p16 : lw_okq (⟨"TendonLossesModel", "draw", "(IZJ[J)V"⟩, 20) := ⟨⟨by decide +kernel, by decide +kernel⟩, List.mem_of_getElem? (i := 389) (by decide +kernel), List.mem_of_getElem? (i := 488) (by decide +kernel), List.mem_of_getElem? (i := 489) (by decide +kernel)⟩
theorem lw_p17 : lw_okq (⟨"TendonLossesModel", "lengthOf", "(II)J"⟩, 20) := ⟨⟨by decide +kernel, by decide +kernel⟩, List.mem_of_getElem? (i := 389) (by decide +kernel), List.mem_of_getElem? (i := 492) (by decide +kernel), List.mem_of_getElem? (i := 493) (by decide +kernel)⟩
theorem lw_p18 : lw_okq (⟨"TendonLossesModel", "byRough", "(JJ)J"⟩, 20) := ⟨⟨by decide +kernel, by decide +kernel⟩, List.mem_of_getElem? (i := 389) (by decide +kernel), List.mem_of_getElem? (i := 501) (by decide +kernel), List.mem_of_getElem? (i := 502) (by decide +kernel)⟩
theorem lw_p19 : lw_okq (⟨"TendonLossesModel", "turnOf", "(II)I"⟩, 20) := ⟨⟨by decide +kernel, by decide +kernel⟩, List.mem_of_getElem? (i := 389) (by decide +kernel), List.mem_of_getElem? (i := 506) (by decide +kernel), List.mem_of_getElem? (i := 507) (by decide +kernel)⟩
theorem lw_p20 : lw_okq (⟨"TendonLossesModel", "slopeOf", "(II)I"⟩, 20) := ⟨⟨by decide +kernel, by decide +kernel⟩, List.mem_of_getElem? (i := 389) (by decide +kernel), List.mem_of_getElem? (i := 510) (by decide +kernel), List.mem_of_getElem? (i := 511) (by decide +kernel)⟩
theorem lw_p21 : lw_okq (⟨"TendonLossesModel", "byTurn", "(JI)J"⟩, 20) := ⟨⟨by decide +kernel, by decide +kernel⟩, List.mem_of_getElem? (i := 389) (by decide +kernel), List.mem_of_getElem? (i := 514) (by decide +kernel), List.mem_of_getElem? (i := 515) (by decide +kernel)⟩
theorem lw_p22 : lw_okq (⟨"TendonLossesModel", "longerOf", "(I)I"⟩, 20) := ⟨⟨by decide +kernel, by decide +kernel⟩, List.mem_of_getElem? (i := 389) (by decide +kernel), List.mem_of_getElem? (i := 519) (by decide +kernel), List.mem_of_getElem? (i := 520) (by decide +kernel)⟩
theorem lw_p23 : lw_okq (⟨"TendonLossesModel", "letSlip", "(IZ)V"⟩, 20) := ⟨⟨by decide +kernel, by decide +kernel⟩, List.mem_of_getElem? (i := 389) (by decide +kernel), List.mem_of_getElem? (i := 529) (by decide +kernel), List.mem_of_getElem? (i := 530) (by decide +kernel)⟩
theorem lw_p24 : lw_okq (⟨"TendonLossesModel", "tryOut", "(IZJ)J"⟩, 20) := ⟨⟨by decide +kernel, by decide +kernel⟩, List.mem_of_getElem? (i := 389) (by decide +kernel), List.mem_of_getElem? (i := 533) (by decide +kernel), List.mem_of_getElem? (i := 534) (by decide +kernel)⟩
theorem lw_p25 : lw_okq (⟨"TendonLossesModel", "hasForces", "(I)Z"⟩, 20) := ⟨⟨by decide +kernel, by decide +kernel⟩, List.mem_of_getElem? (i := 389) (by decide +kernel), List.mem_of_getElem? (i := 541) (by decide +kernel), List.mem_of_getElem? (i := 542) (by decide +kernel)⟩
theorem lw_p26 : lw_okq (⟨"TendonLossesModel", "apart", "(III)J"⟩, 20) := ⟨⟨by decide +kernel, by decide +kernel⟩, List.mem_of_getElem? (i := 389) (by decide +kernel), List.mem_of_getElem? (i := 574) (by decide +kernel), List.mem_of_getElem? (i := 575) (by decide +kernel)⟩
theorem lw_p27 : lw_okq (⟨"TendonLossesModel", "pieceAt", "(II)I"⟩, 20) := ⟨⟨by decide +kernel, by decide +kernel⟩, List.mem_of_getElem? (i := 389) (by decide +kernel), List.mem_of_getElem? (i := 578) (by decide +kernel), List.mem_of_getElem? (i := 579) (by decide +kernel)⟩
theorem lw_p28 : lw_okq (⟨"TendonLossesModel", "unit", "(III)J"⟩, 20) := ⟨⟨by decide +kernel, by decide +kernel⟩, List.mem_of_getElem? (i := 389) (by decide +kernel), List.mem_of_getElem? (i := 582) (by decide +kernel), List.mem_of_getElem? (i := 583) (by decide +kernel)⟩
def lw_privs_2 : List (MethodName × Nat) := [(⟨"TendonLossesModel", "draw", "(IZJ[J)V"⟩, 20), (⟨"TendonLossesModel", "lengthOf", "(II)J"⟩, 20), (⟨"TendonLossesModel", "byRough", "(JJ)J"⟩, 20), (⟨"TendonLossesModel", "turnOf", "(II)I"⟩, 20), (⟨"TendonLossesModel", "slopeOf", "(II)I"⟩, 20), (⟨"TendonLossesModel", "byTurn", "(JI)J"⟩, 20), (⟨"TendonLossesModel", "longerOf", "(I)I"⟩, 20), (⟨"TendonLossesModel", "letSlip", "(IZ)V"⟩, 20), (⟨"TendonLossesModel", "tryOut", "(IZJ)J"⟩, 20), (⟨"TendonLossesModel", "hasForces", "(I)Z"⟩, 20), (⟨"TendonLossesModel", "apart", "(III)J"⟩, 20), (⟨"TendonLossesModel", "pieceAt", "(II)I"⟩, 20), (⟨"TendonLossesModel", "unit", "(III)J"⟩, 20)]
theorem lw_r2 : ∀ q ∈ lw_privs_2, lw_okq q := List.forall_mem_cons.mpr ⟨lw_p16, List.forall_mem_cons.mpr ⟨lw_p17, List.forall_mem_cons.mpr ⟨lw_p18, List.forall_mem_cons.mpr ⟨lw_p19, List.forall_mem_cons.mpr ⟨lw_p20, List.forall_mem_cons.mpr ⟨lw_p21, List.forall_mem_cons.mpr ⟨lw_p22, List.forall_mem_cons.mpr ⟨lw_p23, List.forall_mem_cons.mpr ⟨lw_p24, List.forall_mem_cons.mpr ⟨lw_p25, List.forall_mem_cons.mpr ⟨lw_p26, List.forall_mem_cons.mpr ⟨lw_p27, List.forall_mem_cons.mpr ⟨lw_p28, fun _ h => absurd h List.not_mem_nil⟩⟩⟩⟩⟩⟩⟩⟩⟩⟩⟩⟩⟩
def lw_privs : List (MethodName × Nat) := lw_privs_1 ++ (lw_privs_2)
def lw_tbl : List Cond := k2_sels lw_privs ++ tables_1
theorem lw_privs_ok : ∀ q ∈ lw_privs, lw_okq q := by
  show ∀ q ∈ lw_privs_1 ++ (lw_privs_2), lw_okq q
  exact List.forall_mem_append.mpr ⟨lw_r1, lw_r2⟩
/-! ===== names: classes, fields, methods ===== -/
def gt : List Cond := lw_tbl.filter goodWord
theorem gt_in {w : Cond} (h : w ∈ lw_tbl) (g : goodWord w = true) : w ∈ gt := List.mem_filter.mpr ⟨h, g⟩
theorem gt_good : GoodIn gt gt := fun w h => ⟨h, good_of_word (List.mem_filter.mp h).2⟩
theorem gd_code {c : Cond} (h : c ∈ gt) : GoodIn gt (c :: gt) := fun w hw => (List.mem_cons.mp hw).elim (fun e => by rw [e]; exact gt_good c h) (fun h => gt_good w h)
def TT_D : u_T := fun k => match k with
  | 0 => ("TendonLosses$Duct", "xs", "[I", true)
  | 1 => ("TendonLosses$Duct", "ys", "[I", true)
  | 2 => ("TendonLosses$Duct", "lengths", "[I", true)
  | 3 => ("TendonLosses$Duct", "slopes", "[I", true)
  | _ => ("TendonLosses$Duct", "size", "I", false)
def ty_D : Nat → FieldType := fun k => match k with
  | 0 => .array .int
  | 1 => .array .int
  | 2 => .array .int
  | 3 => .array .int
  | _ => .int
theorem nn_D : ∀ a, a < 5 → ∀ b, b < 5 → a ≠ b → (TT_D a).2.1 ≠ (TT_D b).2.1 := by decide +kernel
theorem ty_D_ok : ∀ k, k < 5 → parseFieldDescriptor (TT_D k).2.2.1 = some (ty_D k) := by decide +kernel
theorem in_D : ∀ w ∈ u_ws "TendonLosses$Duct" TT_D 5, w ∈ gt := by
  have h : ∀ w ∈ u_ws "TendonLosses$Duct" TT_D 5, w ∈ lw_tbl ∧ goodWord w = true := by decide +kernel
  exact fun w hw => gt_in (h w hw).1 (h w hw).2
def TT_F : u_T := fun k => match k with
  | 0 => ("TendonLosses$Friction", "rough", "I", false)
  | _ => ("TendonLosses$Friction", "mu", "I", false)
def ty_F : Nat → FieldType := fun k => match k with
  | 0 => .int
  | _ => .int
theorem nn_F : ∀ a, a < 2 → ∀ b, b < 2 → a ≠ b → (TT_F a).2.1 ≠ (TT_F b).2.1 := by decide +kernel
theorem ty_F_ok : ∀ k, k < 2 → parseFieldDescriptor (TT_F k).2.2.1 = some (ty_F k) := by decide +kernel
theorem in_F : ∀ w ∈ u_ws "TendonLosses$Friction" TT_F 2, w ∈ gt := by
  have h : ∀ w ∈ u_ws "TendonLosses$Friction" TT_F 2, w ∈ lw_tbl ∧ goodWord w = true := by decide +kernel
  exact fun w hw => gt_in (h w hw).1 (h w hw).2
def TT_T : u_T := fun k => match k with
  | 0 => ("TendonLosses$Tendon", "duct", "LTendonLosses$Duct;", true)
  | 1 => ("TendonLosses$Tendon", "area", "I", true)
  | 2 => ("TendonLosses$Tendon", "forces", "[J", true)
  | 3 => ("TendonLosses$Tendon", "tried", "[J", true)
  | 4 => ("TendonLosses$Tendon", "state", "I", false)
  | 5 => ("TendonLosses$Tendon", "pulledFrom", "I", false)
  | _ => ("TendonLosses$Tendon", "pulledWith", "I", false)
def ty_T : Nat → FieldType := fun k => match k with
  | 0 => .object "TendonLosses$Duct"
  | 1 => .int
  | 2 => .array .long
  | 3 => .array .long
  | 4 => .int
  | 5 => .int
  | _ => .int
theorem nn_T : ∀ a, a < 7 → ∀ b, b < 7 → a ≠ b → (TT_T a).2.1 ≠ (TT_T b).2.1 := by decide +kernel
theorem ty_T_ok : ∀ k, k < 7 → parseFieldDescriptor (TT_T k).2.2.1 = some (ty_T k) := by decide +kernel
theorem in_T : ∀ w ∈ u_ws "TendonLosses$Tendon" TT_T 7, w ∈ gt := by
  have h : ∀ w ∈ u_ws "TendonLosses$Tendon" TT_T 7, w ∈ lw_tbl ∧ goodWord w = true := by decide +kernel
  exact fun w hw => gt_in (h w hw).1 (h w hw).2
def TT_L : u_T := fun k => match k with
  | 0 => ("TendonLosses", "tendons", "[LTendonLosses$Tendon;", true)
  | 1 => ("TendonLosses", "lockedOnes", "[I", true)
  | 2 => ("TendonLosses", "friction", "LTendonLosses$Friction;", true)
  | 3 => ("TendonLosses", "tendonCount", "I", false)
  | 4 => ("TendonLosses", "lockedCount", "I", false)
  | 5 => ("TendonLosses", "dayCount", "I", false)
  | 6 => ("TendonLosses", "slip", "I", false)
  | 7 => ("TendonLosses", "share", "I", false)
  | _ => ("TendonLosses", "fade", "I", false)
def ty_L : Nat → FieldType := fun k => match k with
  | 0 => .array (.object "TendonLosses$Tendon")
  | 1 => .array .int
  | 2 => .object "TendonLosses$Friction"
  | 3 => .int
  | 4 => .int
  | 5 => .int
  | 6 => .int
  | 7 => .int
  | _ => .int
theorem nn_L : ∀ a, a < 9 → ∀ b, b < 9 → a ≠ b → (TT_L a).2.1 ≠ (TT_L b).2.1 := by decide +kernel
theorem ty_L_ok : ∀ k, k < 9 → parseFieldDescriptor (TT_L k).2.2.1 = some (ty_L k) := by decide +kernel
theorem in_L : ∀ w ∈ u_ws "TendonLosses" TT_L 9, w ∈ gt := by
  have h : ∀ w ∈ u_ws "TendonLosses" TT_L 9, w ∈ lw_tbl ∧ goodWord w = true := by decide +kernel
  exact fun w hw => gt_in (h w hw).1 (h w hw).2
def TT_M : u_T := fun k => match k with
  | 0 => ("TendonLossesModel", "thrown", "I", false)
  | 1 => ("TendonLossesModel", "tendons", "I", false)
  | 2 => ("TendonLossesModel", "areas", "[I", true)
  | 3 => ("TendonLossesModel", "sizes", "[I", true)
  | 4 => ("TendonLossesModel", "states", "[I", true)
  | 5 => ("TendonLossesModel", "ends", "[I", true)
  | 6 => ("TendonLossesModel", "pulls", "[I", true)
  | 7 => ("TendonLossesModel", "xs", "[I", true)
  | 8 => ("TendonLossesModel", "ys", "[I", true)
  | 9 => ("TendonLossesModel", "forces", "[J", true)
  | 10 => ("TendonLossesModel", "order", "[I", true)
  | 11 => ("TendonLossesModel", "lockedOnes", "I", false)
  | 12 => ("TendonLossesModel", "rough", "I", false)
  | 13 => ("TendonLossesModel", "mu", "I", false)
  | 14 => ("TendonLossesModel", "slip", "I", false)
  | 15 => ("TendonLossesModel", "share", "I", false)
  | 16 => ("TendonLossesModel", "fade", "I", false)
  | 17 => ("TendonLossesModel", "days", "I", false)
  | 18 => ("TendonLossesModel", "one", "[J", true)
  | _ => ("TendonLossesModel", "two", "[J", true)
def ty_M : Nat → FieldType := fun k => match k with
  | 0 => .int
  | 1 => .int
  | 2 => .array .int
  | 3 => .array .int
  | 4 => .array .int
  | 5 => .array .int
  | 6 => .array .int
  | 7 => .array .int
  | 8 => .array .int
  | 9 => .array .long
  | 10 => .array .int
  | 11 => .int
  | 12 => .int
  | 13 => .int
  | 14 => .int
  | 15 => .int
  | 16 => .int
  | 17 => .int
  | 18 => .array .long
  | _ => .array .long
theorem nn_M : ∀ a, a < 20 → ∀ b, b < 20 → a ≠ b → (TT_M a).2.1 ≠ (TT_M b).2.1 := by decide +kernel
theorem ty_M_ok : ∀ k, k < 20 → parseFieldDescriptor (TT_M k).2.2.1 = some (ty_M k) := by decide +kernel
theorem in_M : ∀ w ∈ u_ws "TendonLossesModel" TT_M 20, w ∈ gt := by
  have h : ∀ w ∈ u_ws "TendonLossesModel" TT_M 20, w ∈ lw_tbl ∧ goodWord w = true := by decide +kernel
  exact fun w hw => gt_in (h w hw).1 (h w hw).2
abbrev vwCl : List vw_C := [("TendonLosses$Duct", TT_D, 5), ("TendonLosses$Friction", TT_F, 2), ("TendonLosses$Tendon", TT_T, 7), ("TendonLosses", TT_L, 9), ("TendonLossesModel", TT_M, 20)]
def yD_init : MethodName := ⟨"TendonLosses$Duct", "<init>", "()V"⟩
abbrev bD_init : ByteArray := prog_2_method_1_code
def wD_init : List Cond := .code yD_init bD_init 1 none :: gt
def yD_mayGoOnTo : MethodName := ⟨"TendonLosses$Duct", "mayGoOnTo", "(II)Z"⟩
abbrev bD_mayGoOnTo : ByteArray := prog_2_method_2_code
def wD_mayGoOnTo : List Cond := .code yD_mayGoOnTo bD_mayGoOnTo 4 (some .boolean) :: gt
def yD_goOnTo : MethodName := ⟨"TendonLosses$Duct", "goOnTo", "(II)V"⟩
abbrev bD_goOnTo : ByteArray := prog_2_method_3_code
def wD_goOnTo : List Cond := .code yD_goOnTo bD_goOnTo 3 none :: gt
def yD_measurePiece : MethodName := ⟨"TendonLosses$Duct", "measurePiece", "(I)V"⟩
abbrev bD_measurePiece : ByteArray := prog_2_method_4_code
def wD_measurePiece : List Cond := .code yD_measurePiece bD_measurePiece 6 none :: gt
def yD_rootOf : MethodName := ⟨"TendonLosses$Duct", "rootOf", "(J)I"⟩
abbrev bD_rootOf : ByteArray := prog_2_method_5_code
def wD_rootOf : List Cond := .code yD_rootOf bD_rootOf 9 (some .int) :: gt
def yD_hasPoint : MethodName := ⟨"TendonLosses$Duct", "hasPoint", "(I)Z"⟩
abbrev bD_hasPoint : ByteArray := prog_2_method_6_code
def wD_hasPoint : List Cond := .code yD_hasPoint bD_hasPoint 2 (some .boolean) :: gt
def yD_hasPiece : MethodName := ⟨"TendonLosses$Duct", "hasPiece", "(I)Z"⟩
abbrev bD_hasPiece : ByteArray := prog_2_method_7_code
def wD_hasPiece : List Cond := .code yD_hasPiece bD_hasPiece 2 (some .boolean) :: gt
def yD_hasPieces : MethodName := ⟨"TendonLosses$Duct", "hasPieces", "()Z"⟩
abbrev bD_hasPieces : ByteArray := prog_2_method_8_code
def wD_hasPieces : List Cond := .code yD_hasPieces bD_hasPieces 1 (some .boolean) :: gt
def yD_isBetweenPieces : MethodName := ⟨"TendonLosses$Duct", "isBetweenPieces", "(I)Z"⟩
abbrev bD_isBetweenPieces : ByteArray := prog_2_method_9_code
def wD_isBetweenPieces : List Cond := .code yD_isBetweenPieces bD_isBetweenPieces 2 (some .boolean) :: gt
def yD_widthOf : MethodName := ⟨"TendonLosses$Duct", "widthOf", "(I)I"⟩
abbrev bD_widthOf : ByteArray := prog_2_method_10_code
def wD_widthOf : List Cond := .code yD_widthOf bD_widthOf 2 (some .int) :: gt
def yD_bendAt : MethodName := ⟨"TendonLosses$Duct", "bendAt", "(I)I"⟩
abbrev bD_bendAt : ByteArray := prog_2_method_11_code
def wD_bendAt : List Cond := .code yD_bendAt bD_bendAt 2 (some .int) :: gt
def yD_turnAt : MethodName := ⟨"TendonLosses$Duct", "turnAt", "(I)I"⟩
abbrev bD_turnAt : ByteArray := prog_2_method_12_code
def wD_turnAt : List Cond := .code yD_turnAt bD_turnAt 2 (some .int) :: gt
def yD_pieceOver : MethodName := ⟨"TendonLosses$Duct", "pieceOver", "(I)I"⟩
abbrev bD_pieceOver : ByteArray := prog_2_method_13_code
def wD_pieceOver : List Cond := .code yD_pieceOver bD_pieceOver 3 (some .int) :: gt
def yD_pointOnWay : MethodName := ⟨"TendonLosses$Duct", "pointOnWay", "(II)I"⟩
abbrev bD_pointOnWay : ByteArray := prog_2_method_14_code
def wD_pointOnWay : List Cond := .code yD_pointOnWay bD_pointOnWay 3 (some .int) :: gt
def yD_lengthBefore : MethodName := ⟨"TendonLosses$Duct", "lengthBefore", "(II)I"⟩
abbrev bD_lengthBefore : ByteArray := prog_2_method_15_code
def wD_lengthBefore : List Cond := .code yD_lengthBefore bD_lengthBefore 3 (some .int) :: gt
def yD_comeNearer : MethodName := ⟨"TendonLosses$Duct", "comeNearer", "(LTendonLosses$Duct;LTendonLosses$Duct;I)Z"⟩
abbrev bD_comeNearer : ByteArray := prog_2_method_16_code
def wD_comeNearer : List Cond := .code yD_comeNearer bD_comeNearer 5 (some .boolean) :: gt
def yD_piecesComeNearer : MethodName := ⟨"TendonLosses$Duct", "piecesComeNearer", "(LTendonLosses$Duct;ILTendonLosses$Duct;II)Z"⟩
abbrev bD_piecesComeNearer : ByteArray := prog_2_method_17_code
def wD_piecesComeNearer : List Cond := .code yD_piecesComeNearer bD_piecesComeNearer 14 (some .boolean) :: gt
def yD_scaledDistance : MethodName := ⟨"TendonLosses$Duct", "scaledDistance", "(LTendonLosses$Duct;ILTendonLosses$Duct;II)J"⟩
abbrev bD_scaledDistance : ByteArray := prog_2_method_18_code
def wD_scaledDistance : List Cond := .code yD_scaledDistance bD_scaledDistance 5 (some .long) :: gt
def yD_scaledHeight : MethodName := ⟨"TendonLosses$Duct", "scaledHeight", "(II)J"⟩
abbrev bD_scaledHeight : ByteArray := prog_2_method_19_code
def wD_scaledHeight : List Cond := .code yD_scaledHeight bD_scaledHeight 5 (some .long) :: gt
def yF_init : MethodName := ⟨"TendonLosses$Friction", "<init>", "()V"⟩
abbrev bF_init : ByteArray := prog_3_method_1_code
def wF_init : List Cond := .code yF_init bF_init 1 none :: gt
def yF_alongPiece : MethodName := ⟨"TendonLosses$Friction", "alongPiece", "(JI)J"⟩
abbrev bF_alongPiece : ByteArray := prog_3_method_2_code
def wF_alongPiece : List Cond := .code yF_alongPiece bF_alongPiece 4 (some .long) :: gt
def yF_atTurn : MethodName := ⟨"TendonLosses$Friction", "atTurn", "(JI)J"⟩
abbrev bF_atTurn : ByteArray := prog_3_method_3_code
def wF_atTurn : List Cond := .code yF_atTurn bF_atTurn 4 (some .long) :: gt
def yT_init : MethodName := ⟨"TendonLosses$Tendon", "<init>", "(I)V"⟩
abbrev bT_init : ByteArray := prog_4_method_1_code
def wT_init : List Cond := .code yT_init bT_init 2 none :: gt
def yT_startPulling : MethodName := ⟨"TendonLosses$Tendon", "startPulling", "(IILTendonLosses$Friction;)V"⟩
abbrev bT_startPulling : ByteArray := prog_4_method_2_code
def wT_startPulling : List Cond := .code yT_startPulling bT_startPulling 4 none :: gt
def yT_leastForceIfPulled : MethodName := ⟨"TendonLosses$Tendon", "leastForceIfPulled", "(IILTendonLosses$Friction;)J"⟩
abbrev bT_leastForceIfPulled : ByteArray := prog_4_method_3_code
def wT_leastForceIfPulled : List Cond := .code yT_leastForceIfPulled bT_leastForceIfPulled 7 (some .long) :: gt
def yT_strain : MethodName := ⟨"TendonLosses$Tendon", "strain", "([JIILTendonLosses$Friction;)V"⟩
abbrev bT_strain : ByteArray := prog_4_method_4_code
def wT_strain : List Cond := .code yT_strain bT_strain 6 none :: gt
def yT_strainFromEnd : MethodName := ⟨"TendonLosses$Tendon", "strainFromEnd", "([JIILTendonLosses$Friction;)V"⟩
abbrev bT_strainFromEnd : ByteArray := prog_4_method_5_code
def wT_strainFromEnd : List Cond := .code yT_strainFromEnd bT_strainFromEnd 9 none :: gt
def yT_slipBack : MethodName := ⟨"TendonLosses$Tendon", "slipBack", "(ILTendonLosses$Friction;)V"⟩
abbrev bT_slipBack : ByteArray := prog_4_method_6_code
def wT_slipBack : List Cond := .code yT_slipBack bT_slipBack 3 none :: gt
def yT_slipAtEnd : MethodName := ⟨"TendonLosses$Tendon", "slipAtEnd", "(IILTendonLosses$Friction;)V"⟩
abbrev bT_slipAtEnd : ByteArray := prog_4_method_7_code
def wT_slipAtEnd : List Cond := .code yT_slipAtEnd bT_slipAtEnd 8 none :: gt
def yT_tryAnchor : MethodName := ⟨"TendonLosses$Tendon", "tryAnchor", "(IILTendonLosses$Friction;)V"⟩
abbrev bT_tryAnchor : ByteArray := prog_4_method_8_code
def wT_tryAnchor : List Cond := .code yT_tryAnchor bT_tryAnchor 8 none :: gt
def yT_shortening : MethodName := ⟨"TendonLosses$Tendon", "shortening", "()J"⟩
abbrev bT_shortening : ByteArray := prog_4_method_9_code
def wT_shortening : List Cond := .code yT_shortening bT_shortening 4 (some .long) :: gt
def yT_stretch : MethodName := ⟨"TendonLosses$Tendon", "stretch", "()J"⟩
abbrev bT_stretch : ByteArray := prog_4_method_10_code
def wT_stretch : List Cond := .code yT_stretch bT_stretch 4 (some .long) :: gt
def yT_stretchOf : MethodName := ⟨"TendonLosses$Tendon", "stretchOf", "(IJ)J"⟩
abbrev bT_stretchOf : ByteArray := prog_4_method_11_code
def wT_stretchOf : List Cond := .code yT_stretchOf bT_stretchOf 4 (some .long) :: gt
def yT_meanForce : MethodName := ⟨"TendonLosses$Tendon", "meanForce", "()J"⟩
abbrev bT_meanForce : ByteArray := prog_4_method_12_code
def wT_meanForce : List Cond := .code yT_meanForce bT_meanForce 4 (some .long) :: gt
def yT_loseEverywhere : MethodName := ⟨"TendonLosses$Tendon", "loseEverywhere", "(J)V"⟩
abbrev bT_loseEverywhere : ByteArray := prog_4_method_13_code
def wT_loseEverywhere : List Cond := .code yT_loseEverywhere bT_loseEverywhere 4 none :: gt
def yT_fadeAway : MethodName := ⟨"TendonLosses$Tendon", "fadeAway", "(II)V"⟩
abbrev bT_fadeAway : ByteArray := prog_4_method_14_code
def wT_fadeAway : List Cond := .code yT_fadeAway bT_fadeAway 5 none :: gt
def yT_forceOn : MethodName := ⟨"TendonLosses$Tendon", "forceOn", "(II)J"⟩
abbrev bT_forceOn : ByteArray := prog_4_method_15_code
def wT_forceOn : List Cond := .code yT_forceOn bT_forceOn 7 (some .long) :: gt
def yL_init : MethodName := ⟨"TendonLosses", "<init>", "()V"⟩
abbrev bL_init : ByteArray := prog_1_method_1_code
def wL_init : List Cond := .code yL_init bL_init 1 none :: gt
def yL_tendon : MethodName := ⟨"TendonLosses", "tendon", "(I)I"⟩
abbrev bL_tendon : ByteArray := prog_1_method_2_code
def wL_tendon : List Cond := .code yL_tendon bL_tendon 3 (some .int) :: gt
def yL_point : MethodName := ⟨"TendonLosses", "point", "(III)I"⟩
abbrev bL_point : ByteArray := prog_1_method_3_code
def wL_point : List Cond := .code yL_point bL_point 5 (some .int) :: gt
def yL_friction : MethodName := ⟨"TendonLosses", "friction", "(II)Z"⟩
abbrev bL_friction : ByteArray := prog_1_method_4_code
def wL_friction : List Cond := .code yL_friction bL_friction 3 (some .boolean) :: gt
def yL_losses : MethodName := ⟨"TendonLosses", "losses", "(III)Z"⟩
abbrev bL_losses : ByteArray := prog_1_method_5_code
def wL_losses : List Cond := .code yL_losses bL_losses 4 (some .boolean) :: gt
def yL_pull : MethodName := ⟨"TendonLosses", "pull", "(III)I"⟩
abbrev bL_pull : ByteArray := prog_1_method_6_code
def wL_pull : List Cond := .code yL_pull bL_pull 5 (some .int) :: gt
def yL_lock : MethodName := ⟨"TendonLosses", "lock", "(I)I"⟩
abbrev bL_lock : ByteArray := prog_1_method_7_code
def wL_lock : List Cond := .code yL_lock bL_lock 5 (some .int) :: gt
def yL_cut : MethodName := ⟨"TendonLosses", "cut", "(I)Z"⟩
abbrev bL_cut : ByteArray := prog_1_method_8_code
def wL_cut : List Cond := .code yL_cut bL_cut 3 (some .boolean) :: gt
def yL_days : MethodName := ⟨"TendonLosses", "days", "(I)I"⟩
abbrev bL_days : ByteArray := prog_1_method_9_code
def wL_days : List Cond := .code yL_days bL_days 4 (some .int) :: gt
def yL_force : MethodName := ⟨"TendonLosses", "force", "(II)I"⟩
abbrev bL_force : ByteArray := prog_1_method_10_code
def wL_force : List Cond := .code yL_force bL_force 4 (some .int) :: gt
def yL_at : MethodName := ⟨"TendonLosses", "at", "(II)I"⟩
abbrev bL_at : ByteArray := prog_1_method_11_code
def wL_at : List Cond := .code yL_at bL_at 5 (some .int) :: gt
def yL_longer : MethodName := ⟨"TendonLosses", "longer", "(I)I"⟩
abbrev bL_longer : ByteArray := prog_1_method_12_code
def wL_longer : List Cond := .code yL_longer bL_longer 3 (some .int) :: gt
def yL_piece : MethodName := ⟨"TendonLosses", "piece", "(III)I"⟩
abbrev bL_piece : ByteArray := prog_1_method_13_code
def wL_piece : List Cond := .code yL_piece bL_piece 5 (some .int) :: gt
def yL_presses : MethodName := ⟨"TendonLosses", "presses", "(II)I"⟩
abbrev bL_presses : ByteArray := prog_1_method_14_code
def wL_presses : List Cond := .code yL_presses bL_presses 4 (some .int) :: gt
def yL_clash : MethodName := ⟨"TendonLosses", "clash", "(III)Z"⟩
abbrev bL_clash : ByteArray := prog_1_method_15_code
def wL_clash : List Cond := .code yL_clash bL_clash 6 (some .boolean) :: gt
def yL_locked : MethodName := ⟨"TendonLosses", "locked", "(I)I"⟩
abbrev bL_locked : ByteArray := prog_1_method_16_code
def wL_locked : List Cond := .code yL_locked bL_locked 2 (some .int) :: gt
def yL_wanted : MethodName := ⟨"TendonLosses", "wanted", "(IIII)I"⟩
abbrev bL_wanted : ByteArray := prog_1_method_17_code
def wL_wanted : List Cond := .code yL_wanted bL_wanted 8 (some .int) :: gt
def yL_count : MethodName := ⟨"TendonLosses", "count", "(I)I"⟩
abbrev bL_count : ByteArray := prog_1_method_18_code
def wL_count : List Cond := .code yL_count bL_count 2 (some .int) :: gt
def yL_isWithin : MethodName := ⟨"TendonLosses", "isWithin", "(III)Z"⟩
abbrev bL_isWithin : ByteArray := prog_1_method_19_code
def wL_isWithin : List Cond := .code yL_isWithin bL_isWithin 3 (some .boolean) :: gt
def yL_find : MethodName := ⟨"TendonLosses", "find", "(I)LTendonLosses$Tendon;"⟩
abbrev bL_find : ByteArray := prog_1_method_20_code
def wL_find : List Cond := .code yL_find bL_find 2 (some (.object "TendonLosses$Tendon")) :: gt
def yL_findStrained : MethodName := ⟨"TendonLosses", "findStrained", "(I)LTendonLosses$Tendon;"⟩
abbrev bL_findStrained : ByteArray := prog_1_method_21_code
def wL_findStrained : List Cond := .code yL_findStrained bL_findStrained 3 (some (.object "TendonLosses$Tendon")) :: gt
def yL_weakenLockedOnes : MethodName := ⟨"TendonLosses", "weakenLockedOnes", "(J)V"⟩
abbrev bL_weakenLockedOnes : ByteArray := prog_1_method_22_code
def wL_weakenLockedOnes : List Cond := .code yL_weakenLockedOnes bL_weakenLockedOnes 5 none :: gt
def yL_forgetLocked : MethodName := ⟨"TendonLosses", "forgetLocked", "(I)V"⟩
abbrev bL_forgetLocked : ByteArray := prog_1_method_23_code
def wL_forgetLocked : List Cond := .code yL_forgetLocked bL_forgetLocked 4 none :: gt
def yL_countPulled : MethodName := ⟨"TendonLosses", "countPulled", "()I"⟩
abbrev bL_countPulled : ByteArray := prog_1_method_24_code
def wL_countPulled : List Cond := .code yL_countPulled bL_countPulled 4 (some .int) :: gt
def yL_countPoints : MethodName := ⟨"TendonLosses", "countPoints", "()I"⟩
abbrev bL_countPoints : ByteArray := prog_1_method_25_code
def wL_countPoints : List Cond := .code yL_countPoints bL_countPoints 4 (some .int) :: gt
def yL_quotient : MethodName := ⟨"TendonLosses", "quotient", "(JJ)J"⟩
abbrev bL_quotient : ByteArray := prog_1_method_26_code
def wL_quotient : List Cond := .code yL_quotient bL_quotient 4 (some .long) :: gt
def yM_init : MethodName := ⟨"TendonLossesModel", "<init>", "()V"⟩
abbrev bM_init : ByteArray := prog_6_method_1_code
def wM_init : List Cond := .code yM_init bM_init 1 none :: gt
def yM_in : MethodName := ⟨"TendonLossesModel", "in", "(III)Z"⟩
abbrev bM_in : ByteArray := prog_6_method_3_code
def wM_in : List Cond := .code yM_in bM_in 3 (some .boolean) :: gt
def yM_isTendon : MethodName := ⟨"TendonLossesModel", "isTendon", "(I)Z"⟩
abbrev bM_isTendon : ByteArray := prog_6_method_4_code
def wM_isTendon : List Cond := .code yM_isTendon bM_isTendon 2 (some .boolean) :: gt
def yM_hasForces : MethodName := ⟨"TendonLossesModel", "hasForces", "(I)Z"⟩
abbrev bM_hasForces : ByteArray := prog_6_method_5_code
def wM_hasForces : List Cond := .code yM_hasForces bM_hasForces 2 (some .boolean) :: gt
def yM_tendon : MethodName := ⟨"TendonLossesModel", "tendon", "(I)I"⟩
abbrev bM_tendon : ByteArray := prog_6_method_6_code
def wM_tendon : List Cond := .code yM_tendon bM_tendon 2 (some .int) :: gt
def yM_point : MethodName := ⟨"TendonLossesModel", "point", "(III)I"⟩
abbrev bM_point : ByteArray := prog_6_method_7_code
def wM_point : List Cond := .code yM_point bM_point 5 (some .int) :: gt
def yM_friction : MethodName := ⟨"TendonLossesModel", "friction", "(II)Z"⟩
abbrev bM_friction : ByteArray := prog_6_method_8_code
def wM_friction : List Cond := .code yM_friction bM_friction 3 (some .boolean) :: gt
def yM_losses : MethodName := ⟨"TendonLossesModel", "losses", "(III)Z"⟩
abbrev bM_losses : ByteArray := prog_6_method_9_code
def wM_losses : List Cond := .code yM_losses bM_losses 4 (some .boolean) :: gt
def yM_root : MethodName := ⟨"TendonLossesModel", "root", "(J)J"⟩
abbrev bM_root : ByteArray := prog_6_method_10_code
def wM_root : List Cond := .code yM_root bM_root 8 (some .long) :: gt
def yM_lengthOf : MethodName := ⟨"TendonLossesModel", "lengthOf", "(II)J"⟩
abbrev bM_lengthOf : ByteArray := prog_6_method_11_code
def wM_lengthOf : List Cond := .code yM_lengthOf bM_lengthOf 7 (some .long) :: gt
def yM_slopeOf : MethodName := ⟨"TendonLossesModel", "slopeOf", "(II)I"⟩
abbrev bM_slopeOf : ByteArray := prog_6_method_12_code
def wM_slopeOf : List Cond := .code yM_slopeOf bM_slopeOf 5 (some .int) :: gt
def yM_turnOf : MethodName := ⟨"TendonLossesModel", "turnOf", "(II)I"⟩
abbrev bM_turnOf : ByteArray := prog_6_method_13_code
def wM_turnOf : List Cond := .code yM_turnOf bM_turnOf 4 (some .int) :: gt
def yM_byRough : MethodName := ⟨"TendonLossesModel", "byRough", "(JJ)J"⟩
abbrev bM_byRough : ByteArray := prog_6_method_14_code
def wM_byRough : List Cond := .code yM_byRough bM_byRough 5 (some .long) :: gt
def yM_byTurn : MethodName := ⟨"TendonLossesModel", "byTurn", "(JI)J"⟩
abbrev bM_byTurn : ByteArray := prog_6_method_15_code
def wM_byTurn : List Cond := .code yM_byTurn bM_byTurn 4 (some .long) :: gt
def yM_draw : MethodName := ⟨"TendonLossesModel", "draw", "(IZJ[J)V"⟩
abbrev bM_draw : ByteArray := prog_6_method_16_code
def wM_draw : List Cond := .code yM_draw bM_draw 13 none :: gt
def yM_drawAll : MethodName := ⟨"TendonLossesModel", "drawAll", "(IIJ)V"⟩
abbrev bM_drawAll : ByteArray := prog_6_method_17_code
def wM_drawAll : List Cond := .code yM_drawAll bM_drawAll 6 none :: gt
def yM_longerOf : MethodName := ⟨"TendonLossesModel", "longerOf", "(I)I"⟩
abbrev bM_longerOf : ByteArray := prog_6_method_18_code
def wM_longerOf : List Cond := .code yM_longerOf bM_longerOf 7 (some .int) :: gt
def yM_pull : MethodName := ⟨"TendonLossesModel", "pull", "(III)I"⟩
abbrev bM_pull : ByteArray := prog_6_method_19_code
def wM_pull : List Cond := .code yM_pull bM_pull 5 (some .int) :: gt
def yM_tryOut : MethodName := ⟨"TendonLossesModel", "tryOut", "(IZJ)J"⟩
abbrev bM_tryOut : ByteArray := prog_6_method_20_code
def wM_tryOut : List Cond := .code yM_tryOut bM_tryOut 14 (some .long) :: gt
def yM_letSlip : MethodName := ⟨"TendonLossesModel", "letSlip", "(IZ)V"⟩
abbrev bM_letSlip : ByteArray := prog_6_method_21_code
def wM_letSlip : List Cond := .code yM_letSlip bM_letSlip 10 none :: gt
def yM_lock : MethodName := ⟨"TendonLossesModel", "lock", "(I)I"⟩
abbrev bM_lock : ByteArray := prog_6_method_22_code
def wM_lock : List Cond := .code yM_lock bM_lock 10 (some .int) :: gt
def yM_cut : MethodName := ⟨"TendonLossesModel", "cut", "(I)Z"⟩
abbrev bM_cut : ByteArray := prog_6_method_23_code
def wM_cut : List Cond := .code yM_cut bM_cut 4 (some .boolean) :: gt
def yM_days : MethodName := ⟨"TendonLossesModel", "days", "(I)I"⟩
abbrev bM_days : ByteArray := prog_6_method_24_code
def wM_days : List Cond := .code yM_days bM_days 6 (some .int) :: gt
def yM_force : MethodName := ⟨"TendonLossesModel", "force", "(II)I"⟩
abbrev bM_force : ByteArray := prog_6_method_25_code
def wM_force : List Cond := .code yM_force bM_force 3 (some .int) :: gt
def yM_at : MethodName := ⟨"TendonLossesModel", "at", "(II)I"⟩
abbrev bM_at : ByteArray := prog_6_method_26_code
def wM_at : List Cond := .code yM_at bM_at 5 (some .int) :: gt
def yM_longer : MethodName := ⟨"TendonLossesModel", "longer", "(I)I"⟩
abbrev bM_longer : ByteArray := prog_6_method_27_code
def wM_longer : List Cond := .code yM_longer bM_longer 2 (some .int) :: gt
def yM_piece : MethodName := ⟨"TendonLossesModel", "piece", "(III)I"⟩
abbrev bM_piece : ByteArray := prog_6_method_28_code
def wM_piece : List Cond := .code yM_piece bM_piece 4 (some .int) :: gt
def yM_presses : MethodName := ⟨"TendonLossesModel", "presses", "(II)I"⟩
abbrev bM_presses : ByteArray := prog_6_method_29_code
def wM_presses : List Cond := .code yM_presses bM_presses 5 (some .int) :: gt
def yM_pieceAt : MethodName := ⟨"TendonLossesModel", "pieceAt", "(II)I"⟩
abbrev bM_pieceAt : ByteArray := prog_6_method_30_code
def wM_pieceAt : List Cond := .code yM_pieceAt bM_pieceAt 4 (some .int) :: gt
def yM_apart : MethodName := ⟨"TendonLossesModel", "apart", "(III)J"⟩
abbrev bM_apart : ByteArray := prog_6_method_31_code
def wM_apart : List Cond := .code yM_apart bM_apart 14 (some .long) :: gt
def yM_unit : MethodName := ⟨"TendonLossesModel", "unit", "(III)J"⟩
abbrev bM_unit : ByteArray := prog_6_method_32_code
def wM_unit : List Cond := .code yM_unit bM_unit 6 (some .long) :: gt
def yM_clash : MethodName := ⟨"TendonLossesModel", "clash", "(III)Z"⟩
abbrev bM_clash : ByteArray := prog_6_method_33_code
def wM_clash : List Cond := .code yM_clash bM_clash 16 (some .boolean) :: gt
def yM_locked : MethodName := ⟨"TendonLossesModel", "locked", "(I)I"⟩
abbrev bM_locked : ByteArray := prog_6_method_34_code
def wM_locked : List Cond := .code yM_locked bM_locked 2 (some .int) :: gt
def yM_wanted : MethodName := ⟨"TendonLossesModel", "wanted", "(IIII)I"⟩
abbrev bM_wanted : ByteArray := prog_6_method_35_code
def wM_wanted : List Cond := .code yM_wanted bM_wanted 9 (some .int) :: gt
def yM_count : MethodName := ⟨"TendonLossesModel", "count", "(I)I"⟩
abbrev bM_count : ByteArray := prog_6_method_36_code
def wM_count : List Cond := .code yM_count bM_count 5 (some .int) :: gt
