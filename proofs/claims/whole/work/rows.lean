section
-- ===== PART A: goes FIRST, ahead of the names: the tables' words, and 'selects' of the private methods out of them =====
/-- a private method of a class that the tables say can be made, by its rows of tables_1 -/
def lw_okq (q : MethodName × Nat) : Prop := (q.1.cls ≠ "java/lang/invoke/MethodHandle" ∧ q.1.cls ≠ "java/lang/invoke/VarHandle") ∧ Cond.instantiable q.1.cls q.2 ∈ tables_1 ∧ Cond.privateMethod q.1 ∈ tables_1 ∧ Cond.instanceMethod q.1 ∈ tables_1
theorem lw_p0 : lw_okq (⟨"TendonLosses", "find", "(I)LTendonLosses$Tendon;"⟩, 9) := ⟨⟨by decide +kernel, by decide +kernel⟩, List.mem_of_getElem? (i := 8) (by decide +kernel), List.mem_of_getElem? (i := 132) (by decide +kernel), List.mem_of_getElem? (i := 133) (by decide +kernel)⟩
theorem lw_p1 : lw_okq (⟨"TendonLosses$Duct", "measurePiece", "(I)V"⟩, 5) := ⟨⟨by decide +kernel, by decide +kernel⟩, List.mem_of_getElem? (i := 74) (by decide +kernel), List.mem_of_getElem? (i := 146) (by decide +kernel), List.mem_of_getElem? (i := 147) (by decide +kernel)⟩
theorem lw_p2 : lw_okq (⟨"TendonLosses$Tendon", "strain", "([JIILTendonLosses$Friction;)V"⟩, 7) := ⟨⟨by decide +kernel, by decide +kernel⟩, List.mem_of_getElem? (i := 68) (by decide +kernel), List.mem_of_getElem? (i := 184) (by decide +kernel), List.mem_of_getElem? (i := 185) (by decide +kernel)⟩
theorem lw_p3 : lw_okq (⟨"TendonLosses$Tendon", "strainFromEnd", "([JIILTendonLosses$Friction;)V"⟩, 7) := ⟨⟨by decide +kernel, by decide +kernel⟩, List.mem_of_getElem? (i := 68) (by decide +kernel), List.mem_of_getElem? (i := 188) (by decide +kernel), List.mem_of_getElem? (i := 189) (by decide +kernel)⟩
theorem lw_p4 : lw_okq (⟨"TendonLosses$Tendon", "stretchOf", "(IJ)J"⟩, 7) := ⟨⟨by decide +kernel, by decide +kernel⟩, List.mem_of_getElem? (i := 68) (by decide +kernel), List.mem_of_getElem? (i := 232) (by decide +kernel), List.mem_of_getElem? (i := 233) (by decide +kernel)⟩
theorem lw_p5 : lw_okq (⟨"TendonLosses$Tendon", "slipAtEnd", "(IILTendonLosses$Friction;)V"⟩, 7) := ⟨⟨by decide +kernel, by decide +kernel⟩, List.mem_of_getElem? (i := 68) (by decide +kernel), List.mem_of_getElem? (i := 248) (by decide +kernel), List.mem_of_getElem? (i := 249) (by decide +kernel)⟩
theorem lw_p6 : lw_okq (⟨"TendonLosses$Tendon", "tryAnchor", "(IILTendonLosses$Friction;)V"⟩, 7) := ⟨⟨by decide +kernel, by decide +kernel⟩, List.mem_of_getElem? (i := 68) (by decide +kernel), List.mem_of_getElem? (i := 252) (by decide +kernel), List.mem_of_getElem? (i := 253) (by decide +kernel)⟩
theorem lw_p7 : lw_okq (⟨"TendonLosses$Tendon", "shortening", "()J"⟩, 7) := ⟨⟨by decide +kernel, by decide +kernel⟩, List.mem_of_getElem? (i := 68) (by decide +kernel), List.mem_of_getElem? (i := 256) (by decide +kernel), List.mem_of_getElem? (i := 257) (by decide +kernel)⟩
theorem lw_p8 : lw_okq (⟨"TendonLosses", "weakenLockedOnes", "(J)V"⟩, 9) := ⟨⟨by decide +kernel, by decide +kernel⟩, List.mem_of_getElem? (i := 8) (by decide +kernel), List.mem_of_getElem? (i := 265) (by decide +kernel), List.mem_of_getElem? (i := 266) (by decide +kernel)⟩
theorem lw_p9 : lw_okq (⟨"TendonLosses", "forgetLocked", "(I)V"⟩, 9) := ⟨⟨by decide +kernel, by decide +kernel⟩, List.mem_of_getElem? (i := 8) (by decide +kernel), List.mem_of_getElem? (i := 277) (by decide +kernel), List.mem_of_getElem? (i := 278) (by decide +kernel)⟩
theorem lw_p10 : lw_okq (⟨"TendonLosses", "findStrained", "(I)LTendonLosses$Tendon;"⟩, 9) := ⟨⟨by decide +kernel, by decide +kernel⟩, List.mem_of_getElem? (i := 8) (by decide +kernel), List.mem_of_getElem? (i := 294) (by decide +kernel), List.mem_of_getElem? (i := 295) (by decide +kernel)⟩
theorem lw_p11 : lw_okq (⟨"TendonLosses$Duct", "scaledHeight", "(II)J"⟩, 5) := ⟨⟨by decide +kernel, by decide +kernel⟩, List.mem_of_getElem? (i := 74) (by decide +kernel), List.mem_of_getElem? (i := 354) (by decide +kernel), List.mem_of_getElem? (i := 355) (by decide +kernel)⟩
theorem lw_p12 : lw_okq (⟨"TendonLosses", "countPulled", "()I"⟩, 9) := ⟨⟨by decide +kernel, by decide +kernel⟩, List.mem_of_getElem? (i := 8) (by decide +kernel), List.mem_of_getElem? (i := 381) (by decide +kernel), List.mem_of_getElem? (i := 382) (by decide +kernel)⟩
theorem lw_p13 : lw_okq (⟨"TendonLosses", "countPoints", "()I"⟩, 9) := ⟨⟨by decide +kernel, by decide +kernel⟩, List.mem_of_getElem? (i := 8) (by decide +kernel), List.mem_of_getElem? (i := 385) (by decide +kernel), List.mem_of_getElem? (i := 386) (by decide +kernel)⟩
theorem lw_p14 : lw_okq (⟨"TendonLossesModel", "isTendon", "(I)Z"⟩, 20) := ⟨⟨by decide +kernel, by decide +kernel⟩, List.mem_of_getElem? (i := 389) (by decide +kernel), List.mem_of_getElem? (i := 466) (by decide +kernel), List.mem_of_getElem? (i := 467) (by decide +kernel)⟩
theorem lw_p15 : lw_okq (⟨"TendonLossesModel", "drawAll", "(IIJ)V"⟩, 20) := ⟨⟨by decide +kernel, by decide +kernel⟩, List.mem_of_getElem? (i := 389) (by decide +kernel), List.mem_of_getElem? (i := 484) (by decide +kernel), List.mem_of_getElem? (i := 485) (by decide +kernel)⟩
def lw_privs_1 : List (MethodName × Nat) := [(⟨"TendonLosses", "find", "(I)LTendonLosses$Tendon;"⟩, 9), (⟨"TendonLosses$Duct", "measurePiece", "(I)V"⟩, 5), (⟨"TendonLosses$Tendon", "strain", "([JIILTendonLosses$Friction;)V"⟩, 7), (⟨"TendonLosses$Tendon", "strainFromEnd", "([JIILTendonLosses$Friction;)V"⟩, 7), (⟨"TendonLosses$Tendon", "stretchOf", "(IJ)J"⟩, 7), (⟨"TendonLosses$Tendon", "slipAtEnd", "(IILTendonLosses$Friction;)V"⟩, 7), (⟨"TendonLosses$Tendon", "tryAnchor", "(IILTendonLosses$Friction;)V"⟩, 7), (⟨"TendonLosses$Tendon", "shortening", "()J"⟩, 7), (⟨"TendonLosses", "weakenLockedOnes", "(J)V"⟩, 9), (⟨"TendonLosses", "forgetLocked", "(I)V"⟩, 9), (⟨"TendonLosses", "findStrained", "(I)LTendonLosses$Tendon;"⟩, 9), (⟨"TendonLosses$Duct", "scaledHeight", "(II)J"⟩, 5), (⟨"TendonLosses", "countPulled", "()I"⟩, 9), (⟨"TendonLosses", "countPoints", "()I"⟩, 9), (⟨"TendonLossesModel", "isTendon", "(I)Z"⟩, 20), (⟨"TendonLossesModel", "drawAll", "(IIJ)V"⟩, 20)]
theorem lw_r1 : ∀ q ∈ lw_privs_1, lw_okq q := List.forall_mem_cons.mpr ⟨lw_p0, List.forall_mem_cons.mpr ⟨lw_p1, List.forall_mem_cons.mpr ⟨lw_p2, List.forall_mem_cons.mpr ⟨lw_p3, List.forall_mem_cons.mpr ⟨lw_p4, List.forall_mem_cons.mpr ⟨lw_p5, List.forall_mem_cons.mpr ⟨lw_p6, List.forall_mem_cons.mpr ⟨lw_p7, List.forall_mem_cons.mpr ⟨lw_p8, List.forall_mem_cons.mpr ⟨lw_p9, List.forall_mem_cons.mpr ⟨lw_p10, List.forall_mem_cons.mpr ⟨lw_p11, List.forall_mem_cons.mpr ⟨lw_p12, List.forall_mem_cons.mpr ⟨lw_p13, List.forall_mem_cons.mpr ⟨lw_p14, List.forall_mem_cons.mpr ⟨lw_p15, fun _ h => absurd h List.not_mem_nil⟩⟩⟩⟩⟩⟩⟩⟩⟩⟩⟩⟩⟩⟩⟩⟩
theorem lw_p16 : lw_okq (⟨"TendonLossesModel", "draw", "(IZJ[J)V"⟩, 20) := ⟨⟨by decide +kernel, by decide +kernel⟩, List.mem_of_getElem? (i := 389) (by decide +kernel), List.mem_of_getElem? (i := 488) (by decide +kernel), List.mem_of_getElem? (i := 489) (by decide +kernel)⟩
theorem lw_p17 : lw_okq (⟨"TendonLossesModel", "lengthOf", "(II)J"⟩, 20) := ⟨⟨by decide +kernel, by decide +kernel⟩, List.mem_of_getElem? (i := 389) (by decide +kernel), List.mem_of_getElem? (i := 492) (by decide +kernel), List.mem_of_getElem? (i := 493) (by decide +kernel)⟩
theorem lw_p18 : lw_okq (⟨"TendonLossesModel", "byRough", "(JJ)J"⟩, 20) := ⟨⟨by decide +kernel, by decide +kernel⟩, List.mem_of_getElem? (i := 389) (by decide +kernel), List.mem_of_getElem? (i := 501) (by decide +kernel), List.mem_of_getElem? (i := 502) (by decide +kernel)⟩
theorem lw_p19 : lw_okq (⟨"TendonLossesModel", "turnOf", "(II)I"⟩, 20) := ⟨⟨by decide +kernel, by decide +kernel⟩, List.mem_of_getElem? (i := 389) (by decide +kernel), List.mem_of_getElem? (i := 506) (by decide +kernel), List.mem_of_getElem? (i := 507) (by decide +kernel)⟩
theorem lw_p20 : lw_okq (⟨"TendonLossesModel", "slopeOf", "(II)I"⟩, 20) := ⟨⟨by decide +kernel, by decide +kernel⟩, List.mem_of_getElem? (i := 389) (by decide +kernel), List.mem_of_getElem? (i := 510) (by decide +kernel), List.mem_of_getElem? (i := 511) (by decide +kernel)⟩
theorem lw_p21 : lw_okq (⟨"TendonLossesModel", "byTurn", "(JI)J"⟩, 20) := ⟨⟨by decide +kernel, by decide +kernel⟩, List.mem_of_getElem? (i := 389) (by decide +kernel), List.mem_of_getElem? (i := 514) (by decide +kernel), List.mem_of_getElem? (i := 515) (by decide +kernel)⟩
theorem lw_p22 : lw_okq (⟨"TendonLossesModel", "longerOf", "(I)I"⟩, 20) := ⟨⟨by decide +kernel, by decide +kernel⟩, List.mem_of_getElem? (i := 389) (by decide +kernel), List.mem_of_getElem? (i := 519) (by decide +kernel), List.mem_of_getElem? (i := 520) (by decide +kernel)⟩
theorem lw_p23 : lw_okq (⟨"TendonLossesModel", "letSlip", "(IZ)V"⟩, 20) := ⟨⟨by decide +kernel, by decide +kernel⟩, List.mem_of_getElem? (i := 389) (by decide +kernel), List.mem_of_getElem? (i := 529) (by decide +kernel), List.mem_of_getElem? (i := 530) (by decide +kernel)⟩
theorem lw_p24 : lw_okq (⟨"TendonLossesModel", "tryOut", "(IZJ)J"⟩, 20) := ⟨⟨by decide +kernel, by decide +kernel⟩, List.mem_of_getElem? (i := 389) (by decide +kernel), List.mem_of_getElem? (i := 533) (by decide +kernel), List.mem_of_getElem? (i := 534) (by decide +kernel)⟩
theorem lw_p25 : lw_okq (⟨"TendonLossesModel", "hasForces", "(I)Z"⟩, 20) := ⟨⟨by decide +kernel, by decide +kernel⟩, List.mem_of_getElem? (i := 389) (by decide +kernel), List.mem_of_getElem? (i := 541) (by decide +kernel), List.mem_of_getElem? (i := 542) (by decide +kernel)⟩
theorem lw_p26 : lw_okq (⟨"TendonLossesModel", "apart", "(III)J"⟩, 20) := ⟨⟨by decide +kernel, by decide +kernel⟩, List.mem_of_getElem? (i := 389) (by decide +kernel), List.mem_of_getElem? (i := 574) (by decide +kernel), List.mem_of_getElem? (i := 575) (by decide +kernel)⟩
theorem lw_p27 : lw_okq (⟨"TendonLossesModel", "pieceAt", "(II)I"⟩, 20) := ⟨⟨by decide +kernel, by decide +kernel⟩, List.mem_of_getElem? (i := 389) (by decide +kernel), List.mem_of_getElem? (i := 578) (by decide +kernel), List.mem_of_getElem? (i := 579) (by decide +kernel)⟩
theorem lw_p28 : lw_okq (⟨"TendonLossesModel", "unit", "(III)J"⟩, 20) := ⟨⟨by decide +kernel, by decide +kernel⟩, List.mem_of_getElem? (i := 389) (by decide +kernel), List.mem_of_getElem? (i := 582) (by decide +kernel), List.mem_of_getElem? (i := 583) (by decide +kernel)⟩
def lw_privs_2 : List (MethodName × Nat) := [(⟨"TendonLossesModel", "draw", "(IZJ[J)V"⟩, 20), (⟨"TendonLossesModel", "lengthOf", "(II)J"⟩, 20), (⟨"TendonLossesModel", "byRough", "(JJ)J"⟩, 20), (⟨"TendonLossesModel", "turnOf", "(II)I"⟩, 20), (⟨"TendonLossesModel", "slopeOf", "(II)I"⟩, 20), (⟨"TendonLossesModel", "byTurn", "(JI)J"⟩, 20), (⟨"TendonLossesModel", "longerOf", "(I)I"⟩, 20), (⟨"TendonLossesModel", "letSlip", "(IZ)V"⟩, 20), (⟨"TendonLossesModel", "tryOut", "(IZJ)J"⟩, 20), (⟨"TendonLossesModel", "hasForces", "(I)Z"⟩, 20), (⟨"TendonLossesModel", "apart", "(III)J"⟩, 20), (⟨"TendonLossesModel", "pieceAt", "(II)I"⟩, 20), (⟨"TendonLossesModel", "unit", "(III)J"⟩, 20)]
theorem lw_r2 : ∀ q ∈ lw_privs_2, lw_okq q := List.forall_mem_cons.mpr ⟨lw_p16, List.forall_mem_cons.mpr ⟨lw_p17, List.forall_mem_cons.mpr ⟨lw_p18, List.forall_mem_cons.mpr ⟨lw_p19, List.forall_mem_cons.mpr ⟨lw_p20, List.forall_mem_cons.mpr ⟨lw_p21, List.forall_mem_cons.mpr ⟨lw_p22, List.forall_mem_cons.mpr ⟨lw_p23, List.forall_mem_cons.mpr ⟨lw_p24, List.forall_mem_cons.mpr ⟨lw_p25, List.forall_mem_cons.mpr ⟨lw_p26, List.forall_mem_cons.mpr ⟨lw_p27, List.forall_mem_cons.mpr ⟨lw_p28, fun _ h => absurd h List.not_mem_nil⟩⟩⟩⟩⟩⟩⟩⟩⟩⟩⟩⟩⟩
def lw_privs : List (MethodName × Nat) := lw_privs_1 ++ (lw_privs_2)
def lw_tbl : List Cond := k2_sels lw_privs ++ tables_1
theorem lw_privs_ok : ∀ q ∈ lw_privs, lw_okq q := by
  show ∀ q ∈ lw_privs_1 ++ (lw_privs_2), lw_okq q
  exact List.forall_mem_append.mpr ⟨lw_r1, lw_r2⟩
/-! ===== names: classes, fields, methods ===== -/
def gt : List Cond := lw_tbl.filter goodWord
theorem gt_in {w : Cond} (h : w ∈ lw_tbl) (g : goodWord w = true) : w ∈ gt := List.mem_filter.mpr ⟨h, g⟩
theorem gt_good : GoodIn gt gt := fun w h => ⟨h, good_of_word (List.mem_filter.mp h).2⟩
theorem gd_code {c : Cond} (h : c ∈ gt) : GoodIn gt (c :: gt) := fun w hw => (List.mem_cons.mp hw).elim (fun e => by rw [e]; exact gt_good c h) (fun h => gt_good w h)
def TT_D : u_T := fun k => match k with
  | 0 => ("TendonLosses$Duct", "xs", "[I", true)
  | 1 => ("TendonLosses$Duct", "ys", "[I", true)
  | 2 => ("TendonLosses$Duct", "lengths", "[I", true)
  | 3 => ("TendonLosses$Duct", "slopes", "[I", true)
  | _ => ("TendonLosses$Duct", "size", "I", false)
def ty_D : Nat → FieldType := fun k => match k with
  | 0 => .array .int
  | 1 => .array .int
  | 2 => .array .int
  | 3 => .array .int
  | _ => .int
theorem nn_D : ∀ a, a < 5 → ∀ b, b < 5 → a ≠ b → (TT_D a).2.1 ≠ (TT_D b).2.1 := by decide +kernel
theorem ty_D_ok : ∀ k, k < 5 → parseFieldDescriptor (TT_D k).2.2.1 = some (ty_D k) := by decide +kernel
theorem in_D : ∀ w ∈ u_ws "TendonLosses$Duct" TT_D 5, w ∈ gt := by
  have h : ∀ w ∈ u_ws "TendonLosses$Duct" TT_D 5, w ∈ lw_tbl ∧ goodWord w = true := by decide +kernel
  exact fun w hw => gt_in (h w hw).1 (h w hw).2
def TT_F : u_T := fun k => match k with
  | 0 => ("TendonLosses$Friction", "rough", "I", false)
  | _ => ("TendonLosses$Friction", "mu", "I", false)
def ty_F : Nat → FieldType := fun k => match k with
  | 0 => .int
  | _ => .int
theorem nn_F : ∀ a, a < 2 → ∀ b, b < 2 → a ≠ b → (TT_F a).2.1 ≠ (TT_F b).2.1 := by decide +kernel
theorem ty_F_ok : ∀ k, k < 2 → parseFieldDescriptor (TT_F k).2.2.1 = some (ty_F k) := by decide +kernel
theorem in_F : ∀ w ∈ u_ws "TendonLosses$Friction" TT_F 2, w ∈ gt := by
  have h : ∀ w ∈ u_ws "TendonLosses$Friction" TT_F 2, w ∈ lw_tbl ∧ goodWord w = true := by decide +kernel
  exact fun w hw => gt_in (h w hw).1 (h w hw).2
def TT_T : u_T := fun k => match k with
  | 0 => ("TendonLosses$Tendon", "duct", "LTendonLosses$Duct;", true)
  | 1 => ("TendonLosses$Tendon", "area", "I", true)
  | 2 => ("TendonLosses$Tendon", "forces", "[J", true)
  | 3 => ("TendonLosses$Tendon", "tried", "[J", true)
  | 4 => ("TendonLosses$Tendon", "state", "I", false)
  | 5 => ("TendonLosses$Tendon", "pulledFrom", "I", false)
  | _ => ("TendonLosses$Tendon", "pulledWith", "I", false)
def ty_T : Nat → FieldType := fun k => match k with
  | 0 => .object "TendonLosses$Duct"
  | 1 => .int
  | 2 => .array .long
  | 3 => .array .long
  | 4 => .int
  | 5 => .int
  | _ => .int
theorem nn_T : ∀ a, a < 7 → ∀ b, b < 7 → a ≠ b → (TT_T a).2.1 ≠ (TT_T b).2.1 := by decide +kernel
theorem ty_T_ok : ∀ k, k < 7 → parseFieldDescriptor (TT_T k).2.2.1 = some (ty_T k) := by decide +kernel
theorem in_T : ∀ w ∈ u_ws "TendonLosses$Tendon" TT_T 7, w ∈ gt := by
  have h : ∀ w ∈ u_ws "TendonLosses$Tendon" TT_T 7, w ∈ lw_tbl ∧ goodWord w = true := by decide +kernel
  exact fun w hw => gt_in (h w hw).1 (h w hw).2
def TT_L : u_T := fun k => match k with
  | 0 => ("TendonLosses", "tendons", "[LTendonLosses$Tendon;", true)
  | 1 => ("TendonLosses", "lockedOnes", "[I", true)
  | 2 => ("TendonLosses", "friction", "LTendonLosses$Friction;", true)
  | 3 => ("TendonLosses", "tendonCount", "I", false)
  | 4 => ("TendonLosses", "lockedCount", "I", false)
  | 5 => ("TendonLosses", "dayCount", "I", false)
  | 6 => ("TendonLosses", "slip", "I", false)
  | 7 => ("TendonLosses", "share", "I", false)
  | _ => ("TendonLosses", "fade", "I", false)
def ty_L : Nat → FieldType := fun k => match k with
  | 0 => .array (.object "TendonLosses$Tendon")
  | 1 => .array .int
  | 2 => .object "TendonLosses$Friction"
  | 3 => .int
  | 4 => .int
  | 5 => .int
  | 6 => .int
  | 7 => .int
  | _ => .int
theorem nn_L : ∀ a, a < 9 → ∀ b, b < 9 → a ≠ b → (TT_L a).2.1 ≠ (TT_L b).2.1 := by decide +kernel
theorem ty_L_ok : ∀ k, k < 9 → parseFieldDescriptor (TT_L k).2.2.1 = some (ty_L k) := by decide +kernel
theorem in_L : ∀ w ∈ u_ws "TendonLosses" TT_L 9, w ∈ gt := by
  have h : ∀ w ∈ u_ws "TendonLosses" TT_L 9, w ∈ lw_tbl ∧ goodWord w = true := by decide +kernel
  exact fun w hw => gt_in (h w hw).1 (h w hw).2
def TT_M : u_T := fun k => match k with
  | 0 => ("TendonLossesModel", "thrown", "I", false)
  | 1 => ("TendonLossesModel", "tendons", "I", false)
  | 2 => ("TendonLossesModel", "areas", "[I", true)
  | 3 => ("TendonLossesModel", "sizes", "[I", true)
  | 4 => ("TendonLossesModel", "states", "[I", true)
  | 5 => ("TendonLossesModel", "ends", "[I", true)
  | 6 => ("TendonLossesModel", "pulls", "[I", true)
  | 7 => ("TendonLossesModel", "xs", "[I", true)
  | 8 => ("TendonLossesModel", "ys", "[I", true)
  | 9 => ("TendonLossesModel", "forces", "[J", true)
  | 10 => ("TendonLossesModel", "order", "[I", true)
  | 11 => ("TendonLossesModel", "lockedOnes", "I", false)
  | 12 => ("TendonLossesModel", "rough", "I", false)
  | 13 => ("TendonLossesModel", "mu", "I", false)
  | 14 => ("TendonLossesModel", "slip", "I", false)
  | 15 => ("TendonLossesModel", "share", "I", false)
  | 16 => ("TendonLossesModel", "fade", "I", false)
  | 17 => ("TendonLossesModel", "days", "I", false)
  | 18 => ("TendonLossesModel", "one", "[J", true)
  | _ => ("TendonLossesModel", "two", "[J", true)
def ty_M : Nat → FieldType := fun k => match k with
  | 0 => .int
  | 1 => .int
  | 2 => .array .int
  | 3 => .array .int
  | 4 => .array .int
  | 5 => .array .int
  | 6 => .array .int
  | 7 => .array .int
  | 8 => .array .int
  | 9 => .array .long
  | 10 => .array .int
  | 11 => .int
  | 12 => .int
  | 13 => .int
  | 14 => .int
  | 15 => .int
  | 16 => .int
  | 17 => .int
  | 18 => .array .long
  | _ => .array .long
theorem nn_M : ∀ a, a < 20 → ∀ b, b < 20 → a ≠ b → (TT_M a).2.1 ≠ (TT_M b).2.1 := by decide +kernel
theorem ty_M_ok : ∀ k, k < 20 → parseFieldDescriptor (TT_M k).2.2.1 = some (ty_M k) := by decide +kernel
theorem in_M : ∀ w ∈ u_ws "TendonLossesModel" TT_M 20, w ∈ gt := by
  have h : ∀ w ∈ u_ws "TendonLossesModel" TT_M 20, w ∈ lw_tbl ∧ goodWord w = true := by decide +kernel
  exact fun w hw => gt_in (h w hw).1 (h w hw).2
abbrev vwCl : List vw_C := [("TendonLosses$Duct", TT_D, 5), ("TendonLosses$Friction", TT_F, 2), ("TendonLosses$Tendon", TT_T, 7), ("TendonLosses", TT_L, 9), ("TendonLossesModel", TT_M, 20)]
def yD_init : MethodName := ⟨"TendonLosses$Duct", "<init>", "()V"⟩
abbrev bD_init : ByteArray := prog_2_method_1_code
def wD_init : List Cond := .code yD_init bD_init 1 none :: gt
def yD_mayGoOnTo : MethodName := ⟨"TendonLosses$Duct", "mayGoOnTo", "(II)Z"⟩
abbrev bD_mayGoOnTo : ByteArray := prog_2_method_2_code
def wD_mayGoOnTo : List Cond := .code yD_mayGoOnTo bD_mayGoOnTo 4 (some .boolean) :: gt
def yD_goOnTo : MethodName := ⟨"TendonLosses$Duct", "goOnTo", "(II)V"⟩
abbrev bD_goOnTo : ByteArray := prog_2_method_3_code
def wD_goOnTo : List Cond := .code yD_goOnTo bD_goOnTo 3 none :: gt
def yD_measurePiece : MethodName := ⟨"TendonLosses$Duct", "measurePiece", "(I)V"⟩
abbrev bD_measurePiece : ByteArray := prog_2_method_4_code
def wD_measurePiece : List Cond := .code yD_measurePiece bD_measurePiece 6 none :: gt
def yD_rootOf : MethodName := ⟨"TendonLosses$Duct", "rootOf", "(J)I"⟩
abbrev bD_rootOf : ByteArray := prog_2_method_5_code
def wD_rootOf : List Cond := .code yD_rootOf bD_rootOf 9 (some .int) :: gt
def yD_hasPoint : MethodName := ⟨"TendonLosses$Duct", "hasPoint", "(I)Z"⟩
abbrev bD_hasPoint : ByteArray := prog_2_method_6_code
def wD_hasPoint : List Cond := .code yD_hasPoint bD_hasPoint 2 (some .boolean) :: gt
def yD_hasPiece : MethodName := ⟨"TendonLosses$Duct", "hasPiece", "(I)Z"⟩
abbrev bD_hasPiece : ByteArray := prog_2_method_7_code
def wD_hasPiece : List Cond := .code yD_hasPiece bD_hasPiece 2 (some .boolean) :: gt
def yD_hasPieces : MethodName := ⟨"TendonLosses$Duct", "hasPieces", "()Z"⟩
abbrev bD_hasPieces : ByteArray := prog_2_method_8_code
def wD_hasPieces : List Cond := .code yD_hasPieces bD_hasPieces 1 (some .boolean) :: gt
def yD_isBetweenPieces : MethodName := ⟨"TendonLosses$Duct", "isBetweenPieces", "(I)Z"⟩
abbrev bD_isBetweenPieces : ByteArray := prog_2_method_9_code
def wD_isBetweenPieces : List Cond := .code yD_isBetweenPieces bD_isBetweenPieces 2 (some .boolean) :: gt
def yD_widthOf : MethodName := ⟨"TendonLosses$Duct", "widthOf", "(I)I"⟩
abbrev bD_widthOf : ByteArray := prog_2_method_10_code
def wD_widthOf : List Cond := .code yD_widthOf bD_widthOf 2 (some .int) :: gt
def yD_bendAt : MethodName := ⟨"TendonLosses$Duct", "bendAt", "(I)I"⟩
abbrev bD_bendAt : ByteArray := prog_2_method_11_code
def wD_bendAt : List Cond := .code yD_bendAt bD_bendAt 2 (some .int) :: gt
def yD_turnAt : MethodName := ⟨"TendonLosses$Duct", "turnAt", "(I)I"⟩
abbrev bD_turnAt : ByteArray := prog_2_method_12_code
def wD_turnAt : List Cond := .code yD_turnAt bD_turnAt 2 (some .int) :: gt
def yD_pieceOver : MethodName := ⟨"TendonLosses$Duct", "pieceOver", "(I)I"⟩
abbrev bD_pieceOver : ByteArray := prog_2_method_13_code
def wD_pieceOver : List Cond := .code yD_pieceOver bD_pieceOver 3 (some .int) :: gt
def yD_pointOnWay : MethodName := ⟨"TendonLosses$Duct", "pointOnWay", "(II)I"⟩
abbrev bD_pointOnWay : ByteArray := prog_2_method_14_code
def wD_pointOnWay : List Cond := .code yD_pointOnWay bD_pointOnWay 3 (some .int) :: gt
def yD_lengthBefore : MethodName := ⟨"TendonLosses$Duct", "lengthBefore", "(II)I"⟩
abbrev bD_lengthBefore : ByteArray := prog_2_method_15_code
def wD_lengthBefore : List Cond := .code yD_lengthBefore bD_lengthBefore 3 (some .int) :: gt
def yD_comeNearer : MethodName := ⟨"TendonLosses$Duct", "comeNearer", "(LTendonLosses$Duct;LTendonLosses$Duct;I)Z"⟩
abbrev bD_comeNearer : ByteArray := prog_2_method_16_code
def wD_comeNearer : List Cond := .code yD_comeNearer bD_comeNearer 5 (some .boolean) :: gt
def yD_piecesComeNearer : MethodName := ⟨"TendonLosses$Duct", "piecesComeNearer", "(LTendonLosses$Duct;ILTendonLosses$Duct;II)Z"⟩
abbrev bD_piecesComeNearer : ByteArray := prog_2_method_17_code
def wD_piecesComeNearer : List Cond := .code yD_piecesComeNearer bD_piecesComeNearer 14 (some .boolean) :: gt
def yD_scaledDistance : MethodName := ⟨"TendonLosses$Duct", "scaledDistance", "(LTendonLosses$Duct;ILTendonLosses$Duct;II)J"⟩
abbrev bD_scaledDistance : ByteArray := prog_2_method_18_code
def wD_scaledDistance : List Cond := .code yD_scaledDistance bD_scaledDistance 5 (some .long) :: gt
def yD_scaledHeight : MethodName := ⟨"TendonLosses$Duct", "scaledHeight", "(II)J"⟩
abbrev bD_scaledHeight : ByteArray := prog_2_method_19_code
def wD_scaledHeight : List Cond := .code yD_scaledHeight bD_scaledHeight 5 (some .long) :: gt
def yF_init : MethodName := ⟨"TendonLosses$Friction", "<init>", "()V"⟩
abbrev bF_init : ByteArray := prog_3_method_1_code
def wF_init : List Cond := .code yF_init bF_init 1 none :: gt
def yF_alongPiece : MethodName := ⟨"TendonLosses$Friction", "alongPiece", "(JI)J"⟩
abbrev bF_alongPiece : ByteArray := prog_3_method_2_code
def wF_alongPiece : List Cond := .code yF_alongPiece bF_alongPiece 4 (some .long) :: gt
def yF_atTurn : MethodName := ⟨"TendonLosses$Friction", "atTurn", "(JI)J"⟩
abbrev bF_atTurn : ByteArray := prog_3_method_3_code
def wF_atTurn : List Cond := .code yF_atTurn bF_atTurn 4 (some .long) :: gt
def yT_init : MethodName := ⟨"TendonLosses$Tendon", "<init>", "(I)V"⟩
abbrev bT_init : ByteArray := prog_4_method_1_code
def wT_init : List Cond := .code yT_init bT_init 2 none :: gt
def yT_startPulling : MethodName := ⟨"TendonLosses$Tendon", "startPulling", "(IILTendonLosses$Friction;)V"⟩
abbrev bT_startPulling : ByteArray := prog_4_method_2_code
def wT_startPulling : List Cond := .code yT_startPulling bT_startPulling 4 none :: gt
def yT_leastForceIfPulled : MethodName := ⟨"TendonLosses$Tendon", "leastForceIfPulled", "(IILTendonLosses$Friction;)J"⟩
abbrev bT_leastForceIfPulled : ByteArray := prog_4_method_3_code
def wT_leastForceIfPulled : List Cond := .code yT_leastForceIfPulled bT_leastForceIfPulled 7 (some .long) :: gt
def yT_strain : MethodName := ⟨"TendonLosses$Tendon", "strain", "([JIILTendonLosses$Friction;)V"⟩
abbrev bT_strain : ByteArray := prog_4_method_4_code
def wT_strain : List Cond := .code yT_strain bT_strain 6 none :: gt
def yT_strainFromEnd : MethodName := ⟨"TendonLosses$Tendon", "strainFromEnd", "([JIILTendonLosses$Friction;)V"⟩
abbrev bT_strainFromEnd : ByteArray := prog_4_method_5_code
def wT_strainFromEnd : List Cond := .code yT_strainFromEnd bT_strainFromEnd 9 none :: gt
def yT_slipBack : MethodName := ⟨"TendonLosses$Tendon", "slipBack", "(ILTendonLosses$Friction;)V"⟩
abbrev bT_slipBack : ByteArray := prog_4_method_6_code
def wT_slipBack : List Cond := .code yT_slipBack bT_slipBack 3 none :: gt
def yT_slipAtEnd : MethodName := ⟨"TendonLosses$Tendon", "slipAtEnd", "(IILTendonLosses$Friction;)V"⟩
abbrev bT_slipAtEnd : ByteArray := prog_4_method_7_code
def wT_slipAtEnd : List Cond := .code yT_slipAtEnd bT_slipAtEnd 8 none :: gt
def yT_tryAnchor : MethodName := ⟨"TendonLosses$Tendon", "tryAnchor", "(IILTendonLosses$Friction;)V"⟩
abbrev bT_tryAnchor : ByteArray := prog_4_method_8_code
def wT_tryAnchor : List Cond := .code yT_tryAnchor bT_tryAnchor 8 none :: gt
def yT_shortening : MethodName := ⟨"TendonLosses$Tendon", "shortening", "()J"⟩
abbrev bT_shortening : ByteArray := prog_4_method_9_code
def wT_shortening : List Cond := .code yT_shortening bT_shortening 4 (some .long) :: gt
def yT_stretch : MethodName := ⟨"TendonLosses$Tendon", "stretch", "()J"⟩
abbrev bT_stretch : ByteArray := prog_4_method_10_code
def wT_stretch : List Cond := .code yT_stretch bT_stretch 4 (some .long) :: gt
def yT_stretchOf : MethodName := ⟨"TendonLosses$Tendon", "stretchOf", "(IJ)J"⟩
abbrev bT_stretchOf : ByteArray := prog_4_method_11_code
def wT_stretchOf : List Cond := .code yT_stretchOf bT_stretchOf 4 (some .long) :: gt
def yT_meanForce : MethodName := ⟨"TendonLosses$Tendon", "meanForce", "()J"⟩
abbrev bT_meanForce : ByteArray := prog_4_method_12_code
def wT_meanForce : List Cond := .code yT_meanForce bT_meanForce 4 (some .long) :: gt
def yT_loseEverywhere : MethodName := ⟨"TendonLosses$Tendon", "loseEverywhere", "(J)V"⟩
abbrev bT_loseEverywhere : ByteArray := prog_4_method_13_code
def wT_loseEverywhere : List Cond := .code yT_loseEverywhere bT_loseEverywhere 4 none :: gt
def yT_fadeAway : MethodName := ⟨"TendonLosses$Tendon", "fadeAway", "(II)V"⟩
abbrev bT_fadeAway : ByteArray := prog_4_method_14_code
def wT_fadeAway : List Cond := .code yT_fadeAway bT_fadeAway 5 none :: gt
def yT_forceOn : MethodName := ⟨"TendonLosses$Tendon", "forceOn", "(II)J"⟩
abbrev bT_forceOn : ByteArray := prog_4_method_15_code
def wT_forceOn : List Cond := .code yT_forceOn bT_forceOn 7 (some .long) :: gt
def yL_init : MethodName := ⟨"TendonLosses", "<init>", "()V"⟩
abbrev bL_init : ByteArray := prog_1_method_1_code
def wL_init : List Cond := .code yL_init bL_init 1 none :: gt
def yL_tendon : MethodName := ⟨"TendonLosses", "tendon", "(I)I"⟩
abbrev bL_tendon : ByteArray := prog_1_method_2_code
def wL_tendon : List Cond := .code yL_tendon bL_tendon 3 (some .int) :: gt
def yL_point : MethodName := ⟨"TendonLosses", "point", "(III)I"⟩
abbrev bL_point : ByteArray := prog_1_method_3_code
def wL_point : List Cond := .code yL_point bL_point 5 (some .int) :: gt
def yL_friction : MethodName := ⟨"TendonLosses", "friction", "(II)Z"⟩
abbrev bL_friction : ByteArray := prog_1_method_4_code
def wL_friction : List Cond := .code yL_friction bL_friction 3 (some .boolean) :: gt
def yL_losses : MethodName := ⟨"TendonLosses", "losses", "(III)Z"⟩
abbrev bL_losses : ByteArray := prog_1_method_5_code
def wL_losses : List Cond := .code yL_losses bL_losses 4 (some .boolean) :: gt
def yL_pull : MethodName := ⟨"TendonLosses", "pull", "(III)I"⟩
abbrev bL_pull : ByteArray := prog_1_method_6_code
def wL_pull : List Cond := .code yL_pull bL_pull 5 (some .int) :: gt
def yL_lock : MethodName := ⟨"TendonLosses", "lock", "(I)I"⟩
abbrev bL_lock : ByteArray := prog_1_method_7_code
def wL_lock : List Cond := .code yL_lock bL_lock 5 (some .int) :: gt
def yL_cut : MethodName := ⟨"TendonLosses", "cut", "(I)Z"⟩
abbrev bL_cut : ByteArray := prog_1_method_8_code
def wL_cut : List Cond := .code yL_cut bL_cut 3 (some .boolean) :: gt
def yL_days : MethodName := ⟨"TendonLosses", "days", "(I)I"⟩
abbrev bL_days : ByteArray := prog_1_method_9_code
def wL_days : List Cond := .code yL_days bL_days 4 (some .int) :: gt
def yL_force : MethodName := ⟨"TendonLosses", "force", "(II)I"⟩
abbrev bL_force : ByteArray := prog_1_method_10_code
def wL_force : List Cond := .code yL_force bL_force 4 (some .int) :: gt
def yL_at : MethodName := ⟨"TendonLosses", "at", "(II)I"⟩
abbrev bL_at : ByteArray := prog_1_method_11_code
def wL_at : List Cond := .code yL_at bL_at 5 (some .int) :: gt
def yL_longer : MethodName := ⟨"TendonLosses", "longer", "(I)I"⟩
abbrev bL_longer : ByteArray := prog_1_method_12_code
def wL_longer : List Cond := .code yL_longer bL_longer 3 (some .int) :: gt
def yL_piece : MethodName := ⟨"TendonLosses", "piece", "(III)I"⟩
abbrev bL_piece : ByteArray := prog_1_method_13_code
def wL_piece : List Cond := .code yL_piece bL_piece 5 (some .int) :: gt
def yL_presses : MethodName := ⟨"TendonLosses", "presses", "(II)I"⟩
abbrev bL_presses : ByteArray := prog_1_method_14_code
def wL_presses : List Cond := .code yL_presses bL_presses 4 (some .int) :: gt
def yL_clash : MethodName := ⟨"TendonLosses", "clash", "(III)Z"⟩
abbrev bL_clash : ByteArray := prog_1_method_15_code
def wL_clash : List Cond := .code yL_clash bL_clash 6 (some .boolean) :: gt
def yL_locked : MethodName := ⟨"TendonLosses", "locked", "(I)I"⟩
abbrev bL_locked : ByteArray := prog_1_method_16_code
def wL_locked : List Cond := .code yL_locked bL_locked 2 (some .int) :: gt
def yL_wanted : MethodName := ⟨"TendonLosses", "wanted", "(IIII)I"⟩
abbrev bL_wanted : ByteArray := prog_1_method_17_code
def wL_wanted : List Cond := .code yL_wanted bL_wanted 8 (some .int) :: gt
def yL_count : MethodName := ⟨"TendonLosses", "count", "(I)I"⟩
abbrev bL_count : ByteArray := prog_1_method_18_code
def wL_count : List Cond := .code yL_count bL_count 2 (some .int) :: gt
def yL_isWithin : MethodName := ⟨"TendonLosses", "isWithin", "(III)Z"⟩
abbrev bL_isWithin : ByteArray := prog_1_method_19_code
def wL_isWithin : List Cond := .code yL_isWithin bL_isWithin 3 (some .boolean) :: gt
def yL_find : MethodName := ⟨"TendonLosses", "find", "(I)LTendonLosses$Tendon;"⟩
abbrev bL_find : ByteArray := prog_1_method_20_code
def wL_find : List Cond := .code yL_find bL_find 2 (some (.object "TendonLosses$Tendon")) :: gt
def yL_findStrained : MethodName := ⟨"TendonLosses", "findStrained", "(I)LTendonLosses$Tendon;"⟩
abbrev bL_findStrained : ByteArray := prog_1_method_21_code
def wL_findStrained : List Cond := .code yL_findStrained bL_findStrained 3 (some (.object "TendonLosses$Tendon")) :: gt
def yL_weakenLockedOnes : MethodName := ⟨"TendonLosses", "weakenLockedOnes", "(J)V"⟩
abbrev bL_weakenLockedOnes : ByteArray := prog_1_method_22_code
def wL_weakenLockedOnes : List Cond := .code yL_weakenLockedOnes bL_weakenLockedOnes 5 none :: gt
def yL_forgetLocked : MethodName := ⟨"TendonLosses", "forgetLocked", "(I)V"⟩
abbrev bL_forgetLocked : ByteArray := prog_1_method_23_code
def wL_forgetLocked : List Cond := .code yL_forgetLocked bL_forgetLocked 4 none :: gt
def yL_countPulled : MethodName := ⟨"TendonLosses", "countPulled", "()I"⟩
abbrev bL_countPulled : ByteArray := prog_1_method_24_code
def wL_countPulled : List Cond := .code yL_countPulled bL_countPulled 4 (some .int) :: gt
def yL_countPoints : MethodName := ⟨"TendonLosses", "countPoints", "()I"⟩
abbrev bL_countPoints : ByteArray := prog_1_method_25_code
def wL_countPoints : List Cond := .code yL_countPoints bL_countPoints 4 (some .int) :: gt
def yL_quotient : MethodName := ⟨"TendonLosses", "quotient", "(JJ)J"⟩
abbrev bL_quotient : ByteArray := prog_1_method_26_code
def wL_quotient : List Cond := .code yL_quotient bL_quotient 4 (some .long) :: gt
def yM_init : MethodName := ⟨"TendonLossesModel", "<init>", "()V"⟩
abbrev bM_init : ByteArray := prog_6_method_1_code
def wM_init : List Cond := .code yM_init bM_init 1 none :: gt
def yM_in : MethodName := ⟨"TendonLossesModel", "in", "(III)Z"⟩
abbrev bM_in : ByteArray := prog_6_method_3_code
def wM_in : List Cond := .code yM_in bM_in 3 (some .boolean) :: gt
def yM_isTendon : MethodName := ⟨"TendonLossesModel", "isTendon", "(I)Z"⟩
abbrev bM_isTendon : ByteArray := prog_6_method_4_code
def wM_isTendon : List Cond := .code yM_isTendon bM_isTendon 2 (some .boolean) :: gt
def yM_hasForces : MethodName := ⟨"TendonLossesModel", "hasForces", "(I)Z"⟩
abbrev bM_hasForces : ByteArray := prog_6_method_5_code
def wM_hasForces : List Cond := .code yM_hasForces bM_hasForces 2 (some .boolean) :: gt
def yM_tendon : MethodName := ⟨"TendonLossesModel", "tendon", "(I)I"⟩
abbrev bM_tendon : ByteArray := prog_6_method_6_code
def wM_tendon : List Cond := .code yM_tendon bM_tendon 2 (some .int) :: gt
def yM_point : MethodName := ⟨"TendonLossesModel", "point", "(III)I"⟩
abbrev bM_point : ByteArray := prog_6_method_7_code
def wM_point : List Cond := .code yM_point bM_point 5 (some .int) :: gt
def yM_friction : MethodName := ⟨"TendonLossesModel", "friction", "(II)Z"⟩
abbrev bM_friction : ByteArray := prog_6_method_8_code
def wM_friction : List Cond := .code yM_friction bM_friction 3 (some .boolean) :: gt
def yM_losses : MethodName := ⟨"TendonLossesModel", "losses", "(III)Z"⟩
abbrev bM_losses : ByteArray := prog_6_method_9_code
def wM_losses : List Cond := .code yM_losses bM_losses 4 (some .boolean) :: gt
def yM_root : MethodName := ⟨"TendonLossesModel", "root", "(J)J"⟩
abbrev bM_root : ByteArray := prog_6_method_10_code
def wM_root : List Cond := .code yM_root bM_root 8 (some .long) :: gt
def yM_lengthOf : MethodName := ⟨"TendonLossesModel", "lengthOf", "(II)J"⟩
abbrev bM_lengthOf : ByteArray := prog_6_method_11_code
def wM_lengthOf : List Cond := .code yM_lengthOf bM_lengthOf 7 (some .long) :: gt
def yM_slopeOf : MethodName := ⟨"TendonLossesModel", "slopeOf", "(II)I"⟩
abbrev bM_slopeOf : ByteArray := prog_6_method_12_code
def wM_slopeOf : List Cond := .code yM_slopeOf bM_slopeOf 5 (some .int) :: gt
def yM_turnOf : MethodName := ⟨"TendonLossesModel", "turnOf", "(II)I"⟩
abbrev bM_turnOf : ByteArray := prog_6_method_13_code
def wM_turnOf : List Cond := .code yM_turnOf bM_turnOf 4 (some .int) :: gt
def yM_byRough : MethodName := ⟨"TendonLossesModel", "byRough", "(JJ)J"⟩
abbrev bM_byRough : ByteArray := prog_6_method_14_code
def wM_byRough : List Cond := .code yM_byRough bM_byRough 5 (some .long) :: gt
def yM_byTurn : MethodName := ⟨"TendonLossesModel", "byTurn", "(JI)J"⟩
abbrev bM_byTurn : ByteArray := prog_6_method_15_code
def wM_byTurn : List Cond := .code yM_byTurn bM_byTurn 4 (some .long) :: gt
def yM_draw : MethodName := ⟨"TendonLossesModel", "draw", "(IZJ[J)V"⟩
abbrev bM_draw : ByteArray := prog_6_method_16_code
def wM_draw : List Cond := .code yM_draw bM_draw 13 none :: gt
def yM_drawAll : MethodName := ⟨"TendonLossesModel", "drawAll", "(IIJ)V"⟩
abbrev bM_drawAll : ByteArray := prog_6_method_17_code
def wM_drawAll : List Cond := .code yM_drawAll bM_drawAll 6 none :: gt
def yM_longerOf : MethodName := ⟨"TendonLossesModel", "longerOf", "(I)I"⟩
abbrev bM_longerOf : ByteArray := prog_6_method_18_code
def wM_longerOf : List Cond := .code yM_longerOf bM_longerOf 7 (some .int) :: gt
def yM_pull : MethodName := ⟨"TendonLossesModel", "pull", "(III)I"⟩
abbrev bM_pull : ByteArray := prog_6_method_19_code
def wM_pull : List Cond := .code yM_pull bM_pull 5 (some .int) :: gt
def yM_tryOut : MethodName := ⟨"TendonLossesModel", "tryOut", "(IZJ)J"⟩
abbrev bM_tryOut : ByteArray := prog_6_method_20_code
def wM_tryOut : List Cond := .code yM_tryOut bM_tryOut 14 (some .long) :: gt
def yM_letSlip : MethodName := ⟨"TendonLossesModel", "letSlip", "(IZ)V"⟩
abbrev bM_letSlip : ByteArray := prog_6_method_21_code
def wM_letSlip : List Cond := .code yM_letSlip bM_letSlip 10 none :: gt
def yM_lock : MethodName := ⟨"TendonLossesModel", "lock", "(I)I"⟩
abbrev bM_lock : ByteArray := prog_6_method_22_code
def wM_lock : List Cond := .code yM_lock bM_lock 10 (some .int) :: gt
def yM_cut : MethodName := ⟨"TendonLossesModel", "cut", "(I)Z"⟩
abbrev bM_cut : ByteArray := prog_6_method_23_code
def wM_cut : List Cond := .code yM_cut bM_cut 4 (some .boolean) :: gt
def yM_days : MethodName := ⟨"TendonLossesModel", "days", "(I)I"⟩
abbrev bM_days : ByteArray := prog_6_method_24_code
def wM_days : List Cond := .code yM_days bM_days 6 (some .int) :: gt
def yM_force : MethodName := ⟨"TendonLossesModel", "force", "(II)I"⟩
abbrev bM_force : ByteArray := prog_6_method_25_code
def wM_force : List Cond := .code yM_force bM_force 3 (some .int) :: gt
def yM_at : MethodName := ⟨"TendonLossesModel", "at", "(II)I"⟩
abbrev bM_at : ByteArray := prog_6_method_26_code
def wM_at : List Cond := .code yM_at bM_at 5 (some .int) :: gt
def yM_longer : MethodName := ⟨"TendonLossesModel", "longer", "(I)I"⟩
abbrev bM_longer : ByteArray := prog_6_method_27_code
def wM_longer : List Cond := .code yM_longer bM_longer 2 (some .int) :: gt
def yM_piece : MethodName := ⟨"TendonLossesModel", "piece", "(III)I"⟩
abbrev bM_piece : ByteArray := prog_6_method_28_code
def wM_piece : List Cond := .code yM_piece bM_piece 4 (some .int) :: gt
def yM_presses : MethodName := ⟨"TendonLossesModel", "presses", "(II)I"⟩
abbrev bM_presses : ByteArray := prog_6_method_29_code
def wM_presses : List Cond := .code yM_presses bM_presses 5 (some .int) :: gt
def yM_pieceAt : MethodName := ⟨"TendonLossesModel", "pieceAt", "(II)I"⟩
abbrev bM_pieceAt : ByteArray := prog_6_method_30_code
def wM_pieceAt : List Cond := .code yM_pieceAt bM_pieceAt 4 (some .int) :: gt
def yM_apart : MethodName := ⟨"TendonLossesModel", "apart", "(III)J"⟩
abbrev bM_apart : ByteArray := prog_6_method_31_code
def wM_apart : List Cond := .code yM_apart bM_apart 14 (some .long) :: gt
def yM_unit : MethodName := ⟨"TendonLossesModel", "unit", "(III)J"⟩
abbrev bM_unit : ByteArray := prog_6_method_32_code
def wM_unit : List Cond := .code yM_unit bM_unit 6 (some .long) :: gt
def yM_clash : MethodName := ⟨"TendonLossesModel", "clash", "(III)Z"⟩
abbrev bM_clash : ByteArray := prog_6_method_33_code
def wM_clash : List Cond := .code yM_clash bM_clash 16 (some .boolean) :: gt
def yM_locked : MethodName := ⟨"TendonLossesModel", "locked", "(I)I"⟩
abbrev bM_locked : ByteArray := prog_6_method_34_code
def wM_locked : List Cond := .code yM_locked bM_locked 2 (some .int) :: gt
def yM_wanted : MethodName := ⟨"TendonLossesModel", "wanted", "(IIII)I"⟩
abbrev bM_wanted : ByteArray := prog_6_method_35_code
def wM_wanted : List Cond := .code yM_wanted bM_wanted 9 (some .int) :: gt
def yM_count : MethodName := ⟨"TendonLossesModel", "count", "(I)I"⟩
abbrev bM_count : ByteArray := prog_6_method_36_code
def wM_count : List Cond := .code yM_count bM_count 5 (some .int) :: gt
end
section
theorem kw_0 : Cond.selects "TendonLosses" yL_find yL_find ∈ gt := gt_in (List.mem_of_getElem? (i := 0) (by decide +kernel)) rfl
theorem kw_1 : Cond.selects "TendonLosses$Duct" yD_measurePiece yD_measurePiece ∈ gt := gt_in (List.mem_of_getElem? (i := 1) (by decide +kernel)) rfl
theorem kw_2 : Cond.selects "TendonLosses$Tendon" yT_strain yT_strain ∈ gt := gt_in (List.mem_of_getElem? (i := 2) (by decide +kernel)) rfl
theorem kw_3 : Cond.selects "TendonLosses$Tendon" yT_strainFromEnd yT_strainFromEnd ∈ gt := gt_in (List.mem_of_getElem? (i := 3) (by decide +kernel)) rfl
theorem kw_4 : Cond.selects "TendonLosses$Tendon" yT_stretchOf yT_stretchOf ∈ gt := gt_in (List.mem_of_getElem? (i := 4) (by decide +kernel)) rfl
theorem kw_5 : Cond.selects "TendonLosses$Tendon" yT_slipAtEnd yT_slipAtEnd ∈ gt := gt_in (List.mem_of_getElem? (i := 5) (by decide +kernel)) rfl
theorem kw_6 : Cond.selects "TendonLosses$Tendon" yT_tryAnchor yT_tryAnchor ∈ gt := gt_in (List.mem_of_getElem? (i := 6) (by decide +kernel)) rfl
theorem kw_7 : Cond.selects "TendonLosses$Tendon" yT_shortening yT_shortening ∈ gt := gt_in (List.mem_of_getElem? (i := 7) (by decide +kernel)) rfl
theorem kw_8 : Cond.selects "TendonLosses" yL_weakenLockedOnes yL_weakenLockedOnes ∈ gt := gt_in (List.mem_of_getElem? (i := 8) (by decide +kernel)) rfl
theorem kw_9 : Cond.selects "TendonLosses" yL_forgetLocked yL_forgetLocked ∈ gt := gt_in (List.mem_of_getElem? (i := 9) (by decide +kernel)) rfl
theorem kw_10 : Cond.selects "TendonLosses" yL_findStrained yL_findStrained ∈ gt := gt_in (List.mem_of_getElem? (i := 10) (by decide +kernel)) rfl
theorem kw_11 : Cond.selects "TendonLosses$Duct" yD_scaledHeight yD_scaledHeight ∈ gt := gt_in (List.mem_of_getElem? (i := 11) (by decide +kernel)) rfl
theorem kw_12 : Cond.selects "TendonLosses" yL_countPulled yL_countPulled ∈ gt := gt_in (List.mem_of_getElem? (i := 12) (by decide +kernel)) rfl
theorem kw_13 : Cond.selects "TendonLosses" yL_countPoints yL_countPoints ∈ gt := gt_in (List.mem_of_getElem? (i := 13) (by decide +kernel)) rfl
theorem kw_14 : Cond.selects "TendonLossesModel" yM_isTendon yM_isTendon ∈ gt := gt_in (List.mem_of_getElem? (i := 14) (by decide +kernel)) rfl
theorem kw_15 : Cond.selects "TendonLossesModel" yM_drawAll yM_drawAll ∈ gt := gt_in (List.mem_of_getElem? (i := 15) (by decide +kernel)) rfl
theorem kw_16 : Cond.selects "TendonLossesModel" yM_draw yM_draw ∈ gt := gt_in (List.mem_of_getElem? (i := 16) (by decide +kernel)) rfl
theorem kw_17 : Cond.selects "TendonLossesModel" yM_lengthOf yM_lengthOf ∈ gt := gt_in (List.mem_of_getElem? (i := 17) (by decide +kernel)) rfl
theorem kw_18 : Cond.selects "TendonLossesModel" yM_byRough yM_byRough ∈ gt := gt_in (List.mem_of_getElem? (i := 18) (by decide +kernel)) rfl
theorem kw_19 : Cond.selects "TendonLossesModel" yM_turnOf yM_turnOf ∈ gt := gt_in (List.mem_of_getElem? (i := 19) (by decide +kernel)) rfl
theorem kw_20 : Cond.selects "TendonLossesModel" yM_slopeOf yM_slopeOf ∈ gt := gt_in (List.mem_of_getElem? (i := 20) (by decide +kernel)) rfl
theorem kw_21 : Cond.selects "TendonLossesModel" yM_byTurn yM_byTurn ∈ gt := gt_in (List.mem_of_getElem? (i := 21) (by decide +kernel)) rfl
theorem kw_22 : Cond.selects "TendonLossesModel" yM_longerOf yM_longerOf ∈ gt := gt_in (List.mem_of_getElem? (i := 22) (by decide +kernel)) rfl
theorem kw_23 : Cond.selects "TendonLossesModel" yM_letSlip yM_letSlip ∈ gt := gt_in (List.mem_of_getElem? (i := 23) (by decide +kernel)) rfl
theorem kw_24 : Cond.selects "TendonLossesModel" yM_tryOut yM_tryOut ∈ gt := gt_in (List.mem_of_getElem? (i := 24) (by decide +kernel)) rfl
theorem kw_25 : Cond.selects "TendonLossesModel" yM_hasForces yM_hasForces ∈ gt := gt_in (List.mem_of_getElem? (i := 25) (by decide +kernel)) rfl
theorem kw_26 : Cond.selects "TendonLossesModel" yM_apart yM_apart ∈ gt := gt_in (List.mem_of_getElem? (i := 26) (by decide +kernel)) rfl
theorem kw_27 : Cond.selects "TendonLossesModel" yM_pieceAt yM_pieceAt ∈ gt := gt_in (List.mem_of_getElem? (i := 27) (by decide +kernel)) rfl
theorem kw_28 : Cond.selects "TendonLossesModel" yM_unit yM_unit ∈ gt := gt_in (List.mem_of_getElem? (i := 28) (by decide +kernel)) rfl
theorem kw_29 : Cond.initialized "TendonLossesLaw" ∈ gt := gt_in (List.mem_of_getElem? (i := 29) (by decide +kernel)) rfl
theorem kw_30 : Cond.initialized "TendonLosses" ∈ gt := gt_in (List.mem_of_getElem? (i := 30) (by decide +kernel)) rfl
theorem kw_31 : Cond.initialized "TendonLosses$Friction" ∈ gt := gt_in (List.mem_of_getElem? (i := 31) (by decide +kernel)) rfl
theorem kw_32 : Cond.initialized "TendonLossesModel" ∈ gt := gt_in (List.mem_of_getElem? (i := 32) (by decide +kernel)) rfl
theorem kw_33 : Cond.initialized "TendonLosses$Tendon" ∈ gt := gt_in (List.mem_of_getElem? (i := 33) (by decide +kernel)) rfl
theorem kw_34 : Cond.initialized "TendonLosses$Duct" ∈ gt := gt_in (List.mem_of_getElem? (i := 34) (by decide +kernel)) rfl
theorem kw_35 : Cond.initialized "java/lang/Math" ∈ gt := gt_in (List.mem_of_getElem? (i := 35) (by decide +kernel)) rfl
theorem kw_36 : Cond.classLink "TendonLossesLaw" 7 "TendonLosses" ∈ gt := gt_in (List.mem_of_getElem? (i := 36) (by decide +kernel)) rfl
theorem kw_37 : Cond.instantiable "TendonLosses" 9 ∈ gt := gt_in (List.mem_of_getElem? (i := 37) (by decide +kernel)) rfl
theorem kw_38 : Cond.methodLink "TendonLossesLaw" 9 yL_init ∈ gt := gt_in (List.mem_of_getElem? (i := 38) (by decide +kernel)) rfl
theorem kw_39 : Cond.instanceMethod yL_init ∈ gt := gt_in (List.mem_of_getElem? (i := 39) (by decide +kernel)) rfl
theorem kw_40 : Cond.code yL_init bL_init 1 none ∈ gt := gt_in (List.mem_of_getElem? (i := 40) (by decide +kernel)) rfl
theorem kw_41 : Cond.methodLink "TendonLosses" 1 objectInit ∈ gt := gt_in (List.mem_of_getElem? (i := 41) (by decide +kernel)) rfl
theorem kw_42 : Cond.instanceMethod objectInit ∈ gt := gt_in (List.mem_of_getElem? (i := 42) (by decide +kernel)) rfl
theorem kw_43 : Cond.code objectInit ⟨#[0xb1]⟩ 1 none ∈ gt := gt_in (List.mem_of_getElem? (i := 43) (by decide +kernel)) rfl
theorem kw_44 : Cond.classLink "TendonLosses" 9 "TendonLosses$Tendon" ∈ gt := gt_in (List.mem_of_getElem? (i := 44) (by decide +kernel)) rfl
theorem kw_46 : Cond.classLink "TendonLosses" 19 "TendonLosses$Friction" ∈ gt := gt_in (List.mem_of_getElem? (i := 46) (by decide +kernel)) rfl
theorem kw_47 : Cond.instantiable "TendonLosses$Friction" 2 ∈ gt := gt_in (List.mem_of_getElem? (i := 47) (by decide +kernel)) rfl
theorem kw_48 : Cond.methodLink "TendonLosses" 21 yF_init ∈ gt := gt_in (List.mem_of_getElem? (i := 48) (by decide +kernel)) rfl
theorem kw_49 : Cond.instanceMethod yF_init ∈ gt := gt_in (List.mem_of_getElem? (i := 49) (by decide +kernel)) rfl
theorem kw_50 : Cond.code yF_init bF_init 1 none ∈ gt := gt_in (List.mem_of_getElem? (i := 50) (by decide +kernel)) rfl
theorem kw_51 : Cond.methodLink "TendonLosses$Friction" 3 objectInit ∈ gt := gt_in (List.mem_of_getElem? (i := 51) (by decide +kernel)) rfl
theorem kw_52 : Cond.fieldLink "TendonLosses$Friction" 9 "TendonLosses$Friction" "rough" "I" ∈ gt := gt_in (List.mem_of_getElem? (i := 52) (by decide +kernel)) rfl
theorem kw_53 : Cond.fieldLink "TendonLosses" 76 "TendonLosses$Friction" "rough" "I" ∈ gt := gt_in (List.mem_of_getElem? (i := 53) (by decide +kernel)) rfl
theorem kw_54 : Cond.fieldLink "TendonLosses$Friction" 15 "TendonLosses$Friction" "mu" "I" ∈ gt := gt_in (List.mem_of_getElem? (i := 54) (by decide +kernel)) rfl
theorem kw_55 : Cond.fieldLink "TendonLosses" 79 "TendonLosses$Friction" "mu" "I" ∈ gt := gt_in (List.mem_of_getElem? (i := 55) (by decide +kernel)) rfl
theorem kw_61 : Cond.arrayClass .int ∈ gt := gt_in (List.mem_of_getElem? (i := 61) (by decide +kernel)) rfl
theorem kw_62 : Cond.fieldLink "TendonLosses" 11 "TendonLosses" "tendons" "[LTendonLosses$Tendon;" ∈ gt := gt_in (List.mem_of_getElem? (i := 62) (by decide +kernel)) rfl
theorem kw_63 : Cond.fieldLink "TendonLosses" 15 "TendonLosses" "lockedOnes" "[I" ∈ gt := gt_in (List.mem_of_getElem? (i := 63) (by decide +kernel)) rfl
theorem kw_64 : Cond.fieldLink "TendonLosses" 22 "TendonLosses" "friction" "LTendonLosses$Friction;" ∈ gt := gt_in (List.mem_of_getElem? (i := 64) (by decide +kernel)) rfl
theorem kw_65 : Cond.fieldLink "TendonLosses" 26 "TendonLosses" "tendonCount" "I" ∈ gt := gt_in (List.mem_of_getElem? (i := 65) (by decide +kernel)) rfl
theorem kw_66 : Cond.fieldLink "TendonLosses" 30 "TendonLosses" "lockedCount" "I" ∈ gt := gt_in (List.mem_of_getElem? (i := 66) (by decide +kernel)) rfl
theorem kw_67 : Cond.fieldLink "TendonLosses" 33 "TendonLosses" "dayCount" "I" ∈ gt := gt_in (List.mem_of_getElem? (i := 67) (by decide +kernel)) rfl
theorem kw_68 : Cond.fieldLink "TendonLosses" 36 "TendonLosses" "slip" "I" ∈ gt := gt_in (List.mem_of_getElem? (i := 68) (by decide +kernel)) rfl
theorem kw_69 : Cond.fieldLink "TendonLosses" 39 "TendonLosses" "share" "I" ∈ gt := gt_in (List.mem_of_getElem? (i := 69) (by decide +kernel)) rfl
theorem kw_70 : Cond.fieldLink "TendonLosses" 42 "TendonLosses" "fade" "I" ∈ gt := gt_in (List.mem_of_getElem? (i := 70) (by decide +kernel)) rfl
theorem kw_90 : Cond.methodLink "TendonLossesLaw" 13 yL_tendon ∈ gt := gt_in (List.mem_of_getElem? (i := 90) (by decide +kernel)) rfl
theorem kw_91 : Cond.instanceMethod yL_tendon ∈ gt := gt_in (List.mem_of_getElem? (i := 91) (by decide +kernel)) rfl
theorem kw_92 : Cond.selects "TendonLosses" yL_tendon yL_tendon ∈ gt := gt_in (List.mem_of_getElem? (i := 92) (by decide +kernel)) rfl
theorem kw_93 : Cond.code yL_tendon bL_tendon 3 (some .int) ∈ gt := gt_in (List.mem_of_getElem? (i := 93) (by decide +kernel)) rfl
theorem kw_94 : Cond.methodLink "TendonLosses" 45 yL_isWithin ∈ gt := gt_in (List.mem_of_getElem? (i := 94) (by decide +kernel)) rfl
theorem kw_95 : Cond.static yL_isWithin ∈ gt := gt_in (List.mem_of_getElem? (i := 95) (by decide +kernel)) rfl
theorem kw_96 : Cond.code yL_isWithin bL_isWithin 3 (some .boolean) ∈ gt := gt_in (List.mem_of_getElem? (i := 96) (by decide +kernel)) rfl
theorem kw_97 : Cond.instantiable "TendonLosses$Tendon" 7 ∈ gt := gt_in (List.mem_of_getElem? (i := 97) (by decide +kernel)) rfl
theorem kw_98 : Cond.methodLink "TendonLosses" 49 yT_init ∈ gt := gt_in (List.mem_of_getElem? (i := 98) (by decide +kernel)) rfl
theorem kw_99 : Cond.instanceMethod yT_init ∈ gt := gt_in (List.mem_of_getElem? (i := 99) (by decide +kernel)) rfl
theorem kw_100 : Cond.code yT_init bT_init 2 none ∈ gt := gt_in (List.mem_of_getElem? (i := 100) (by decide +kernel)) rfl
theorem kw_101 : Cond.methodLink "TendonLosses$Tendon" 3 objectInit ∈ gt := gt_in (List.mem_of_getElem? (i := 101) (by decide +kernel)) rfl
theorem kw_102 : Cond.classLink "TendonLosses$Tendon" 15 "TendonLosses$Duct" ∈ gt := gt_in (List.mem_of_getElem? (i := 102) (by decide +kernel)) rfl
theorem kw_103 : Cond.instantiable "TendonLosses$Duct" 5 ∈ gt := gt_in (List.mem_of_getElem? (i := 103) (by decide +kernel)) rfl
theorem kw_104 : Cond.methodLink "TendonLosses$Tendon" 17 yD_init ∈ gt := gt_in (List.mem_of_getElem? (i := 104) (by decide +kernel)) rfl
theorem kw_105 : Cond.instanceMethod yD_init ∈ gt := gt_in (List.mem_of_getElem? (i := 105) (by decide +kernel)) rfl
theorem kw_106 : Cond.code yD_init bD_init 1 none ∈ gt := gt_in (List.mem_of_getElem? (i := 106) (by decide +kernel)) rfl
theorem kw_107 : Cond.methodLink "TendonLosses$Duct" 3 objectInit ∈ gt := gt_in (List.mem_of_getElem? (i := 107) (by decide +kernel)) rfl
theorem kw_108 : Cond.fieldLink "TendonLosses$Duct" 9 "TendonLosses$Duct" "xs" "[I" ∈ gt := gt_in (List.mem_of_getElem? (i := 108) (by decide +kernel)) rfl
theorem kw_109 : Cond.fieldLink "TendonLosses$Tendon" 107 "TendonLosses$Duct" "xs" "[I" ∈ gt := gt_in (List.mem_of_getElem? (i := 109) (by decide +kernel)) rfl
theorem kw_110 : Cond.fieldLink "TendonLosses$Duct" 15 "TendonLosses$Duct" "ys" "[I" ∈ gt := gt_in (List.mem_of_getElem? (i := 110) (by decide +kernel)) rfl
theorem kw_111 : Cond.fieldLink "TendonLosses$Duct" 18 "TendonLosses$Duct" "lengths" "[I" ∈ gt := gt_in (List.mem_of_getElem? (i := 111) (by decide +kernel)) rfl
theorem kw_112 : Cond.fieldLink "TendonLosses$Tendon" 92 "TendonLosses$Duct" "lengths" "[I" ∈ gt := gt_in (List.mem_of_getElem? (i := 112) (by decide +kernel)) rfl
theorem kw_113 : Cond.fieldLink "TendonLosses" 136 "TendonLosses$Duct" "lengths" "[I" ∈ gt := gt_in (List.mem_of_getElem? (i := 113) (by decide +kernel)) rfl
theorem kw_114 : Cond.fieldLink "TendonLosses$Duct" 21 "TendonLosses$Duct" "slopes" "[I" ∈ gt := gt_in (List.mem_of_getElem? (i := 114) (by decide +kernel)) rfl
theorem kw_115 : Cond.fieldLink "TendonLosses" 139 "TendonLosses$Duct" "slopes" "[I" ∈ gt := gt_in (List.mem_of_getElem? (i := 115) (by decide +kernel)) rfl
theorem kw_116 : Cond.fieldLink "TendonLosses$Duct" 24 "TendonLosses$Duct" "size" "I" ∈ gt := gt_in (List.mem_of_getElem? (i := 116) (by decide +kernel)) rfl
theorem kw_117 : Cond.fieldLink "TendonLosses$Tendon" 42 "TendonLosses$Duct" "size" "I" ∈ gt := gt_in (List.mem_of_getElem? (i := 117) (by decide +kernel)) rfl
theorem kw_118 : Cond.fieldLink "TendonLosses" 73 "TendonLosses$Duct" "size" "I" ∈ gt := gt_in (List.mem_of_getElem? (i := 118) (by decide +kernel)) rfl
theorem kw_130 : Cond.fieldLink "TendonLosses$Tendon" 18 "TendonLosses$Tendon" "duct" "LTendonLosses$Duct;" ∈ gt := gt_in (List.mem_of_getElem? (i := 130) (by decide +kernel)) rfl
theorem kw_131 : Cond.fieldLink "TendonLosses" 59 "TendonLosses$Tendon" "duct" "LTendonLosses$Duct;" ∈ gt := gt_in (List.mem_of_getElem? (i := 131) (by decide +kernel)) rfl
theorem kw_132 : Cond.fieldLink "TendonLosses$Tendon" 9 "TendonLosses$Tendon" "area" "I" ∈ gt := gt_in (List.mem_of_getElem? (i := 132) (by decide +kernel)) rfl
theorem kw_133 : Cond.fieldLink "TendonLosses$Tendon" 22 "TendonLosses$Tendon" "forces" "[J" ∈ gt := gt_in (List.mem_of_getElem? (i := 133) (by decide +kernel)) rfl
theorem kw_134 : Cond.fieldLink "TendonLosses" 121 "TendonLosses$Tendon" "forces" "[J" ∈ gt := gt_in (List.mem_of_getElem? (i := 134) (by decide +kernel)) rfl
theorem kw_135 : Cond.fieldLink "TendonLosses$Tendon" 26 "TendonLosses$Tendon" "tried" "[J" ∈ gt := gt_in (List.mem_of_getElem? (i := 135) (by decide +kernel)) rfl
theorem kw_136 : Cond.fieldLink "TendonLosses$Tendon" 29 "TendonLosses$Tendon" "state" "I" ∈ gt := gt_in (List.mem_of_getElem? (i := 136) (by decide +kernel)) rfl
theorem kw_137 : Cond.fieldLink "TendonLosses" 56 "TendonLosses$Tendon" "state" "I" ∈ gt := gt_in (List.mem_of_getElem? (i := 137) (by decide +kernel)) rfl
theorem kw_138 : Cond.fieldLink "TendonLosses$Tendon" 32 "TendonLosses$Tendon" "pulledFrom" "I" ∈ gt := gt_in (List.mem_of_getElem? (i := 138) (by decide +kernel)) rfl
theorem kw_139 : Cond.fieldLink "TendonLosses$Tendon" 35 "TendonLosses$Tendon" "pulledWith" "I" ∈ gt := gt_in (List.mem_of_getElem? (i := 139) (by decide +kernel)) rfl
theorem kw_155 : Cond.arrayClass .long ∈ gt := gt_in (List.mem_of_getElem? (i := 155) (by decide +kernel)) rfl
theorem kw_156 : Cond.methodLink "TendonLossesLaw" 18 yL_point ∈ gt := gt_in (List.mem_of_getElem? (i := 156) (by decide +kernel)) rfl
theorem kw_157 : Cond.instanceMethod yL_point ∈ gt := gt_in (List.mem_of_getElem? (i := 157) (by decide +kernel)) rfl
theorem kw_158 : Cond.selects "TendonLosses" yL_point yL_point ∈ gt := gt_in (List.mem_of_getElem? (i := 158) (by decide +kernel)) rfl
theorem kw_159 : Cond.code yL_point bL_point 5 (some .int) ∈ gt := gt_in (List.mem_of_getElem? (i := 159) (by decide +kernel)) rfl
theorem kw_160 : Cond.methodLink "TendonLosses" 52 yL_find ∈ gt := gt_in (List.mem_of_getElem? (i := 160) (by decide +kernel)) rfl
theorem kw_162 : Cond.instanceMethod yL_find ∈ gt := gt_in (List.mem_of_getElem? (i := 162) (by decide +kernel)) rfl
theorem kw_163 : Cond.code yL_find bL_find 2 (some (.object "TendonLosses$Tendon")) ∈ gt := gt_in (List.mem_of_getElem? (i := 163) (by decide +kernel)) rfl
theorem kw_164 : Cond.methodLink "TendonLosses" 63 yD_mayGoOnTo ∈ gt := gt_in (List.mem_of_getElem? (i := 164) (by decide +kernel)) rfl
theorem kw_165 : Cond.instanceMethod yD_mayGoOnTo ∈ gt := gt_in (List.mem_of_getElem? (i := 165) (by decide +kernel)) rfl
theorem kw_166 : Cond.selects "TendonLosses$Duct" yD_mayGoOnTo yD_mayGoOnTo ∈ gt := gt_in (List.mem_of_getElem? (i := 166) (by decide +kernel)) rfl
theorem kw_167 : Cond.code yD_mayGoOnTo bD_mayGoOnTo 4 (some .boolean) ∈ gt := gt_in (List.mem_of_getElem? (i := 167) (by decide +kernel)) rfl
theorem kw_169 : Cond.constant "TendonLosses$Duct" 32 100000 ∈ gt := gt_in (List.mem_of_getElem? (i := 169) (by decide +kernel)) rfl
theorem kw_170 : Cond.methodLink "TendonLosses" 69 yD_goOnTo ∈ gt := gt_in (List.mem_of_getElem? (i := 170) (by decide +kernel)) rfl
theorem kw_171 : Cond.instanceMethod yD_goOnTo ∈ gt := gt_in (List.mem_of_getElem? (i := 171) (by decide +kernel)) rfl
theorem kw_172 : Cond.selects "TendonLosses$Duct" yD_goOnTo yD_goOnTo ∈ gt := gt_in (List.mem_of_getElem? (i := 172) (by decide +kernel)) rfl
theorem kw_173 : Cond.code yD_goOnTo bD_goOnTo 3 none ∈ gt := gt_in (List.mem_of_getElem? (i := 173) (by decide +kernel)) rfl
theorem kw_174 : Cond.methodLink "TendonLosses$Duct" 33 yD_measurePiece ∈ gt := gt_in (List.mem_of_getElem? (i := 174) (by decide +kernel)) rfl
theorem kw_176 : Cond.instanceMethod yD_measurePiece ∈ gt := gt_in (List.mem_of_getElem? (i := 176) (by decide +kernel)) rfl
theorem kw_177 : Cond.code yD_measurePiece bD_measurePiece 6 none ∈ gt := gt_in (List.mem_of_getElem? (i := 177) (by decide +kernel)) rfl
theorem kw_178 : Cond.methodLink "TendonLosses$Duct" 37 yD_widthOf ∈ gt := gt_in (List.mem_of_getElem? (i := 178) (by decide +kernel)) rfl
theorem kw_179 : Cond.instanceMethod yD_widthOf ∈ gt := gt_in (List.mem_of_getElem? (i := 179) (by decide +kernel)) rfl
theorem kw_180 : Cond.selects "TendonLosses$Duct" yD_widthOf yD_widthOf ∈ gt := gt_in (List.mem_of_getElem? (i := 180) (by decide +kernel)) rfl
theorem kw_181 : Cond.code yD_widthOf bD_widthOf 2 (some .int) ∈ gt := gt_in (List.mem_of_getElem? (i := 181) (by decide +kernel)) rfl
theorem kw_182 : Cond.methodLink "TendonLosses$Duct" 41 yD_rootOf ∈ gt := gt_in (List.mem_of_getElem? (i := 182) (by decide +kernel)) rfl
theorem kw_183 : Cond.static yD_rootOf ∈ gt := gt_in (List.mem_of_getElem? (i := 183) (by decide +kernel)) rfl
theorem kw_184 : Cond.code yD_rootOf bD_rootOf 9 (some .int) ∈ gt := gt_in (List.mem_of_getElem? (i := 184) (by decide +kernel)) rfl
theorem kw_185 : Cond.constantLong "TendonLosses$Duct" 51 200000 ∈ gt := gt_in (List.mem_of_getElem? (i := 185) (by decide +kernel)) rfl
theorem kw_186 : Cond.constantLong "TendonLosses$Duct" 53 2 ∈ gt := gt_in (List.mem_of_getElem? (i := 186) (by decide +kernel)) rfl
theorem kw_187 : Cond.constantLong "TendonLosses$Duct" 45 1000 ∈ gt := gt_in (List.mem_of_getElem? (i := 187) (by decide +kernel)) rfl
theorem kw_189 : Cond.static yL_quotient ∈ gt := gt_in (List.mem_of_getElem? (i := 189) (by decide +kernel)) rfl
theorem kw_190 : Cond.code yL_quotient bL_quotient 4 (some .long) ∈ gt := gt_in (List.mem_of_getElem? (i := 190) (by decide +kernel)) rfl
theorem kw_191 : Cond.methodLink "TendonLossesLaw" 23 yL_friction ∈ gt := gt_in (List.mem_of_getElem? (i := 191) (by decide +kernel)) rfl
theorem kw_192 : Cond.instanceMethod yL_friction ∈ gt := gt_in (List.mem_of_getElem? (i := 192) (by decide +kernel)) rfl
theorem kw_193 : Cond.selects "TendonLosses" yL_friction yL_friction ∈ gt := gt_in (List.mem_of_getElem? (i := 193) (by decide +kernel)) rfl
theorem kw_194 : Cond.code yL_friction bL_friction 3 (some .boolean) ∈ gt := gt_in (List.mem_of_getElem? (i := 194) (by decide +kernel)) rfl
theorem kw_195 : Cond.methodLink "TendonLossesLaw" 28 yL_losses ∈ gt := gt_in (List.mem_of_getElem? (i := 195) (by decide +kernel)) rfl
theorem kw_196 : Cond.instanceMethod yL_losses ∈ gt := gt_in (List.mem_of_getElem? (i := 196) (by decide +kernel)) rfl
theorem kw_197 : Cond.selects "TendonLosses" yL_losses yL_losses ∈ gt := gt_in (List.mem_of_getElem? (i := 197) (by decide +kernel)) rfl
theorem kw_198 : Cond.code yL_losses bL_losses 4 (some .boolean) ∈ gt := gt_in (List.mem_of_getElem? (i := 198) (by decide +kernel)) rfl
theorem kw_199 : Cond.methodLink "TendonLossesLaw" 33 yL_pull ∈ gt := gt_in (List.mem_of_getElem? (i := 199) (by decide +kernel)) rfl
theorem kw_200 : Cond.instanceMethod yL_pull ∈ gt := gt_in (List.mem_of_getElem? (i := 200) (by decide +kernel)) rfl
theorem kw_201 : Cond.selects "TendonLosses" yL_pull yL_pull ∈ gt := gt_in (List.mem_of_getElem? (i := 201) (by decide +kernel)) rfl
theorem kw_202 : Cond.code yL_pull bL_pull 5 (some .int) ∈ gt := gt_in (List.mem_of_getElem? (i := 202) (by decide +kernel)) rfl
theorem kw_203 : Cond.methodLink "TendonLosses" 82 yD_hasPieces ∈ gt := gt_in (List.mem_of_getElem? (i := 203) (by decide +kernel)) rfl
theorem kw_204 : Cond.instanceMethod yD_hasPieces ∈ gt := gt_in (List.mem_of_getElem? (i := 204) (by decide +kernel)) rfl
theorem kw_205 : Cond.selects "TendonLosses$Duct" yD_hasPieces yD_hasPieces ∈ gt := gt_in (List.mem_of_getElem? (i := 205) (by decide +kernel)) rfl
theorem kw_206 : Cond.code yD_hasPieces bD_hasPieces 1 (some .boolean) ∈ gt := gt_in (List.mem_of_getElem? (i := 206) (by decide +kernel)) rfl
theorem kw_207 : Cond.constant "TendonLosses" 86 10000000 ∈ gt := gt_in (List.mem_of_getElem? (i := 207) (by decide +kernel)) rfl
theorem kw_208 : Cond.methodLink "TendonLosses" 87 yT_startPulling ∈ gt := gt_in (List.mem_of_getElem? (i := 208) (by decide +kernel)) rfl
theorem kw_209 : Cond.instanceMethod yT_startPulling ∈ gt := gt_in (List.mem_of_getElem? (i := 209) (by decide +kernel)) rfl
theorem kw_210 : Cond.selects "TendonLosses$Tendon" yT_startPulling yT_startPulling ∈ gt := gt_in (List.mem_of_getElem? (i := 210) (by decide +kernel)) rfl
theorem kw_211 : Cond.code yT_startPulling bT_startPulling 4 none ∈ gt := gt_in (List.mem_of_getElem? (i := 211) (by decide +kernel)) rfl
theorem kw_212 : Cond.methodLink "TendonLosses$Tendon" 38 yT_strain ∈ gt := gt_in (List.mem_of_getElem? (i := 212) (by decide +kernel)) rfl
theorem kw_214 : Cond.instanceMethod yT_strain ∈ gt := gt_in (List.mem_of_getElem? (i := 214) (by decide +kernel)) rfl
theorem kw_215 : Cond.code yT_strain bT_strain 6 none ∈ gt := gt_in (List.mem_of_getElem? (i := 215) (by decide +kernel)) rfl
theorem kw_216 : Cond.methodLink "TendonLosses$Tendon" 51 yT_strainFromEnd ∈ gt := gt_in (List.mem_of_getElem? (i := 216) (by decide +kernel)) rfl
theorem kw_218 : Cond.instanceMethod yT_strainFromEnd ∈ gt := gt_in (List.mem_of_getElem? (i := 218) (by decide +kernel)) rfl
theorem kw_219 : Cond.code yT_strainFromEnd bT_strainFromEnd 9 none ∈ gt := gt_in (List.mem_of_getElem? (i := 219) (by decide +kernel)) rfl
theorem kw_220 : Cond.methodLink "TendonLosses$Tendon" 54 yD_pointOnWay ∈ gt := gt_in (List.mem_of_getElem? (i := 220) (by decide +kernel)) rfl
theorem kw_221 : Cond.instanceMethod yD_pointOnWay ∈ gt := gt_in (List.mem_of_getElem? (i := 221) (by decide +kernel)) rfl
theorem kw_222 : Cond.selects "TendonLosses$Duct" yD_pointOnWay yD_pointOnWay ∈ gt := gt_in (List.mem_of_getElem? (i := 222) (by decide +kernel)) rfl
theorem kw_223 : Cond.code yD_pointOnWay bD_pointOnWay 3 (some .int) ∈ gt := gt_in (List.mem_of_getElem? (i := 223) (by decide +kernel)) rfl
theorem kw_224 : Cond.methodLink "TendonLosses$Tendon" 58 yD_lengthBefore ∈ gt := gt_in (List.mem_of_getElem? (i := 224) (by decide +kernel)) rfl
theorem kw_225 : Cond.instanceMethod yD_lengthBefore ∈ gt := gt_in (List.mem_of_getElem? (i := 225) (by decide +kernel)) rfl
theorem kw_226 : Cond.selects "TendonLosses$Duct" yD_lengthBefore yD_lengthBefore ∈ gt := gt_in (List.mem_of_getElem? (i := 226) (by decide +kernel)) rfl
theorem kw_227 : Cond.code yD_lengthBefore bD_lengthBefore 3 (some .int) ∈ gt := gt_in (List.mem_of_getElem? (i := 227) (by decide +kernel)) rfl
theorem kw_228 : Cond.methodLink "TendonLosses$Tendon" 61 yF_alongPiece ∈ gt := gt_in (List.mem_of_getElem? (i := 228) (by decide +kernel)) rfl
theorem kw_229 : Cond.instanceMethod yF_alongPiece ∈ gt := gt_in (List.mem_of_getElem? (i := 229) (by decide +kernel)) rfl
theorem kw_230 : Cond.selects "TendonLosses$Friction" yF_alongPiece yF_alongPiece ∈ gt := gt_in (List.mem_of_getElem? (i := 230) (by decide +kernel)) rfl
theorem kw_231 : Cond.code yF_alongPiece bF_alongPiece 4 (some .long) ∈ gt := gt_in (List.mem_of_getElem? (i := 231) (by decide +kernel)) rfl
theorem kw_232 : Cond.constantLong "TendonLosses$Friction" 18 1000000000 ∈ gt := gt_in (List.mem_of_getElem? (i := 232) (by decide +kernel)) rfl
theorem kw_233 : Cond.methodLink "TendonLosses$Tendon" 67 yD_turnAt ∈ gt := gt_in (List.mem_of_getElem? (i := 233) (by decide +kernel)) rfl
theorem kw_234 : Cond.instanceMethod yD_turnAt ∈ gt := gt_in (List.mem_of_getElem? (i := 234) (by decide +kernel)) rfl
theorem kw_235 : Cond.selects "TendonLosses$Duct" yD_turnAt yD_turnAt ∈ gt := gt_in (List.mem_of_getElem? (i := 235) (by decide +kernel)) rfl
theorem kw_236 : Cond.code yD_turnAt bD_turnAt 2 (some .int) ∈ gt := gt_in (List.mem_of_getElem? (i := 236) (by decide +kernel)) rfl
theorem kw_237 : Cond.methodLink "TendonLosses$Duct" 59 yD_bendAt ∈ gt := gt_in (List.mem_of_getElem? (i := 237) (by decide +kernel)) rfl
theorem kw_238 : Cond.instanceMethod yD_bendAt ∈ gt := gt_in (List.mem_of_getElem? (i := 238) (by decide +kernel)) rfl
theorem kw_239 : Cond.selects "TendonLosses$Duct" yD_bendAt yD_bendAt ∈ gt := gt_in (List.mem_of_getElem? (i := 239) (by decide +kernel)) rfl
theorem kw_240 : Cond.code yD_bendAt bD_bendAt 2 (some .int) ∈ gt := gt_in (List.mem_of_getElem? (i := 240) (by decide +kernel)) rfl
theorem kw_241 : Cond.methodLink "TendonLosses$Duct" 55 yD_isBetweenPieces ∈ gt := gt_in (List.mem_of_getElem? (i := 241) (by decide +kernel)) rfl
theorem kw_242 : Cond.instanceMethod yD_isBetweenPieces ∈ gt := gt_in (List.mem_of_getElem? (i := 242) (by decide +kernel)) rfl
theorem kw_243 : Cond.selects "TendonLosses$Duct" yD_isBetweenPieces yD_isBetweenPieces ∈ gt := gt_in (List.mem_of_getElem? (i := 243) (by decide +kernel)) rfl
theorem kw_244 : Cond.code yD_isBetweenPieces bD_isBetweenPieces 2 (some .boolean) ∈ gt := gt_in (List.mem_of_getElem? (i := 244) (by decide +kernel)) rfl
theorem kw_245 : Cond.methodLink "TendonLosses$Duct" 62 Lib.Math.abs.name ∈ gt := gt_in (List.mem_of_getElem? (i := 245) (by decide +kernel)) rfl
theorem kw_246 : Cond.static Lib.Math.abs.name ∈ gt := gt_in (List.mem_of_getElem? (i := 246) (by decide +kernel)) rfl
theorem kw_247 : Cond.code Lib.Math.abs.name Lib.Math.abs.code 1 (some .int) ∈ gt := gt_in (List.mem_of_getElem? (i := 247) (by decide +kernel)) rfl
theorem kw_248 : Cond.methodLink "TendonLosses$Tendon" 71 yF_atTurn ∈ gt := gt_in (List.mem_of_getElem? (i := 248) (by decide +kernel)) rfl
theorem kw_249 : Cond.instanceMethod yF_atTurn ∈ gt := gt_in (List.mem_of_getElem? (i := 249) (by decide +kernel)) rfl
theorem kw_250 : Cond.selects "TendonLosses$Friction" yF_atTurn yF_atTurn ∈ gt := gt_in (List.mem_of_getElem? (i := 250) (by decide +kernel)) rfl
theorem kw_251 : Cond.code yF_atTurn bF_atTurn 4 (some .long) ∈ gt := gt_in (List.mem_of_getElem? (i := 251) (by decide +kernel)) rfl
theorem kw_252 : Cond.constantLong "TendonLosses$Friction" 20 1000000 ∈ gt := gt_in (List.mem_of_getElem? (i := 252) (by decide +kernel)) rfl
theorem kw_253 : Cond.methodLink "TendonLosses$Tendon" 74 Lib.MathLoose.max_long.x ∈ gt := gt_in (List.mem_of_getElem? (i := 253) (by decide +kernel)) rfl
theorem kw_254 : Cond.static Lib.MathLoose.max_long.x ∈ gt := gt_in (List.mem_of_getElem? (i := 254) (by decide +kernel)) rfl
theorem kw_255 : Cond.code Lib.MathLoose.max_long.x Lib.MathLoose.max_long.code 4 (some .long) ∈ gt := gt_in (List.mem_of_getElem? (i := 255) (by decide +kernel)) rfl
theorem kw_256 : Cond.methodLink "TendonLosses" 91 yT_stretch ∈ gt := gt_in (List.mem_of_getElem? (i := 256) (by decide +kernel)) rfl
theorem kw_257 : Cond.instanceMethod yT_stretch ∈ gt := gt_in (List.mem_of_getElem? (i := 257) (by decide +kernel)) rfl
theorem kw_258 : Cond.selects "TendonLosses$Tendon" yT_stretch yT_stretch ∈ gt := gt_in (List.mem_of_getElem? (i := 258) (by decide +kernel)) rfl
theorem kw_259 : Cond.code yT_stretch bT_stretch 4 (some .long) ∈ gt := gt_in (List.mem_of_getElem? (i := 259) (by decide +kernel)) rfl
theorem kw_260 : Cond.methodLink "TendonLosses$Tendon" 88 yT_stretchOf ∈ gt := gt_in (List.mem_of_getElem? (i := 260) (by decide +kernel)) rfl
theorem kw_262 : Cond.instanceMethod yT_stretchOf ∈ gt := gt_in (List.mem_of_getElem? (i := 262) (by decide +kernel)) rfl
theorem kw_263 : Cond.code yT_stretchOf bT_stretchOf 4 (some .long) ∈ gt := gt_in (List.mem_of_getElem? (i := 263) (by decide +kernel)) rfl
theorem kw_264 : Cond.constantLong "TendonLosses$Tendon" 96 1000 ∈ gt := gt_in (List.mem_of_getElem? (i := 264) (by decide +kernel)) rfl
theorem kw_265 : Cond.constantLong "TendonLosses$Tendon" 98 2 ∈ gt := gt_in (List.mem_of_getElem? (i := 265) (by decide +kernel)) rfl
theorem kw_266 : Cond.constantLong "TendonLosses$Tendon" 100 195000 ∈ gt := gt_in (List.mem_of_getElem? (i := 266) (by decide +kernel)) rfl
theorem kw_268 : Cond.methodLink "TendonLossesLaw" 37 yL_lock ∈ gt := gt_in (List.mem_of_getElem? (i := 268) (by decide +kernel)) rfl
theorem kw_269 : Cond.instanceMethod yL_lock ∈ gt := gt_in (List.mem_of_getElem? (i := 269) (by decide +kernel)) rfl
theorem kw_270 : Cond.selects "TendonLosses" yL_lock yL_lock ∈ gt := gt_in (List.mem_of_getElem? (i := 270) (by decide +kernel)) rfl
theorem kw_271 : Cond.code yL_lock bL_lock 5 (some .int) ∈ gt := gt_in (List.mem_of_getElem? (i := 271) (by decide +kernel)) rfl
theorem kw_272 : Cond.methodLink "TendonLosses" 95 yT_slipBack ∈ gt := gt_in (List.mem_of_getElem? (i := 272) (by decide +kernel)) rfl
theorem kw_273 : Cond.instanceMethod yT_slipBack ∈ gt := gt_in (List.mem_of_getElem? (i := 273) (by decide +kernel)) rfl
theorem kw_274 : Cond.selects "TendonLosses$Tendon" yT_slipBack yT_slipBack ∈ gt := gt_in (List.mem_of_getElem? (i := 274) (by decide +kernel)) rfl
theorem kw_275 : Cond.code yT_slipBack bT_slipBack 3 none ∈ gt := gt_in (List.mem_of_getElem? (i := 275) (by decide +kernel)) rfl
theorem kw_276 : Cond.methodLink "TendonLosses$Tendon" 77 yT_slipAtEnd ∈ gt := gt_in (List.mem_of_getElem? (i := 276) (by decide +kernel)) rfl
theorem kw_278 : Cond.instanceMethod yT_slipAtEnd ∈ gt := gt_in (List.mem_of_getElem? (i := 278) (by decide +kernel)) rfl
theorem kw_279 : Cond.code yT_slipAtEnd bT_slipAtEnd 8 none ∈ gt := gt_in (List.mem_of_getElem? (i := 279) (by decide +kernel)) rfl
theorem kw_280 : Cond.methodLink "TendonLosses$Tendon" 81 yT_tryAnchor ∈ gt := gt_in (List.mem_of_getElem? (i := 280) (by decide +kernel)) rfl
theorem kw_282 : Cond.instanceMethod yT_tryAnchor ∈ gt := gt_in (List.mem_of_getElem? (i := 282) (by decide +kernel)) rfl
theorem kw_283 : Cond.code yT_tryAnchor bT_tryAnchor 8 none ∈ gt := gt_in (List.mem_of_getElem? (i := 283) (by decide +kernel)) rfl
theorem kw_284 : Cond.methodLink "TendonLosses$Tendon" 84 yT_shortening ∈ gt := gt_in (List.mem_of_getElem? (i := 284) (by decide +kernel)) rfl
theorem kw_286 : Cond.instanceMethod yT_shortening ∈ gt := gt_in (List.mem_of_getElem? (i := 286) (by decide +kernel)) rfl
theorem kw_287 : Cond.code yT_shortening bT_shortening 4 (some .long) ∈ gt := gt_in (List.mem_of_getElem? (i := 287) (by decide +kernel)) rfl
theorem kw_288 : Cond.methodLink "TendonLosses" 99 yT_meanForce ∈ gt := gt_in (List.mem_of_getElem? (i := 288) (by decide +kernel)) rfl
theorem kw_289 : Cond.instanceMethod yT_meanForce ∈ gt := gt_in (List.mem_of_getElem? (i := 289) (by decide +kernel)) rfl
theorem kw_290 : Cond.selects "TendonLosses$Tendon" yT_meanForce yT_meanForce ∈ gt := gt_in (List.mem_of_getElem? (i := 290) (by decide +kernel)) rfl
theorem kw_291 : Cond.code yT_meanForce bT_meanForce 4 (some .long) ∈ gt := gt_in (List.mem_of_getElem? (i := 291) (by decide +kernel)) rfl
theorem kw_292 : Cond.constantLong "TendonLosses" 102 1000 ∈ gt := gt_in (List.mem_of_getElem? (i := 292) (by decide +kernel)) rfl
theorem kw_293 : Cond.methodLink "TendonLosses" 104 yL_weakenLockedOnes ∈ gt := gt_in (List.mem_of_getElem? (i := 293) (by decide +kernel)) rfl
theorem kw_295 : Cond.instanceMethod yL_weakenLockedOnes ∈ gt := gt_in (List.mem_of_getElem? (i := 295) (by decide +kernel)) rfl
theorem kw_296 : Cond.code yL_weakenLockedOnes bL_weakenLockedOnes 5 none ∈ gt := gt_in (List.mem_of_getElem? (i := 296) (by decide +kernel)) rfl
theorem kw_297 : Cond.methodLink "TendonLosses" 168 yT_loseEverywhere ∈ gt := gt_in (List.mem_of_getElem? (i := 297) (by decide +kernel)) rfl
theorem kw_298 : Cond.instanceMethod yT_loseEverywhere ∈ gt := gt_in (List.mem_of_getElem? (i := 298) (by decide +kernel)) rfl
theorem kw_299 : Cond.selects "TendonLosses$Tendon" yT_loseEverywhere yT_loseEverywhere ∈ gt := gt_in (List.mem_of_getElem? (i := 299) (by decide +kernel)) rfl
theorem kw_300 : Cond.code yT_loseEverywhere bT_loseEverywhere 4 none ∈ gt := gt_in (List.mem_of_getElem? (i := 300) (by decide +kernel)) rfl
theorem kw_301 : Cond.methodLink "TendonLossesLaw" 41 yL_cut ∈ gt := gt_in (List.mem_of_getElem? (i := 301) (by decide +kernel)) rfl
theorem kw_302 : Cond.instanceMethod yL_cut ∈ gt := gt_in (List.mem_of_getElem? (i := 302) (by decide +kernel)) rfl
theorem kw_303 : Cond.selects "TendonLosses" yL_cut yL_cut ∈ gt := gt_in (List.mem_of_getElem? (i := 303) (by decide +kernel)) rfl
theorem kw_304 : Cond.code yL_cut bL_cut 3 (some .boolean) ∈ gt := gt_in (List.mem_of_getElem? (i := 304) (by decide +kernel)) rfl
theorem kw_305 : Cond.methodLink "TendonLosses" 108 yL_forgetLocked ∈ gt := gt_in (List.mem_of_getElem? (i := 305) (by decide +kernel)) rfl
theorem kw_307 : Cond.instanceMethod yL_forgetLocked ∈ gt := gt_in (List.mem_of_getElem? (i := 307) (by decide +kernel)) rfl
theorem kw_308 : Cond.code yL_forgetLocked bL_forgetLocked 4 none ∈ gt := gt_in (List.mem_of_getElem? (i := 308) (by decide +kernel)) rfl
theorem kw_309 : Cond.methodLink "TendonLossesLaw" 46 yL_days ∈ gt := gt_in (List.mem_of_getElem? (i := 309) (by decide +kernel)) rfl
theorem kw_310 : Cond.instanceMethod yL_days ∈ gt := gt_in (List.mem_of_getElem? (i := 310) (by decide +kernel)) rfl
theorem kw_311 : Cond.selects "TendonLosses" yL_days yL_days ∈ gt := gt_in (List.mem_of_getElem? (i := 311) (by decide +kernel)) rfl
theorem kw_312 : Cond.code yL_days bL_days 4 (some .int) ∈ gt := gt_in (List.mem_of_getElem? (i := 312) (by decide +kernel)) rfl
theorem kw_313 : Cond.methodLink "TendonLosses" 111 yT_fadeAway ∈ gt := gt_in (List.mem_of_getElem? (i := 313) (by decide +kernel)) rfl
theorem kw_314 : Cond.instanceMethod yT_fadeAway ∈ gt := gt_in (List.mem_of_getElem? (i := 314) (by decide +kernel)) rfl
theorem kw_315 : Cond.selects "TendonLosses$Tendon" yT_fadeAway yT_fadeAway ∈ gt := gt_in (List.mem_of_getElem? (i := 315) (by decide +kernel)) rfl
theorem kw_316 : Cond.code yT_fadeAway bT_fadeAway 5 none ∈ gt := gt_in (List.mem_of_getElem? (i := 316) (by decide +kernel)) rfl
theorem kw_317 : Cond.constantLong "TendonLosses$Tendon" 105 1000000 ∈ gt := gt_in (List.mem_of_getElem? (i := 317) (by decide +kernel)) rfl
theorem kw_318 : Cond.methodLink "TendonLossesLaw" 50 yL_force ∈ gt := gt_in (List.mem_of_getElem? (i := 318) (by decide +kernel)) rfl
theorem kw_319 : Cond.instanceMethod yL_force ∈ gt := gt_in (List.mem_of_getElem? (i := 319) (by decide +kernel)) rfl
theorem kw_320 : Cond.selects "TendonLosses" yL_force yL_force ∈ gt := gt_in (List.mem_of_getElem? (i := 320) (by decide +kernel)) rfl
theorem kw_321 : Cond.code yL_force bL_force 4 (some .int) ∈ gt := gt_in (List.mem_of_getElem? (i := 321) (by decide +kernel)) rfl
theorem kw_322 : Cond.methodLink "TendonLosses" 114 yL_findStrained ∈ gt := gt_in (List.mem_of_getElem? (i := 322) (by decide +kernel)) rfl
theorem kw_324 : Cond.instanceMethod yL_findStrained ∈ gt := gt_in (List.mem_of_getElem? (i := 324) (by decide +kernel)) rfl
theorem kw_325 : Cond.code yL_findStrained bL_findStrained 3 (some (.object "TendonLosses$Tendon")) ∈ gt := gt_in (List.mem_of_getElem? (i := 325) (by decide +kernel)) rfl
theorem kw_326 : Cond.methodLink "TendonLosses" 117 yD_hasPoint ∈ gt := gt_in (List.mem_of_getElem? (i := 326) (by decide +kernel)) rfl
theorem kw_327 : Cond.instanceMethod yD_hasPoint ∈ gt := gt_in (List.mem_of_getElem? (i := 327) (by decide +kernel)) rfl
theorem kw_328 : Cond.selects "TendonLosses$Duct" yD_hasPoint yD_hasPoint ∈ gt := gt_in (List.mem_of_getElem? (i := 328) (by decide +kernel)) rfl
theorem kw_329 : Cond.code yD_hasPoint bD_hasPoint 2 (some .boolean) ∈ gt := gt_in (List.mem_of_getElem? (i := 329) (by decide +kernel)) rfl
theorem kw_330 : Cond.methodLink "TendonLossesLaw" 55 yL_at ∈ gt := gt_in (List.mem_of_getElem? (i := 330) (by decide +kernel)) rfl
theorem kw_331 : Cond.instanceMethod yL_at ∈ gt := gt_in (List.mem_of_getElem? (i := 331) (by decide +kernel)) rfl
theorem kw_332 : Cond.selects "TendonLosses" yL_at yL_at ∈ gt := gt_in (List.mem_of_getElem? (i := 332) (by decide +kernel)) rfl
theorem kw_333 : Cond.code yL_at bL_at 5 (some .int) ∈ gt := gt_in (List.mem_of_getElem? (i := 333) (by decide +kernel)) rfl
theorem kw_334 : Cond.methodLink "TendonLosses" 125 yD_pieceOver ∈ gt := gt_in (List.mem_of_getElem? (i := 334) (by decide +kernel)) rfl
theorem kw_335 : Cond.instanceMethod yD_pieceOver ∈ gt := gt_in (List.mem_of_getElem? (i := 335) (by decide +kernel)) rfl
theorem kw_336 : Cond.selects "TendonLosses$Duct" yD_pieceOver yD_pieceOver ∈ gt := gt_in (List.mem_of_getElem? (i := 336) (by decide +kernel)) rfl
theorem kw_337 : Cond.code yD_pieceOver bD_pieceOver 3 (some .int) ∈ gt := gt_in (List.mem_of_getElem? (i := 337) (by decide +kernel)) rfl
theorem kw_338 : Cond.methodLink "TendonLosses" 129 yT_forceOn ∈ gt := gt_in (List.mem_of_getElem? (i := 338) (by decide +kernel)) rfl
theorem kw_339 : Cond.instanceMethod yT_forceOn ∈ gt := gt_in (List.mem_of_getElem? (i := 339) (by decide +kernel)) rfl
theorem kw_340 : Cond.selects "TendonLosses$Tendon" yT_forceOn yT_forceOn ∈ gt := gt_in (List.mem_of_getElem? (i := 340) (by decide +kernel)) rfl
theorem kw_341 : Cond.code yT_forceOn bT_forceOn 7 (some .long) ∈ gt := gt_in (List.mem_of_getElem? (i := 341) (by decide +kernel)) rfl
theorem kw_342 : Cond.methodLink "TendonLosses$Tendon" 110 yD_widthOf ∈ gt := gt_in (List.mem_of_getElem? (i := 342) (by decide +kernel)) rfl
theorem kw_343 : Cond.methodLink "TendonLossesLaw" 59 yL_longer ∈ gt := gt_in (List.mem_of_getElem? (i := 343) (by decide +kernel)) rfl
theorem kw_344 : Cond.instanceMethod yL_longer ∈ gt := gt_in (List.mem_of_getElem? (i := 344) (by decide +kernel)) rfl
theorem kw_345 : Cond.selects "TendonLosses" yL_longer yL_longer ∈ gt := gt_in (List.mem_of_getElem? (i := 345) (by decide +kernel)) rfl
theorem kw_346 : Cond.code yL_longer bL_longer 3 (some .int) ∈ gt := gt_in (List.mem_of_getElem? (i := 346) (by decide +kernel)) rfl
theorem kw_347 : Cond.methodLink "TendonLossesLaw" 63 yL_piece ∈ gt := gt_in (List.mem_of_getElem? (i := 347) (by decide +kernel)) rfl
theorem kw_348 : Cond.instanceMethod yL_piece ∈ gt := gt_in (List.mem_of_getElem? (i := 348) (by decide +kernel)) rfl
theorem kw_349 : Cond.selects "TendonLosses" yL_piece yL_piece ∈ gt := gt_in (List.mem_of_getElem? (i := 349) (by decide +kernel)) rfl
theorem kw_350 : Cond.code yL_piece bL_piece 5 (some .int) ∈ gt := gt_in (List.mem_of_getElem? (i := 350) (by decide +kernel)) rfl
theorem kw_351 : Cond.methodLink "TendonLosses" 133 yD_hasPiece ∈ gt := gt_in (List.mem_of_getElem? (i := 351) (by decide +kernel)) rfl
theorem kw_352 : Cond.instanceMethod yD_hasPiece ∈ gt := gt_in (List.mem_of_getElem? (i := 352) (by decide +kernel)) rfl
theorem kw_353 : Cond.selects "TendonLosses$Duct" yD_hasPiece yD_hasPiece ∈ gt := gt_in (List.mem_of_getElem? (i := 353) (by decide +kernel)) rfl
theorem kw_354 : Cond.code yD_hasPiece bD_hasPiece 2 (some .boolean) ∈ gt := gt_in (List.mem_of_getElem? (i := 354) (by decide +kernel)) rfl
theorem kw_355 : Cond.methodLink "TendonLosses" 142 yD_turnAt ∈ gt := gt_in (List.mem_of_getElem? (i := 355) (by decide +kernel)) rfl
theorem kw_356 : Cond.methodLink "TendonLossesLaw" 67 yL_presses ∈ gt := gt_in (List.mem_of_getElem? (i := 356) (by decide +kernel)) rfl
theorem kw_357 : Cond.instanceMethod yL_presses ∈ gt := gt_in (List.mem_of_getElem? (i := 357) (by decide +kernel)) rfl
theorem kw_358 : Cond.selects "TendonLosses" yL_presses yL_presses ∈ gt := gt_in (List.mem_of_getElem? (i := 358) (by decide +kernel)) rfl
theorem kw_359 : Cond.code yL_presses bL_presses 4 (some .int) ∈ gt := gt_in (List.mem_of_getElem? (i := 359) (by decide +kernel)) rfl
theorem kw_360 : Cond.methodLink "TendonLosses" 145 yD_isBetweenPieces ∈ gt := gt_in (List.mem_of_getElem? (i := 360) (by decide +kernel)) rfl
theorem kw_361 : Cond.constant "TendonLosses" 148 (-2000000000) ∈ gt := gt_in (List.mem_of_getElem? (i := 361) (by decide +kernel)) rfl
theorem kw_362 : Cond.methodLink "TendonLosses" 149 yD_bendAt ∈ gt := gt_in (List.mem_of_getElem? (i := 362) (by decide +kernel)) rfl
theorem kw_363 : Cond.methodLink "TendonLossesLaw" 71 yL_clash ∈ gt := gt_in (List.mem_of_getElem? (i := 363) (by decide +kernel)) rfl
theorem kw_364 : Cond.instanceMethod yL_clash ∈ gt := gt_in (List.mem_of_getElem? (i := 364) (by decide +kernel)) rfl
theorem kw_365 : Cond.selects "TendonLosses" yL_clash yL_clash ∈ gt := gt_in (List.mem_of_getElem? (i := 365) (by decide +kernel)) rfl
theorem kw_366 : Cond.code yL_clash bL_clash 6 (some .boolean) ∈ gt := gt_in (List.mem_of_getElem? (i := 366) (by decide +kernel)) rfl
theorem kw_367 : Cond.methodLink "TendonLosses" 152 yD_comeNearer ∈ gt := gt_in (List.mem_of_getElem? (i := 367) (by decide +kernel)) rfl
theorem kw_368 : Cond.static yD_comeNearer ∈ gt := gt_in (List.mem_of_getElem? (i := 368) (by decide +kernel)) rfl
theorem kw_369 : Cond.code yD_comeNearer bD_comeNearer 5 (some .boolean) ∈ gt := gt_in (List.mem_of_getElem? (i := 369) (by decide +kernel)) rfl
theorem kw_370 : Cond.methodLink "TendonLosses$Duct" 67 yD_piecesComeNearer ∈ gt := gt_in (List.mem_of_getElem? (i := 370) (by decide +kernel)) rfl
theorem kw_371 : Cond.static yD_piecesComeNearer ∈ gt := gt_in (List.mem_of_getElem? (i := 371) (by decide +kernel)) rfl
theorem kw_372 : Cond.code yD_piecesComeNearer bD_piecesComeNearer 14 (some .boolean) ∈ gt := gt_in (List.mem_of_getElem? (i := 372) (by decide +kernel)) rfl
theorem kw_373 : Cond.methodLink "TendonLosses$Duct" 71 Lib.Math.max.name ∈ gt := gt_in (List.mem_of_getElem? (i := 373) (by decide +kernel)) rfl
theorem kw_374 : Cond.static Lib.Math.max.name ∈ gt := gt_in (List.mem_of_getElem? (i := 374) (by decide +kernel)) rfl
theorem kw_375 : Cond.code Lib.Math.max.name Lib.Math.max.code 2 (some .int) ∈ gt := gt_in (List.mem_of_getElem? (i := 375) (by decide +kernel)) rfl
theorem kw_376 : Cond.methodLink "TendonLosses$Duct" 75 Lib.Math.min.name ∈ gt := gt_in (List.mem_of_getElem? (i := 376) (by decide +kernel)) rfl
theorem kw_377 : Cond.static Lib.Math.min.name ∈ gt := gt_in (List.mem_of_getElem? (i := 377) (by decide +kernel)) rfl
theorem kw_378 : Cond.code Lib.Math.min.name Lib.Math.min.code 2 (some .int) ∈ gt := gt_in (List.mem_of_getElem? (i := 378) (by decide +kernel)) rfl
theorem kw_379 : Cond.methodLink "TendonLosses$Duct" 78 yD_scaledDistance ∈ gt := gt_in (List.mem_of_getElem? (i := 379) (by decide +kernel)) rfl
theorem kw_380 : Cond.static yD_scaledDistance ∈ gt := gt_in (List.mem_of_getElem? (i := 380) (by decide +kernel)) rfl
theorem kw_381 : Cond.code yD_scaledDistance bD_scaledDistance 5 (some .long) ∈ gt := gt_in (List.mem_of_getElem? (i := 381) (by decide +kernel)) rfl
theorem kw_382 : Cond.methodLink "TendonLosses$Duct" 85 yD_scaledHeight ∈ gt := gt_in (List.mem_of_getElem? (i := 382) (by decide +kernel)) rfl
theorem kw_384 : Cond.instanceMethod yD_scaledHeight ∈ gt := gt_in (List.mem_of_getElem? (i := 384) (by decide +kernel)) rfl
theorem kw_385 : Cond.code yD_scaledHeight bD_scaledHeight 5 (some .long) ∈ gt := gt_in (List.mem_of_getElem? (i := 385) (by decide +kernel)) rfl
theorem kw_386 : Cond.methodLink "TendonLosses$Duct" 82 Lib.MathLoose.abs_long.x ∈ gt := gt_in (List.mem_of_getElem? (i := 386) (by decide +kernel)) rfl
theorem kw_387 : Cond.static Lib.MathLoose.abs_long.x ∈ gt := gt_in (List.mem_of_getElem? (i := 387) (by decide +kernel)) rfl
theorem kw_388 : Cond.code Lib.MathLoose.abs_long.x Lib.MathLoose.abs_long.code 2 (some .long) ∈ gt := gt_in (List.mem_of_getElem? (i := 388) (by decide +kernel)) rfl
theorem kw_389 : Cond.methodLink "TendonLossesLaw" 75 yL_locked ∈ gt := gt_in (List.mem_of_getElem? (i := 389) (by decide +kernel)) rfl
theorem kw_390 : Cond.instanceMethod yL_locked ∈ gt := gt_in (List.mem_of_getElem? (i := 390) (by decide +kernel)) rfl
theorem kw_391 : Cond.selects "TendonLosses" yL_locked yL_locked ∈ gt := gt_in (List.mem_of_getElem? (i := 391) (by decide +kernel)) rfl
theorem kw_392 : Cond.code yL_locked bL_locked 2 (some .int) ∈ gt := gt_in (List.mem_of_getElem? (i := 392) (by decide +kernel)) rfl
theorem kw_393 : Cond.methodLink "TendonLossesLaw" 79 yL_wanted ∈ gt := gt_in (List.mem_of_getElem? (i := 393) (by decide +kernel)) rfl
theorem kw_394 : Cond.instanceMethod yL_wanted ∈ gt := gt_in (List.mem_of_getElem? (i := 394) (by decide +kernel)) rfl
theorem kw_395 : Cond.selects "TendonLosses" yL_wanted yL_wanted ∈ gt := gt_in (List.mem_of_getElem? (i := 395) (by decide +kernel)) rfl
theorem kw_396 : Cond.code yL_wanted bL_wanted 8 (some .int) ∈ gt := gt_in (List.mem_of_getElem? (i := 396) (by decide +kernel)) rfl
theorem kw_397 : Cond.constant "TendonLosses" 156 200000 ∈ gt := gt_in (List.mem_of_getElem? (i := 397) (by decide +kernel)) rfl
theorem kw_398 : Cond.methodLink "TendonLosses" 157 yT_leastForceIfPulled ∈ gt := gt_in (List.mem_of_getElem? (i := 398) (by decide +kernel)) rfl
theorem kw_399 : Cond.instanceMethod yT_leastForceIfPulled ∈ gt := gt_in (List.mem_of_getElem? (i := 399) (by decide +kernel)) rfl
theorem kw_400 : Cond.selects "TendonLosses$Tendon" yT_leastForceIfPulled yT_leastForceIfPulled ∈ gt := gt_in (List.mem_of_getElem? (i := 400) (by decide +kernel)) rfl
theorem kw_401 : Cond.code yT_leastForceIfPulled bT_leastForceIfPulled 7 (some .long) ∈ gt := gt_in (List.mem_of_getElem? (i := 401) (by decide +kernel)) rfl
theorem kw_402 : Cond.methodLink "TendonLosses$Tendon" 45 Lib.MathLoose.min_long.x ∈ gt := gt_in (List.mem_of_getElem? (i := 402) (by decide +kernel)) rfl
theorem kw_403 : Cond.static Lib.MathLoose.min_long.x ∈ gt := gt_in (List.mem_of_getElem? (i := 403) (by decide +kernel)) rfl
theorem kw_404 : Cond.code Lib.MathLoose.min_long.x Lib.MathLoose.min_long.code 4 (some .long) ∈ gt := gt_in (List.mem_of_getElem? (i := 404) (by decide +kernel)) rfl
theorem kw_405 : Cond.methodLink "TendonLossesLaw" 84 yL_count ∈ gt := gt_in (List.mem_of_getElem? (i := 405) (by decide +kernel)) rfl
theorem kw_406 : Cond.instanceMethod yL_count ∈ gt := gt_in (List.mem_of_getElem? (i := 406) (by decide +kernel)) rfl
theorem kw_407 : Cond.selects "TendonLosses" yL_count yL_count ∈ gt := gt_in (List.mem_of_getElem? (i := 407) (by decide +kernel)) rfl
theorem kw_408 : Cond.code yL_count bL_count 2 (some .int) ∈ gt := gt_in (List.mem_of_getElem? (i := 408) (by decide +kernel)) rfl
theorem kw_409 : Cond.methodLink "TendonLosses" 161 yL_countPulled ∈ gt := gt_in (List.mem_of_getElem? (i := 409) (by decide +kernel)) rfl
theorem kw_411 : Cond.instanceMethod yL_countPulled ∈ gt := gt_in (List.mem_of_getElem? (i := 411) (by decide +kernel)) rfl
theorem kw_412 : Cond.code yL_countPulled bL_countPulled 4 (some .int) ∈ gt := gt_in (List.mem_of_getElem? (i := 412) (by decide +kernel)) rfl
theorem kw_413 : Cond.methodLink "TendonLosses" 165 yL_countPoints ∈ gt := gt_in (List.mem_of_getElem? (i := 413) (by decide +kernel)) rfl
theorem kw_415 : Cond.instanceMethod yL_countPoints ∈ gt := gt_in (List.mem_of_getElem? (i := 415) (by decide +kernel)) rfl
theorem kw_416 : Cond.code yL_countPoints bL_countPoints 4 (some .int) ∈ gt := gt_in (List.mem_of_getElem? (i := 416) (by decide +kernel)) rfl
theorem kw_417 : Cond.classLink "TendonLossesLaw" 10 "TendonLossesModel" ∈ gt := gt_in (List.mem_of_getElem? (i := 417) (by decide +kernel)) rfl
theorem kw_418 : Cond.instantiable "TendonLossesModel" 20 ∈ gt := gt_in (List.mem_of_getElem? (i := 418) (by decide +kernel)) rfl
theorem kw_419 : Cond.methodLink "TendonLossesLaw" 12 yM_init ∈ gt := gt_in (List.mem_of_getElem? (i := 419) (by decide +kernel)) rfl
theorem kw_420 : Cond.instanceMethod yM_init ∈ gt := gt_in (List.mem_of_getElem? (i := 420) (by decide +kernel)) rfl
theorem kw_421 : Cond.code yM_init bM_init 1 none ∈ gt := gt_in (List.mem_of_getElem? (i := 421) (by decide +kernel)) rfl
theorem kw_422 : Cond.methodLink "TendonLossesModel" 1 objectInit ∈ gt := gt_in (List.mem_of_getElem? (i := 422) (by decide +kernel)) rfl
theorem kw_423 : Cond.fieldLink "TendonLossesModel" 57 "TendonLossesModel" "tendons" "I" ∈ gt := gt_in (List.mem_of_getElem? (i := 423) (by decide +kernel)) rfl
theorem kw_424 : Cond.fieldLink "TendonLossesModel" 7 "TendonLossesModel" "areas" "[I" ∈ gt := gt_in (List.mem_of_getElem? (i := 424) (by decide +kernel)) rfl
theorem kw_425 : Cond.fieldLink "TendonLossesModel" 13 "TendonLossesModel" "sizes" "[I" ∈ gt := gt_in (List.mem_of_getElem? (i := 425) (by decide +kernel)) rfl
theorem kw_426 : Cond.fieldLink "TendonLossesModel" 16 "TendonLossesModel" "states" "[I" ∈ gt := gt_in (List.mem_of_getElem? (i := 426) (by decide +kernel)) rfl
theorem kw_427 : Cond.fieldLink "TendonLossesModel" 19 "TendonLossesModel" "ends" "[I" ∈ gt := gt_in (List.mem_of_getElem? (i := 427) (by decide +kernel)) rfl
theorem kw_428 : Cond.fieldLink "TendonLossesModel" 22 "TendonLossesModel" "pulls" "[I" ∈ gt := gt_in (List.mem_of_getElem? (i := 428) (by decide +kernel)) rfl
theorem kw_429 : Cond.fieldLink "TendonLossesModel" 25 "TendonLossesModel" "xs" "[I" ∈ gt := gt_in (List.mem_of_getElem? (i := 429) (by decide +kernel)) rfl
theorem kw_430 : Cond.fieldLink "TendonLossesModel" 28 "TendonLossesModel" "ys" "[I" ∈ gt := gt_in (List.mem_of_getElem? (i := 430) (by decide +kernel)) rfl
theorem kw_431 : Cond.fieldLink "TendonLossesModel" 31 "TendonLossesModel" "forces" "[J" ∈ gt := gt_in (List.mem_of_getElem? (i := 431) (by decide +kernel)) rfl
theorem kw_432 : Cond.fieldLink "TendonLossesModel" 35 "TendonLossesModel" "order" "[I" ∈ gt := gt_in (List.mem_of_getElem? (i := 432) (by decide +kernel)) rfl
theorem kw_433 : Cond.fieldLink "TendonLossesModel" 131 "TendonLossesModel" "lockedOnes" "I" ∈ gt := gt_in (List.mem_of_getElem? (i := 433) (by decide +kernel)) rfl
theorem kw_434 : Cond.fieldLink "TendonLossesModel" 38 "TendonLossesModel" "rough" "I" ∈ gt := gt_in (List.mem_of_getElem? (i := 434) (by decide +kernel)) rfl
theorem kw_435 : Cond.fieldLink "TendonLossesModel" 42 "TendonLossesModel" "mu" "I" ∈ gt := gt_in (List.mem_of_getElem? (i := 435) (by decide +kernel)) rfl
theorem kw_436 : Cond.fieldLink "TendonLossesModel" 72 "TendonLossesModel" "slip" "I" ∈ gt := gt_in (List.mem_of_getElem? (i := 436) (by decide +kernel)) rfl
theorem kw_437 : Cond.fieldLink "TendonLossesModel" 45 "TendonLossesModel" "share" "I" ∈ gt := gt_in (List.mem_of_getElem? (i := 437) (by decide +kernel)) rfl
theorem kw_438 : Cond.fieldLink "TendonLossesModel" 48 "TendonLossesModel" "fade" "I" ∈ gt := gt_in (List.mem_of_getElem? (i := 438) (by decide +kernel)) rfl
theorem kw_439 : Cond.fieldLink "TendonLossesModel" 137 "TendonLossesModel" "days" "I" ∈ gt := gt_in (List.mem_of_getElem? (i := 439) (by decide +kernel)) rfl
theorem kw_440 : Cond.fieldLink "TendonLossesModel" 51 "TendonLossesModel" "one" "[J" ∈ gt := gt_in (List.mem_of_getElem? (i := 440) (by decide +kernel)) rfl
theorem kw_441 : Cond.fieldLink "TendonLossesModel" 54 "TendonLossesModel" "two" "[J" ∈ gt := gt_in (List.mem_of_getElem? (i := 441) (by decide +kernel)) rfl
theorem kw_483 : Cond.methodLink "TendonLossesLaw" 17 yM_tendon ∈ gt := gt_in (List.mem_of_getElem? (i := 483) (by decide +kernel)) rfl
theorem kw_484 : Cond.instanceMethod yM_tendon ∈ gt := gt_in (List.mem_of_getElem? (i := 484) (by decide +kernel)) rfl
theorem kw_485 : Cond.selects "TendonLossesModel" yM_tendon yM_tendon ∈ gt := gt_in (List.mem_of_getElem? (i := 485) (by decide +kernel)) rfl
theorem kw_486 : Cond.code yM_tendon bM_tendon 2 (some .int) ∈ gt := gt_in (List.mem_of_getElem? (i := 486) (by decide +kernel)) rfl
theorem kw_487 : Cond.methodLink "TendonLossesModel" 63 yM_in ∈ gt := gt_in (List.mem_of_getElem? (i := 487) (by decide +kernel)) rfl
theorem kw_488 : Cond.static yM_in ∈ gt := gt_in (List.mem_of_getElem? (i := 488) (by decide +kernel)) rfl
theorem kw_489 : Cond.code yM_in bM_in 3 (some .boolean) ∈ gt := gt_in (List.mem_of_getElem? (i := 489) (by decide +kernel)) rfl
theorem kw_490 : Cond.methodLink "TendonLossesLaw" 22 yM_point ∈ gt := gt_in (List.mem_of_getElem? (i := 490) (by decide +kernel)) rfl
theorem kw_491 : Cond.instanceMethod yM_point ∈ gt := gt_in (List.mem_of_getElem? (i := 491) (by decide +kernel)) rfl
theorem kw_492 : Cond.selects "TendonLossesModel" yM_point yM_point ∈ gt := gt_in (List.mem_of_getElem? (i := 492) (by decide +kernel)) rfl
theorem kw_493 : Cond.code yM_point bM_point 5 (some .int) ∈ gt := gt_in (List.mem_of_getElem? (i := 493) (by decide +kernel)) rfl
theorem kw_494 : Cond.methodLink "TendonLossesModel" 67 yM_isTendon ∈ gt := gt_in (List.mem_of_getElem? (i := 494) (by decide +kernel)) rfl
theorem kw_496 : Cond.instanceMethod yM_isTendon ∈ gt := gt_in (List.mem_of_getElem? (i := 496) (by decide +kernel)) rfl
theorem kw_497 : Cond.code yM_isTendon bM_isTendon 2 (some .boolean) ∈ gt := gt_in (List.mem_of_getElem? (i := 497) (by decide +kernel)) rfl
theorem kw_498 : Cond.constant "TendonLossesModel" 71 100000 ∈ gt := gt_in (List.mem_of_getElem? (i := 498) (by decide +kernel)) rfl
theorem kw_499 : Cond.methodLink "TendonLossesLaw" 27 yM_friction ∈ gt := gt_in (List.mem_of_getElem? (i := 499) (by decide +kernel)) rfl
theorem kw_500 : Cond.instanceMethod yM_friction ∈ gt := gt_in (List.mem_of_getElem? (i := 500) (by decide +kernel)) rfl
theorem kw_501 : Cond.selects "TendonLossesModel" yM_friction yM_friction ∈ gt := gt_in (List.mem_of_getElem? (i := 501) (by decide +kernel)) rfl
theorem kw_502 : Cond.code yM_friction bM_friction 3 (some .boolean) ∈ gt := gt_in (List.mem_of_getElem? (i := 502) (by decide +kernel)) rfl
theorem kw_503 : Cond.methodLink "TendonLossesLaw" 32 yM_losses ∈ gt := gt_in (List.mem_of_getElem? (i := 503) (by decide +kernel)) rfl
theorem kw_504 : Cond.instanceMethod yM_losses ∈ gt := gt_in (List.mem_of_getElem? (i := 504) (by decide +kernel)) rfl
theorem kw_505 : Cond.selects "TendonLossesModel" yM_losses yM_losses ∈ gt := gt_in (List.mem_of_getElem? (i := 505) (by decide +kernel)) rfl
theorem kw_506 : Cond.code yM_losses bM_losses 4 (some .boolean) ∈ gt := gt_in (List.mem_of_getElem? (i := 506) (by decide +kernel)) rfl
theorem kw_507 : Cond.methodLink "TendonLossesLaw" 36 yM_pull ∈ gt := gt_in (List.mem_of_getElem? (i := 507) (by decide +kernel)) rfl
theorem kw_508 : Cond.instanceMethod yM_pull ∈ gt := gt_in (List.mem_of_getElem? (i := 508) (by decide +kernel)) rfl
theorem kw_509 : Cond.selects "TendonLossesModel" yM_pull yM_pull ∈ gt := gt_in (List.mem_of_getElem? (i := 509) (by decide +kernel)) rfl
theorem kw_510 : Cond.code yM_pull bM_pull 5 (some .int) ∈ gt := gt_in (List.mem_of_getElem? (i := 510) (by decide +kernel)) rfl
theorem kw_511 : Cond.constant "TendonLossesModel" 114 10000000 ∈ gt := gt_in (List.mem_of_getElem? (i := 511) (by decide +kernel)) rfl
theorem kw_512 : Cond.methodLink "TendonLossesModel" 115 yM_drawAll ∈ gt := gt_in (List.mem_of_getElem? (i := 512) (by decide +kernel)) rfl
theorem kw_514 : Cond.instanceMethod yM_drawAll ∈ gt := gt_in (List.mem_of_getElem? (i := 514) (by decide +kernel)) rfl
theorem kw_515 : Cond.code yM_drawAll bM_drawAll 6 none ∈ gt := gt_in (List.mem_of_getElem? (i := 515) (by decide +kernel)) rfl
theorem kw_516 : Cond.methodLink "TendonLossesModel" 106 yM_draw ∈ gt := gt_in (List.mem_of_getElem? (i := 516) (by decide +kernel)) rfl
theorem kw_518 : Cond.instanceMethod yM_draw ∈ gt := gt_in (List.mem_of_getElem? (i := 518) (by decide +kernel)) rfl
theorem kw_519 : Cond.code yM_draw bM_draw 13 none ∈ gt := gt_in (List.mem_of_getElem? (i := 519) (by decide +kernel)) rfl
theorem kw_520 : Cond.methodLink "TendonLossesModel" 91 yM_lengthOf ∈ gt := gt_in (List.mem_of_getElem? (i := 520) (by decide +kernel)) rfl
theorem kw_522 : Cond.instanceMethod yM_lengthOf ∈ gt := gt_in (List.mem_of_getElem? (i := 522) (by decide +kernel)) rfl
theorem kw_523 : Cond.code yM_lengthOf bM_lengthOf 7 (some .long) ∈ gt := gt_in (List.mem_of_getElem? (i := 523) (by decide +kernel)) rfl
theorem kw_524 : Cond.methodLink "TendonLossesModel" 79 yM_root ∈ gt := gt_in (List.mem_of_getElem? (i := 524) (by decide +kernel)) rfl
theorem kw_525 : Cond.static yM_root ∈ gt := gt_in (List.mem_of_getElem? (i := 525) (by decide +kernel)) rfl
theorem kw_526 : Cond.code yM_root bM_root 8 (some .long) ∈ gt := gt_in (List.mem_of_getElem? (i := 526) (by decide +kernel)) rfl
theorem kw_527 : Cond.constantLong "TendonLossesModel" 75 200000 ∈ gt := gt_in (List.mem_of_getElem? (i := 527) (by decide +kernel)) rfl
theorem kw_528 : Cond.constantLong "TendonLossesModel" 77 2 ∈ gt := gt_in (List.mem_of_getElem? (i := 528) (by decide +kernel)) rfl
theorem kw_529 : Cond.methodLink "TendonLossesModel" 95 yM_byRough ∈ gt := gt_in (List.mem_of_getElem? (i := 529) (by decide +kernel)) rfl
theorem kw_531 : Cond.instanceMethod yM_byRough ∈ gt := gt_in (List.mem_of_getElem? (i := 531) (by decide +kernel)) rfl
theorem kw_532 : Cond.code yM_byRough bM_byRough 5 (some .long) ∈ gt := gt_in (List.mem_of_getElem? (i := 532) (by decide +kernel)) rfl
theorem kw_533 : Cond.constantLong "TendonLossesModel" 87 1000000000 ∈ gt := gt_in (List.mem_of_getElem? (i := 533) (by decide +kernel)) rfl
theorem kw_534 : Cond.methodLink "TendonLossesModel" 99 yM_turnOf ∈ gt := gt_in (List.mem_of_getElem? (i := 534) (by decide +kernel)) rfl
theorem kw_536 : Cond.instanceMethod yM_turnOf ∈ gt := gt_in (List.mem_of_getElem? (i := 536) (by decide +kernel)) rfl
theorem kw_537 : Cond.code yM_turnOf bM_turnOf 4 (some .int) ∈ gt := gt_in (List.mem_of_getElem? (i := 537) (by decide +kernel)) rfl
theorem kw_538 : Cond.methodLink "TendonLossesModel" 83 yM_slopeOf ∈ gt := gt_in (List.mem_of_getElem? (i := 538) (by decide +kernel)) rfl
theorem kw_540 : Cond.instanceMethod yM_slopeOf ∈ gt := gt_in (List.mem_of_getElem? (i := 540) (by decide +kernel)) rfl
theorem kw_541 : Cond.code yM_slopeOf bM_slopeOf 5 (some .int) ∈ gt := gt_in (List.mem_of_getElem? (i := 541) (by decide +kernel)) rfl
theorem kw_542 : Cond.methodLink "TendonLossesModel" 102 yM_byTurn ∈ gt := gt_in (List.mem_of_getElem? (i := 542) (by decide +kernel)) rfl
theorem kw_544 : Cond.instanceMethod yM_byTurn ∈ gt := gt_in (List.mem_of_getElem? (i := 544) (by decide +kernel)) rfl
theorem kw_545 : Cond.code yM_byTurn bM_byTurn 4 (some .long) ∈ gt := gt_in (List.mem_of_getElem? (i := 545) (by decide +kernel)) rfl
theorem kw_546 : Cond.constantLong "TendonLossesModel" 89 1000000 ∈ gt := gt_in (List.mem_of_getElem? (i := 546) (by decide +kernel)) rfl
theorem kw_547 : Cond.methodLink "TendonLossesModel" 119 yM_longerOf ∈ gt := gt_in (List.mem_of_getElem? (i := 547) (by decide +kernel)) rfl
theorem kw_549 : Cond.instanceMethod yM_longerOf ∈ gt := gt_in (List.mem_of_getElem? (i := 549) (by decide +kernel)) rfl
theorem kw_550 : Cond.code yM_longerOf bM_longerOf 7 (some .int) ∈ gt := gt_in (List.mem_of_getElem? (i := 550) (by decide +kernel)) rfl
theorem kw_551 : Cond.constantLong "TendonLossesModel" 110 1000 ∈ gt := gt_in (List.mem_of_getElem? (i := 551) (by decide +kernel)) rfl
theorem kw_552 : Cond.constantLong "TendonLossesModel" 112 195000 ∈ gt := gt_in (List.mem_of_getElem? (i := 552) (by decide +kernel)) rfl
theorem kw_553 : Cond.methodLink "TendonLossesLaw" 40 yM_lock ∈ gt := gt_in (List.mem_of_getElem? (i := 553) (by decide +kernel)) rfl
theorem kw_554 : Cond.instanceMethod yM_lock ∈ gt := gt_in (List.mem_of_getElem? (i := 554) (by decide +kernel)) rfl
theorem kw_555 : Cond.selects "TendonLossesModel" yM_lock yM_lock ∈ gt := gt_in (List.mem_of_getElem? (i := 555) (by decide +kernel)) rfl
theorem kw_556 : Cond.code yM_lock bM_lock 10 (some .int) ∈ gt := gt_in (List.mem_of_getElem? (i := 556) (by decide +kernel)) rfl
theorem kw_557 : Cond.methodLink "TendonLossesModel" 127 yM_letSlip ∈ gt := gt_in (List.mem_of_getElem? (i := 557) (by decide +kernel)) rfl
theorem kw_559 : Cond.instanceMethod yM_letSlip ∈ gt := gt_in (List.mem_of_getElem? (i := 559) (by decide +kernel)) rfl
theorem kw_560 : Cond.code yM_letSlip bM_letSlip 10 none ∈ gt := gt_in (List.mem_of_getElem? (i := 560) (by decide +kernel)) rfl
theorem kw_561 : Cond.methodLink "TendonLossesModel" 123 yM_tryOut ∈ gt := gt_in (List.mem_of_getElem? (i := 561) (by decide +kernel)) rfl
theorem kw_563 : Cond.instanceMethod yM_tryOut ∈ gt := gt_in (List.mem_of_getElem? (i := 563) (by decide +kernel)) rfl
theorem kw_564 : Cond.code yM_tryOut bM_tryOut 14 (some .long) ∈ gt := gt_in (List.mem_of_getElem? (i := 564) (by decide +kernel)) rfl
theorem kw_565 : Cond.methodLink "TendonLossesLaw" 45 yM_cut ∈ gt := gt_in (List.mem_of_getElem? (i := 565) (by decide +kernel)) rfl
theorem kw_566 : Cond.instanceMethod yM_cut ∈ gt := gt_in (List.mem_of_getElem? (i := 566) (by decide +kernel)) rfl
theorem kw_567 : Cond.selects "TendonLossesModel" yM_cut yM_cut ∈ gt := gt_in (List.mem_of_getElem? (i := 567) (by decide +kernel)) rfl
theorem kw_568 : Cond.code yM_cut bM_cut 4 (some .boolean) ∈ gt := gt_in (List.mem_of_getElem? (i := 568) (by decide +kernel)) rfl
theorem kw_569 : Cond.methodLink "TendonLossesModel" 134 yM_hasForces ∈ gt := gt_in (List.mem_of_getElem? (i := 569) (by decide +kernel)) rfl
theorem kw_571 : Cond.instanceMethod yM_hasForces ∈ gt := gt_in (List.mem_of_getElem? (i := 571) (by decide +kernel)) rfl
theorem kw_572 : Cond.code yM_hasForces bM_hasForces 2 (some .boolean) ∈ gt := gt_in (List.mem_of_getElem? (i := 572) (by decide +kernel)) rfl
theorem kw_573 : Cond.methodLink "TendonLossesLaw" 49 yM_days ∈ gt := gt_in (List.mem_of_getElem? (i := 573) (by decide +kernel)) rfl
theorem kw_574 : Cond.instanceMethod yM_days ∈ gt := gt_in (List.mem_of_getElem? (i := 574) (by decide +kernel)) rfl
theorem kw_575 : Cond.selects "TendonLossesModel" yM_days yM_days ∈ gt := gt_in (List.mem_of_getElem? (i := 575) (by decide +kernel)) rfl
theorem kw_576 : Cond.code yM_days bM_days 6 (some .int) ∈ gt := gt_in (List.mem_of_getElem? (i := 576) (by decide +kernel)) rfl
theorem kw_577 : Cond.methodLink "TendonLossesLaw" 54 yM_force ∈ gt := gt_in (List.mem_of_getElem? (i := 577) (by decide +kernel)) rfl
theorem kw_578 : Cond.instanceMethod yM_force ∈ gt := gt_in (List.mem_of_getElem? (i := 578) (by decide +kernel)) rfl
theorem kw_579 : Cond.selects "TendonLossesModel" yM_force yM_force ∈ gt := gt_in (List.mem_of_getElem? (i := 579) (by decide +kernel)) rfl
theorem kw_580 : Cond.code yM_force bM_force 3 (some .int) ∈ gt := gt_in (List.mem_of_getElem? (i := 580) (by decide +kernel)) rfl
theorem kw_581 : Cond.methodLink "TendonLossesLaw" 58 yM_at ∈ gt := gt_in (List.mem_of_getElem? (i := 581) (by decide +kernel)) rfl
theorem kw_582 : Cond.instanceMethod yM_at ∈ gt := gt_in (List.mem_of_getElem? (i := 582) (by decide +kernel)) rfl
theorem kw_583 : Cond.selects "TendonLossesModel" yM_at yM_at ∈ gt := gt_in (List.mem_of_getElem? (i := 583) (by decide +kernel)) rfl
theorem kw_584 : Cond.code yM_at bM_at 5 (some .int) ∈ gt := gt_in (List.mem_of_getElem? (i := 584) (by decide +kernel)) rfl
theorem kw_585 : Cond.methodLink "TendonLossesLaw" 62 yM_longer ∈ gt := gt_in (List.mem_of_getElem? (i := 585) (by decide +kernel)) rfl
theorem kw_586 : Cond.instanceMethod yM_longer ∈ gt := gt_in (List.mem_of_getElem? (i := 586) (by decide +kernel)) rfl
theorem kw_587 : Cond.selects "TendonLossesModel" yM_longer yM_longer ∈ gt := gt_in (List.mem_of_getElem? (i := 587) (by decide +kernel)) rfl
theorem kw_588 : Cond.code yM_longer bM_longer 2 (some .int) ∈ gt := gt_in (List.mem_of_getElem? (i := 588) (by decide +kernel)) rfl
theorem kw_589 : Cond.methodLink "TendonLossesLaw" 66 yM_piece ∈ gt := gt_in (List.mem_of_getElem? (i := 589) (by decide +kernel)) rfl
theorem kw_590 : Cond.instanceMethod yM_piece ∈ gt := gt_in (List.mem_of_getElem? (i := 590) (by decide +kernel)) rfl
theorem kw_591 : Cond.selects "TendonLossesModel" yM_piece yM_piece ∈ gt := gt_in (List.mem_of_getElem? (i := 591) (by decide +kernel)) rfl
theorem kw_592 : Cond.code yM_piece bM_piece 4 (some .int) ∈ gt := gt_in (List.mem_of_getElem? (i := 592) (by decide +kernel)) rfl
theorem kw_593 : Cond.methodLink "TendonLossesLaw" 70 yM_presses ∈ gt := gt_in (List.mem_of_getElem? (i := 593) (by decide +kernel)) rfl
theorem kw_594 : Cond.instanceMethod yM_presses ∈ gt := gt_in (List.mem_of_getElem? (i := 594) (by decide +kernel)) rfl
theorem kw_595 : Cond.selects "TendonLossesModel" yM_presses yM_presses ∈ gt := gt_in (List.mem_of_getElem? (i := 595) (by decide +kernel)) rfl
theorem kw_596 : Cond.code yM_presses bM_presses 5 (some .int) ∈ gt := gt_in (List.mem_of_getElem? (i := 596) (by decide +kernel)) rfl
theorem kw_597 : Cond.constant "TendonLossesModel" 140 (-2000000000) ∈ gt := gt_in (List.mem_of_getElem? (i := 597) (by decide +kernel)) rfl
theorem kw_598 : Cond.methodLink "TendonLossesLaw" 74 yM_clash ∈ gt := gt_in (List.mem_of_getElem? (i := 598) (by decide +kernel)) rfl
theorem kw_599 : Cond.instanceMethod yM_clash ∈ gt := gt_in (List.mem_of_getElem? (i := 599) (by decide +kernel)) rfl
theorem kw_600 : Cond.selects "TendonLossesModel" yM_clash yM_clash ∈ gt := gt_in (List.mem_of_getElem? (i := 600) (by decide +kernel)) rfl
theorem kw_601 : Cond.code yM_clash bM_clash 16 (some .boolean) ∈ gt := gt_in (List.mem_of_getElem? (i := 601) (by decide +kernel)) rfl
theorem kw_602 : Cond.methodLink "TendonLossesModel" 144 yM_apart ∈ gt := gt_in (List.mem_of_getElem? (i := 602) (by decide +kernel)) rfl
theorem kw_604 : Cond.instanceMethod yM_apart ∈ gt := gt_in (List.mem_of_getElem? (i := 604) (by decide +kernel)) rfl
theorem kw_605 : Cond.code yM_apart bM_apart 14 (some .long) ∈ gt := gt_in (List.mem_of_getElem? (i := 605) (by decide +kernel)) rfl
theorem kw_606 : Cond.methodLink "TendonLossesModel" 141 yM_pieceAt ∈ gt := gt_in (List.mem_of_getElem? (i := 606) (by decide +kernel)) rfl
theorem kw_608 : Cond.instanceMethod yM_pieceAt ∈ gt := gt_in (List.mem_of_getElem? (i := 608) (by decide +kernel)) rfl
theorem kw_609 : Cond.code yM_pieceAt bM_pieceAt 4 (some .int) ∈ gt := gt_in (List.mem_of_getElem? (i := 609) (by decide +kernel)) rfl
theorem kw_610 : Cond.methodLink "TendonLossesModel" 148 yM_unit ∈ gt := gt_in (List.mem_of_getElem? (i := 610) (by decide +kernel)) rfl
theorem kw_612 : Cond.instanceMethod yM_unit ∈ gt := gt_in (List.mem_of_getElem? (i := 612) (by decide +kernel)) rfl
theorem kw_613 : Cond.code yM_unit bM_unit 6 (some .long) ∈ gt := gt_in (List.mem_of_getElem? (i := 613) (by decide +kernel)) rfl
theorem kw_614 : Cond.methodLink "TendonLossesLaw" 78 yM_locked ∈ gt := gt_in (List.mem_of_getElem? (i := 614) (by decide +kernel)) rfl
theorem kw_615 : Cond.instanceMethod yM_locked ∈ gt := gt_in (List.mem_of_getElem? (i := 615) (by decide +kernel)) rfl
theorem kw_616 : Cond.selects "TendonLossesModel" yM_locked yM_locked ∈ gt := gt_in (List.mem_of_getElem? (i := 616) (by decide +kernel)) rfl
theorem kw_617 : Cond.code yM_locked bM_locked 2 (some .int) ∈ gt := gt_in (List.mem_of_getElem? (i := 617) (by decide +kernel)) rfl
theorem kw_618 : Cond.methodLink "TendonLossesLaw" 83 yM_wanted ∈ gt := gt_in (List.mem_of_getElem? (i := 618) (by decide +kernel)) rfl
theorem kw_619 : Cond.instanceMethod yM_wanted ∈ gt := gt_in (List.mem_of_getElem? (i := 619) (by decide +kernel)) rfl
theorem kw_620 : Cond.selects "TendonLossesModel" yM_wanted yM_wanted ∈ gt := gt_in (List.mem_of_getElem? (i := 620) (by decide +kernel)) rfl
theorem kw_621 : Cond.code yM_wanted bM_wanted 9 (some .int) ∈ gt := gt_in (List.mem_of_getElem? (i := 621) (by decide +kernel)) rfl
theorem kw_622 : Cond.constant "TendonLossesModel" 151 200000 ∈ gt := gt_in (List.mem_of_getElem? (i := 622) (by decide +kernel)) rfl
theorem kw_623 : Cond.methodLink "TendonLossesLaw" 87 yM_count ∈ gt := gt_in (List.mem_of_getElem? (i := 623) (by decide +kernel)) rfl
theorem kw_624 : Cond.instanceMethod yM_count ∈ gt := gt_in (List.mem_of_getElem? (i := 624) (by decide +kernel)) rfl
theorem kw_625 : Cond.selects "TendonLossesModel" yM_count yM_count ∈ gt := gt_in (List.mem_of_getElem? (i := 625) (by decide +kernel)) rfl
theorem kw_626 : Cond.code yM_count bM_count 5 (some .int) ∈ gt := gt_in (List.mem_of_getElem? (i := 626) (by decide +kernel)) rfl
end
section
theorem dD_init_0 : decode bD_init 0 = .ok (.aload_n 0, 1) := by decide +kernel
theorem dD_init_1 : decode bD_init 1 = .ok (.invokespecial 3, 3) := by decide +kernel
theorem dD_init_4 : decode bD_init 4 = .ok (.aload_n 0, 1) := by decide +kernel
theorem dD_init_5 : decode bD_init 5 = .ok (.bipush 10, 2) := by decide +kernel
theorem dD_init_7 : decode bD_init 7 = .ok (.newarray .int, 2) := by decide +kernel
theorem dD_init_9 : decode bD_init 9 = .ok (.putfield 9, 3) := by decide +kernel
theorem dD_init_12 : decode bD_init 12 = .ok (.aload_n 0, 1) := by decide +kernel
theorem dD_init_13 : decode bD_init 13 = .ok (.bipush 10, 2) := by decide +kernel
theorem dD_init_15 : decode bD_init 15 = .ok (.newarray .int, 2) := by decide +kernel
theorem dD_init_17 : decode bD_init 17 = .ok (.putfield 15, 3) := by decide +kernel
theorem dD_init_20 : decode bD_init 20 = .ok (.aload_n 0, 1) := by decide +kernel
theorem dD_init_21 : decode bD_init 21 = .ok (.bipush 10, 2) := by decide +kernel
theorem dD_init_23 : decode bD_init 23 = .ok (.newarray .int, 2) := by decide +kernel
theorem dD_init_25 : decode bD_init 25 = .ok (.putfield 18, 3) := by decide +kernel
theorem dD_init_28 : decode bD_init 28 = .ok (.aload_n 0, 1) := by decide +kernel
theorem dD_init_29 : decode bD_init 29 = .ok (.bipush 10, 2) := by decide +kernel
theorem dD_init_31 : decode bD_init 31 = .ok (.newarray .int, 2) := by decide +kernel
theorem dD_init_33 : decode bD_init 33 = .ok (.putfield 21, 3) := by decide +kernel
theorem dD_init_36 : decode bD_init 36 = .ok (.aload_n 0, 1) := by decide +kernel
theorem dD_init_37 : decode bD_init 37 = .ok (.iconst 0, 1) := by decide +kernel
theorem dD_init_38 : decode bD_init 38 = .ok (.putfield 24, 3) := by decide +kernel
theorem dD_init_41 : decode bD_init 41 = .ok (.return_, 1) := by decide +kernel
theorem dD_mayGoOnTo_0 : decode bD_mayGoOnTo 0 = .ok (.aload_n 0, 1) := by decide +kernel
theorem dD_mayGoOnTo_1 : decode bD_mayGoOnTo 1 = .ok (.getfield 24, 3) := by decide +kernel
theorem dD_mayGoOnTo_4 : decode bD_mayGoOnTo 4 = .ok (.bipush 10, 2) := by decide +kernel
theorem dD_mayGoOnTo_6 : decode bD_mayGoOnTo 6 = .ok (.if_icmp .ge 16, 3) := by decide +kernel
theorem dD_mayGoOnTo_9 : decode bD_mayGoOnTo 9 = .ok (.iload_n 2, 1) := by decide +kernel
theorem dD_mayGoOnTo_10 : decode bD_mayGoOnTo 10 = .ok (.sipush (-3000), 3) := by decide +kernel
theorem dD_mayGoOnTo_13 : decode bD_mayGoOnTo 13 = .ok (.sipush 3000, 3) := by decide +kernel
theorem dD_mayGoOnTo_16 : decode bD_mayGoOnTo 16 = .ok (.invokestatic 28, 3) := by decide +kernel
theorem dD_mayGoOnTo_19 : decode bD_mayGoOnTo 19 = .ok (.ifCond .ne 5, 3) := by decide +kernel
theorem dD_mayGoOnTo_22 : decode bD_mayGoOnTo 22 = .ok (.iconst 0, 1) := by decide +kernel
theorem dD_mayGoOnTo_23 : decode bD_mayGoOnTo 23 = .ok (.ireturn, 1) := by decide +kernel
theorem dD_mayGoOnTo_24 : decode bD_mayGoOnTo 24 = .ok (.aload_n 0, 1) := by decide +kernel
theorem dD_mayGoOnTo_25 : decode bD_mayGoOnTo 25 = .ok (.getfield 24, 3) := by decide +kernel
theorem dD_mayGoOnTo_28 : decode bD_mayGoOnTo 28 = .ok (.ifCond .ne 7, 3) := by decide +kernel
theorem dD_mayGoOnTo_31 : decode bD_mayGoOnTo 31 = .ok (.iconst 0, 1) := by decide +kernel
theorem dD_mayGoOnTo_32 : decode bD_mayGoOnTo 32 = .ok (.goto 17, 3) := by decide +kernel
theorem dD_mayGoOnTo_35 : decode bD_mayGoOnTo 35 = .ok (.aload_n 0, 1) := by decide +kernel
theorem dD_mayGoOnTo_36 : decode bD_mayGoOnTo 36 = .ok (.getfield 9, 3) := by decide +kernel
theorem dD_mayGoOnTo_39 : decode bD_mayGoOnTo 39 = .ok (.aload_n 0, 1) := by decide +kernel
theorem dD_mayGoOnTo_40 : decode bD_mayGoOnTo 40 = .ok (.getfield 24, 3) := by decide +kernel
theorem dD_mayGoOnTo_43 : decode bD_mayGoOnTo 43 = .ok (.iconst 1, 1) := by decide +kernel
theorem dD_mayGoOnTo_44 : decode bD_mayGoOnTo 44 = .ok (.isub, 1) := by decide +kernel
theorem dD_mayGoOnTo_45 : decode bD_mayGoOnTo 45 = .ok (.iaload, 1) := by decide +kernel
theorem dD_mayGoOnTo_46 : decode bD_mayGoOnTo 46 = .ok (.bipush 100, 2) := by decide +kernel
theorem dD_mayGoOnTo_48 : decode bD_mayGoOnTo 48 = .ok (.iadd, 1) := by decide +kernel
theorem dD_mayGoOnTo_49 : decode bD_mayGoOnTo 49 = .ok (.istore_n 3, 1) := by decide +kernel
theorem dD_mayGoOnTo_50 : decode bD_mayGoOnTo 50 = .ok (.iload_n 1, 1) := by decide +kernel
theorem dD_mayGoOnTo_51 : decode bD_mayGoOnTo 51 = .ok (.iload_n 3, 1) := by decide +kernel
theorem dD_mayGoOnTo_52 : decode bD_mayGoOnTo 52 = .ok (.ldc 32, 2) := by decide +kernel
theorem dD_mayGoOnTo_54 : decode bD_mayGoOnTo 54 = .ok (.invokestatic 28, 3) := by decide +kernel
theorem dD_mayGoOnTo_57 : decode bD_mayGoOnTo 57 = .ok (.ireturn, 1) := by decide +kernel
theorem dD_goOnTo_0 : decode bD_goOnTo 0 = .ok (.aload_n 0, 1) := by decide +kernel
theorem dD_goOnTo_1 : decode bD_goOnTo 1 = .ok (.getfield 24, 3) := by decide +kernel
theorem dD_goOnTo_4 : decode bD_goOnTo 4 = .ok (.bipush 10, 2) := by decide +kernel
theorem dD_goOnTo_6 : decode bD_goOnTo 6 = .ok (.if_icmp .lt 4, 3) := by decide +kernel
theorem dD_goOnTo_9 : decode bD_goOnTo 9 = .ok (.return_, 1) := by decide +kernel
theorem dD_goOnTo_10 : decode bD_goOnTo 10 = .ok (.aload_n 0, 1) := by decide +kernel
theorem dD_goOnTo_11 : decode bD_goOnTo 11 = .ok (.getfield 9, 3) := by decide +kernel
theorem dD_goOnTo_14 : decode bD_goOnTo 14 = .ok (.aload_n 0, 1) := by decide +kernel
theorem dD_goOnTo_15 : decode bD_goOnTo 15 = .ok (.getfield 24, 3) := by decide +kernel
theorem dD_goOnTo_18 : decode bD_goOnTo 18 = .ok (.iload_n 1, 1) := by decide +kernel
theorem dD_goOnTo_19 : decode bD_goOnTo 19 = .ok (.iastore, 1) := by decide +kernel
theorem dD_goOnTo_20 : decode bD_goOnTo 20 = .ok (.aload_n 0, 1) := by decide +kernel
theorem dD_goOnTo_21 : decode bD_goOnTo 21 = .ok (.getfield 15, 3) := by decide +kernel
theorem dD_goOnTo_24 : decode bD_goOnTo 24 = .ok (.aload_n 0, 1) := by decide +kernel
theorem dD_goOnTo_25 : decode bD_goOnTo 25 = .ok (.getfield 24, 3) := by decide +kernel
theorem dD_goOnTo_28 : decode bD_goOnTo 28 = .ok (.iload_n 2, 1) := by decide +kernel
theorem dD_goOnTo_29 : decode bD_goOnTo 29 = .ok (.iastore, 1) := by decide +kernel
theorem dD_goOnTo_30 : decode bD_goOnTo 30 = .ok (.aload_n 0, 1) := by decide +kernel
theorem dD_goOnTo_31 : decode bD_goOnTo 31 = .ok (.dup, 1) := by decide +kernel
theorem dD_goOnTo_32 : decode bD_goOnTo 32 = .ok (.getfield 24, 3) := by decide +kernel
theorem dD_goOnTo_35 : decode bD_goOnTo 35 = .ok (.iconst 1, 1) := by decide +kernel
theorem dD_goOnTo_36 : decode bD_goOnTo 36 = .ok (.iadd, 1) := by decide +kernel
theorem dD_goOnTo_37 : decode bD_goOnTo 37 = .ok (.putfield 24, 3) := by decide +kernel
theorem dD_goOnTo_40 : decode bD_goOnTo 40 = .ok (.aload_n 0, 1) := by decide +kernel
theorem dD_goOnTo_41 : decode bD_goOnTo 41 = .ok (.getfield 24, 3) := by decide +kernel
theorem dD_goOnTo_44 : decode bD_goOnTo 44 = .ok (.iconst 1, 1) := by decide +kernel
theorem dD_goOnTo_45 : decode bD_goOnTo 45 = .ok (.if_icmp .le 13, 3) := by decide +kernel
theorem dD_goOnTo_48 : decode bD_goOnTo 48 = .ok (.aload_n 0, 1) := by decide +kernel
theorem dD_goOnTo_49 : decode bD_goOnTo 49 = .ok (.aload_n 0, 1) := by decide +kernel
theorem dD_goOnTo_50 : decode bD_goOnTo 50 = .ok (.getfield 24, 3) := by decide +kernel
theorem dD_goOnTo_53 : decode bD_goOnTo 53 = .ok (.iconst 2, 1) := by decide +kernel
theorem dD_goOnTo_54 : decode bD_goOnTo 54 = .ok (.isub, 1) := by decide +kernel
theorem dD_goOnTo_55 : decode bD_goOnTo 55 = .ok (.invokevirtual 33, 3) := by decide +kernel
theorem dD_goOnTo_58 : decode bD_goOnTo 58 = .ok (.return_, 1) := by decide +kernel
theorem dD_measurePiece_0 : decode bD_measurePiece 0 = .ok (.aload_n 0, 1) := by decide +kernel
theorem dD_measurePiece_1 : decode bD_measurePiece 1 = .ok (.iload_n 1, 1) := by decide +kernel
theorem dD_measurePiece_2 : decode bD_measurePiece 2 = .ok (.invokevirtual 37, 3) := by decide +kernel
theorem dD_measurePiece_5 : decode bD_measurePiece 5 = .ok (.i2l, 1) := by decide +kernel
theorem dD_measurePiece_6 : decode bD_measurePiece 6 = .ok (.lstore_n 2, 1) := by decide +kernel
theorem dD_measurePiece_7 : decode bD_measurePiece 7 = .ok (.aload_n 0, 1) := by decide +kernel
theorem dD_measurePiece_8 : decode bD_measurePiece 8 = .ok (.getfield 15, 3) := by decide +kernel
theorem dD_measurePiece_11 : decode bD_measurePiece 11 = .ok (.iload_n 1, 1) := by decide +kernel
theorem dD_measurePiece_12 : decode bD_measurePiece 12 = .ok (.iconst 1, 1) := by decide +kernel
theorem dD_measurePiece_13 : decode bD_measurePiece 13 = .ok (.iadd, 1) := by decide +kernel
theorem dD_measurePiece_14 : decode bD_measurePiece 14 = .ok (.iaload, 1) := by decide +kernel
theorem dD_measurePiece_15 : decode bD_measurePiece 15 = .ok (.aload_n 0, 1) := by decide +kernel
theorem dD_measurePiece_16 : decode bD_measurePiece 16 = .ok (.getfield 15, 3) := by decide +kernel
theorem dD_measurePiece_19 : decode bD_measurePiece 19 = .ok (.iload_n 1, 1) := by decide +kernel
theorem dD_measurePiece_20 : decode bD_measurePiece 20 = .ok (.iaload, 1) := by decide +kernel
theorem dD_measurePiece_21 : decode bD_measurePiece 21 = .ok (.isub, 1) := by decide +kernel
theorem dD_measurePiece_22 : decode bD_measurePiece 22 = .ok (.i2l, 1) := by decide +kernel
theorem dD_measurePiece_23 : decode bD_measurePiece 23 = .ok (.lstore 4, 2) := by decide +kernel
theorem dD_measurePiece_25 : decode bD_measurePiece 25 = .ok (.aload_n 0, 1) := by decide +kernel
theorem dD_measurePiece_26 : decode bD_measurePiece 26 = .ok (.getfield 18, 3) := by decide +kernel
theorem dD_measurePiece_29 : decode bD_measurePiece 29 = .ok (.iload_n 1, 1) := by decide +kernel
theorem dD_measurePiece_30 : decode bD_measurePiece 30 = .ok (.lload_n 2, 1) := by decide +kernel
theorem dD_measurePiece_31 : decode bD_measurePiece 31 = .ok (.lload_n 2, 1) := by decide +kernel
theorem dD_measurePiece_32 : decode bD_measurePiece 32 = .ok (.lmul, 1) := by decide +kernel
theorem dD_measurePiece_33 : decode bD_measurePiece 33 = .ok (.lload 4, 2) := by decide +kernel
theorem dD_measurePiece_35 : decode bD_measurePiece 35 = .ok (.lload 4, 2) := by decide +kernel
theorem dD_measurePiece_37 : decode bD_measurePiece 37 = .ok (.lmul, 1) := by decide +kernel
theorem dD_measurePiece_38 : decode bD_measurePiece 38 = .ok (.ladd, 1) := by decide +kernel
theorem dD_measurePiece_39 : decode bD_measurePiece 39 = .ok (.invokestatic 41, 3) := by decide +kernel
theorem dD_measurePiece_42 : decode bD_measurePiece 42 = .ok (.iastore, 1) := by decide +kernel
theorem dD_measurePiece_43 : decode bD_measurePiece 43 = .ok (.aload_n 0, 1) := by decide +kernel
theorem dD_measurePiece_44 : decode bD_measurePiece 44 = .ok (.getfield 21, 3) := by decide +kernel
theorem dD_measurePiece_47 : decode bD_measurePiece 47 = .ok (.iload_n 1, 1) := by decide +kernel
theorem dD_measurePiece_48 : decode bD_measurePiece 48 = .ok (.ldc2_w 45, 3) := by decide +kernel
theorem dD_measurePiece_51 : decode bD_measurePiece 51 = .ok (.lload 4, 2) := by decide +kernel
theorem dD_measurePiece_53 : decode bD_measurePiece 53 = .ok (.lmul, 1) := by decide +kernel
theorem dD_measurePiece_54 : decode bD_measurePiece 54 = .ok (.lload_n 2, 1) := by decide +kernel
theorem dD_measurePiece_55 : decode bD_measurePiece 55 = .ok (.invokestatic 47, 3) := by decide +kernel
theorem dD_measurePiece_58 : decode bD_measurePiece 58 = .ok (.l2i, 1) := by decide +kernel
theorem dD_measurePiece_59 : decode bD_measurePiece 59 = .ok (.iastore, 1) := by decide +kernel
theorem dD_measurePiece_60 : decode bD_measurePiece 60 = .ok (.return_, 1) := by decide +kernel
theorem dD_rootOf_0 : decode bD_rootOf 0 = .ok (.lconst 0, 1) := by decide +kernel
theorem dD_rootOf_1 : decode bD_rootOf 1 = .ok (.lstore_n 2, 1) := by decide +kernel
theorem dD_rootOf_2 : decode bD_rootOf 2 = .ok (.ldc2_w 51, 3) := by decide +kernel
theorem dD_rootOf_5 : decode bD_rootOf 5 = .ok (.lstore 4, 2) := by decide +kernel
theorem dD_rootOf_7 : decode bD_rootOf 7 = .ok (.iconst 0, 1) := by decide +kernel
theorem dD_rootOf_8 : decode bD_rootOf 8 = .ok (.istore 6, 2) := by decide +kernel
theorem dD_rootOf_10 : decode bD_rootOf 10 = .ok (.iload 6, 2) := by decide +kernel
theorem dD_rootOf_12 : decode bD_rootOf 12 = .ok (.bipush 40, 2) := by decide +kernel
theorem dD_rootOf_14 : decode bD_rootOf 14 = .ok (.if_icmp .ge 50, 3) := by decide +kernel
theorem dD_rootOf_17 : decode bD_rootOf 17 = .ok (.lload_n 2, 1) := by decide +kernel
theorem dD_rootOf_18 : decode bD_rootOf 18 = .ok (.lload 4, 2) := by decide +kernel
theorem dD_rootOf_20 : decode bD_rootOf 20 = .ok (.lcmp, 1) := by decide +kernel
theorem dD_rootOf_21 : decode bD_rootOf 21 = .ok (.ifCond .ge 43, 3) := by decide +kernel
theorem dD_rootOf_24 : decode bD_rootOf 24 = .ok (.lload_n 2, 1) := by decide +kernel
theorem dD_rootOf_25 : decode bD_rootOf 25 = .ok (.lload 4, 2) := by decide +kernel
theorem dD_rootOf_27 : decode bD_rootOf 27 = .ok (.ladd, 1) := by decide +kernel
theorem dD_rootOf_28 : decode bD_rootOf 28 = .ok (.lconst 1, 1) := by decide +kernel
theorem dD_rootOf_29 : decode bD_rootOf 29 = .ok (.ladd, 1) := by decide +kernel
theorem dD_rootOf_30 : decode bD_rootOf 30 = .ok (.ldc2_w 53, 3) := by decide +kernel
theorem dD_rootOf_33 : decode bD_rootOf 33 = .ok (.ldiv, 1) := by decide +kernel
theorem dD_rootOf_34 : decode bD_rootOf 34 = .ok (.lstore 7, 2) := by decide +kernel
theorem dD_rootOf_36 : decode bD_rootOf 36 = .ok (.lload 7, 2) := by decide +kernel
theorem dD_rootOf_38 : decode bD_rootOf 38 = .ok (.lload 7, 2) := by decide +kernel
theorem dD_rootOf_40 : decode bD_rootOf 40 = .ok (.lmul, 1) := by decide +kernel
theorem dD_rootOf_41 : decode bD_rootOf 41 = .ok (.lload_n 0, 1) := by decide +kernel
theorem dD_rootOf_42 : decode bD_rootOf 42 = .ok (.lcmp, 1) := by decide +kernel
theorem dD_rootOf_43 : decode bD_rootOf 43 = .ok (.ifCond .gt 9, 3) := by decide +kernel
theorem dD_rootOf_46 : decode bD_rootOf 46 = .ok (.lload 7, 2) := by decide +kernel
theorem dD_rootOf_48 : decode bD_rootOf 48 = .ok (.lstore_n 2, 1) := by decide +kernel
theorem dD_rootOf_49 : decode bD_rootOf 49 = .ok (.goto 9, 3) := by decide +kernel
theorem dD_rootOf_52 : decode bD_rootOf 52 = .ok (.lload 7, 2) := by decide +kernel
theorem dD_rootOf_54 : decode bD_rootOf 54 = .ok (.lconst 1, 1) := by decide +kernel
theorem dD_rootOf_55 : decode bD_rootOf 55 = .ok (.lsub, 1) := by decide +kernel
theorem dD_rootOf_56 : decode bD_rootOf 56 = .ok (.lstore 4, 2) := by decide +kernel
theorem dD_rootOf_58 : decode bD_rootOf 58 = .ok (.iinc 6 1, 3) := by decide +kernel
theorem dD_rootOf_61 : decode bD_rootOf 61 = .ok (.goto (-51), 3) := by decide +kernel
theorem dD_rootOf_64 : decode bD_rootOf 64 = .ok (.lload_n 2, 1) := by decide +kernel
theorem dD_rootOf_65 : decode bD_rootOf 65 = .ok (.l2i, 1) := by decide +kernel
theorem dD_rootOf_66 : decode bD_rootOf 66 = .ok (.ireturn, 1) := by decide +kernel
theorem dD_hasPoint_0 : decode bD_hasPoint 0 = .ok (.iload_n 1, 1) := by decide +kernel
theorem dD_hasPoint_1 : decode bD_hasPoint 1 = .ok (.iconst 0, 1) := by decide +kernel
theorem dD_hasPoint_2 : decode bD_hasPoint 2 = .ok (.aload_n 0, 1) := by decide +kernel
theorem dD_hasPoint_3 : decode bD_hasPoint 3 = .ok (.getfield 24, 3) := by decide +kernel
theorem dD_hasPoint_6 : decode bD_hasPoint 6 = .ok (.iconst 1, 1) := by decide +kernel
theorem dD_hasPoint_7 : decode bD_hasPoint 7 = .ok (.isub, 1) := by decide +kernel
theorem dD_hasPoint_8 : decode bD_hasPoint 8 = .ok (.invokestatic 28, 3) := by decide +kernel
theorem dD_hasPoint_11 : decode bD_hasPoint 11 = .ok (.ireturn, 1) := by decide +kernel
theorem dD_hasPiece_0 : decode bD_hasPiece 0 = .ok (.iload_n 1, 1) := by decide +kernel
theorem dD_hasPiece_1 : decode bD_hasPiece 1 = .ok (.iconst 0, 1) := by decide +kernel
theorem dD_hasPiece_2 : decode bD_hasPiece 2 = .ok (.aload_n 0, 1) := by decide +kernel
theorem dD_hasPiece_3 : decode bD_hasPiece 3 = .ok (.getfield 24, 3) := by decide +kernel
theorem dD_hasPiece_6 : decode bD_hasPiece 6 = .ok (.iconst 2, 1) := by decide +kernel
theorem dD_hasPiece_7 : decode bD_hasPiece 7 = .ok (.isub, 1) := by decide +kernel
theorem dD_hasPiece_8 : decode bD_hasPiece 8 = .ok (.invokestatic 28, 3) := by decide +kernel
theorem dD_hasPiece_11 : decode bD_hasPiece 11 = .ok (.ireturn, 1) := by decide +kernel
theorem dD_hasPieces_0 : decode bD_hasPieces 0 = .ok (.aload_n 0, 1) := by decide +kernel
theorem dD_hasPieces_1 : decode bD_hasPieces 1 = .ok (.getfield 24, 3) := by decide +kernel
theorem dD_hasPieces_4 : decode bD_hasPieces 4 = .ok (.iconst 2, 1) := by decide +kernel
theorem dD_hasPieces_5 : decode bD_hasPieces 5 = .ok (.if_icmp .lt 7, 3) := by decide +kernel
theorem dD_hasPieces_8 : decode bD_hasPieces 8 = .ok (.iconst 1, 1) := by decide +kernel
theorem dD_hasPieces_9 : decode bD_hasPieces 9 = .ok (.goto 4, 3) := by decide +kernel
theorem dD_hasPieces_12 : decode bD_hasPieces 12 = .ok (.iconst 0, 1) := by decide +kernel
theorem dD_hasPieces_13 : decode bD_hasPieces 13 = .ok (.ireturn, 1) := by decide +kernel
theorem dD_isBetweenPieces_0 : decode bD_isBetweenPieces 0 = .ok (.iload_n 1, 1) := by decide +kernel
theorem dD_isBetweenPieces_1 : decode bD_isBetweenPieces 1 = .ok (.ifCond .le 17, 3) := by decide +kernel
theorem dD_isBetweenPieces_4 : decode bD_isBetweenPieces 4 = .ok (.iload_n 1, 1) := by decide +kernel
theorem dD_isBetweenPieces_5 : decode bD_isBetweenPieces 5 = .ok (.aload_n 0, 1) := by decide +kernel
theorem dD_isBetweenPieces_6 : decode bD_isBetweenPieces 6 = .ok (.getfield 24, 3) := by decide +kernel
theorem dD_isBetweenPieces_9 : decode bD_isBetweenPieces 9 = .ok (.iconst 1, 1) := by decide +kernel
theorem dD_isBetweenPieces_10 : decode bD_isBetweenPieces 10 = .ok (.isub, 1) := by decide +kernel
theorem dD_isBetweenPieces_11 : decode bD_isBetweenPieces 11 = .ok (.if_icmp .ge 7, 3) := by decide +kernel
theorem dD_isBetweenPieces_14 : decode bD_isBetweenPieces 14 = .ok (.iconst 1, 1) := by decide +kernel
theorem dD_isBetweenPieces_15 : decode bD_isBetweenPieces 15 = .ok (.goto 4, 3) := by decide +kernel
theorem dD_isBetweenPieces_18 : decode bD_isBetweenPieces 18 = .ok (.iconst 0, 1) := by decide +kernel
theorem dD_isBetweenPieces_19 : decode bD_isBetweenPieces 19 = .ok (.ireturn, 1) := by decide +kernel
theorem dD_widthOf_0 : decode bD_widthOf 0 = .ok (.aload_n 0, 1) := by decide +kernel
theorem dD_widthOf_1 : decode bD_widthOf 1 = .ok (.getfield 9, 3) := by decide +kernel
theorem dD_widthOf_4 : decode bD_widthOf 4 = .ok (.iload_n 1, 1) := by decide +kernel
theorem dD_widthOf_5 : decode bD_widthOf 5 = .ok (.iconst 1, 1) := by decide +kernel
theorem dD_widthOf_6 : decode bD_widthOf 6 = .ok (.iadd, 1) := by decide +kernel
theorem dD_widthOf_7 : decode bD_widthOf 7 = .ok (.iaload, 1) := by decide +kernel
theorem dD_widthOf_8 : decode bD_widthOf 8 = .ok (.aload_n 0, 1) := by decide +kernel
theorem dD_widthOf_9 : decode bD_widthOf 9 = .ok (.getfield 9, 3) := by decide +kernel
theorem dD_widthOf_12 : decode bD_widthOf 12 = .ok (.iload_n 1, 1) := by decide +kernel
theorem dD_widthOf_13 : decode bD_widthOf 13 = .ok (.iaload, 1) := by decide +kernel
theorem dD_widthOf_14 : decode bD_widthOf 14 = .ok (.isub, 1) := by decide +kernel
theorem dD_widthOf_15 : decode bD_widthOf 15 = .ok (.ireturn, 1) := by decide +kernel
theorem dD_bendAt_0 : decode bD_bendAt 0 = .ok (.aload_n 0, 1) := by decide +kernel
theorem dD_bendAt_1 : decode bD_bendAt 1 = .ok (.iload_n 1, 1) := by decide +kernel
theorem dD_bendAt_2 : decode bD_bendAt 2 = .ok (.invokevirtual 55, 3) := by decide +kernel
theorem dD_bendAt_5 : decode bD_bendAt 5 = .ok (.ifCond .eq 21, 3) := by decide +kernel
theorem dD_bendAt_8 : decode bD_bendAt 8 = .ok (.aload_n 0, 1) := by decide +kernel
theorem dD_bendAt_9 : decode bD_bendAt 9 = .ok (.getfield 21, 3) := by decide +kernel
theorem dD_bendAt_12 : decode bD_bendAt 12 = .ok (.iload_n 1, 1) := by decide +kernel
theorem dD_bendAt_13 : decode bD_bendAt 13 = .ok (.iaload, 1) := by decide +kernel
theorem dD_bendAt_14 : decode bD_bendAt 14 = .ok (.aload_n 0, 1) := by decide +kernel
theorem dD_bendAt_15 : decode bD_bendAt 15 = .ok (.getfield 21, 3) := by decide +kernel
theorem dD_bendAt_18 : decode bD_bendAt 18 = .ok (.iload_n 1, 1) := by decide +kernel
theorem dD_bendAt_19 : decode bD_bendAt 19 = .ok (.iconst 1, 1) := by decide +kernel
theorem dD_bendAt_20 : decode bD_bendAt 20 = .ok (.isub, 1) := by decide +kernel
theorem dD_bendAt_21 : decode bD_bendAt 21 = .ok (.iaload, 1) := by decide +kernel
theorem dD_bendAt_22 : decode bD_bendAt 22 = .ok (.isub, 1) := by decide +kernel
theorem dD_bendAt_23 : decode bD_bendAt 23 = .ok (.goto 4, 3) := by decide +kernel
theorem dD_bendAt_26 : decode bD_bendAt 26 = .ok (.iconst 0, 1) := by decide +kernel
theorem dD_bendAt_27 : decode bD_bendAt 27 = .ok (.ireturn, 1) := by decide +kernel
theorem dD_turnAt_0 : decode bD_turnAt 0 = .ok (.aload_n 0, 1) := by decide +kernel
theorem dD_turnAt_1 : decode bD_turnAt 1 = .ok (.iload_n 1, 1) := by decide +kernel
theorem dD_turnAt_2 : decode bD_turnAt 2 = .ok (.invokevirtual 59, 3) := by decide +kernel
theorem dD_turnAt_5 : decode bD_turnAt 5 = .ok (.invokestatic 62, 3) := by decide +kernel
theorem dD_turnAt_8 : decode bD_turnAt 8 = .ok (.ireturn, 1) := by decide +kernel
theorem dD_pieceOver_0 : decode bD_pieceOver 0 = .ok (.iconst 0, 1) := by decide +kernel
theorem dD_pieceOver_1 : decode bD_pieceOver 1 = .ok (.istore_n 2, 1) := by decide +kernel
theorem dD_pieceOver_2 : decode bD_pieceOver 2 = .ok (.iload_n 2, 1) := by decide +kernel
theorem dD_pieceOver_3 : decode bD_pieceOver 3 = .ok (.aload_n 0, 1) := by decide +kernel
theorem dD_pieceOver_4 : decode bD_pieceOver 4 = .ok (.getfield 24, 3) := by decide +kernel
theorem dD_pieceOver_7 : decode bD_pieceOver 7 = .ok (.iconst 1, 1) := by decide +kernel
theorem dD_pieceOver_8 : decode bD_pieceOver 8 = .ok (.isub, 1) := by decide +kernel
theorem dD_pieceOver_9 : decode bD_pieceOver 9 = .ok (.if_icmp .ge 32, 3) := by decide +kernel
theorem dD_pieceOver_12 : decode bD_pieceOver 12 = .ok (.iload_n 1, 1) := by decide +kernel
theorem dD_pieceOver_13 : decode bD_pieceOver 13 = .ok (.aload_n 0, 1) := by decide +kernel
theorem dD_pieceOver_14 : decode bD_pieceOver 14 = .ok (.getfield 9, 3) := by decide +kernel
theorem dD_pieceOver_17 : decode bD_pieceOver 17 = .ok (.iload_n 2, 1) := by decide +kernel
theorem dD_pieceOver_18 : decode bD_pieceOver 18 = .ok (.iaload, 1) := by decide +kernel
theorem dD_pieceOver_19 : decode bD_pieceOver 19 = .ok (.aload_n 0, 1) := by decide +kernel
theorem dD_pieceOver_20 : decode bD_pieceOver 20 = .ok (.getfield 9, 3) := by decide +kernel
theorem dD_pieceOver_23 : decode bD_pieceOver 23 = .ok (.iload_n 2, 1) := by decide +kernel
theorem dD_pieceOver_24 : decode bD_pieceOver 24 = .ok (.iconst 1, 1) := by decide +kernel
theorem dD_pieceOver_25 : decode bD_pieceOver 25 = .ok (.iadd, 1) := by decide +kernel
theorem dD_pieceOver_26 : decode bD_pieceOver 26 = .ok (.iaload, 1) := by decide +kernel
theorem dD_pieceOver_27 : decode bD_pieceOver 27 = .ok (.invokestatic 28, 3) := by decide +kernel
theorem dD_pieceOver_30 : decode bD_pieceOver 30 = .ok (.ifCond .eq 5, 3) := by decide +kernel
theorem dD_pieceOver_33 : decode bD_pieceOver 33 = .ok (.iload_n 2, 1) := by decide +kernel
theorem dD_pieceOver_34 : decode bD_pieceOver 34 = .ok (.ireturn, 1) := by decide +kernel
theorem dD_pieceOver_35 : decode bD_pieceOver 35 = .ok (.iinc 2 1, 3) := by decide +kernel
theorem dD_pieceOver_38 : decode bD_pieceOver 38 = .ok (.goto (-36), 3) := by decide +kernel
theorem dD_pieceOver_41 : decode bD_pieceOver 41 = .ok (.iconst (-1), 1) := by decide +kernel
theorem dD_pieceOver_42 : decode bD_pieceOver 42 = .ok (.ireturn, 1) := by decide +kernel
theorem dD_pointOnWay_0 : decode bD_pointOnWay 0 = .ok (.iload_n 1, 1) := by decide +kernel
theorem dD_pointOnWay_1 : decode bD_pointOnWay 1 = .ok (.iconst 2, 1) := by decide +kernel
theorem dD_pointOnWay_2 : decode bD_pointOnWay 2 = .ok (.if_icmp .ne 14, 3) := by decide +kernel
theorem dD_pointOnWay_5 : decode bD_pointOnWay 5 = .ok (.aload_n 0, 1) := by decide +kernel
theorem dD_pointOnWay_6 : decode bD_pointOnWay 6 = .ok (.getfield 24, 3) := by decide +kernel
theorem dD_pointOnWay_9 : decode bD_pointOnWay 9 = .ok (.iconst 1, 1) := by decide +kernel
theorem dD_pointOnWay_10 : decode bD_pointOnWay 10 = .ok (.isub, 1) := by decide +kernel
theorem dD_pointOnWay_11 : decode bD_pointOnWay 11 = .ok (.iload_n 2, 1) := by decide +kernel
theorem dD_pointOnWay_12 : decode bD_pointOnWay 12 = .ok (.isub, 1) := by decide +kernel
theorem dD_pointOnWay_13 : decode bD_pointOnWay 13 = .ok (.goto 4, 3) := by decide +kernel
theorem dD_pointOnWay_16 : decode bD_pointOnWay 16 = .ok (.iload_n 2, 1) := by decide +kernel
theorem dD_pointOnWay_17 : decode bD_pointOnWay 17 = .ok (.ireturn, 1) := by decide +kernel
theorem dD_lengthBefore_0 : decode bD_lengthBefore 0 = .ok (.aload_n 0, 1) := by decide +kernel
theorem dD_lengthBefore_1 : decode bD_lengthBefore 1 = .ok (.getfield 18, 3) := by decide +kernel
theorem dD_lengthBefore_4 : decode bD_lengthBefore 4 = .ok (.iload_n 1, 1) := by decide +kernel
theorem dD_lengthBefore_5 : decode bD_lengthBefore 5 = .ok (.iconst 2, 1) := by decide +kernel
theorem dD_lengthBefore_6 : decode bD_lengthBefore 6 = .ok (.if_icmp .ne 14, 3) := by decide +kernel
theorem dD_lengthBefore_9 : decode bD_lengthBefore 9 = .ok (.aload_n 0, 1) := by decide +kernel
theorem dD_lengthBefore_10 : decode bD_lengthBefore 10 = .ok (.getfield 24, 3) := by decide +kernel
theorem dD_lengthBefore_13 : decode bD_lengthBefore 13 = .ok (.iconst 1, 1) := by decide +kernel
theorem dD_lengthBefore_14 : decode bD_lengthBefore 14 = .ok (.isub, 1) := by decide +kernel
theorem dD_lengthBefore_15 : decode bD_lengthBefore 15 = .ok (.iload_n 2, 1) := by decide +kernel
theorem dD_lengthBefore_16 : decode bD_lengthBefore 16 = .ok (.isub, 1) := by decide +kernel
theorem dD_lengthBefore_17 : decode bD_lengthBefore 17 = .ok (.goto 6, 3) := by decide +kernel
theorem dD_lengthBefore_20 : decode bD_lengthBefore 20 = .ok (.iload_n 2, 1) := by decide +kernel
theorem dD_lengthBefore_21 : decode bD_lengthBefore 21 = .ok (.iconst 1, 1) := by decide +kernel
theorem dD_lengthBefore_22 : decode bD_lengthBefore 22 = .ok (.isub, 1) := by decide +kernel
theorem dD_lengthBefore_23 : decode bD_lengthBefore 23 = .ok (.iaload, 1) := by decide +kernel
theorem dD_lengthBefore_24 : decode bD_lengthBefore 24 = .ok (.ireturn, 1) := by decide +kernel
theorem dD_comeNearer_0 : decode bD_comeNearer 0 = .ok (.iconst 0, 1) := by decide +kernel
theorem dD_comeNearer_1 : decode bD_comeNearer 1 = .ok (.istore_n 3, 1) := by decide +kernel
theorem dD_comeNearer_2 : decode bD_comeNearer 2 = .ok (.iload_n 3, 1) := by decide +kernel
theorem dD_comeNearer_3 : decode bD_comeNearer 3 = .ok (.aload_n 0, 1) := by decide +kernel
theorem dD_comeNearer_4 : decode bD_comeNearer 4 = .ok (.getfield 24, 3) := by decide +kernel
theorem dD_comeNearer_7 : decode bD_comeNearer 7 = .ok (.iconst 1, 1) := by decide +kernel
theorem dD_comeNearer_8 : decode bD_comeNearer 8 = .ok (.isub, 1) := by decide +kernel
theorem dD_comeNearer_9 : decode bD_comeNearer 9 = .ok (.if_icmp .ge 43, 3) := by decide +kernel
theorem dD_comeNearer_12 : decode bD_comeNearer 12 = .ok (.iconst 0, 1) := by decide +kernel
theorem dD_comeNearer_13 : decode bD_comeNearer 13 = .ok (.istore 4, 2) := by decide +kernel
theorem dD_comeNearer_15 : decode bD_comeNearer 15 = .ok (.iload 4, 2) := by decide +kernel
theorem dD_comeNearer_17 : decode bD_comeNearer 17 = .ok (.aload_n 1, 1) := by decide +kernel
theorem dD_comeNearer_18 : decode bD_comeNearer 18 = .ok (.getfield 24, 3) := by decide +kernel
theorem dD_comeNearer_21 : decode bD_comeNearer 21 = .ok (.iconst 1, 1) := by decide +kernel
theorem dD_comeNearer_22 : decode bD_comeNearer 22 = .ok (.isub, 1) := by decide +kernel
theorem dD_comeNearer_23 : decode bD_comeNearer 23 = .ok (.if_icmp .ge 23, 3) := by decide +kernel
theorem dD_comeNearer_26 : decode bD_comeNearer 26 = .ok (.aload_n 0, 1) := by decide +kernel
theorem dD_comeNearer_27 : decode bD_comeNearer 27 = .ok (.iload_n 3, 1) := by decide +kernel
theorem dD_comeNearer_28 : decode bD_comeNearer 28 = .ok (.aload_n 1, 1) := by decide +kernel
theorem dD_comeNearer_29 : decode bD_comeNearer 29 = .ok (.iload 4, 2) := by decide +kernel
theorem dD_comeNearer_31 : decode bD_comeNearer 31 = .ok (.iload_n 2, 1) := by decide +kernel
theorem dD_comeNearer_32 : decode bD_comeNearer 32 = .ok (.invokestatic 67, 3) := by decide +kernel
theorem dD_comeNearer_35 : decode bD_comeNearer 35 = .ok (.ifCond .eq 5, 3) := by decide +kernel
theorem dD_comeNearer_38 : decode bD_comeNearer 38 = .ok (.iconst 1, 1) := by decide +kernel
theorem dD_comeNearer_39 : decode bD_comeNearer 39 = .ok (.ireturn, 1) := by decide +kernel
theorem dD_comeNearer_40 : decode bD_comeNearer 40 = .ok (.iinc 4 1, 3) := by decide +kernel
theorem dD_comeNearer_43 : decode bD_comeNearer 43 = .ok (.goto (-28), 3) := by decide +kernel
theorem dD_comeNearer_46 : decode bD_comeNearer 46 = .ok (.iinc 3 1, 3) := by decide +kernel
theorem dD_comeNearer_49 : decode bD_comeNearer 49 = .ok (.goto (-47), 3) := by decide +kernel
theorem dD_comeNearer_52 : decode bD_comeNearer 52 = .ok (.iconst 0, 1) := by decide +kernel
theorem dD_comeNearer_53 : decode bD_comeNearer 53 = .ok (.ireturn, 1) := by decide +kernel
theorem dD_piecesComeNearer_0 : decode bD_piecesComeNearer 0 = .ok (.aload_n 0, 1) := by decide +kernel
theorem dD_piecesComeNearer_1 : decode bD_piecesComeNearer 1 = .ok (.getfield 9, 3) := by decide +kernel
theorem dD_piecesComeNearer_4 : decode bD_piecesComeNearer 4 = .ok (.iload_n 1, 1) := by decide +kernel
theorem dD_piecesComeNearer_5 : decode bD_piecesComeNearer 5 = .ok (.iaload, 1) := by decide +kernel
theorem dD_piecesComeNearer_6 : decode bD_piecesComeNearer 6 = .ok (.aload_n 2, 1) := by decide +kernel
theorem dD_piecesComeNearer_7 : decode bD_piecesComeNearer 7 = .ok (.getfield 9, 3) := by decide +kernel
theorem dD_piecesComeNearer_10 : decode bD_piecesComeNearer 10 = .ok (.iload_n 3, 1) := by decide +kernel
theorem dD_piecesComeNearer_11 : decode bD_piecesComeNearer 11 = .ok (.iaload, 1) := by decide +kernel
theorem dD_piecesComeNearer_12 : decode bD_piecesComeNearer 12 = .ok (.invokestatic 71, 3) := by decide +kernel
theorem dD_piecesComeNearer_15 : decode bD_piecesComeNearer 15 = .ok (.istore 5, 2) := by decide +kernel
theorem dD_piecesComeNearer_17 : decode bD_piecesComeNearer 17 = .ok (.aload_n 0, 1) := by decide +kernel
theorem dD_piecesComeNearer_18 : decode bD_piecesComeNearer 18 = .ok (.getfield 9, 3) := by decide +kernel
theorem dD_piecesComeNearer_21 : decode bD_piecesComeNearer 21 = .ok (.iload_n 1, 1) := by decide +kernel
theorem dD_piecesComeNearer_22 : decode bD_piecesComeNearer 22 = .ok (.iconst 1, 1) := by decide +kernel
theorem dD_piecesComeNearer_23 : decode bD_piecesComeNearer 23 = .ok (.iadd, 1) := by decide +kernel
theorem dD_piecesComeNearer_24 : decode bD_piecesComeNearer 24 = .ok (.iaload, 1) := by decide +kernel
theorem dD_piecesComeNearer_25 : decode bD_piecesComeNearer 25 = .ok (.aload_n 2, 1) := by decide +kernel
theorem dD_piecesComeNearer_26 : decode bD_piecesComeNearer 26 = .ok (.getfield 9, 3) := by decide +kernel
theorem dD_piecesComeNearer_29 : decode bD_piecesComeNearer 29 = .ok (.iload_n 3, 1) := by decide +kernel
theorem dD_piecesComeNearer_30 : decode bD_piecesComeNearer 30 = .ok (.iconst 1, 1) := by decide +kernel
theorem dD_piecesComeNearer_31 : decode bD_piecesComeNearer 31 = .ok (.iadd, 1) := by decide +kernel
theorem dD_piecesComeNearer_32 : decode bD_piecesComeNearer 32 = .ok (.iaload, 1) := by decide +kernel
theorem dD_piecesComeNearer_33 : decode bD_piecesComeNearer 33 = .ok (.invokestatic 75, 3) := by decide +kernel
theorem dD_piecesComeNearer_36 : decode bD_piecesComeNearer 36 = .ok (.istore 6, 2) := by decide +kernel
theorem dD_piecesComeNearer_38 : decode bD_piecesComeNearer 38 = .ok (.iload 5, 2) := by decide +kernel
theorem dD_piecesComeNearer_40 : decode bD_piecesComeNearer 40 = .ok (.iload 6, 2) := by decide +kernel
theorem dD_piecesComeNearer_42 : decode bD_piecesComeNearer 42 = .ok (.if_icmp .gt 8, 3) := by decide +kernel
theorem dD_piecesComeNearer_45 : decode bD_piecesComeNearer 45 = .ok (.iload 4, 2) := by decide +kernel
theorem dD_piecesComeNearer_47 : decode bD_piecesComeNearer 47 = .ok (.ifCond .gt 5, 3) := by decide +kernel
theorem dD_piecesComeNearer_50 : decode bD_piecesComeNearer 50 = .ok (.iconst 0, 1) := by decide +kernel
theorem dD_piecesComeNearer_51 : decode bD_piecesComeNearer 51 = .ok (.ireturn, 1) := by decide +kernel
theorem dD_piecesComeNearer_52 : decode bD_piecesComeNearer 52 = .ok (.aload_n 0, 1) := by decide +kernel
theorem dD_piecesComeNearer_53 : decode bD_piecesComeNearer 53 = .ok (.iload_n 1, 1) := by decide +kernel
theorem dD_piecesComeNearer_54 : decode bD_piecesComeNearer 54 = .ok (.aload_n 2, 1) := by decide +kernel
theorem dD_piecesComeNearer_55 : decode bD_piecesComeNearer 55 = .ok (.iload_n 3, 1) := by decide +kernel
theorem dD_piecesComeNearer_56 : decode bD_piecesComeNearer 56 = .ok (.iload 5, 2) := by decide +kernel
theorem dD_piecesComeNearer_58 : decode bD_piecesComeNearer 58 = .ok (.invokestatic 78, 3) := by decide +kernel
theorem dD_piecesComeNearer_61 : decode bD_piecesComeNearer 61 = .ok (.lstore 7, 2) := by decide +kernel
theorem dD_piecesComeNearer_63 : decode bD_piecesComeNearer 63 = .ok (.aload_n 0, 1) := by decide +kernel
theorem dD_piecesComeNearer_64 : decode bD_piecesComeNearer 64 = .ok (.iload_n 1, 1) := by decide +kernel
theorem dD_piecesComeNearer_65 : decode bD_piecesComeNearer 65 = .ok (.aload_n 2, 1) := by decide +kernel
theorem dD_piecesComeNearer_66 : decode bD_piecesComeNearer 66 = .ok (.iload_n 3, 1) := by decide +kernel
theorem dD_piecesComeNearer_67 : decode bD_piecesComeNearer 67 = .ok (.iload 6, 2) := by decide +kernel
theorem dD_piecesComeNearer_69 : decode bD_piecesComeNearer 69 = .ok (.invokestatic 78, 3) := by decide +kernel
theorem dD_piecesComeNearer_72 : decode bD_piecesComeNearer 72 = .ok (.lstore 9, 2) := by decide +kernel
theorem dD_piecesComeNearer_74 : decode bD_piecesComeNearer 74 = .ok (.lload 7, 2) := by decide +kernel
theorem dD_piecesComeNearer_76 : decode bD_piecesComeNearer 76 = .ok (.lconst 0, 1) := by decide +kernel
theorem dD_piecesComeNearer_77 : decode bD_piecesComeNearer 77 = .ok (.lcmp, 1) := by decide +kernel
theorem dD_piecesComeNearer_78 : decode bD_piecesComeNearer 78 = .ok (.ifCond .ge 10, 3) := by decide +kernel
theorem dD_piecesComeNearer_81 : decode bD_piecesComeNearer 81 = .ok (.lload 9, 2) := by decide +kernel
theorem dD_piecesComeNearer_83 : decode bD_piecesComeNearer 83 = .ok (.lconst 0, 1) := by decide +kernel
theorem dD_piecesComeNearer_84 : decode bD_piecesComeNearer 84 = .ok (.lcmp, 1) := by decide +kernel
theorem dD_piecesComeNearer_85 : decode bD_piecesComeNearer 85 = .ok (.ifCond .gt 17, 3) := by decide +kernel
theorem dD_piecesComeNearer_88 : decode bD_piecesComeNearer 88 = .ok (.lload 7, 2) := by decide +kernel
theorem dD_piecesComeNearer_90 : decode bD_piecesComeNearer 90 = .ok (.lconst 0, 1) := by decide +kernel
theorem dD_piecesComeNearer_91 : decode bD_piecesComeNearer 91 = .ok (.lcmp, 1) := by decide +kernel
theorem dD_piecesComeNearer_92 : decode bD_piecesComeNearer 92 = .ok (.ifCond .le 14, 3) := by decide +kernel
theorem dD_piecesComeNearer_95 : decode bD_piecesComeNearer 95 = .ok (.lload 9, 2) := by decide +kernel
theorem dD_piecesComeNearer_97 : decode bD_piecesComeNearer 97 = .ok (.lconst 0, 1) := by decide +kernel
theorem dD_piecesComeNearer_98 : decode bD_piecesComeNearer 98 = .ok (.lcmp, 1) := by decide +kernel
theorem dD_piecesComeNearer_99 : decode bD_piecesComeNearer 99 = .ok (.ifCond .ge 7, 3) := by decide +kernel
theorem dD_piecesComeNearer_102 : decode bD_piecesComeNearer 102 = .ok (.iconst 1, 1) := by decide +kernel
theorem dD_piecesComeNearer_103 : decode bD_piecesComeNearer 103 = .ok (.goto 4, 3) := by decide +kernel
theorem dD_piecesComeNearer_106 : decode bD_piecesComeNearer 106 = .ok (.iconst 0, 1) := by decide +kernel
theorem dD_piecesComeNearer_107 : decode bD_piecesComeNearer 107 = .ok (.istore 11, 2) := by decide +kernel
theorem dD_piecesComeNearer_109 : decode bD_piecesComeNearer 109 = .ok (.iload 4, 2) := by decide +kernel
theorem dD_piecesComeNearer_111 : decode bD_piecesComeNearer 111 = .ok (.i2l, 1) := by decide +kernel
theorem dD_piecesComeNearer_112 : decode bD_piecesComeNearer 112 = .ok (.aload_n 0, 1) := by decide +kernel
theorem dD_piecesComeNearer_113 : decode bD_piecesComeNearer 113 = .ok (.iload_n 1, 1) := by decide +kernel
theorem dD_piecesComeNearer_114 : decode bD_piecesComeNearer 114 = .ok (.invokevirtual 37, 3) := by decide +kernel
theorem dD_piecesComeNearer_117 : decode bD_piecesComeNearer 117 = .ok (.i2l, 1) := by decide +kernel
theorem dD_piecesComeNearer_118 : decode bD_piecesComeNearer 118 = .ok (.lmul, 1) := by decide +kernel
theorem dD_piecesComeNearer_119 : decode bD_piecesComeNearer 119 = .ok (.aload_n 2, 1) := by decide +kernel
theorem dD_piecesComeNearer_120 : decode bD_piecesComeNearer 120 = .ok (.iload_n 3, 1) := by decide +kernel
theorem dD_piecesComeNearer_121 : decode bD_piecesComeNearer 121 = .ok (.invokevirtual 37, 3) := by decide +kernel
end
section
theorem dD_piecesComeNearer_124 : decode bD_piecesComeNearer 124 = .ok (.i2l, 1) := by decide +kernel
theorem dD_piecesComeNearer_125 : decode bD_piecesComeNearer 125 = .ok (.lmul, 1) := by decide +kernel
theorem dD_piecesComeNearer_126 : decode bD_piecesComeNearer 126 = .ok (.lstore 12, 2) := by decide +kernel
theorem dD_piecesComeNearer_128 : decode bD_piecesComeNearer 128 = .ok (.iload 11, 2) := by decide +kernel
theorem dD_piecesComeNearer_130 : decode bD_piecesComeNearer 130 = .ok (.ifCond .ne 25, 3) := by decide +kernel
theorem dD_piecesComeNearer_133 : decode bD_piecesComeNearer 133 = .ok (.lload 7, 2) := by decide +kernel
theorem dD_piecesComeNearer_135 : decode bD_piecesComeNearer 135 = .ok (.invokestatic 82, 3) := by decide +kernel
theorem dD_piecesComeNearer_138 : decode bD_piecesComeNearer 138 = .ok (.lload 12, 2) := by decide +kernel
theorem dD_piecesComeNearer_140 : decode bD_piecesComeNearer 140 = .ok (.lcmp, 1) := by decide +kernel
theorem dD_piecesComeNearer_141 : decode bD_piecesComeNearer 141 = .ok (.ifCond .lt 14, 3) := by decide +kernel
theorem dD_piecesComeNearer_144 : decode bD_piecesComeNearer 144 = .ok (.lload 9, 2) := by decide +kernel
theorem dD_piecesComeNearer_146 : decode bD_piecesComeNearer 146 = .ok (.invokestatic 82, 3) := by decide +kernel
theorem dD_piecesComeNearer_149 : decode bD_piecesComeNearer 149 = .ok (.lload 12, 2) := by decide +kernel
theorem dD_piecesComeNearer_151 : decode bD_piecesComeNearer 151 = .ok (.lcmp, 1) := by decide +kernel
theorem dD_piecesComeNearer_152 : decode bD_piecesComeNearer 152 = .ok (.ifCond .ge 7, 3) := by decide +kernel
theorem dD_piecesComeNearer_155 : decode bD_piecesComeNearer 155 = .ok (.iconst 1, 1) := by decide +kernel
theorem dD_piecesComeNearer_156 : decode bD_piecesComeNearer 156 = .ok (.goto 4, 3) := by decide +kernel
theorem dD_piecesComeNearer_159 : decode bD_piecesComeNearer 159 = .ok (.iconst 0, 1) := by decide +kernel
theorem dD_piecesComeNearer_160 : decode bD_piecesComeNearer 160 = .ok (.ireturn, 1) := by decide +kernel
theorem dD_scaledDistance_0 : decode bD_scaledDistance 0 = .ok (.aload_n 0, 1) := by decide +kernel
theorem dD_scaledDistance_1 : decode bD_scaledDistance 1 = .ok (.iload_n 1, 1) := by decide +kernel
theorem dD_scaledDistance_2 : decode bD_scaledDistance 2 = .ok (.iload 4, 2) := by decide +kernel
theorem dD_scaledDistance_4 : decode bD_scaledDistance 4 = .ok (.invokevirtual 85, 3) := by decide +kernel
theorem dD_scaledDistance_7 : decode bD_scaledDistance 7 = .ok (.aload_n 2, 1) := by decide +kernel
theorem dD_scaledDistance_8 : decode bD_scaledDistance 8 = .ok (.iload_n 3, 1) := by decide +kernel
theorem dD_scaledDistance_9 : decode bD_scaledDistance 9 = .ok (.invokevirtual 37, 3) := by decide +kernel
theorem dD_scaledDistance_12 : decode bD_scaledDistance 12 = .ok (.i2l, 1) := by decide +kernel
theorem dD_scaledDistance_13 : decode bD_scaledDistance 13 = .ok (.lmul, 1) := by decide +kernel
theorem dD_scaledDistance_14 : decode bD_scaledDistance 14 = .ok (.aload_n 2, 1) := by decide +kernel
theorem dD_scaledDistance_15 : decode bD_scaledDistance 15 = .ok (.iload_n 3, 1) := by decide +kernel
theorem dD_scaledDistance_16 : decode bD_scaledDistance 16 = .ok (.iload 4, 2) := by decide +kernel
theorem dD_scaledDistance_18 : decode bD_scaledDistance 18 = .ok (.invokevirtual 85, 3) := by decide +kernel
theorem dD_scaledDistance_21 : decode bD_scaledDistance 21 = .ok (.aload_n 0, 1) := by decide +kernel
theorem dD_scaledDistance_22 : decode bD_scaledDistance 22 = .ok (.iload_n 1, 1) := by decide +kernel
theorem dD_scaledDistance_23 : decode bD_scaledDistance 23 = .ok (.invokevirtual 37, 3) := by decide +kernel
theorem dD_scaledDistance_26 : decode bD_scaledDistance 26 = .ok (.i2l, 1) := by decide +kernel
theorem dD_scaledDistance_27 : decode bD_scaledDistance 27 = .ok (.lmul, 1) := by decide +kernel
theorem dD_scaledDistance_28 : decode bD_scaledDistance 28 = .ok (.lsub, 1) := by decide +kernel
theorem dD_scaledDistance_29 : decode bD_scaledDistance 29 = .ok (.lreturn, 1) := by decide +kernel
theorem dD_scaledHeight_0 : decode bD_scaledHeight 0 = .ok (.aload_n 0, 1) := by decide +kernel
theorem dD_scaledHeight_1 : decode bD_scaledHeight 1 = .ok (.getfield 15, 3) := by decide +kernel
theorem dD_scaledHeight_4 : decode bD_scaledHeight 4 = .ok (.iload_n 1, 1) := by decide +kernel
theorem dD_scaledHeight_5 : decode bD_scaledHeight 5 = .ok (.iconst 1, 1) := by decide +kernel
theorem dD_scaledHeight_6 : decode bD_scaledHeight 6 = .ok (.iadd, 1) := by decide +kernel
theorem dD_scaledHeight_7 : decode bD_scaledHeight 7 = .ok (.iaload, 1) := by decide +kernel
theorem dD_scaledHeight_8 : decode bD_scaledHeight 8 = .ok (.aload_n 0, 1) := by decide +kernel
theorem dD_scaledHeight_9 : decode bD_scaledHeight 9 = .ok (.getfield 15, 3) := by decide +kernel
theorem dD_scaledHeight_12 : decode bD_scaledHeight 12 = .ok (.iload_n 1, 1) := by decide +kernel
theorem dD_scaledHeight_13 : decode bD_scaledHeight 13 = .ok (.iaload, 1) := by decide +kernel
theorem dD_scaledHeight_14 : decode bD_scaledHeight 14 = .ok (.isub, 1) := by decide +kernel
theorem dD_scaledHeight_15 : decode bD_scaledHeight 15 = .ok (.i2l, 1) := by decide +kernel
theorem dD_scaledHeight_16 : decode bD_scaledHeight 16 = .ok (.lstore_n 3, 1) := by decide +kernel
theorem dD_scaledHeight_17 : decode bD_scaledHeight 17 = .ok (.aload_n 0, 1) := by decide +kernel
theorem dD_scaledHeight_18 : decode bD_scaledHeight 18 = .ok (.getfield 15, 3) := by decide +kernel
theorem dD_scaledHeight_21 : decode bD_scaledHeight 21 = .ok (.iload_n 1, 1) := by decide +kernel
theorem dD_scaledHeight_22 : decode bD_scaledHeight 22 = .ok (.iaload, 1) := by decide +kernel
theorem dD_scaledHeight_23 : decode bD_scaledHeight 23 = .ok (.i2l, 1) := by decide +kernel
theorem dD_scaledHeight_24 : decode bD_scaledHeight 24 = .ok (.aload_n 0, 1) := by decide +kernel
theorem dD_scaledHeight_25 : decode bD_scaledHeight 25 = .ok (.iload_n 1, 1) := by decide +kernel
theorem dD_scaledHeight_26 : decode bD_scaledHeight 26 = .ok (.invokevirtual 37, 3) := by decide +kernel
theorem dD_scaledHeight_29 : decode bD_scaledHeight 29 = .ok (.i2l, 1) := by decide +kernel
theorem dD_scaledHeight_30 : decode bD_scaledHeight 30 = .ok (.lmul, 1) := by decide +kernel
theorem dD_scaledHeight_31 : decode bD_scaledHeight 31 = .ok (.lload_n 3, 1) := by decide +kernel
theorem dD_scaledHeight_32 : decode bD_scaledHeight 32 = .ok (.iload_n 2, 1) := by decide +kernel
theorem dD_scaledHeight_33 : decode bD_scaledHeight 33 = .ok (.aload_n 0, 1) := by decide +kernel
theorem dD_scaledHeight_34 : decode bD_scaledHeight 34 = .ok (.getfield 9, 3) := by decide +kernel
theorem dD_scaledHeight_37 : decode bD_scaledHeight 37 = .ok (.iload_n 1, 1) := by decide +kernel
theorem dD_scaledHeight_38 : decode bD_scaledHeight 38 = .ok (.iaload, 1) := by decide +kernel
theorem dD_scaledHeight_39 : decode bD_scaledHeight 39 = .ok (.isub, 1) := by decide +kernel
theorem dD_scaledHeight_40 : decode bD_scaledHeight 40 = .ok (.i2l, 1) := by decide +kernel
theorem dD_scaledHeight_41 : decode bD_scaledHeight 41 = .ok (.lmul, 1) := by decide +kernel
theorem dD_scaledHeight_42 : decode bD_scaledHeight 42 = .ok (.ladd, 1) := by decide +kernel
theorem dD_scaledHeight_43 : decode bD_scaledHeight 43 = .ok (.lreturn, 1) := by decide +kernel
end
section
theorem dF_init_0 : decode bF_init 0 = .ok (.aload_n 0, 1) := by decide +kernel
theorem dF_init_1 : decode bF_init 1 = .ok (.invokespecial 3, 3) := by decide +kernel
theorem dF_init_4 : decode bF_init 4 = .ok (.aload_n 0, 1) := by decide +kernel
theorem dF_init_5 : decode bF_init 5 = .ok (.iconst 5, 1) := by decide +kernel
theorem dF_init_6 : decode bF_init 6 = .ok (.putfield 9, 3) := by decide +kernel
theorem dF_init_9 : decode bF_init 9 = .ok (.aload_n 0, 1) := by decide +kernel
theorem dF_init_10 : decode bF_init 10 = .ok (.sipush 200, 3) := by decide +kernel
theorem dF_init_13 : decode bF_init 13 = .ok (.putfield 15, 3) := by decide +kernel
theorem dF_init_16 : decode bF_init 16 = .ok (.return_, 1) := by decide +kernel
theorem dF_alongPiece_0 : decode bF_alongPiece 0 = .ok (.lload_n 1, 1) := by decide +kernel
theorem dF_alongPiece_1 : decode bF_alongPiece 1 = .ok (.aload_n 0, 1) := by decide +kernel
theorem dF_alongPiece_2 : decode bF_alongPiece 2 = .ok (.getfield 9, 3) := by decide +kernel
theorem dF_alongPiece_5 : decode bF_alongPiece 5 = .ok (.i2l, 1) := by decide +kernel
theorem dF_alongPiece_6 : decode bF_alongPiece 6 = .ok (.lmul, 1) := by decide +kernel
theorem dF_alongPiece_7 : decode bF_alongPiece 7 = .ok (.iload_n 3, 1) := by decide +kernel
theorem dF_alongPiece_8 : decode bF_alongPiece 8 = .ok (.i2l, 1) := by decide +kernel
theorem dF_alongPiece_9 : decode bF_alongPiece 9 = .ok (.lmul, 1) := by decide +kernel
theorem dF_alongPiece_10 : decode bF_alongPiece 10 = .ok (.ldc2_w 18, 3) := by decide +kernel
theorem dF_alongPiece_13 : decode bF_alongPiece 13 = .ok (.ldiv, 1) := by decide +kernel
theorem dF_alongPiece_14 : decode bF_alongPiece 14 = .ok (.lreturn, 1) := by decide +kernel
theorem dF_atTurn_0 : decode bF_atTurn 0 = .ok (.lload_n 1, 1) := by decide +kernel
theorem dF_atTurn_1 : decode bF_atTurn 1 = .ok (.aload_n 0, 1) := by decide +kernel
theorem dF_atTurn_2 : decode bF_atTurn 2 = .ok (.getfield 15, 3) := by decide +kernel
theorem dF_atTurn_5 : decode bF_atTurn 5 = .ok (.i2l, 1) := by decide +kernel
theorem dF_atTurn_6 : decode bF_atTurn 6 = .ok (.lmul, 1) := by decide +kernel
theorem dF_atTurn_7 : decode bF_atTurn 7 = .ok (.iload_n 3, 1) := by decide +kernel
theorem dF_atTurn_8 : decode bF_atTurn 8 = .ok (.i2l, 1) := by decide +kernel
theorem dF_atTurn_9 : decode bF_atTurn 9 = .ok (.lmul, 1) := by decide +kernel
theorem dF_atTurn_10 : decode bF_atTurn 10 = .ok (.ldc2_w 20, 3) := by decide +kernel
theorem dF_atTurn_13 : decode bF_atTurn 13 = .ok (.ldiv, 1) := by decide +kernel
theorem dF_atTurn_14 : decode bF_atTurn 14 = .ok (.lreturn, 1) := by decide +kernel
end
section
theorem dT_init_0 : decode bT_init 0 = .ok (.aload_n 0, 1) := by decide +kernel
theorem dT_init_1 : decode bT_init 1 = .ok (.invokespecial 3, 3) := by decide +kernel
theorem dT_init_4 : decode bT_init 4 = .ok (.aload_n 0, 1) := by decide +kernel
theorem dT_init_5 : decode bT_init 5 = .ok (.iload_n 1, 1) := by decide +kernel
theorem dT_init_6 : decode bT_init 6 = .ok (.putfield 9, 3) := by decide +kernel
theorem dT_init_9 : decode bT_init 9 = .ok (.aload_n 0, 1) := by decide +kernel
theorem dT_init_10 : decode bT_init 10 = .ok (.new 15, 3) := by decide +kernel
theorem dT_init_13 : decode bT_init 13 = .ok (.dup, 1) := by decide +kernel
theorem dT_init_14 : decode bT_init 14 = .ok (.invokespecial 17, 3) := by decide +kernel
theorem dT_init_17 : decode bT_init 17 = .ok (.putfield 18, 3) := by decide +kernel
theorem dT_init_20 : decode bT_init 20 = .ok (.aload_n 0, 1) := by decide +kernel
theorem dT_init_21 : decode bT_init 21 = .ok (.bipush 10, 2) := by decide +kernel
theorem dT_init_23 : decode bT_init 23 = .ok (.newarray .long, 2) := by decide +kernel
theorem dT_init_25 : decode bT_init 25 = .ok (.putfield 22, 3) := by decide +kernel
theorem dT_init_28 : decode bT_init 28 = .ok (.aload_n 0, 1) := by decide +kernel
theorem dT_init_29 : decode bT_init 29 = .ok (.bipush 10, 2) := by decide +kernel
theorem dT_init_31 : decode bT_init 31 = .ok (.newarray .long, 2) := by decide +kernel
theorem dT_init_33 : decode bT_init 33 = .ok (.putfield 26, 3) := by decide +kernel
theorem dT_init_36 : decode bT_init 36 = .ok (.aload_n 0, 1) := by decide +kernel
theorem dT_init_37 : decode bT_init 37 = .ok (.iconst 0, 1) := by decide +kernel
theorem dT_init_38 : decode bT_init 38 = .ok (.putfield 29, 3) := by decide +kernel
theorem dT_init_41 : decode bT_init 41 = .ok (.aload_n 0, 1) := by decide +kernel
theorem dT_init_42 : decode bT_init 42 = .ok (.iconst 0, 1) := by decide +kernel
theorem dT_init_43 : decode bT_init 43 = .ok (.putfield 32, 3) := by decide +kernel
theorem dT_init_46 : decode bT_init 46 = .ok (.aload_n 0, 1) := by decide +kernel
theorem dT_init_47 : decode bT_init 47 = .ok (.iconst 0, 1) := by decide +kernel
theorem dT_init_48 : decode bT_init 48 = .ok (.putfield 35, 3) := by decide +kernel
theorem dT_init_51 : decode bT_init 51 = .ok (.return_, 1) := by decide +kernel
theorem dT_startPulling_0 : decode bT_startPulling 0 = .ok (.aload_n 0, 1) := by decide +kernel
theorem dT_startPulling_1 : decode bT_startPulling 1 = .ok (.aload_n 0, 1) := by decide +kernel
theorem dT_startPulling_2 : decode bT_startPulling 2 = .ok (.getfield 22, 3) := by decide +kernel
theorem dT_startPulling_5 : decode bT_startPulling 5 = .ok (.iload_n 1, 1) := by decide +kernel
theorem dT_startPulling_6 : decode bT_startPulling 6 = .ok (.iload_n 2, 1) := by decide +kernel
theorem dT_startPulling_7 : decode bT_startPulling 7 = .ok (.aload_n 3, 1) := by decide +kernel
theorem dT_startPulling_8 : decode bT_startPulling 8 = .ok (.invokevirtual 38, 3) := by decide +kernel
theorem dT_startPulling_11 : decode bT_startPulling 11 = .ok (.aload_n 0, 1) := by decide +kernel
theorem dT_startPulling_12 : decode bT_startPulling 12 = .ok (.iconst 1, 1) := by decide +kernel
theorem dT_startPulling_13 : decode bT_startPulling 13 = .ok (.putfield 29, 3) := by decide +kernel
theorem dT_startPulling_16 : decode bT_startPulling 16 = .ok (.aload_n 0, 1) := by decide +kernel
theorem dT_startPulling_17 : decode bT_startPulling 17 = .ok (.iload_n 1, 1) := by decide +kernel
theorem dT_startPulling_18 : decode bT_startPulling 18 = .ok (.putfield 32, 3) := by decide +kernel
theorem dT_startPulling_21 : decode bT_startPulling 21 = .ok (.aload_n 0, 1) := by decide +kernel
theorem dT_startPulling_22 : decode bT_startPulling 22 = .ok (.iload_n 2, 1) := by decide +kernel
theorem dT_startPulling_23 : decode bT_startPulling 23 = .ok (.putfield 35, 3) := by decide +kernel
theorem dT_startPulling_26 : decode bT_startPulling 26 = .ok (.return_, 1) := by decide +kernel
theorem dT_leastForceIfPulled_0 : decode bT_leastForceIfPulled 0 = .ok (.aload_n 0, 1) := by decide +kernel
theorem dT_leastForceIfPulled_1 : decode bT_leastForceIfPulled 1 = .ok (.aload_n 0, 1) := by decide +kernel
theorem dT_leastForceIfPulled_2 : decode bT_leastForceIfPulled 2 = .ok (.getfield 26, 3) := by decide +kernel
theorem dT_leastForceIfPulled_5 : decode bT_leastForceIfPulled 5 = .ok (.iload_n 1, 1) := by decide +kernel
theorem dT_leastForceIfPulled_6 : decode bT_leastForceIfPulled 6 = .ok (.iload_n 2, 1) := by decide +kernel
theorem dT_leastForceIfPulled_7 : decode bT_leastForceIfPulled 7 = .ok (.aload_n 3, 1) := by decide +kernel
theorem dT_leastForceIfPulled_8 : decode bT_leastForceIfPulled 8 = .ok (.invokevirtual 38, 3) := by decide +kernel
theorem dT_leastForceIfPulled_11 : decode bT_leastForceIfPulled 11 = .ok (.iload_n 2, 1) := by decide +kernel
theorem dT_leastForceIfPulled_12 : decode bT_leastForceIfPulled 12 = .ok (.i2l, 1) := by decide +kernel
theorem dT_leastForceIfPulled_13 : decode bT_leastForceIfPulled 13 = .ok (.lstore 4, 2) := by decide +kernel
theorem dT_leastForceIfPulled_15 : decode bT_leastForceIfPulled 15 = .ok (.iconst 0, 1) := by decide +kernel
theorem dT_leastForceIfPulled_16 : decode bT_leastForceIfPulled 16 = .ok (.istore 6, 2) := by decide +kernel
theorem dT_leastForceIfPulled_18 : decode bT_leastForceIfPulled 18 = .ok (.iload 6, 2) := by decide +kernel
theorem dT_leastForceIfPulled_20 : decode bT_leastForceIfPulled 20 = .ok (.aload_n 0, 1) := by decide +kernel
theorem dT_leastForceIfPulled_21 : decode bT_leastForceIfPulled 21 = .ok (.getfield 18, 3) := by decide +kernel
theorem dT_leastForceIfPulled_24 : decode bT_leastForceIfPulled 24 = .ok (.getfield 42, 3) := by decide +kernel
theorem dT_leastForceIfPulled_27 : decode bT_leastForceIfPulled 27 = .ok (.if_icmp .ge 23, 3) := by decide +kernel
theorem dT_leastForceIfPulled_30 : decode bT_leastForceIfPulled 30 = .ok (.lload 4, 2) := by decide +kernel
theorem dT_leastForceIfPulled_32 : decode bT_leastForceIfPulled 32 = .ok (.aload_n 0, 1) := by decide +kernel
theorem dT_leastForceIfPulled_33 : decode bT_leastForceIfPulled 33 = .ok (.getfield 26, 3) := by decide +kernel
theorem dT_leastForceIfPulled_36 : decode bT_leastForceIfPulled 36 = .ok (.iload 6, 2) := by decide +kernel
theorem dT_leastForceIfPulled_38 : decode bT_leastForceIfPulled 38 = .ok (.laload, 1) := by decide +kernel
theorem dT_leastForceIfPulled_39 : decode bT_leastForceIfPulled 39 = .ok (.invokestatic 45, 3) := by decide +kernel
theorem dT_leastForceIfPulled_42 : decode bT_leastForceIfPulled 42 = .ok (.lstore 4, 2) := by decide +kernel
theorem dT_leastForceIfPulled_44 : decode bT_leastForceIfPulled 44 = .ok (.iinc 6 1, 3) := by decide +kernel
theorem dT_leastForceIfPulled_47 : decode bT_leastForceIfPulled 47 = .ok (.goto (-29), 3) := by decide +kernel
theorem dT_leastForceIfPulled_50 : decode bT_leastForceIfPulled 50 = .ok (.lload 4, 2) := by decide +kernel
theorem dT_leastForceIfPulled_52 : decode bT_leastForceIfPulled 52 = .ok (.lreturn, 1) := by decide +kernel
theorem dT_strain_0 : decode bT_strain 0 = .ok (.iconst 0, 1) := by decide +kernel
theorem dT_strain_1 : decode bT_strain 1 = .ok (.istore 5, 2) := by decide +kernel
theorem dT_strain_3 : decode bT_strain 3 = .ok (.iload 5, 2) := by decide +kernel
theorem dT_strain_5 : decode bT_strain 5 = .ok (.aload_n 0, 1) := by decide +kernel
theorem dT_strain_6 : decode bT_strain 6 = .ok (.getfield 18, 3) := by decide +kernel
theorem dT_strain_9 : decode bT_strain 9 = .ok (.getfield 42, 3) := by decide +kernel
theorem dT_strain_12 : decode bT_strain 12 = .ok (.if_icmp .ge 14, 3) := by decide +kernel
theorem dT_strain_15 : decode bT_strain 15 = .ok (.aload_n 1, 1) := by decide +kernel
theorem dT_strain_16 : decode bT_strain 16 = .ok (.iload 5, 2) := by decide +kernel
theorem dT_strain_18 : decode bT_strain 18 = .ok (.lconst 0, 1) := by decide +kernel
theorem dT_strain_19 : decode bT_strain 19 = .ok (.lastore, 1) := by decide +kernel
theorem dT_strain_20 : decode bT_strain 20 = .ok (.iinc 5 1, 3) := by decide +kernel
theorem dT_strain_23 : decode bT_strain 23 = .ok (.goto (-20), 3) := by decide +kernel
theorem dT_strain_26 : decode bT_strain 26 = .ok (.iload_n 2, 1) := by decide +kernel
theorem dT_strain_27 : decode bT_strain 27 = .ok (.iconst 1, 1) := by decide +kernel
theorem dT_strain_28 : decode bT_strain 28 = .ok (.iand, 1) := by decide +kernel
theorem dT_strain_29 : decode bT_strain 29 = .ok (.ifCond .eq 12, 3) := by decide +kernel
theorem dT_strain_32 : decode bT_strain 32 = .ok (.aload_n 0, 1) := by decide +kernel
theorem dT_strain_33 : decode bT_strain 33 = .ok (.aload_n 1, 1) := by decide +kernel
theorem dT_strain_34 : decode bT_strain 34 = .ok (.iconst 1, 1) := by decide +kernel
theorem dT_strain_35 : decode bT_strain 35 = .ok (.iload_n 3, 1) := by decide +kernel
theorem dT_strain_36 : decode bT_strain 36 = .ok (.aload 4, 2) := by decide +kernel
theorem dT_strain_38 : decode bT_strain 38 = .ok (.invokevirtual 51, 3) := by decide +kernel
theorem dT_strain_41 : decode bT_strain 41 = .ok (.iload_n 2, 1) := by decide +kernel
theorem dT_strain_42 : decode bT_strain 42 = .ok (.iconst 2, 1) := by decide +kernel
theorem dT_strain_43 : decode bT_strain 43 = .ok (.iand, 1) := by decide +kernel
theorem dT_strain_44 : decode bT_strain 44 = .ok (.ifCond .eq 12, 3) := by decide +kernel
theorem dT_strain_47 : decode bT_strain 47 = .ok (.aload_n 0, 1) := by decide +kernel
theorem dT_strain_48 : decode bT_strain 48 = .ok (.aload_n 1, 1) := by decide +kernel
theorem dT_strain_49 : decode bT_strain 49 = .ok (.iconst 2, 1) := by decide +kernel
theorem dT_strain_50 : decode bT_strain 50 = .ok (.iload_n 3, 1) := by decide +kernel
theorem dT_strain_51 : decode bT_strain 51 = .ok (.aload 4, 2) := by decide +kernel
theorem dT_strain_53 : decode bT_strain 53 = .ok (.invokevirtual 51, 3) := by decide +kernel
theorem dT_strain_56 : decode bT_strain 56 = .ok (.return_, 1) := by decide +kernel
theorem dT_strainFromEnd_0 : decode bT_strainFromEnd 0 = .ok (.iload_n 3, 1) := by decide +kernel
theorem dT_strainFromEnd_1 : decode bT_strainFromEnd 1 = .ok (.i2l, 1) := by decide +kernel
theorem dT_strainFromEnd_2 : decode bT_strainFromEnd 2 = .ok (.lstore 5, 2) := by decide +kernel
theorem dT_strainFromEnd_4 : decode bT_strainFromEnd 4 = .ok (.iconst 0, 1) := by decide +kernel
theorem dT_strainFromEnd_5 : decode bT_strainFromEnd 5 = .ok (.istore 7, 2) := by decide +kernel
theorem dT_strainFromEnd_7 : decode bT_strainFromEnd 7 = .ok (.iload 7, 2) := by decide +kernel
theorem dT_strainFromEnd_9 : decode bT_strainFromEnd 9 = .ok (.aload_n 0, 1) := by decide +kernel
theorem dT_strainFromEnd_10 : decode bT_strainFromEnd 10 = .ok (.getfield 18, 3) := by decide +kernel
theorem dT_strainFromEnd_13 : decode bT_strainFromEnd 13 = .ok (.getfield 42, 3) := by decide +kernel
theorem dT_strainFromEnd_16 : decode bT_strainFromEnd 16 = .ok (.if_icmp .ge 86, 3) := by decide +kernel
theorem dT_strainFromEnd_19 : decode bT_strainFromEnd 19 = .ok (.aload_n 0, 1) := by decide +kernel
theorem dT_strainFromEnd_20 : decode bT_strainFromEnd 20 = .ok (.getfield 18, 3) := by decide +kernel
theorem dT_strainFromEnd_23 : decode bT_strainFromEnd 23 = .ok (.iload_n 2, 1) := by decide +kernel
theorem dT_strainFromEnd_24 : decode bT_strainFromEnd 24 = .ok (.iload 7, 2) := by decide +kernel
theorem dT_strainFromEnd_26 : decode bT_strainFromEnd 26 = .ok (.invokevirtual 54, 3) := by decide +kernel
theorem dT_strainFromEnd_29 : decode bT_strainFromEnd 29 = .ok (.istore 8, 2) := by decide +kernel
theorem dT_strainFromEnd_31 : decode bT_strainFromEnd 31 = .ok (.iload 7, 2) := by decide +kernel
theorem dT_strainFromEnd_33 : decode bT_strainFromEnd 33 = .ok (.ifCond .le 50, 3) := by decide +kernel
theorem dT_strainFromEnd_36 : decode bT_strainFromEnd 36 = .ok (.lload 5, 2) := by decide +kernel
theorem dT_strainFromEnd_38 : decode bT_strainFromEnd 38 = .ok (.aload 4, 2) := by decide +kernel
theorem dT_strainFromEnd_40 : decode bT_strainFromEnd 40 = .ok (.lload 5, 2) := by decide +kernel
theorem dT_strainFromEnd_42 : decode bT_strainFromEnd 42 = .ok (.aload_n 0, 1) := by decide +kernel
theorem dT_strainFromEnd_43 : decode bT_strainFromEnd 43 = .ok (.getfield 18, 3) := by decide +kernel
theorem dT_strainFromEnd_46 : decode bT_strainFromEnd 46 = .ok (.iload_n 2, 1) := by decide +kernel
theorem dT_strainFromEnd_47 : decode bT_strainFromEnd 47 = .ok (.iload 7, 2) := by decide +kernel
theorem dT_strainFromEnd_49 : decode bT_strainFromEnd 49 = .ok (.invokevirtual 58, 3) := by decide +kernel
theorem dT_strainFromEnd_52 : decode bT_strainFromEnd 52 = .ok (.invokevirtual 61, 3) := by decide +kernel
theorem dT_strainFromEnd_55 : decode bT_strainFromEnd 55 = .ok (.lsub, 1) := by decide +kernel
theorem dT_strainFromEnd_56 : decode bT_strainFromEnd 56 = .ok (.lstore 5, 2) := by decide +kernel
theorem dT_strainFromEnd_58 : decode bT_strainFromEnd 58 = .ok (.lconst 0, 1) := by decide +kernel
theorem dT_strainFromEnd_59 : decode bT_strainFromEnd 59 = .ok (.lload 5, 2) := by decide +kernel
theorem dT_strainFromEnd_61 : decode bT_strainFromEnd 61 = .ok (.aload 4, 2) := by decide +kernel
theorem dT_strainFromEnd_63 : decode bT_strainFromEnd 63 = .ok (.lload 5, 2) := by decide +kernel
theorem dT_strainFromEnd_65 : decode bT_strainFromEnd 65 = .ok (.aload_n 0, 1) := by decide +kernel
theorem dT_strainFromEnd_66 : decode bT_strainFromEnd 66 = .ok (.getfield 18, 3) := by decide +kernel
theorem dT_strainFromEnd_69 : decode bT_strainFromEnd 69 = .ok (.iload 8, 2) := by decide +kernel
theorem dT_strainFromEnd_71 : decode bT_strainFromEnd 71 = .ok (.invokevirtual 67, 3) := by decide +kernel
theorem dT_strainFromEnd_74 : decode bT_strainFromEnd 74 = .ok (.invokevirtual 71, 3) := by decide +kernel
theorem dT_strainFromEnd_77 : decode bT_strainFromEnd 77 = .ok (.lsub, 1) := by decide +kernel
theorem dT_strainFromEnd_78 : decode bT_strainFromEnd 78 = .ok (.invokestatic 74, 3) := by decide +kernel
theorem dT_strainFromEnd_81 : decode bT_strainFromEnd 81 = .ok (.lstore 5, 2) := by decide +kernel
theorem dT_strainFromEnd_83 : decode bT_strainFromEnd 83 = .ok (.aload_n 1, 1) := by decide +kernel
theorem dT_strainFromEnd_84 : decode bT_strainFromEnd 84 = .ok (.iload 8, 2) := by decide +kernel
theorem dT_strainFromEnd_86 : decode bT_strainFromEnd 86 = .ok (.aload_n 1, 1) := by decide +kernel
theorem dT_strainFromEnd_87 : decode bT_strainFromEnd 87 = .ok (.iload 8, 2) := by decide +kernel
theorem dT_strainFromEnd_89 : decode bT_strainFromEnd 89 = .ok (.laload, 1) := by decide +kernel
theorem dT_strainFromEnd_90 : decode bT_strainFromEnd 90 = .ok (.lload 5, 2) := by decide +kernel
theorem dT_strainFromEnd_92 : decode bT_strainFromEnd 92 = .ok (.invokestatic 74, 3) := by decide +kernel
theorem dT_strainFromEnd_95 : decode bT_strainFromEnd 95 = .ok (.lastore, 1) := by decide +kernel
theorem dT_strainFromEnd_96 : decode bT_strainFromEnd 96 = .ok (.iinc 7 1, 3) := by decide +kernel
theorem dT_strainFromEnd_99 : decode bT_strainFromEnd 99 = .ok (.goto (-92), 3) := by decide +kernel
theorem dT_strainFromEnd_102 : decode bT_strainFromEnd 102 = .ok (.return_, 1) := by decide +kernel
theorem dT_slipBack_0 : decode bT_slipBack 0 = .ok (.aload_n 0, 1) := by decide +kernel
theorem dT_slipBack_1 : decode bT_slipBack 1 = .ok (.getfield 32, 3) := by decide +kernel
theorem dT_slipBack_4 : decode bT_slipBack 4 = .ok (.iconst 1, 1) := by decide +kernel
theorem dT_slipBack_5 : decode bT_slipBack 5 = .ok (.iand, 1) := by decide +kernel
theorem dT_slipBack_6 : decode bT_slipBack 6 = .ok (.ifCond .eq 10, 3) := by decide +kernel
theorem dT_slipBack_9 : decode bT_slipBack 9 = .ok (.aload_n 0, 1) := by decide +kernel
theorem dT_slipBack_10 : decode bT_slipBack 10 = .ok (.iconst 1, 1) := by decide +kernel
theorem dT_slipBack_11 : decode bT_slipBack 11 = .ok (.iload_n 1, 1) := by decide +kernel
theorem dT_slipBack_12 : decode bT_slipBack 12 = .ok (.aload_n 2, 1) := by decide +kernel
theorem dT_slipBack_13 : decode bT_slipBack 13 = .ok (.invokevirtual 77, 3) := by decide +kernel
theorem dT_slipBack_16 : decode bT_slipBack 16 = .ok (.aload_n 0, 1) := by decide +kernel
theorem dT_slipBack_17 : decode bT_slipBack 17 = .ok (.getfield 32, 3) := by decide +kernel
theorem dT_slipBack_20 : decode bT_slipBack 20 = .ok (.iconst 2, 1) := by decide +kernel
theorem dT_slipBack_21 : decode bT_slipBack 21 = .ok (.iand, 1) := by decide +kernel
theorem dT_slipBack_22 : decode bT_slipBack 22 = .ok (.ifCond .eq 10, 3) := by decide +kernel
theorem dT_slipBack_25 : decode bT_slipBack 25 = .ok (.aload_n 0, 1) := by decide +kernel
theorem dT_slipBack_26 : decode bT_slipBack 26 = .ok (.iconst 2, 1) := by decide +kernel
theorem dT_slipBack_27 : decode bT_slipBack 27 = .ok (.iload_n 1, 1) := by decide +kernel
theorem dT_slipBack_28 : decode bT_slipBack 28 = .ok (.aload_n 2, 1) := by decide +kernel
theorem dT_slipBack_29 : decode bT_slipBack 29 = .ok (.invokevirtual 77, 3) := by decide +kernel
theorem dT_slipBack_32 : decode bT_slipBack 32 = .ok (.return_, 1) := by decide +kernel
theorem dT_slipAtEnd_0 : decode bT_slipAtEnd 0 = .ok (.iconst 0, 1) := by decide +kernel
theorem dT_slipAtEnd_1 : decode bT_slipAtEnd 1 = .ok (.istore 4, 2) := by decide +kernel
theorem dT_slipAtEnd_3 : decode bT_slipAtEnd 3 = .ok (.aload_n 0, 1) := by decide +kernel
theorem dT_slipAtEnd_4 : decode bT_slipAtEnd 4 = .ok (.getfield 35, 3) := by decide +kernel
theorem dT_slipAtEnd_7 : decode bT_slipAtEnd 7 = .ok (.istore 5, 2) := by decide +kernel
theorem dT_slipAtEnd_9 : decode bT_slipAtEnd 9 = .ok (.iconst 0, 1) := by decide +kernel
theorem dT_slipAtEnd_10 : decode bT_slipAtEnd 10 = .ok (.istore 6, 2) := by decide +kernel
theorem dT_slipAtEnd_12 : decode bT_slipAtEnd 12 = .ok (.iload 6, 2) := by decide +kernel
theorem dT_slipAtEnd_14 : decode bT_slipAtEnd 14 = .ok (.bipush 40, 2) := by decide +kernel
theorem dT_slipAtEnd_16 : decode bT_slipAtEnd 16 = .ok (.if_icmp .ge 58, 3) := by decide +kernel
theorem dT_slipAtEnd_19 : decode bT_slipAtEnd 19 = .ok (.iload 4, 2) := by decide +kernel
theorem dT_slipAtEnd_21 : decode bT_slipAtEnd 21 = .ok (.iload 5, 2) := by decide +kernel
theorem dT_slipAtEnd_23 : decode bT_slipAtEnd 23 = .ok (.if_icmp .ge 51, 3) := by decide +kernel
theorem dT_slipAtEnd_26 : decode bT_slipAtEnd 26 = .ok (.iload 4, 2) := by decide +kernel
theorem dT_slipAtEnd_28 : decode bT_slipAtEnd 28 = .ok (.iload 5, 2) := by decide +kernel
theorem dT_slipAtEnd_30 : decode bT_slipAtEnd 30 = .ok (.iadd, 1) := by decide +kernel
theorem dT_slipAtEnd_31 : decode bT_slipAtEnd 31 = .ok (.iconst 1, 1) := by decide +kernel
theorem dT_slipAtEnd_32 : decode bT_slipAtEnd 32 = .ok (.iadd, 1) := by decide +kernel
theorem dT_slipAtEnd_33 : decode bT_slipAtEnd 33 = .ok (.iconst 2, 1) := by decide +kernel
theorem dT_slipAtEnd_34 : decode bT_slipAtEnd 34 = .ok (.idiv, 1) := by decide +kernel
theorem dT_slipAtEnd_35 : decode bT_slipAtEnd 35 = .ok (.istore 7, 2) := by decide +kernel
theorem dT_slipAtEnd_37 : decode bT_slipAtEnd 37 = .ok (.aload_n 0, 1) := by decide +kernel
theorem dT_slipAtEnd_38 : decode bT_slipAtEnd 38 = .ok (.iload_n 1, 1) := by decide +kernel
theorem dT_slipAtEnd_39 : decode bT_slipAtEnd 39 = .ok (.iload 7, 2) := by decide +kernel
theorem dT_slipAtEnd_41 : decode bT_slipAtEnd 41 = .ok (.aload_n 3, 1) := by decide +kernel
theorem dT_slipAtEnd_42 : decode bT_slipAtEnd 42 = .ok (.invokevirtual 81, 3) := by decide +kernel
theorem dT_slipAtEnd_45 : decode bT_slipAtEnd 45 = .ok (.aload_n 0, 1) := by decide +kernel
theorem dT_slipAtEnd_46 : decode bT_slipAtEnd 46 = .ok (.invokevirtual 84, 3) := by decide +kernel
theorem dT_slipAtEnd_49 : decode bT_slipAtEnd 49 = .ok (.iload_n 2, 1) := by decide +kernel
theorem dT_slipAtEnd_50 : decode bT_slipAtEnd 50 = .ok (.i2l, 1) := by decide +kernel
theorem dT_slipAtEnd_51 : decode bT_slipAtEnd 51 = .ok (.lcmp, 1) := by decide +kernel
theorem dT_slipAtEnd_52 : decode bT_slipAtEnd 52 = .ok (.ifCond .lt 10, 3) := by decide +kernel
theorem dT_slipAtEnd_55 : decode bT_slipAtEnd 55 = .ok (.iload 7, 2) := by decide +kernel
theorem dT_slipAtEnd_57 : decode bT_slipAtEnd 57 = .ok (.istore 4, 2) := by decide +kernel
theorem dT_slipAtEnd_59 : decode bT_slipAtEnd 59 = .ok (.goto 9, 3) := by decide +kernel
theorem dT_slipAtEnd_62 : decode bT_slipAtEnd 62 = .ok (.iload 7, 2) := by decide +kernel
theorem dT_slipAtEnd_64 : decode bT_slipAtEnd 64 = .ok (.iconst 1, 1) := by decide +kernel
theorem dT_slipAtEnd_65 : decode bT_slipAtEnd 65 = .ok (.isub, 1) := by decide +kernel
theorem dT_slipAtEnd_66 : decode bT_slipAtEnd 66 = .ok (.istore 5, 2) := by decide +kernel
theorem dT_slipAtEnd_68 : decode bT_slipAtEnd 68 = .ok (.iinc 6 1, 3) := by decide +kernel
theorem dT_slipAtEnd_71 : decode bT_slipAtEnd 71 = .ok (.goto (-59), 3) := by decide +kernel
theorem dT_slipAtEnd_74 : decode bT_slipAtEnd 74 = .ok (.aload_n 0, 1) := by decide +kernel
theorem dT_slipAtEnd_75 : decode bT_slipAtEnd 75 = .ok (.iload_n 1, 1) := by decide +kernel
theorem dT_slipAtEnd_76 : decode bT_slipAtEnd 76 = .ok (.iload 4, 2) := by decide +kernel
theorem dT_slipAtEnd_78 : decode bT_slipAtEnd 78 = .ok (.aload_n 3, 1) := by decide +kernel
theorem dT_slipAtEnd_79 : decode bT_slipAtEnd 79 = .ok (.invokevirtual 81, 3) := by decide +kernel
theorem dT_slipAtEnd_82 : decode bT_slipAtEnd 82 = .ok (.iconst 0, 1) := by decide +kernel
theorem dT_slipAtEnd_83 : decode bT_slipAtEnd 83 = .ok (.istore 6, 2) := by decide +kernel
theorem dT_slipAtEnd_85 : decode bT_slipAtEnd 85 = .ok (.iload 6, 2) := by decide +kernel
theorem dT_slipAtEnd_87 : decode bT_slipAtEnd 87 = .ok (.aload_n 0, 1) := by decide +kernel
theorem dT_slipAtEnd_88 : decode bT_slipAtEnd 88 = .ok (.getfield 18, 3) := by decide +kernel
theorem dT_slipAtEnd_91 : decode bT_slipAtEnd 91 = .ok (.getfield 42, 3) := by decide +kernel
theorem dT_slipAtEnd_94 : decode bT_slipAtEnd 94 = .ok (.if_icmp .ge 23, 3) := by decide +kernel
theorem dT_slipAtEnd_97 : decode bT_slipAtEnd 97 = .ok (.aload_n 0, 1) := by decide +kernel
theorem dT_slipAtEnd_98 : decode bT_slipAtEnd 98 = .ok (.getfield 22, 3) := by decide +kernel
theorem dT_slipAtEnd_101 : decode bT_slipAtEnd 101 = .ok (.iload 6, 2) := by decide +kernel
theorem dT_slipAtEnd_103 : decode bT_slipAtEnd 103 = .ok (.aload_n 0, 1) := by decide +kernel
theorem dT_slipAtEnd_104 : decode bT_slipAtEnd 104 = .ok (.getfield 26, 3) := by decide +kernel
theorem dT_slipAtEnd_107 : decode bT_slipAtEnd 107 = .ok (.iload 6, 2) := by decide +kernel
theorem dT_slipAtEnd_109 : decode bT_slipAtEnd 109 = .ok (.laload, 1) := by decide +kernel
theorem dT_slipAtEnd_110 : decode bT_slipAtEnd 110 = .ok (.lastore, 1) := by decide +kernel
theorem dT_slipAtEnd_111 : decode bT_slipAtEnd 111 = .ok (.iinc 6 1, 3) := by decide +kernel
theorem dT_slipAtEnd_114 : decode bT_slipAtEnd 114 = .ok (.goto (-29), 3) := by decide +kernel
theorem dT_slipAtEnd_117 : decode bT_slipAtEnd 117 = .ok (.return_, 1) := by decide +kernel
theorem dT_tryAnchor_0 : decode bT_tryAnchor 0 = .ok (.iconst 0, 1) := by decide +kernel
theorem dT_tryAnchor_1 : decode bT_tryAnchor 1 = .ok (.istore 4, 2) := by decide +kernel
theorem dT_tryAnchor_3 : decode bT_tryAnchor 3 = .ok (.iload 4, 2) := by decide +kernel
theorem dT_tryAnchor_5 : decode bT_tryAnchor 5 = .ok (.aload_n 0, 1) := by decide +kernel
theorem dT_tryAnchor_6 : decode bT_tryAnchor 6 = .ok (.getfield 18, 3) := by decide +kernel
theorem dT_tryAnchor_9 : decode bT_tryAnchor 9 = .ok (.getfield 42, 3) := by decide +kernel
theorem dT_tryAnchor_12 : decode bT_tryAnchor 12 = .ok (.if_icmp .ge 23, 3) := by decide +kernel
theorem dT_tryAnchor_15 : decode bT_tryAnchor 15 = .ok (.aload_n 0, 1) := by decide +kernel
theorem dT_tryAnchor_16 : decode bT_tryAnchor 16 = .ok (.getfield 26, 3) := by decide +kernel
theorem dT_tryAnchor_19 : decode bT_tryAnchor 19 = .ok (.iload 4, 2) := by decide +kernel
theorem dT_tryAnchor_21 : decode bT_tryAnchor 21 = .ok (.aload_n 0, 1) := by decide +kernel
theorem dT_tryAnchor_22 : decode bT_tryAnchor 22 = .ok (.getfield 22, 3) := by decide +kernel
theorem dT_tryAnchor_25 : decode bT_tryAnchor 25 = .ok (.iload 4, 2) := by decide +kernel
theorem dT_tryAnchor_27 : decode bT_tryAnchor 27 = .ok (.laload, 1) := by decide +kernel
theorem dT_tryAnchor_28 : decode bT_tryAnchor 28 = .ok (.lastore, 1) := by decide +kernel
theorem dT_tryAnchor_29 : decode bT_tryAnchor 29 = .ok (.iinc 4 1, 3) := by decide +kernel
theorem dT_tryAnchor_32 : decode bT_tryAnchor 32 = .ok (.goto (-29), 3) := by decide +kernel
theorem dT_tryAnchor_35 : decode bT_tryAnchor 35 = .ok (.iload_n 2, 1) := by decide +kernel
theorem dT_tryAnchor_36 : decode bT_tryAnchor 36 = .ok (.i2l, 1) := by decide +kernel
theorem dT_tryAnchor_37 : decode bT_tryAnchor 37 = .ok (.lstore 4, 2) := by decide +kernel
theorem dT_tryAnchor_39 : decode bT_tryAnchor 39 = .ok (.iconst 0, 1) := by decide +kernel
theorem dT_tryAnchor_40 : decode bT_tryAnchor 40 = .ok (.istore 6, 2) := by decide +kernel
theorem dT_tryAnchor_42 : decode bT_tryAnchor 42 = .ok (.iload 6, 2) := by decide +kernel
theorem dT_tryAnchor_44 : decode bT_tryAnchor 44 = .ok (.aload_n 0, 1) := by decide +kernel
theorem dT_tryAnchor_45 : decode bT_tryAnchor 45 = .ok (.getfield 18, 3) := by decide +kernel
theorem dT_tryAnchor_48 : decode bT_tryAnchor 48 = .ok (.getfield 42, 3) := by decide +kernel
theorem dT_tryAnchor_51 : decode bT_tryAnchor 51 = .ok (.if_icmp .ge 90, 3) := by decide +kernel
theorem dT_tryAnchor_54 : decode bT_tryAnchor 54 = .ok (.aload_n 0, 1) := by decide +kernel
theorem dT_tryAnchor_55 : decode bT_tryAnchor 55 = .ok (.getfield 18, 3) := by decide +kernel
theorem dT_tryAnchor_58 : decode bT_tryAnchor 58 = .ok (.iload_n 1, 1) := by decide +kernel
theorem dT_tryAnchor_59 : decode bT_tryAnchor 59 = .ok (.iload 6, 2) := by decide +kernel
theorem dT_tryAnchor_61 : decode bT_tryAnchor 61 = .ok (.invokevirtual 54, 3) := by decide +kernel
theorem dT_tryAnchor_64 : decode bT_tryAnchor 64 = .ok (.istore 7, 2) := by decide +kernel
theorem dT_tryAnchor_66 : decode bT_tryAnchor 66 = .ok (.iload 6, 2) := by decide +kernel
theorem dT_tryAnchor_68 : decode bT_tryAnchor 68 = .ok (.ifCond .le 44, 3) := by decide +kernel
theorem dT_tryAnchor_71 : decode bT_tryAnchor 71 = .ok (.lload 4, 2) := by decide +kernel
theorem dT_tryAnchor_73 : decode bT_tryAnchor 73 = .ok (.aload_n 3, 1) := by decide +kernel
theorem dT_tryAnchor_74 : decode bT_tryAnchor 74 = .ok (.lload 4, 2) := by decide +kernel
theorem dT_tryAnchor_76 : decode bT_tryAnchor 76 = .ok (.aload_n 0, 1) := by decide +kernel
theorem dT_tryAnchor_77 : decode bT_tryAnchor 77 = .ok (.getfield 18, 3) := by decide +kernel
theorem dT_tryAnchor_80 : decode bT_tryAnchor 80 = .ok (.iload_n 1, 1) := by decide +kernel
theorem dT_tryAnchor_81 : decode bT_tryAnchor 81 = .ok (.iload 6, 2) := by decide +kernel
theorem dT_tryAnchor_83 : decode bT_tryAnchor 83 = .ok (.invokevirtual 58, 3) := by decide +kernel
theorem dT_tryAnchor_86 : decode bT_tryAnchor 86 = .ok (.invokevirtual 61, 3) := by decide +kernel
theorem dT_tryAnchor_89 : decode bT_tryAnchor 89 = .ok (.ladd, 1) := by decide +kernel
theorem dT_tryAnchor_90 : decode bT_tryAnchor 90 = .ok (.lstore 4, 2) := by decide +kernel
theorem dT_tryAnchor_92 : decode bT_tryAnchor 92 = .ok (.lload 4, 2) := by decide +kernel
theorem dT_tryAnchor_94 : decode bT_tryAnchor 94 = .ok (.aload_n 3, 1) := by decide +kernel
theorem dT_tryAnchor_95 : decode bT_tryAnchor 95 = .ok (.lload 4, 2) := by decide +kernel
theorem dT_tryAnchor_97 : decode bT_tryAnchor 97 = .ok (.aload_n 0, 1) := by decide +kernel
theorem dT_tryAnchor_98 : decode bT_tryAnchor 98 = .ok (.getfield 18, 3) := by decide +kernel
theorem dT_tryAnchor_101 : decode bT_tryAnchor 101 = .ok (.iload 7, 2) := by decide +kernel
theorem dT_tryAnchor_103 : decode bT_tryAnchor 103 = .ok (.invokevirtual 67, 3) := by decide +kernel
theorem dT_tryAnchor_106 : decode bT_tryAnchor 106 = .ok (.invokevirtual 71, 3) := by decide +kernel
theorem dT_tryAnchor_109 : decode bT_tryAnchor 109 = .ok (.ladd, 1) := by decide +kernel
theorem dT_tryAnchor_110 : decode bT_tryAnchor 110 = .ok (.lstore 4, 2) := by decide +kernel
theorem dT_tryAnchor_112 : decode bT_tryAnchor 112 = .ok (.lload 4, 2) := by decide +kernel
theorem dT_tryAnchor_114 : decode bT_tryAnchor 114 = .ok (.aload_n 0, 1) := by decide +kernel
theorem dT_tryAnchor_115 : decode bT_tryAnchor 115 = .ok (.getfield 22, 3) := by decide +kernel
theorem dT_tryAnchor_118 : decode bT_tryAnchor 118 = .ok (.iload 7, 2) := by decide +kernel
theorem dT_tryAnchor_120 : decode bT_tryAnchor 120 = .ok (.laload, 1) := by decide +kernel
theorem dT_tryAnchor_121 : decode bT_tryAnchor 121 = .ok (.lcmp, 1) := by decide +kernel
theorem dT_tryAnchor_122 : decode bT_tryAnchor 122 = .ok (.ifCond .lt 4, 3) := by decide +kernel
theorem dT_tryAnchor_125 : decode bT_tryAnchor 125 = .ok (.return_, 1) := by decide +kernel
theorem dT_tryAnchor_126 : decode bT_tryAnchor 126 = .ok (.aload_n 0, 1) := by decide +kernel
theorem dT_tryAnchor_127 : decode bT_tryAnchor 127 = .ok (.getfield 26, 3) := by decide +kernel
theorem dT_tryAnchor_130 : decode bT_tryAnchor 130 = .ok (.iload 7, 2) := by decide +kernel
theorem dT_tryAnchor_132 : decode bT_tryAnchor 132 = .ok (.lload 4, 2) := by decide +kernel
theorem dT_tryAnchor_134 : decode bT_tryAnchor 134 = .ok (.lastore, 1) := by decide +kernel
theorem dT_tryAnchor_135 : decode bT_tryAnchor 135 = .ok (.iinc 6 1, 3) := by decide +kernel
theorem dT_tryAnchor_138 : decode bT_tryAnchor 138 = .ok (.goto (-96), 3) := by decide +kernel
theorem dT_tryAnchor_141 : decode bT_tryAnchor 141 = .ok (.return_, 1) := by decide +kernel
theorem dT_shortening_0 : decode bT_shortening 0 = .ok (.lconst 0, 1) := by decide +kernel
theorem dT_shortening_1 : decode bT_shortening 1 = .ok (.lstore_n 1, 1) := by decide +kernel
theorem dT_shortening_2 : decode bT_shortening 2 = .ok (.iconst 0, 1) := by decide +kernel
theorem dT_shortening_3 : decode bT_shortening 3 = .ok (.istore_n 3, 1) := by decide +kernel
theorem dT_shortening_4 : decode bT_shortening 4 = .ok (.iload_n 3, 1) := by decide +kernel
theorem dT_shortening_5 : decode bT_shortening 5 = .ok (.aload_n 0, 1) := by decide +kernel
theorem dT_shortening_6 : decode bT_shortening 6 = .ok (.getfield 18, 3) := by decide +kernel
theorem dT_shortening_9 : decode bT_shortening 9 = .ok (.getfield 42, 3) := by decide +kernel
theorem dT_shortening_12 : decode bT_shortening 12 = .ok (.iconst 1, 1) := by decide +kernel
theorem dT_shortening_13 : decode bT_shortening 13 = .ok (.isub, 1) := by decide +kernel
theorem dT_shortening_14 : decode bT_shortening 14 = .ok (.if_icmp .ge 48, 3) := by decide +kernel
theorem dT_shortening_17 : decode bT_shortening 17 = .ok (.lload_n 1, 1) := by decide +kernel
theorem dT_shortening_18 : decode bT_shortening 18 = .ok (.aload_n 0, 1) := by decide +kernel
theorem dT_shortening_19 : decode bT_shortening 19 = .ok (.iload_n 3, 1) := by decide +kernel
theorem dT_shortening_20 : decode bT_shortening 20 = .ok (.aload_n 0, 1) := by decide +kernel
theorem dT_shortening_21 : decode bT_shortening 21 = .ok (.getfield 22, 3) := by decide +kernel
theorem dT_shortening_24 : decode bT_shortening 24 = .ok (.iload_n 3, 1) := by decide +kernel
theorem dT_shortening_25 : decode bT_shortening 25 = .ok (.laload, 1) := by decide +kernel
theorem dT_shortening_26 : decode bT_shortening 26 = .ok (.aload_n 0, 1) := by decide +kernel
theorem dT_shortening_27 : decode bT_shortening 27 = .ok (.getfield 26, 3) := by decide +kernel
theorem dT_shortening_30 : decode bT_shortening 30 = .ok (.iload_n 3, 1) := by decide +kernel
theorem dT_shortening_31 : decode bT_shortening 31 = .ok (.laload, 1) := by decide +kernel
theorem dT_shortening_32 : decode bT_shortening 32 = .ok (.lsub, 1) := by decide +kernel
theorem dT_shortening_33 : decode bT_shortening 33 = .ok (.aload_n 0, 1) := by decide +kernel
theorem dT_shortening_34 : decode bT_shortening 34 = .ok (.getfield 22, 3) := by decide +kernel
theorem dT_shortening_37 : decode bT_shortening 37 = .ok (.iload_n 3, 1) := by decide +kernel
theorem dT_shortening_38 : decode bT_shortening 38 = .ok (.iconst 1, 1) := by decide +kernel
theorem dT_shortening_39 : decode bT_shortening 39 = .ok (.iadd, 1) := by decide +kernel
theorem dT_shortening_40 : decode bT_shortening 40 = .ok (.laload, 1) := by decide +kernel
theorem dT_shortening_41 : decode bT_shortening 41 = .ok (.ladd, 1) := by decide +kernel
theorem dT_shortening_42 : decode bT_shortening 42 = .ok (.aload_n 0, 1) := by decide +kernel
theorem dT_shortening_43 : decode bT_shortening 43 = .ok (.getfield 26, 3) := by decide +kernel
theorem dT_shortening_46 : decode bT_shortening 46 = .ok (.iload_n 3, 1) := by decide +kernel
theorem dT_shortening_47 : decode bT_shortening 47 = .ok (.iconst 1, 1) := by decide +kernel
theorem dT_shortening_48 : decode bT_shortening 48 = .ok (.iadd, 1) := by decide +kernel
theorem dT_shortening_49 : decode bT_shortening 49 = .ok (.laload, 1) := by decide +kernel
theorem dT_shortening_50 : decode bT_shortening 50 = .ok (.lsub, 1) := by decide +kernel
theorem dT_shortening_51 : decode bT_shortening 51 = .ok (.invokevirtual 88, 3) := by decide +kernel
theorem dT_shortening_54 : decode bT_shortening 54 = .ok (.ladd, 1) := by decide +kernel
theorem dT_shortening_55 : decode bT_shortening 55 = .ok (.lstore_n 1, 1) := by decide +kernel
theorem dT_shortening_56 : decode bT_shortening 56 = .ok (.iinc 3 1, 3) := by decide +kernel
theorem dT_shortening_59 : decode bT_shortening 59 = .ok (.goto (-55), 3) := by decide +kernel
theorem dT_shortening_62 : decode bT_shortening 62 = .ok (.lload_n 1, 1) := by decide +kernel
theorem dT_shortening_63 : decode bT_shortening 63 = .ok (.lreturn, 1) := by decide +kernel
theorem dT_stretch_0 : decode bT_stretch 0 = .ok (.lconst 0, 1) := by decide +kernel
theorem dT_stretch_1 : decode bT_stretch 1 = .ok (.lstore_n 1, 1) := by decide +kernel
theorem dT_stretch_2 : decode bT_stretch 2 = .ok (.iconst 0, 1) := by decide +kernel
theorem dT_stretch_3 : decode bT_stretch 3 = .ok (.istore_n 3, 1) := by decide +kernel
theorem dT_stretch_4 : decode bT_stretch 4 = .ok (.iload_n 3, 1) := by decide +kernel
theorem dT_stretch_5 : decode bT_stretch 5 = .ok (.aload_n 0, 1) := by decide +kernel
theorem dT_stretch_6 : decode bT_stretch 6 = .ok (.getfield 18, 3) := by decide +kernel
theorem dT_stretch_9 : decode bT_stretch 9 = .ok (.getfield 42, 3) := by decide +kernel
theorem dT_stretch_12 : decode bT_stretch 12 = .ok (.iconst 1, 1) := by decide +kernel
theorem dT_stretch_13 : decode bT_stretch 13 = .ok (.isub, 1) := by decide +kernel
theorem dT_stretch_14 : decode bT_stretch 14 = .ok (.if_icmp .ge 32, 3) := by decide +kernel
theorem dT_stretch_17 : decode bT_stretch 17 = .ok (.lload_n 1, 1) := by decide +kernel
theorem dT_stretch_18 : decode bT_stretch 18 = .ok (.aload_n 0, 1) := by decide +kernel
theorem dT_stretch_19 : decode bT_stretch 19 = .ok (.iload_n 3, 1) := by decide +kernel
theorem dT_stretch_20 : decode bT_stretch 20 = .ok (.aload_n 0, 1) := by decide +kernel
theorem dT_stretch_21 : decode bT_stretch 21 = .ok (.getfield 22, 3) := by decide +kernel
theorem dT_stretch_24 : decode bT_stretch 24 = .ok (.iload_n 3, 1) := by decide +kernel
theorem dT_stretch_25 : decode bT_stretch 25 = .ok (.laload, 1) := by decide +kernel
theorem dT_stretch_26 : decode bT_stretch 26 = .ok (.aload_n 0, 1) := by decide +kernel
theorem dT_stretch_27 : decode bT_stretch 27 = .ok (.getfield 22, 3) := by decide +kernel
theorem dT_stretch_30 : decode bT_stretch 30 = .ok (.iload_n 3, 1) := by decide +kernel
theorem dT_stretch_31 : decode bT_stretch 31 = .ok (.iconst 1, 1) := by decide +kernel
theorem dT_stretch_32 : decode bT_stretch 32 = .ok (.iadd, 1) := by decide +kernel
theorem dT_stretch_33 : decode bT_stretch 33 = .ok (.laload, 1) := by decide +kernel
theorem dT_stretch_34 : decode bT_stretch 34 = .ok (.ladd, 1) := by decide +kernel
theorem dT_stretch_35 : decode bT_stretch 35 = .ok (.invokevirtual 88, 3) := by decide +kernel
theorem dT_stretch_38 : decode bT_stretch 38 = .ok (.ladd, 1) := by decide +kernel
theorem dT_stretch_39 : decode bT_stretch 39 = .ok (.lstore_n 1, 1) := by decide +kernel
theorem dT_stretch_40 : decode bT_stretch 40 = .ok (.iinc 3 1, 3) := by decide +kernel
theorem dT_stretch_43 : decode bT_stretch 43 = .ok (.goto (-39), 3) := by decide +kernel
theorem dT_stretch_46 : decode bT_stretch 46 = .ok (.lload_n 1, 1) := by decide +kernel
theorem dT_stretch_47 : decode bT_stretch 47 = .ok (.lreturn, 1) := by decide +kernel
theorem dT_stretchOf_0 : decode bT_stretchOf 0 = .ok (.lload_n 2, 1) := by decide +kernel
theorem dT_stretchOf_1 : decode bT_stretchOf 1 = .ok (.aload_n 0, 1) := by decide +kernel
theorem dT_stretchOf_2 : decode bT_stretchOf 2 = .ok (.getfield 18, 3) := by decide +kernel
theorem dT_stretchOf_5 : decode bT_stretchOf 5 = .ok (.getfield 92, 3) := by decide +kernel
theorem dT_stretchOf_8 : decode bT_stretchOf 8 = .ok (.iload_n 1, 1) := by decide +kernel
theorem dT_stretchOf_9 : decode bT_stretchOf 9 = .ok (.iaload, 1) := by decide +kernel
theorem dT_stretchOf_10 : decode bT_stretchOf 10 = .ok (.i2l, 1) := by decide +kernel
theorem dT_stretchOf_11 : decode bT_stretchOf 11 = .ok (.lmul, 1) := by decide +kernel
end
section
theorem dT_stretchOf_12 : decode bT_stretchOf 12 = .ok (.ldc2_w 96, 3) := by decide +kernel
theorem dT_stretchOf_15 : decode bT_stretchOf 15 = .ok (.lmul, 1) := by decide +kernel
theorem dT_stretchOf_16 : decode bT_stretchOf 16 = .ok (.ldc2_w 98, 3) := by decide +kernel
theorem dT_stretchOf_19 : decode bT_stretchOf 19 = .ok (.aload_n 0, 1) := by decide +kernel
theorem dT_stretchOf_20 : decode bT_stretchOf 20 = .ok (.getfield 9, 3) := by decide +kernel
theorem dT_stretchOf_23 : decode bT_stretchOf 23 = .ok (.i2l, 1) := by decide +kernel
theorem dT_stretchOf_24 : decode bT_stretchOf 24 = .ok (.lmul, 1) := by decide +kernel
theorem dT_stretchOf_25 : decode bT_stretchOf 25 = .ok (.ldc2_w 100, 3) := by decide +kernel
theorem dT_stretchOf_28 : decode bT_stretchOf 28 = .ok (.lmul, 1) := by decide +kernel
theorem dT_stretchOf_29 : decode bT_stretchOf 29 = .ok (.invokestatic 102, 3) := by decide +kernel
theorem dT_stretchOf_32 : decode bT_stretchOf 32 = .ok (.lreturn, 1) := by decide +kernel
theorem dT_meanForce_0 : decode bT_meanForce 0 = .ok (.lconst 0, 1) := by decide +kernel
theorem dT_meanForce_1 : decode bT_meanForce 1 = .ok (.lstore_n 1, 1) := by decide +kernel
theorem dT_meanForce_2 : decode bT_meanForce 2 = .ok (.iconst 0, 1) := by decide +kernel
theorem dT_meanForce_3 : decode bT_meanForce 3 = .ok (.istore_n 3, 1) := by decide +kernel
theorem dT_meanForce_4 : decode bT_meanForce 4 = .ok (.iload_n 3, 1) := by decide +kernel
theorem dT_meanForce_5 : decode bT_meanForce 5 = .ok (.aload_n 0, 1) := by decide +kernel
theorem dT_meanForce_6 : decode bT_meanForce 6 = .ok (.getfield 18, 3) := by decide +kernel
theorem dT_meanForce_9 : decode bT_meanForce 9 = .ok (.getfield 42, 3) := by decide +kernel
theorem dT_meanForce_12 : decode bT_meanForce 12 = .ok (.if_icmp .ge 18, 3) := by decide +kernel
theorem dT_meanForce_15 : decode bT_meanForce 15 = .ok (.lload_n 1, 1) := by decide +kernel
theorem dT_meanForce_16 : decode bT_meanForce 16 = .ok (.aload_n 0, 1) := by decide +kernel
theorem dT_meanForce_17 : decode bT_meanForce 17 = .ok (.getfield 22, 3) := by decide +kernel
theorem dT_meanForce_20 : decode bT_meanForce 20 = .ok (.iload_n 3, 1) := by decide +kernel
theorem dT_meanForce_21 : decode bT_meanForce 21 = .ok (.laload, 1) := by decide +kernel
theorem dT_meanForce_22 : decode bT_meanForce 22 = .ok (.ladd, 1) := by decide +kernel
theorem dT_meanForce_23 : decode bT_meanForce 23 = .ok (.lstore_n 1, 1) := by decide +kernel
theorem dT_meanForce_24 : decode bT_meanForce 24 = .ok (.iinc 3 1, 3) := by decide +kernel
theorem dT_meanForce_27 : decode bT_meanForce 27 = .ok (.goto (-23), 3) := by decide +kernel
theorem dT_meanForce_30 : decode bT_meanForce 30 = .ok (.lload_n 1, 1) := by decide +kernel
theorem dT_meanForce_31 : decode bT_meanForce 31 = .ok (.aload_n 0, 1) := by decide +kernel
theorem dT_meanForce_32 : decode bT_meanForce 32 = .ok (.getfield 18, 3) := by decide +kernel
theorem dT_meanForce_35 : decode bT_meanForce 35 = .ok (.getfield 42, 3) := by decide +kernel
theorem dT_meanForce_38 : decode bT_meanForce 38 = .ok (.i2l, 1) := by decide +kernel
theorem dT_meanForce_39 : decode bT_meanForce 39 = .ok (.invokestatic 102, 3) := by decide +kernel
theorem dT_meanForce_42 : decode bT_meanForce 42 = .ok (.lreturn, 1) := by decide +kernel
theorem dT_loseEverywhere_0 : decode bT_loseEverywhere 0 = .ok (.iconst 0, 1) := by decide +kernel
theorem dT_loseEverywhere_1 : decode bT_loseEverywhere 1 = .ok (.istore_n 3, 1) := by decide +kernel
theorem dT_loseEverywhere_2 : decode bT_loseEverywhere 2 = .ok (.iload_n 3, 1) := by decide +kernel
theorem dT_loseEverywhere_3 : decode bT_loseEverywhere 3 = .ok (.aload_n 0, 1) := by decide +kernel
theorem dT_loseEverywhere_4 : decode bT_loseEverywhere 4 = .ok (.getfield 18, 3) := by decide +kernel
theorem dT_loseEverywhere_7 : decode bT_loseEverywhere 7 = .ok (.getfield 42, 3) := by decide +kernel
theorem dT_loseEverywhere_10 : decode bT_loseEverywhere 10 = .ok (.if_icmp .ge 27, 3) := by decide +kernel
theorem dT_loseEverywhere_13 : decode bT_loseEverywhere 13 = .ok (.aload_n 0, 1) := by decide +kernel
theorem dT_loseEverywhere_14 : decode bT_loseEverywhere 14 = .ok (.getfield 22, 3) := by decide +kernel
theorem dT_loseEverywhere_17 : decode bT_loseEverywhere 17 = .ok (.iload_n 3, 1) := by decide +kernel
theorem dT_loseEverywhere_18 : decode bT_loseEverywhere 18 = .ok (.lconst 0, 1) := by decide +kernel
theorem dT_loseEverywhere_19 : decode bT_loseEverywhere 19 = .ok (.aload_n 0, 1) := by decide +kernel
theorem dT_loseEverywhere_20 : decode bT_loseEverywhere 20 = .ok (.getfield 22, 3) := by decide +kernel
theorem dT_loseEverywhere_23 : decode bT_loseEverywhere 23 = .ok (.iload_n 3, 1) := by decide +kernel
theorem dT_loseEverywhere_24 : decode bT_loseEverywhere 24 = .ok (.laload, 1) := by decide +kernel
theorem dT_loseEverywhere_25 : decode bT_loseEverywhere 25 = .ok (.lload_n 1, 1) := by decide +kernel
theorem dT_loseEverywhere_26 : decode bT_loseEverywhere 26 = .ok (.lsub, 1) := by decide +kernel
theorem dT_loseEverywhere_27 : decode bT_loseEverywhere 27 = .ok (.invokestatic 74, 3) := by decide +kernel
theorem dT_loseEverywhere_30 : decode bT_loseEverywhere 30 = .ok (.lastore, 1) := by decide +kernel
theorem dT_loseEverywhere_31 : decode bT_loseEverywhere 31 = .ok (.iinc 3 1, 3) := by decide +kernel
theorem dT_loseEverywhere_34 : decode bT_loseEverywhere 34 = .ok (.goto (-32), 3) := by decide +kernel
theorem dT_loseEverywhere_37 : decode bT_loseEverywhere 37 = .ok (.return_, 1) := by decide +kernel
theorem dT_fadeAway_0 : decode bT_fadeAway 0 = .ok (.iconst 0, 1) := by decide +kernel
theorem dT_fadeAway_1 : decode bT_fadeAway 1 = .ok (.istore_n 3, 1) := by decide +kernel
theorem dT_fadeAway_2 : decode bT_fadeAway 2 = .ok (.iload_n 3, 1) := by decide +kernel
theorem dT_fadeAway_3 : decode bT_fadeAway 3 = .ok (.aload_n 0, 1) := by decide +kernel
theorem dT_fadeAway_4 : decode bT_fadeAway 4 = .ok (.getfield 18, 3) := by decide +kernel
theorem dT_fadeAway_7 : decode bT_fadeAway 7 = .ok (.getfield 42, 3) := by decide +kernel
theorem dT_fadeAway_10 : decode bT_fadeAway 10 = .ok (.if_icmp .ge 46, 3) := by decide +kernel
theorem dT_fadeAway_13 : decode bT_fadeAway 13 = .ok (.iconst 0, 1) := by decide +kernel
theorem dT_fadeAway_14 : decode bT_fadeAway 14 = .ok (.istore 4, 2) := by decide +kernel
theorem dT_fadeAway_16 : decode bT_fadeAway 16 = .ok (.iload 4, 2) := by decide +kernel
theorem dT_fadeAway_18 : decode bT_fadeAway 18 = .ok (.iload_n 1, 1) := by decide +kernel
theorem dT_fadeAway_19 : decode bT_fadeAway 19 = .ok (.if_icmp .ge 31, 3) := by decide +kernel
theorem dT_fadeAway_22 : decode bT_fadeAway 22 = .ok (.aload_n 0, 1) := by decide +kernel
theorem dT_fadeAway_23 : decode bT_fadeAway 23 = .ok (.getfield 22, 3) := by decide +kernel
theorem dT_fadeAway_26 : decode bT_fadeAway 26 = .ok (.iload_n 3, 1) := by decide +kernel
theorem dT_fadeAway_27 : decode bT_fadeAway 27 = .ok (.dup2, 1) := by decide +kernel
theorem dT_fadeAway_28 : decode bT_fadeAway 28 = .ok (.laload, 1) := by decide +kernel
theorem dT_fadeAway_29 : decode bT_fadeAway 29 = .ok (.aload_n 0, 1) := by decide +kernel
theorem dT_fadeAway_30 : decode bT_fadeAway 30 = .ok (.getfield 22, 3) := by decide +kernel
theorem dT_fadeAway_33 : decode bT_fadeAway 33 = .ok (.iload_n 3, 1) := by decide +kernel
theorem dT_fadeAway_34 : decode bT_fadeAway 34 = .ok (.laload, 1) := by decide +kernel
theorem dT_fadeAway_35 : decode bT_fadeAway 35 = .ok (.iload_n 2, 1) := by decide +kernel
theorem dT_fadeAway_36 : decode bT_fadeAway 36 = .ok (.i2l, 1) := by decide +kernel
theorem dT_fadeAway_37 : decode bT_fadeAway 37 = .ok (.lmul, 1) := by decide +kernel
theorem dT_fadeAway_38 : decode bT_fadeAway 38 = .ok (.ldc2_w 105, 3) := by decide +kernel
theorem dT_fadeAway_41 : decode bT_fadeAway 41 = .ok (.ldiv, 1) := by decide +kernel
theorem dT_fadeAway_42 : decode bT_fadeAway 42 = .ok (.lsub, 1) := by decide +kernel
theorem dT_fadeAway_43 : decode bT_fadeAway 43 = .ok (.lastore, 1) := by decide +kernel
theorem dT_fadeAway_44 : decode bT_fadeAway 44 = .ok (.iinc 4 1, 3) := by decide +kernel
theorem dT_fadeAway_47 : decode bT_fadeAway 47 = .ok (.goto (-31), 3) := by decide +kernel
theorem dT_fadeAway_50 : decode bT_fadeAway 50 = .ok (.iinc 3 1, 3) := by decide +kernel
theorem dT_fadeAway_53 : decode bT_fadeAway 53 = .ok (.goto (-51), 3) := by decide +kernel
theorem dT_fadeAway_56 : decode bT_fadeAway 56 = .ok (.return_, 1) := by decide +kernel
theorem dT_forceOn_0 : decode bT_forceOn 0 = .ok (.aload_n 0, 1) := by decide +kernel
theorem dT_forceOn_1 : decode bT_forceOn 1 = .ok (.getfield 22, 3) := by decide +kernel
theorem dT_forceOn_4 : decode bT_forceOn 4 = .ok (.iload_n 1, 1) := by decide +kernel
theorem dT_forceOn_5 : decode bT_forceOn 5 = .ok (.iconst 1, 1) := by decide +kernel
theorem dT_forceOn_6 : decode bT_forceOn 6 = .ok (.iadd, 1) := by decide +kernel
theorem dT_forceOn_7 : decode bT_forceOn 7 = .ok (.laload, 1) := by decide +kernel
theorem dT_forceOn_8 : decode bT_forceOn 8 = .ok (.aload_n 0, 1) := by decide +kernel
theorem dT_forceOn_9 : decode bT_forceOn 9 = .ok (.getfield 22, 3) := by decide +kernel
theorem dT_forceOn_12 : decode bT_forceOn 12 = .ok (.iload_n 1, 1) := by decide +kernel
theorem dT_forceOn_13 : decode bT_forceOn 13 = .ok (.laload, 1) := by decide +kernel
theorem dT_forceOn_14 : decode bT_forceOn 14 = .ok (.lsub, 1) := by decide +kernel
theorem dT_forceOn_15 : decode bT_forceOn 15 = .ok (.lstore_n 3, 1) := by decide +kernel
theorem dT_forceOn_16 : decode bT_forceOn 16 = .ok (.iload_n 2, 1) := by decide +kernel
theorem dT_forceOn_17 : decode bT_forceOn 17 = .ok (.aload_n 0, 1) := by decide +kernel
theorem dT_forceOn_18 : decode bT_forceOn 18 = .ok (.getfield 18, 3) := by decide +kernel
theorem dT_forceOn_21 : decode bT_forceOn 21 = .ok (.getfield 107, 3) := by decide +kernel
theorem dT_forceOn_24 : decode bT_forceOn 24 = .ok (.iload_n 1, 1) := by decide +kernel
theorem dT_forceOn_25 : decode bT_forceOn 25 = .ok (.iaload, 1) := by decide +kernel
theorem dT_forceOn_26 : decode bT_forceOn 26 = .ok (.isub, 1) := by decide +kernel
theorem dT_forceOn_27 : decode bT_forceOn 27 = .ok (.i2l, 1) := by decide +kernel
theorem dT_forceOn_28 : decode bT_forceOn 28 = .ok (.lstore 5, 2) := by decide +kernel
theorem dT_forceOn_30 : decode bT_forceOn 30 = .ok (.aload_n 0, 1) := by decide +kernel
theorem dT_forceOn_31 : decode bT_forceOn 31 = .ok (.getfield 22, 3) := by decide +kernel
theorem dT_forceOn_34 : decode bT_forceOn 34 = .ok (.iload_n 1, 1) := by decide +kernel
theorem dT_forceOn_35 : decode bT_forceOn 35 = .ok (.laload, 1) := by decide +kernel
theorem dT_forceOn_36 : decode bT_forceOn 36 = .ok (.lload_n 3, 1) := by decide +kernel
theorem dT_forceOn_37 : decode bT_forceOn 37 = .ok (.lload 5, 2) := by decide +kernel
theorem dT_forceOn_39 : decode bT_forceOn 39 = .ok (.lmul, 1) := by decide +kernel
theorem dT_forceOn_40 : decode bT_forceOn 40 = .ok (.aload_n 0, 1) := by decide +kernel
theorem dT_forceOn_41 : decode bT_forceOn 41 = .ok (.getfield 18, 3) := by decide +kernel
theorem dT_forceOn_44 : decode bT_forceOn 44 = .ok (.iload_n 1, 1) := by decide +kernel
theorem dT_forceOn_45 : decode bT_forceOn 45 = .ok (.invokevirtual 110, 3) := by decide +kernel
theorem dT_forceOn_48 : decode bT_forceOn 48 = .ok (.i2l, 1) := by decide +kernel
theorem dT_forceOn_49 : decode bT_forceOn 49 = .ok (.invokestatic 102, 3) := by decide +kernel
theorem dT_forceOn_52 : decode bT_forceOn 52 = .ok (.ladd, 1) := by decide +kernel
theorem dT_forceOn_53 : decode bT_forceOn 53 = .ok (.lreturn, 1) := by decide +kernel
end
section
theorem dL_init_0 : decode bL_init 0 = .ok (.aload_n 0, 1) := by decide +kernel
theorem dL_init_1 : decode bL_init 1 = .ok (.invokespecial 1, 3) := by decide +kernel
theorem dL_init_4 : decode bL_init 4 = .ok (.aload_n 0, 1) := by decide +kernel
theorem dL_init_5 : decode bL_init 5 = .ok (.bipush 6, 2) := by decide +kernel
theorem dL_init_7 : decode bL_init 7 = .ok (.anewarray 9, 3) := by decide +kernel
theorem dL_init_10 : decode bL_init 10 = .ok (.putfield 11, 3) := by decide +kernel
theorem dL_init_13 : decode bL_init 13 = .ok (.aload_n 0, 1) := by decide +kernel
theorem dL_init_14 : decode bL_init 14 = .ok (.bipush 6, 2) := by decide +kernel
theorem dL_init_16 : decode bL_init 16 = .ok (.newarray .int, 2) := by decide +kernel
theorem dL_init_18 : decode bL_init 18 = .ok (.putfield 15, 3) := by decide +kernel
theorem dL_init_21 : decode bL_init 21 = .ok (.aload_n 0, 1) := by decide +kernel
theorem dL_init_22 : decode bL_init 22 = .ok (.new 19, 3) := by decide +kernel
theorem dL_init_25 : decode bL_init 25 = .ok (.dup, 1) := by decide +kernel
theorem dL_init_26 : decode bL_init 26 = .ok (.invokespecial 21, 3) := by decide +kernel
theorem dL_init_29 : decode bL_init 29 = .ok (.putfield 22, 3) := by decide +kernel
theorem dL_init_32 : decode bL_init 32 = .ok (.aload_n 0, 1) := by decide +kernel
theorem dL_init_33 : decode bL_init 33 = .ok (.iconst 0, 1) := by decide +kernel
theorem dL_init_34 : decode bL_init 34 = .ok (.putfield 26, 3) := by decide +kernel
theorem dL_init_37 : decode bL_init 37 = .ok (.aload_n 0, 1) := by decide +kernel
theorem dL_init_38 : decode bL_init 38 = .ok (.iconst 0, 1) := by decide +kernel
theorem dL_init_39 : decode bL_init 39 = .ok (.putfield 30, 3) := by decide +kernel
theorem dL_init_42 : decode bL_init 42 = .ok (.aload_n 0, 1) := by decide +kernel
theorem dL_init_43 : decode bL_init 43 = .ok (.iconst 0, 1) := by decide +kernel
theorem dL_init_44 : decode bL_init 44 = .ok (.putfield 33, 3) := by decide +kernel
theorem dL_init_47 : decode bL_init 47 = .ok (.aload_n 0, 1) := by decide +kernel
theorem dL_init_48 : decode bL_init 48 = .ok (.iconst 0, 1) := by decide +kernel
theorem dL_init_49 : decode bL_init 49 = .ok (.putfield 36, 3) := by decide +kernel
theorem dL_init_52 : decode bL_init 52 = .ok (.aload_n 0, 1) := by decide +kernel
theorem dL_init_53 : decode bL_init 53 = .ok (.bipush 10, 2) := by decide +kernel
theorem dL_init_55 : decode bL_init 55 = .ok (.putfield 39, 3) := by decide +kernel
theorem dL_init_58 : decode bL_init 58 = .ok (.aload_n 0, 1) := by decide +kernel
theorem dL_init_59 : decode bL_init 59 = .ok (.iconst 3, 1) := by decide +kernel
theorem dL_init_60 : decode bL_init 60 = .ok (.putfield 42, 3) := by decide +kernel
theorem dL_init_63 : decode bL_init 63 = .ok (.return_, 1) := by decide +kernel
theorem dL_tendon_0 : decode bL_tendon 0 = .ok (.iload_n 1, 1) := by decide +kernel
theorem dL_tendon_1 : decode bL_tendon 1 = .ok (.bipush 50, 2) := by decide +kernel
theorem dL_tendon_3 : decode bL_tendon 3 = .ok (.sipush 10000, 3) := by decide +kernel
theorem dL_tendon_6 : decode bL_tendon 6 = .ok (.invokestatic 45, 3) := by decide +kernel
theorem dL_tendon_9 : decode bL_tendon 9 = .ok (.ifCond .eq 12, 3) := by decide +kernel
theorem dL_tendon_12 : decode bL_tendon 12 = .ok (.aload_n 0, 1) := by decide +kernel
theorem dL_tendon_13 : decode bL_tendon 13 = .ok (.getfield 26, 3) := by decide +kernel
theorem dL_tendon_16 : decode bL_tendon 16 = .ok (.bipush 6, 2) := by decide +kernel
theorem dL_tendon_18 : decode bL_tendon 18 = .ok (.if_icmp .lt 5, 3) := by decide +kernel
theorem dL_tendon_21 : decode bL_tendon 21 = .ok (.iconst (-1), 1) := by decide +kernel
theorem dL_tendon_22 : decode bL_tendon 22 = .ok (.ireturn, 1) := by decide +kernel
theorem dL_tendon_23 : decode bL_tendon 23 = .ok (.aload_n 0, 1) := by decide +kernel
theorem dL_tendon_24 : decode bL_tendon 24 = .ok (.getfield 26, 3) := by decide +kernel
theorem dL_tendon_27 : decode bL_tendon 27 = .ok (.istore_n 2, 1) := by decide +kernel
theorem dL_tendon_28 : decode bL_tendon 28 = .ok (.aload_n 0, 1) := by decide +kernel
theorem dL_tendon_29 : decode bL_tendon 29 = .ok (.getfield 11, 3) := by decide +kernel
theorem dL_tendon_32 : decode bL_tendon 32 = .ok (.iload_n 2, 1) := by decide +kernel
theorem dL_tendon_33 : decode bL_tendon 33 = .ok (.new 9, 3) := by decide +kernel
theorem dL_tendon_36 : decode bL_tendon 36 = .ok (.dup, 1) := by decide +kernel
theorem dL_tendon_37 : decode bL_tendon 37 = .ok (.iload_n 1, 1) := by decide +kernel
theorem dL_tendon_38 : decode bL_tendon 38 = .ok (.invokespecial 49, 3) := by decide +kernel
theorem dL_tendon_41 : decode bL_tendon 41 = .ok (.aastore, 1) := by decide +kernel
theorem dL_tendon_42 : decode bL_tendon 42 = .ok (.aload_n 0, 1) := by decide +kernel
theorem dL_tendon_43 : decode bL_tendon 43 = .ok (.iload_n 2, 1) := by decide +kernel
theorem dL_tendon_44 : decode bL_tendon 44 = .ok (.iconst 1, 1) := by decide +kernel
theorem dL_tendon_45 : decode bL_tendon 45 = .ok (.iadd, 1) := by decide +kernel
theorem dL_tendon_46 : decode bL_tendon 46 = .ok (.putfield 26, 3) := by decide +kernel
theorem dL_tendon_49 : decode bL_tendon 49 = .ok (.iload_n 2, 1) := by decide +kernel
theorem dL_tendon_50 : decode bL_tendon 50 = .ok (.ireturn, 1) := by decide +kernel
theorem dL_point_0 : decode bL_point 0 = .ok (.aload_n 0, 1) := by decide +kernel
theorem dL_point_1 : decode bL_point 1 = .ok (.iload_n 1, 1) := by decide +kernel
theorem dL_point_2 : decode bL_point 2 = .ok (.invokevirtual 52, 3) := by decide +kernel
theorem dL_point_5 : decode bL_point 5 = .ok (.astore 4, 2) := by decide +kernel
theorem dL_point_7 : decode bL_point 7 = .ok (.aload 4, 2) := by decide +kernel
theorem dL_point_9 : decode bL_point 9 = .ok (.ifnull 24, 3) := by decide +kernel
theorem dL_point_12 : decode bL_point 12 = .ok (.aload 4, 2) := by decide +kernel
theorem dL_point_14 : decode bL_point 14 = .ok (.getfield 56, 3) := by decide +kernel
theorem dL_point_17 : decode bL_point 17 = .ok (.ifCond .ne 16, 3) := by decide +kernel
theorem dL_point_20 : decode bL_point 20 = .ok (.aload 4, 2) := by decide +kernel
theorem dL_point_22 : decode bL_point 22 = .ok (.getfield 59, 3) := by decide +kernel
theorem dL_point_25 : decode bL_point 25 = .ok (.iload_n 2, 1) := by decide +kernel
theorem dL_point_26 : decode bL_point 26 = .ok (.iload_n 3, 1) := by decide +kernel
theorem dL_point_27 : decode bL_point 27 = .ok (.invokevirtual 63, 3) := by decide +kernel
theorem dL_point_30 : decode bL_point 30 = .ok (.ifCond .ne 5, 3) := by decide +kernel
theorem dL_point_33 : decode bL_point 33 = .ok (.iconst (-1), 1) := by decide +kernel
theorem dL_point_34 : decode bL_point 34 = .ok (.ireturn, 1) := by decide +kernel
theorem dL_point_35 : decode bL_point 35 = .ok (.aload 4, 2) := by decide +kernel
theorem dL_point_37 : decode bL_point 37 = .ok (.getfield 59, 3) := by decide +kernel
theorem dL_point_40 : decode bL_point 40 = .ok (.iload_n 2, 1) := by decide +kernel
theorem dL_point_41 : decode bL_point 41 = .ok (.iload_n 3, 1) := by decide +kernel
theorem dL_point_42 : decode bL_point 42 = .ok (.invokevirtual 69, 3) := by decide +kernel
theorem dL_point_45 : decode bL_point 45 = .ok (.aload 4, 2) := by decide +kernel
theorem dL_point_47 : decode bL_point 47 = .ok (.getfield 59, 3) := by decide +kernel
theorem dL_point_50 : decode bL_point 50 = .ok (.getfield 73, 3) := by decide +kernel
theorem dL_point_53 : decode bL_point 53 = .ok (.ireturn, 1) := by decide +kernel
theorem dL_friction_0 : decode bL_friction 0 = .ok (.iload_n 1, 1) := by decide +kernel
theorem dL_friction_1 : decode bL_friction 1 = .ok (.iconst 0, 1) := by decide +kernel
theorem dL_friction_2 : decode bL_friction 2 = .ok (.sipush 1000, 3) := by decide +kernel
theorem dL_friction_5 : decode bL_friction 5 = .ok (.invokestatic 45, 3) := by decide +kernel
theorem dL_friction_8 : decode bL_friction 8 = .ok (.ifCond .eq 14, 3) := by decide +kernel
theorem dL_friction_11 : decode bL_friction 11 = .ok (.iload_n 2, 1) := by decide +kernel
theorem dL_friction_12 : decode bL_friction 12 = .ok (.iconst 0, 1) := by decide +kernel
theorem dL_friction_13 : decode bL_friction 13 = .ok (.sipush 500, 3) := by decide +kernel
theorem dL_friction_16 : decode bL_friction 16 = .ok (.invokestatic 45, 3) := by decide +kernel
theorem dL_friction_19 : decode bL_friction 19 = .ok (.ifCond .ne 5, 3) := by decide +kernel
theorem dL_friction_22 : decode bL_friction 22 = .ok (.iconst 0, 1) := by decide +kernel
theorem dL_friction_23 : decode bL_friction 23 = .ok (.ireturn, 1) := by decide +kernel
theorem dL_friction_24 : decode bL_friction 24 = .ok (.aload_n 0, 1) := by decide +kernel
theorem dL_friction_25 : decode bL_friction 25 = .ok (.getfield 22, 3) := by decide +kernel
theorem dL_friction_28 : decode bL_friction 28 = .ok (.iload_n 1, 1) := by decide +kernel
theorem dL_friction_29 : decode bL_friction 29 = .ok (.putfield 76, 3) := by decide +kernel
theorem dL_friction_32 : decode bL_friction 32 = .ok (.aload_n 0, 1) := by decide +kernel
theorem dL_friction_33 : decode bL_friction 33 = .ok (.getfield 22, 3) := by decide +kernel
theorem dL_friction_36 : decode bL_friction 36 = .ok (.iload_n 2, 1) := by decide +kernel
theorem dL_friction_37 : decode bL_friction 37 = .ok (.putfield 79, 3) := by decide +kernel
theorem dL_friction_40 : decode bL_friction 40 = .ok (.iconst 1, 1) := by decide +kernel
theorem dL_friction_41 : decode bL_friction 41 = .ok (.ireturn, 1) := by decide +kernel
theorem dL_losses_0 : decode bL_losses 0 = .ok (.iload_n 1, 1) := by decide +kernel
theorem dL_losses_1 : decode bL_losses 1 = .ok (.iconst 0, 1) := by decide +kernel
theorem dL_losses_2 : decode bL_losses 2 = .ok (.sipush 20000, 3) := by decide +kernel
theorem dL_losses_5 : decode bL_losses 5 = .ok (.invokestatic 45, 3) := by decide +kernel
theorem dL_losses_8 : decode bL_losses 8 = .ok (.ifCond .eq 24, 3) := by decide +kernel
theorem dL_losses_11 : decode bL_losses 11 = .ok (.iload_n 2, 1) := by decide +kernel
theorem dL_losses_12 : decode bL_losses 12 = .ok (.iconst 0, 1) := by decide +kernel
theorem dL_losses_13 : decode bL_losses 13 = .ok (.bipush 100, 2) := by decide +kernel
theorem dL_losses_15 : decode bL_losses 15 = .ok (.invokestatic 45, 3) := by decide +kernel
theorem dL_losses_18 : decode bL_losses 18 = .ok (.ifCond .eq 14, 3) := by decide +kernel
theorem dL_losses_21 : decode bL_losses 21 = .ok (.iload_n 3, 1) := by decide +kernel
theorem dL_losses_22 : decode bL_losses 22 = .ok (.iconst 0, 1) := by decide +kernel
theorem dL_losses_23 : decode bL_losses 23 = .ok (.sipush 1000, 3) := by decide +kernel
theorem dL_losses_26 : decode bL_losses 26 = .ok (.invokestatic 45, 3) := by decide +kernel
theorem dL_losses_29 : decode bL_losses 29 = .ok (.ifCond .ne 5, 3) := by decide +kernel
theorem dL_losses_32 : decode bL_losses 32 = .ok (.iconst 0, 1) := by decide +kernel
theorem dL_losses_33 : decode bL_losses 33 = .ok (.ireturn, 1) := by decide +kernel
theorem dL_losses_34 : decode bL_losses 34 = .ok (.aload_n 0, 1) := by decide +kernel
theorem dL_losses_35 : decode bL_losses 35 = .ok (.iload_n 1, 1) := by decide +kernel
theorem dL_losses_36 : decode bL_losses 36 = .ok (.putfield 36, 3) := by decide +kernel
theorem dL_losses_39 : decode bL_losses 39 = .ok (.aload_n 0, 1) := by decide +kernel
theorem dL_losses_40 : decode bL_losses 40 = .ok (.iload_n 2, 1) := by decide +kernel
theorem dL_losses_41 : decode bL_losses 41 = .ok (.putfield 39, 3) := by decide +kernel
theorem dL_losses_44 : decode bL_losses 44 = .ok (.aload_n 0, 1) := by decide +kernel
theorem dL_losses_45 : decode bL_losses 45 = .ok (.iload_n 3, 1) := by decide +kernel
theorem dL_losses_46 : decode bL_losses 46 = .ok (.putfield 42, 3) := by decide +kernel
theorem dL_losses_49 : decode bL_losses 49 = .ok (.iconst 1, 1) := by decide +kernel
theorem dL_losses_50 : decode bL_losses 50 = .ok (.ireturn, 1) := by decide +kernel
theorem dL_pull_0 : decode bL_pull 0 = .ok (.aload_n 0, 1) := by decide +kernel
theorem dL_pull_1 : decode bL_pull 1 = .ok (.iload_n 1, 1) := by decide +kernel
theorem dL_pull_2 : decode bL_pull 2 = .ok (.invokevirtual 52, 3) := by decide +kernel
theorem dL_pull_5 : decode bL_pull 5 = .ok (.astore 4, 2) := by decide +kernel
theorem dL_pull_7 : decode bL_pull 7 = .ok (.aload 4, 2) := by decide +kernel
theorem dL_pull_9 : decode bL_pull 9 = .ok (.ifnull 42, 3) := by decide +kernel
theorem dL_pull_12 : decode bL_pull 12 = .ok (.aload 4, 2) := by decide +kernel
theorem dL_pull_14 : decode bL_pull 14 = .ok (.getfield 56, 3) := by decide +kernel
theorem dL_pull_17 : decode bL_pull 17 = .ok (.iconst 2, 1) := by decide +kernel
theorem dL_pull_18 : decode bL_pull 18 = .ok (.if_icmp .eq 33, 3) := by decide +kernel
theorem dL_pull_21 : decode bL_pull 21 = .ok (.aload 4, 2) := by decide +kernel
theorem dL_pull_23 : decode bL_pull 23 = .ok (.getfield 59, 3) := by decide +kernel
theorem dL_pull_26 : decode bL_pull 26 = .ok (.invokevirtual 82, 3) := by decide +kernel
theorem dL_pull_29 : decode bL_pull 29 = .ok (.ifCond .eq 22, 3) := by decide +kernel
theorem dL_pull_32 : decode bL_pull 32 = .ok (.iload_n 2, 1) := by decide +kernel
theorem dL_pull_33 : decode bL_pull 33 = .ok (.iconst 1, 1) := by decide +kernel
theorem dL_pull_34 : decode bL_pull 34 = .ok (.iconst 3, 1) := by decide +kernel
theorem dL_pull_35 : decode bL_pull 35 = .ok (.invokestatic 45, 3) := by decide +kernel
theorem dL_pull_38 : decode bL_pull 38 = .ok (.ifCond .eq 13, 3) := by decide +kernel
theorem dL_pull_41 : decode bL_pull 41 = .ok (.iload_n 3, 1) := by decide +kernel
theorem dL_pull_42 : decode bL_pull 42 = .ok (.iconst 1, 1) := by decide +kernel
theorem dL_pull_43 : decode bL_pull 43 = .ok (.ldc 86, 2) := by decide +kernel
theorem dL_pull_45 : decode bL_pull 45 = .ok (.invokestatic 45, 3) := by decide +kernel
theorem dL_pull_48 : decode bL_pull 48 = .ok (.ifCond .ne 5, 3) := by decide +kernel
theorem dL_pull_51 : decode bL_pull 51 = .ok (.iconst (-1), 1) := by decide +kernel
theorem dL_pull_52 : decode bL_pull 52 = .ok (.ireturn, 1) := by decide +kernel
theorem dL_pull_53 : decode bL_pull 53 = .ok (.aload 4, 2) := by decide +kernel
theorem dL_pull_55 : decode bL_pull 55 = .ok (.iload_n 2, 1) := by decide +kernel
theorem dL_pull_56 : decode bL_pull 56 = .ok (.iload_n 3, 1) := by decide +kernel
theorem dL_pull_57 : decode bL_pull 57 = .ok (.aload_n 0, 1) := by decide +kernel
theorem dL_pull_58 : decode bL_pull 58 = .ok (.getfield 22, 3) := by decide +kernel
theorem dL_pull_61 : decode bL_pull 61 = .ok (.invokevirtual 87, 3) := by decide +kernel
theorem dL_pull_64 : decode bL_pull 64 = .ok (.aload 4, 2) := by decide +kernel
theorem dL_pull_66 : decode bL_pull 66 = .ok (.invokevirtual 91, 3) := by decide +kernel
theorem dL_pull_69 : decode bL_pull 69 = .ok (.l2i, 1) := by decide +kernel
theorem dL_pull_70 : decode bL_pull 70 = .ok (.ireturn, 1) := by decide +kernel
theorem dL_lock_0 : decode bL_lock 0 = .ok (.aload_n 0, 1) := by decide +kernel
theorem dL_lock_1 : decode bL_lock 1 = .ok (.iload_n 1, 1) := by decide +kernel
theorem dL_lock_2 : decode bL_lock 2 = .ok (.invokevirtual 52, 3) := by decide +kernel
theorem dL_lock_5 : decode bL_lock 5 = .ok (.astore_n 2, 1) := by decide +kernel
theorem dL_lock_6 : decode bL_lock 6 = .ok (.aload_n 2, 1) := by decide +kernel
theorem dL_lock_7 : decode bL_lock 7 = .ok (.ifnull 20, 3) := by decide +kernel
theorem dL_lock_10 : decode bL_lock 10 = .ok (.aload_n 2, 1) := by decide +kernel
theorem dL_lock_11 : decode bL_lock 11 = .ok (.getfield 56, 3) := by decide +kernel
theorem dL_lock_14 : decode bL_lock 14 = .ok (.iconst 1, 1) := by decide +kernel
theorem dL_lock_15 : decode bL_lock 15 = .ok (.if_icmp .ne 12, 3) := by decide +kernel
theorem dL_lock_18 : decode bL_lock 18 = .ok (.aload_n 0, 1) := by decide +kernel
theorem dL_lock_19 : decode bL_lock 19 = .ok (.getfield 30, 3) := by decide +kernel
theorem dL_lock_22 : decode bL_lock 22 = .ok (.bipush 6, 2) := by decide +kernel
theorem dL_lock_24 : decode bL_lock 24 = .ok (.if_icmp .lt 5, 3) := by decide +kernel
theorem dL_lock_27 : decode bL_lock 27 = .ok (.iconst (-1), 1) := by decide +kernel
theorem dL_lock_28 : decode bL_lock 28 = .ok (.ireturn, 1) := by decide +kernel
theorem dL_lock_29 : decode bL_lock 29 = .ok (.aload_n 2, 1) := by decide +kernel
theorem dL_lock_30 : decode bL_lock 30 = .ok (.invokevirtual 91, 3) := by decide +kernel
theorem dL_lock_33 : decode bL_lock 33 = .ok (.lstore_n 3, 1) := by decide +kernel
theorem dL_lock_34 : decode bL_lock 34 = .ok (.aload_n 2, 1) := by decide +kernel
theorem dL_lock_35 : decode bL_lock 35 = .ok (.aload_n 0, 1) := by decide +kernel
theorem dL_lock_36 : decode bL_lock 36 = .ok (.getfield 36, 3) := by decide +kernel
theorem dL_lock_39 : decode bL_lock 39 = .ok (.aload_n 0, 1) := by decide +kernel
theorem dL_lock_40 : decode bL_lock 40 = .ok (.getfield 22, 3) := by decide +kernel
theorem dL_lock_43 : decode bL_lock 43 = .ok (.invokevirtual 95, 3) := by decide +kernel
theorem dL_lock_46 : decode bL_lock 46 = .ok (.aload_n 2, 1) := by decide +kernel
theorem dL_lock_47 : decode bL_lock 47 = .ok (.iconst 2, 1) := by decide +kernel
theorem dL_lock_48 : decode bL_lock 48 = .ok (.putfield 56, 3) := by decide +kernel
theorem dL_lock_51 : decode bL_lock 51 = .ok (.aload_n 0, 1) := by decide +kernel
theorem dL_lock_52 : decode bL_lock 52 = .ok (.aload_n 2, 1) := by decide +kernel
theorem dL_lock_53 : decode bL_lock 53 = .ok (.invokevirtual 99, 3) := by decide +kernel
theorem dL_lock_56 : decode bL_lock 56 = .ok (.aload_n 0, 1) := by decide +kernel
theorem dL_lock_57 : decode bL_lock 57 = .ok (.getfield 39, 3) := by decide +kernel
theorem dL_lock_60 : decode bL_lock 60 = .ok (.i2l, 1) := by decide +kernel
theorem dL_lock_61 : decode bL_lock 61 = .ok (.lmul, 1) := by decide +kernel
theorem dL_lock_62 : decode bL_lock 62 = .ok (.ldc2_w 102, 3) := by decide +kernel
theorem dL_lock_65 : decode bL_lock 65 = .ok (.ldiv, 1) := by decide +kernel
theorem dL_lock_66 : decode bL_lock 66 = .ok (.invokevirtual 104, 3) := by decide +kernel
theorem dL_lock_69 : decode bL_lock 69 = .ok (.aload_n 0, 1) := by decide +kernel
theorem dL_lock_70 : decode bL_lock 70 = .ok (.getfield 15, 3) := by decide +kernel
theorem dL_lock_73 : decode bL_lock 73 = .ok (.aload_n 0, 1) := by decide +kernel
theorem dL_lock_74 : decode bL_lock 74 = .ok (.getfield 30, 3) := by decide +kernel
theorem dL_lock_77 : decode bL_lock 77 = .ok (.iload_n 1, 1) := by decide +kernel
theorem dL_lock_78 : decode bL_lock 78 = .ok (.iastore, 1) := by decide +kernel
theorem dL_lock_79 : decode bL_lock 79 = .ok (.aload_n 0, 1) := by decide +kernel
theorem dL_lock_80 : decode bL_lock 80 = .ok (.dup, 1) := by decide +kernel
theorem dL_lock_81 : decode bL_lock 81 = .ok (.getfield 30, 3) := by decide +kernel
theorem dL_lock_84 : decode bL_lock 84 = .ok (.iconst 1, 1) := by decide +kernel
theorem dL_lock_85 : decode bL_lock 85 = .ok (.iadd, 1) := by decide +kernel
theorem dL_lock_86 : decode bL_lock 86 = .ok (.putfield 30, 3) := by decide +kernel
theorem dL_lock_89 : decode bL_lock 89 = .ok (.lload_n 3, 1) := by decide +kernel
theorem dL_lock_90 : decode bL_lock 90 = .ok (.aload_n 2, 1) := by decide +kernel
theorem dL_lock_91 : decode bL_lock 91 = .ok (.invokevirtual 91, 3) := by decide +kernel
theorem dL_lock_94 : decode bL_lock 94 = .ok (.lsub, 1) := by decide +kernel
theorem dL_lock_95 : decode bL_lock 95 = .ok (.l2i, 1) := by decide +kernel
theorem dL_lock_96 : decode bL_lock 96 = .ok (.ireturn, 1) := by decide +kernel
theorem dL_cut_0 : decode bL_cut 0 = .ok (.aload_n 0, 1) := by decide +kernel
theorem dL_cut_1 : decode bL_cut 1 = .ok (.iload_n 1, 1) := by decide +kernel
theorem dL_cut_2 : decode bL_cut 2 = .ok (.invokevirtual 52, 3) := by decide +kernel
theorem dL_cut_5 : decode bL_cut 5 = .ok (.astore_n 2, 1) := by decide +kernel
theorem dL_cut_6 : decode bL_cut 6 = .ok (.aload_n 2, 1) := by decide +kernel
theorem dL_cut_7 : decode bL_cut 7 = .ok (.ifnull 10, 3) := by decide +kernel
theorem dL_cut_10 : decode bL_cut 10 = .ok (.aload_n 2, 1) := by decide +kernel
theorem dL_cut_11 : decode bL_cut 11 = .ok (.getfield 56, 3) := by decide +kernel
theorem dL_cut_14 : decode bL_cut 14 = .ok (.ifCond .ne 5, 3) := by decide +kernel
theorem dL_cut_17 : decode bL_cut 17 = .ok (.iconst 0, 1) := by decide +kernel
theorem dL_cut_18 : decode bL_cut 18 = .ok (.ireturn, 1) := by decide +kernel
theorem dL_cut_19 : decode bL_cut 19 = .ok (.aload_n 2, 1) := by decide +kernel
theorem dL_cut_20 : decode bL_cut 20 = .ok (.getfield 56, 3) := by decide +kernel
theorem dL_cut_23 : decode bL_cut 23 = .ok (.iconst 2, 1) := by decide +kernel
theorem dL_cut_24 : decode bL_cut 24 = .ok (.if_icmp .ne 8, 3) := by decide +kernel
theorem dL_cut_27 : decode bL_cut 27 = .ok (.aload_n 0, 1) := by decide +kernel
theorem dL_cut_28 : decode bL_cut 28 = .ok (.iload_n 1, 1) := by decide +kernel
theorem dL_cut_29 : decode bL_cut 29 = .ok (.invokevirtual 108, 3) := by decide +kernel
theorem dL_cut_32 : decode bL_cut 32 = .ok (.aload_n 2, 1) := by decide +kernel
theorem dL_cut_33 : decode bL_cut 33 = .ok (.iconst 0, 1) := by decide +kernel
theorem dL_cut_34 : decode bL_cut 34 = .ok (.putfield 56, 3) := by decide +kernel
theorem dL_cut_37 : decode bL_cut 37 = .ok (.iconst 1, 1) := by decide +kernel
theorem dL_cut_38 : decode bL_cut 38 = .ok (.ireturn, 1) := by decide +kernel
theorem dL_days_0 : decode bL_days 0 = .ok (.iload_n 1, 1) := by decide +kernel
theorem dL_days_1 : decode bL_days 1 = .ok (.iconst 1, 1) := by decide +kernel
theorem dL_days_2 : decode bL_days 2 = .ok (.sipush 1000, 3) := by decide +kernel
theorem dL_days_5 : decode bL_days 5 = .ok (.invokestatic 45, 3) := by decide +kernel
theorem dL_days_8 : decode bL_days 8 = .ok (.ifCond .ne 5, 3) := by decide +kernel
theorem dL_days_11 : decode bL_days 11 = .ok (.iconst (-1), 1) := by decide +kernel
theorem dL_days_12 : decode bL_days 12 = .ok (.ireturn, 1) := by decide +kernel
theorem dL_days_13 : decode bL_days 13 = .ok (.iconst 0, 1) := by decide +kernel
theorem dL_days_14 : decode bL_days 14 = .ok (.istore_n 2, 1) := by decide +kernel
theorem dL_days_15 : decode bL_days 15 = .ok (.iload_n 2, 1) := by decide +kernel
theorem dL_days_16 : decode bL_days 16 = .ok (.aload_n 0, 1) := by decide +kernel
theorem dL_days_17 : decode bL_days 17 = .ok (.getfield 30, 3) := by decide +kernel
theorem dL_days_20 : decode bL_days 20 = .ok (.if_icmp .ge 33, 3) := by decide +kernel
theorem dL_days_23 : decode bL_days 23 = .ok (.aload_n 0, 1) := by decide +kernel
theorem dL_days_24 : decode bL_days 24 = .ok (.aload_n 0, 1) := by decide +kernel
theorem dL_days_25 : decode bL_days 25 = .ok (.getfield 15, 3) := by decide +kernel
theorem dL_days_28 : decode bL_days 28 = .ok (.iload_n 2, 1) := by decide +kernel
theorem dL_days_29 : decode bL_days 29 = .ok (.iaload, 1) := by decide +kernel
theorem dL_days_30 : decode bL_days 30 = .ok (.invokevirtual 52, 3) := by decide +kernel
theorem dL_days_33 : decode bL_days 33 = .ok (.astore_n 3, 1) := by decide +kernel
theorem dL_days_34 : decode bL_days 34 = .ok (.aload_n 3, 1) := by decide +kernel
theorem dL_days_35 : decode bL_days 35 = .ok (.ifnull 12, 3) := by decide +kernel
theorem dL_days_38 : decode bL_days 38 = .ok (.aload_n 3, 1) := by decide +kernel
theorem dL_days_39 : decode bL_days 39 = .ok (.iload_n 1, 1) := by decide +kernel
theorem dL_days_40 : decode bL_days 40 = .ok (.aload_n 0, 1) := by decide +kernel
theorem dL_days_41 : decode bL_days 41 = .ok (.getfield 42, 3) := by decide +kernel
theorem dL_days_44 : decode bL_days 44 = .ok (.invokevirtual 111, 3) := by decide +kernel
theorem dL_days_47 : decode bL_days 47 = .ok (.iinc 2 1, 3) := by decide +kernel
theorem dL_days_50 : decode bL_days 50 = .ok (.goto (-35), 3) := by decide +kernel
theorem dL_days_53 : decode bL_days 53 = .ok (.aload_n 0, 1) := by decide +kernel
theorem dL_days_54 : decode bL_days 54 = .ok (.dup, 1) := by decide +kernel
theorem dL_days_55 : decode bL_days 55 = .ok (.getfield 33, 3) := by decide +kernel
theorem dL_days_58 : decode bL_days 58 = .ok (.iload_n 1, 1) := by decide +kernel
theorem dL_days_59 : decode bL_days 59 = .ok (.iadd, 1) := by decide +kernel
theorem dL_days_60 : decode bL_days 60 = .ok (.putfield 33, 3) := by decide +kernel
theorem dL_days_63 : decode bL_days 63 = .ok (.aload_n 0, 1) := by decide +kernel
theorem dL_days_64 : decode bL_days 64 = .ok (.getfield 33, 3) := by decide +kernel
theorem dL_days_67 : decode bL_days 67 = .ok (.ireturn, 1) := by decide +kernel
theorem dL_force_0 : decode bL_force 0 = .ok (.aload_n 0, 1) := by decide +kernel
theorem dL_force_1 : decode bL_force 1 = .ok (.iload_n 1, 1) := by decide +kernel
theorem dL_force_2 : decode bL_force 2 = .ok (.invokevirtual 114, 3) := by decide +kernel
theorem dL_force_5 : decode bL_force 5 = .ok (.astore_n 3, 1) := by decide +kernel
theorem dL_force_6 : decode bL_force 6 = .ok (.aload_n 3, 1) := by decide +kernel
theorem dL_force_7 : decode bL_force 7 = .ok (.ifnull 14, 3) := by decide +kernel
theorem dL_force_10 : decode bL_force 10 = .ok (.aload_n 3, 1) := by decide +kernel
theorem dL_force_11 : decode bL_force 11 = .ok (.getfield 59, 3) := by decide +kernel
theorem dL_force_14 : decode bL_force 14 = .ok (.iload_n 2, 1) := by decide +kernel
theorem dL_force_15 : decode bL_force 15 = .ok (.invokevirtual 117, 3) := by decide +kernel
theorem dL_force_18 : decode bL_force 18 = .ok (.ifCond .ne 7, 3) := by decide +kernel
theorem dL_force_21 : decode bL_force 21 = .ok (.iconst (-1), 1) := by decide +kernel
theorem dL_force_22 : decode bL_force 22 = .ok (.goto 10, 3) := by decide +kernel
theorem dL_force_25 : decode bL_force 25 = .ok (.aload_n 3, 1) := by decide +kernel
theorem dL_force_26 : decode bL_force 26 = .ok (.getfield 121, 3) := by decide +kernel
theorem dL_force_29 : decode bL_force 29 = .ok (.iload_n 2, 1) := by decide +kernel
theorem dL_force_30 : decode bL_force 30 = .ok (.laload, 1) := by decide +kernel
theorem dL_force_31 : decode bL_force 31 = .ok (.l2i, 1) := by decide +kernel
theorem dL_force_32 : decode bL_force 32 = .ok (.ireturn, 1) := by decide +kernel
theorem dL_at_0 : decode bL_at 0 = .ok (.aload_n 0, 1) := by decide +kernel
theorem dL_at_1 : decode bL_at 1 = .ok (.iload_n 1, 1) := by decide +kernel
theorem dL_at_2 : decode bL_at 2 = .ok (.invokevirtual 114, 3) := by decide +kernel
theorem dL_at_5 : decode bL_at 5 = .ok (.astore_n 3, 1) := by decide +kernel
theorem dL_at_6 : decode bL_at 6 = .ok (.aload_n 3, 1) := by decide +kernel
theorem dL_at_7 : decode bL_at 7 = .ok (.ifnonnull 5, 3) := by decide +kernel
theorem dL_at_10 : decode bL_at 10 = .ok (.iconst (-1), 1) := by decide +kernel
theorem dL_at_11 : decode bL_at 11 = .ok (.ireturn, 1) := by decide +kernel
theorem dL_at_12 : decode bL_at 12 = .ok (.aload_n 3, 1) := by decide +kernel
theorem dL_at_13 : decode bL_at 13 = .ok (.getfield 59, 3) := by decide +kernel
theorem dL_at_16 : decode bL_at 16 = .ok (.iload_n 2, 1) := by decide +kernel
theorem dL_at_17 : decode bL_at 17 = .ok (.invokevirtual 125, 3) := by decide +kernel
theorem dL_at_20 : decode bL_at 20 = .ok (.istore 4, 2) := by decide +kernel
theorem dL_at_22 : decode bL_at 22 = .ok (.iload 4, 2) := by decide +kernel
theorem dL_at_24 : decode bL_at 24 = .ok (.ifCond .ge 7, 3) := by decide +kernel
theorem dL_at_27 : decode bL_at 27 = .ok (.iconst (-1), 1) := by decide +kernel
theorem dL_at_28 : decode bL_at 28 = .ok (.goto 11, 3) := by decide +kernel
theorem dL_at_31 : decode bL_at 31 = .ok (.aload_n 3, 1) := by decide +kernel
theorem dL_at_32 : decode bL_at 32 = .ok (.iload 4, 2) := by decide +kernel
theorem dL_at_34 : decode bL_at 34 = .ok (.iload_n 2, 1) := by decide +kernel
theorem dL_at_35 : decode bL_at 35 = .ok (.invokevirtual 129, 3) := by decide +kernel
theorem dL_at_38 : decode bL_at 38 = .ok (.l2i, 1) := by decide +kernel
theorem dL_at_39 : decode bL_at 39 = .ok (.ireturn, 1) := by decide +kernel
theorem dL_longer_0 : decode bL_longer 0 = .ok (.aload_n 0, 1) := by decide +kernel
theorem dL_longer_1 : decode bL_longer 1 = .ok (.iload_n 1, 1) := by decide +kernel
theorem dL_longer_2 : decode bL_longer 2 = .ok (.invokevirtual 114, 3) := by decide +kernel
theorem dL_longer_5 : decode bL_longer 5 = .ok (.astore_n 2, 1) := by decide +kernel
theorem dL_longer_6 : decode bL_longer 6 = .ok (.aload_n 2, 1) := by decide +kernel
theorem dL_longer_7 : decode bL_longer 7 = .ok (.ifnonnull 7, 3) := by decide +kernel
theorem dL_longer_10 : decode bL_longer 10 = .ok (.iconst (-1), 1) := by decide +kernel
theorem dL_longer_11 : decode bL_longer 11 = .ok (.goto 8, 3) := by decide +kernel
theorem dL_longer_14 : decode bL_longer 14 = .ok (.aload_n 2, 1) := by decide +kernel
theorem dL_longer_15 : decode bL_longer 15 = .ok (.invokevirtual 91, 3) := by decide +kernel
theorem dL_longer_18 : decode bL_longer 18 = .ok (.l2i, 1) := by decide +kernel
theorem dL_longer_19 : decode bL_longer 19 = .ok (.ireturn, 1) := by decide +kernel
theorem dL_piece_0 : decode bL_piece 0 = .ok (.aload_n 0, 1) := by decide +kernel
theorem dL_piece_1 : decode bL_piece 1 = .ok (.iload_n 1, 1) := by decide +kernel
theorem dL_piece_2 : decode bL_piece 2 = .ok (.invokevirtual 52, 3) := by decide +kernel
theorem dL_piece_5 : decode bL_piece 5 = .ok (.astore 4, 2) := by decide +kernel
theorem dL_piece_7 : decode bL_piece 7 = .ok (.aload 4, 2) := by decide +kernel
theorem dL_piece_9 : decode bL_piece 9 = .ok (.ifnull 15, 3) := by decide +kernel
theorem dL_piece_12 : decode bL_piece 12 = .ok (.aload 4, 2) := by decide +kernel
theorem dL_piece_14 : decode bL_piece 14 = .ok (.getfield 59, 3) := by decide +kernel
theorem dL_piece_17 : decode bL_piece 17 = .ok (.iload_n 2, 1) := by decide +kernel
theorem dL_piece_18 : decode bL_piece 18 = .ok (.invokevirtual 133, 3) := by decide +kernel
theorem dL_piece_21 : decode bL_piece 21 = .ok (.ifCond .ne 5, 3) := by decide +kernel
theorem dL_piece_24 : decode bL_piece 24 = .ok (.iconst (-1), 1) := by decide +kernel
theorem dL_piece_25 : decode bL_piece 25 = .ok (.ireturn, 1) := by decide +kernel
theorem dL_piece_26 : decode bL_piece 26 = .ok (.iload_n 3, 1) := by decide +kernel
theorem dL_piece_27 : decode bL_piece 27 = .ok (.tableswitch 59 0 2 #[25, 36, 47], 25) := by decide +kernel
theorem dL_piece_52 : decode bL_piece 52 = .ok (.aload 4, 2) := by decide +kernel
theorem dL_piece_54 : decode bL_piece 54 = .ok (.getfield 59, 3) := by decide +kernel
theorem dL_piece_57 : decode bL_piece 57 = .ok (.getfield 136, 3) := by decide +kernel
theorem dL_piece_60 : decode bL_piece 60 = .ok (.iload_n 2, 1) := by decide +kernel
theorem dL_piece_61 : decode bL_piece 61 = .ok (.iaload, 1) := by decide +kernel
theorem dL_piece_62 : decode bL_piece 62 = .ok (.ireturn, 1) := by decide +kernel
theorem dL_piece_63 : decode bL_piece 63 = .ok (.aload 4, 2) := by decide +kernel
theorem dL_piece_65 : decode bL_piece 65 = .ok (.getfield 59, 3) := by decide +kernel
theorem dL_piece_68 : decode bL_piece 68 = .ok (.getfield 139, 3) := by decide +kernel
theorem dL_piece_71 : decode bL_piece 71 = .ok (.iload_n 2, 1) := by decide +kernel
theorem dL_piece_72 : decode bL_piece 72 = .ok (.iaload, 1) := by decide +kernel
theorem dL_piece_73 : decode bL_piece 73 = .ok (.ireturn, 1) := by decide +kernel
theorem dL_piece_74 : decode bL_piece 74 = .ok (.aload 4, 2) := by decide +kernel
theorem dL_piece_76 : decode bL_piece 76 = .ok (.getfield 59, 3) := by decide +kernel
theorem dL_piece_79 : decode bL_piece 79 = .ok (.iload_n 2, 1) := by decide +kernel
theorem dL_piece_80 : decode bL_piece 80 = .ok (.iconst 1, 1) := by decide +kernel
theorem dL_piece_81 : decode bL_piece 81 = .ok (.iadd, 1) := by decide +kernel
theorem dL_piece_82 : decode bL_piece 82 = .ok (.invokevirtual 142, 3) := by decide +kernel
theorem dL_piece_85 : decode bL_piece 85 = .ok (.ireturn, 1) := by decide +kernel
theorem dL_piece_86 : decode bL_piece 86 = .ok (.iconst (-1), 1) := by decide +kernel
theorem dL_piece_87 : decode bL_piece 87 = .ok (.ireturn, 1) := by decide +kernel
theorem dL_presses_0 : decode bL_presses 0 = .ok (.aload_n 0, 1) := by decide +kernel
theorem dL_presses_1 : decode bL_presses 1 = .ok (.iload_n 1, 1) := by decide +kernel
theorem dL_presses_2 : decode bL_presses 2 = .ok (.invokevirtual 114, 3) := by decide +kernel
theorem dL_presses_5 : decode bL_presses 5 = .ok (.astore_n 3, 1) := by decide +kernel
theorem dL_presses_6 : decode bL_presses 6 = .ok (.aload_n 3, 1) := by decide +kernel
theorem dL_presses_7 : decode bL_presses 7 = .ok (.ifnull 14, 3) := by decide +kernel
theorem dL_presses_10 : decode bL_presses 10 = .ok (.aload_n 3, 1) := by decide +kernel
theorem dL_presses_11 : decode bL_presses 11 = .ok (.getfield 59, 3) := by decide +kernel
theorem dL_presses_14 : decode bL_presses 14 = .ok (.iload_n 2, 1) := by decide +kernel
theorem dL_presses_15 : decode bL_presses 15 = .ok (.invokevirtual 145, 3) := by decide +kernel
theorem dL_presses_18 : decode bL_presses 18 = .ok (.ifCond .ne 6, 3) := by decide +kernel
theorem dL_presses_21 : decode bL_presses 21 = .ok (.ldc 148, 2) := by decide +kernel
theorem dL_presses_23 : decode bL_presses 23 = .ok (.ireturn, 1) := by decide +kernel
theorem dL_presses_24 : decode bL_presses 24 = .ok (.aload_n 3, 1) := by decide +kernel
theorem dL_presses_25 : decode bL_presses 25 = .ok (.getfield 121, 3) := by decide +kernel
theorem dL_presses_28 : decode bL_presses 28 = .ok (.iload_n 2, 1) := by decide +kernel
theorem dL_presses_29 : decode bL_presses 29 = .ok (.laload, 1) := by decide +kernel
theorem dL_presses_30 : decode bL_presses 30 = .ok (.aload_n 3, 1) := by decide +kernel
end
section
theorem dL_presses_31 : decode bL_presses 31 = .ok (.getfield 59, 3) := by decide +kernel
theorem dL_presses_34 : decode bL_presses 34 = .ok (.iload_n 2, 1) := by decide +kernel
theorem dL_presses_35 : decode bL_presses 35 = .ok (.invokevirtual 149, 3) := by decide +kernel
theorem dL_presses_38 : decode bL_presses 38 = .ok (.i2l, 1) := by decide +kernel
theorem dL_presses_39 : decode bL_presses 39 = .ok (.lmul, 1) := by decide +kernel
theorem dL_presses_40 : decode bL_presses 40 = .ok (.ldc2_w 102, 3) := by decide +kernel
theorem dL_presses_43 : decode bL_presses 43 = .ok (.ldiv, 1) := by decide +kernel
theorem dL_presses_44 : decode bL_presses 44 = .ok (.l2i, 1) := by decide +kernel
theorem dL_presses_45 : decode bL_presses 45 = .ok (.ireturn, 1) := by decide +kernel
theorem dL_clash_0 : decode bL_clash 0 = .ok (.aload_n 0, 1) := by decide +kernel
theorem dL_clash_1 : decode bL_clash 1 = .ok (.iload_n 1, 1) := by decide +kernel
theorem dL_clash_2 : decode bL_clash 2 = .ok (.invokevirtual 52, 3) := by decide +kernel
theorem dL_clash_5 : decode bL_clash 5 = .ok (.astore 4, 2) := by decide +kernel
theorem dL_clash_7 : decode bL_clash 7 = .ok (.aload_n 0, 1) := by decide +kernel
theorem dL_clash_8 : decode bL_clash 8 = .ok (.iload_n 2, 1) := by decide +kernel
theorem dL_clash_9 : decode bL_clash 9 = .ok (.invokevirtual 52, 3) := by decide +kernel
theorem dL_clash_12 : decode bL_clash 12 = .ok (.astore 5, 2) := by decide +kernel
theorem dL_clash_14 : decode bL_clash 14 = .ok (.aload 4, 2) := by decide +kernel
theorem dL_clash_16 : decode bL_clash 16 = .ok (.ifnull 24, 3) := by decide +kernel
theorem dL_clash_19 : decode bL_clash 19 = .ok (.aload 5, 2) := by decide +kernel
theorem dL_clash_21 : decode bL_clash 21 = .ok (.ifnull 19, 3) := by decide +kernel
theorem dL_clash_24 : decode bL_clash 24 = .ok (.iload_n 1, 1) := by decide +kernel
theorem dL_clash_25 : decode bL_clash 25 = .ok (.iload_n 2, 1) := by decide +kernel
theorem dL_clash_26 : decode bL_clash 26 = .ok (.if_icmp .eq 14, 3) := by decide +kernel
theorem dL_clash_29 : decode bL_clash 29 = .ok (.iload_n 3, 1) := by decide +kernel
theorem dL_clash_30 : decode bL_clash 30 = .ok (.iconst 0, 1) := by decide +kernel
theorem dL_clash_31 : decode bL_clash 31 = .ok (.sipush 1000, 3) := by decide +kernel
theorem dL_clash_34 : decode bL_clash 34 = .ok (.invokestatic 45, 3) := by decide +kernel
theorem dL_clash_37 : decode bL_clash 37 = .ok (.ifCond .ne 5, 3) := by decide +kernel
theorem dL_clash_40 : decode bL_clash 40 = .ok (.iconst 0, 1) := by decide +kernel
theorem dL_clash_41 : decode bL_clash 41 = .ok (.ireturn, 1) := by decide +kernel
theorem dL_clash_42 : decode bL_clash 42 = .ok (.aload 4, 2) := by decide +kernel
theorem dL_clash_44 : decode bL_clash 44 = .ok (.getfield 59, 3) := by decide +kernel
theorem dL_clash_47 : decode bL_clash 47 = .ok (.aload 5, 2) := by decide +kernel
theorem dL_clash_49 : decode bL_clash 49 = .ok (.getfield 59, 3) := by decide +kernel
theorem dL_clash_52 : decode bL_clash 52 = .ok (.iload_n 3, 1) := by decide +kernel
theorem dL_clash_53 : decode bL_clash 53 = .ok (.invokestatic 152, 3) := by decide +kernel
theorem dL_clash_56 : decode bL_clash 56 = .ok (.ireturn, 1) := by decide +kernel
theorem dL_locked_0 : decode bL_locked 0 = .ok (.iload_n 1, 1) := by decide +kernel
theorem dL_locked_1 : decode bL_locked 1 = .ok (.iconst 0, 1) := by decide +kernel
theorem dL_locked_2 : decode bL_locked 2 = .ok (.aload_n 0, 1) := by decide +kernel
theorem dL_locked_3 : decode bL_locked 3 = .ok (.getfield 30, 3) := by decide +kernel
theorem dL_locked_6 : decode bL_locked 6 = .ok (.iconst 1, 1) := by decide +kernel
theorem dL_locked_7 : decode bL_locked 7 = .ok (.isub, 1) := by decide +kernel
theorem dL_locked_8 : decode bL_locked 8 = .ok (.invokestatic 45, 3) := by decide +kernel
theorem dL_locked_11 : decode bL_locked 11 = .ok (.ifCond .eq 12, 3) := by decide +kernel
theorem dL_locked_14 : decode bL_locked 14 = .ok (.aload_n 0, 1) := by decide +kernel
theorem dL_locked_15 : decode bL_locked 15 = .ok (.getfield 15, 3) := by decide +kernel
theorem dL_locked_18 : decode bL_locked 18 = .ok (.iload_n 1, 1) := by decide +kernel
theorem dL_locked_19 : decode bL_locked 19 = .ok (.iaload, 1) := by decide +kernel
theorem dL_locked_20 : decode bL_locked 20 = .ok (.goto 4, 3) := by decide +kernel
theorem dL_locked_23 : decode bL_locked 23 = .ok (.iconst (-1), 1) := by decide +kernel
theorem dL_locked_24 : decode bL_locked 24 = .ok (.ireturn, 1) := by decide +kernel
theorem dL_wanted_0 : decode bL_wanted 0 = .ok (.aload_n 0, 1) := by decide +kernel
theorem dL_wanted_1 : decode bL_wanted 1 = .ok (.iload_n 1, 1) := by decide +kernel
theorem dL_wanted_2 : decode bL_wanted 2 = .ok (.invokevirtual 52, 3) := by decide +kernel
theorem dL_wanted_5 : decode bL_wanted 5 = .ok (.astore 5, 2) := by decide +kernel
theorem dL_wanted_7 : decode bL_wanted 7 = .ok (.aload 5, 2) := by decide +kernel
theorem dL_wanted_9 : decode bL_wanted 9 = .ok (.ifnull 33, 3) := by decide +kernel
theorem dL_wanted_12 : decode bL_wanted 12 = .ok (.aload 5, 2) := by decide +kernel
theorem dL_wanted_14 : decode bL_wanted 14 = .ok (.getfield 59, 3) := by decide +kernel
theorem dL_wanted_17 : decode bL_wanted 17 = .ok (.invokevirtual 82, 3) := by decide +kernel
theorem dL_wanted_20 : decode bL_wanted 20 = .ok (.ifCond .eq 22, 3) := by decide +kernel
theorem dL_wanted_23 : decode bL_wanted 23 = .ok (.iload_n 2, 1) := by decide +kernel
theorem dL_wanted_24 : decode bL_wanted 24 = .ok (.iconst 1, 1) := by decide +kernel
theorem dL_wanted_25 : decode bL_wanted 25 = .ok (.iconst 3, 1) := by decide +kernel
theorem dL_wanted_26 : decode bL_wanted 26 = .ok (.invokestatic 45, 3) := by decide +kernel
theorem dL_wanted_29 : decode bL_wanted 29 = .ok (.ifCond .eq 13, 3) := by decide +kernel
theorem dL_wanted_32 : decode bL_wanted 32 = .ok (.iload_n 3, 1) := by decide +kernel
theorem dL_wanted_33 : decode bL_wanted 33 = .ok (.iconst 1, 1) := by decide +kernel
theorem dL_wanted_34 : decode bL_wanted 34 = .ok (.ldc 156, 2) := by decide +kernel
theorem dL_wanted_36 : decode bL_wanted 36 = .ok (.invokestatic 45, 3) := by decide +kernel
theorem dL_wanted_39 : decode bL_wanted 39 = .ok (.ifCond .ne 5, 3) := by decide +kernel
theorem dL_wanted_42 : decode bL_wanted 42 = .ok (.iconst (-1), 1) := by decide +kernel
theorem dL_wanted_43 : decode bL_wanted 43 = .ok (.ireturn, 1) := by decide +kernel
theorem dL_wanted_44 : decode bL_wanted 44 = .ok (.iconst 0, 1) := by decide +kernel
theorem dL_wanted_45 : decode bL_wanted 45 = .ok (.istore 6, 2) := by decide +kernel
theorem dL_wanted_47 : decode bL_wanted 47 = .ok (.iload 6, 2) := by decide +kernel
theorem dL_wanted_49 : decode bL_wanted 49 = .ok (.bipush 50, 2) := by decide +kernel
theorem dL_wanted_51 : decode bL_wanted 51 = .ok (.if_icmp .gt 37, 3) := by decide +kernel
theorem dL_wanted_54 : decode bL_wanted 54 = .ok (.iload 6, 2) := by decide +kernel
theorem dL_wanted_56 : decode bL_wanted 56 = .ok (.iload_n 3, 1) := by decide +kernel
theorem dL_wanted_57 : decode bL_wanted 57 = .ok (.imul, 1) := by decide +kernel
theorem dL_wanted_58 : decode bL_wanted 58 = .ok (.istore 7, 2) := by decide +kernel
theorem dL_wanted_60 : decode bL_wanted 60 = .ok (.aload 5, 2) := by decide +kernel
theorem dL_wanted_62 : decode bL_wanted 62 = .ok (.iload_n 2, 1) := by decide +kernel
theorem dL_wanted_63 : decode bL_wanted 63 = .ok (.iload 7, 2) := by decide +kernel
theorem dL_wanted_65 : decode bL_wanted 65 = .ok (.aload_n 0, 1) := by decide +kernel
theorem dL_wanted_66 : decode bL_wanted 66 = .ok (.getfield 22, 3) := by decide +kernel
theorem dL_wanted_69 : decode bL_wanted 69 = .ok (.invokevirtual 157, 3) := by decide +kernel
theorem dL_wanted_72 : decode bL_wanted 72 = .ok (.iload 4, 2) := by decide +kernel
theorem dL_wanted_74 : decode bL_wanted 74 = .ok (.i2l, 1) := by decide +kernel
theorem dL_wanted_75 : decode bL_wanted 75 = .ok (.lcmp, 1) := by decide +kernel
theorem dL_wanted_76 : decode bL_wanted 76 = .ok (.ifCond .lt 6, 3) := by decide +kernel
theorem dL_wanted_79 : decode bL_wanted 79 = .ok (.iload 7, 2) := by decide +kernel
theorem dL_wanted_81 : decode bL_wanted 81 = .ok (.ireturn, 1) := by decide +kernel
theorem dL_wanted_82 : decode bL_wanted 82 = .ok (.iinc 6 1, 3) := by decide +kernel
theorem dL_wanted_85 : decode bL_wanted 85 = .ok (.goto (-38), 3) := by decide +kernel
theorem dL_wanted_88 : decode bL_wanted 88 = .ok (.iconst (-1), 1) := by decide +kernel
theorem dL_wanted_89 : decode bL_wanted 89 = .ok (.ireturn, 1) := by decide +kernel
theorem dL_count_0 : decode bL_count 0 = .ok (.iload_n 1, 1) := by decide +kernel
theorem dL_count_1 : decode bL_count 1 = .ok (.tableswitch 60 0 4 #[35, 40, 45, 50, 55], 35) := by decide +kernel
theorem dL_count_36 : decode bL_count 36 = .ok (.aload_n 0, 1) := by decide +kernel
theorem dL_count_37 : decode bL_count 37 = .ok (.getfield 26, 3) := by decide +kernel
theorem dL_count_40 : decode bL_count 40 = .ok (.ireturn, 1) := by decide +kernel
theorem dL_count_41 : decode bL_count 41 = .ok (.aload_n 0, 1) := by decide +kernel
theorem dL_count_42 : decode bL_count 42 = .ok (.getfield 30, 3) := by decide +kernel
theorem dL_count_45 : decode bL_count 45 = .ok (.ireturn, 1) := by decide +kernel
theorem dL_count_46 : decode bL_count 46 = .ok (.aload_n 0, 1) := by decide +kernel
theorem dL_count_47 : decode bL_count 47 = .ok (.invokevirtual 161, 3) := by decide +kernel
theorem dL_count_50 : decode bL_count 50 = .ok (.ireturn, 1) := by decide +kernel
theorem dL_count_51 : decode bL_count 51 = .ok (.aload_n 0, 1) := by decide +kernel
theorem dL_count_52 : decode bL_count 52 = .ok (.getfield 33, 3) := by decide +kernel
theorem dL_count_55 : decode bL_count 55 = .ok (.ireturn, 1) := by decide +kernel
theorem dL_count_56 : decode bL_count 56 = .ok (.aload_n 0, 1) := by decide +kernel
theorem dL_count_57 : decode bL_count 57 = .ok (.invokevirtual 165, 3) := by decide +kernel
theorem dL_count_60 : decode bL_count 60 = .ok (.ireturn, 1) := by decide +kernel
theorem dL_count_61 : decode bL_count 61 = .ok (.iconst (-1), 1) := by decide +kernel
theorem dL_count_62 : decode bL_count 62 = .ok (.ireturn, 1) := by decide +kernel
theorem dL_isWithin_0 : decode bL_isWithin 0 = .ok (.iload_n 0, 1) := by decide +kernel
theorem dL_isWithin_1 : decode bL_isWithin 1 = .ok (.iload_n 1, 1) := by decide +kernel
theorem dL_isWithin_2 : decode bL_isWithin 2 = .ok (.if_icmp .lt 12, 3) := by decide +kernel
theorem dL_isWithin_5 : decode bL_isWithin 5 = .ok (.iload_n 0, 1) := by decide +kernel
theorem dL_isWithin_6 : decode bL_isWithin 6 = .ok (.iload_n 2, 1) := by decide +kernel
theorem dL_isWithin_7 : decode bL_isWithin 7 = .ok (.if_icmp .gt 7, 3) := by decide +kernel
theorem dL_isWithin_10 : decode bL_isWithin 10 = .ok (.iconst 1, 1) := by decide +kernel
theorem dL_isWithin_11 : decode bL_isWithin 11 = .ok (.goto 4, 3) := by decide +kernel
theorem dL_isWithin_14 : decode bL_isWithin 14 = .ok (.iconst 0, 1) := by decide +kernel
theorem dL_isWithin_15 : decode bL_isWithin 15 = .ok (.ireturn, 1) := by decide +kernel
theorem dL_find_0 : decode bL_find 0 = .ok (.iload_n 1, 1) := by decide +kernel
theorem dL_find_1 : decode bL_find 1 = .ok (.iconst 0, 1) := by decide +kernel
theorem dL_find_2 : decode bL_find 2 = .ok (.aload_n 0, 1) := by decide +kernel
theorem dL_find_3 : decode bL_find 3 = .ok (.getfield 26, 3) := by decide +kernel
theorem dL_find_6 : decode bL_find 6 = .ok (.iconst 1, 1) := by decide +kernel
theorem dL_find_7 : decode bL_find 7 = .ok (.isub, 1) := by decide +kernel
theorem dL_find_8 : decode bL_find 8 = .ok (.invokestatic 45, 3) := by decide +kernel
theorem dL_find_11 : decode bL_find 11 = .ok (.ifCond .eq 12, 3) := by decide +kernel
theorem dL_find_14 : decode bL_find 14 = .ok (.aload_n 0, 1) := by decide +kernel
theorem dL_find_15 : decode bL_find 15 = .ok (.getfield 11, 3) := by decide +kernel
theorem dL_find_18 : decode bL_find 18 = .ok (.iload_n 1, 1) := by decide +kernel
theorem dL_find_19 : decode bL_find 19 = .ok (.aaload, 1) := by decide +kernel
theorem dL_find_20 : decode bL_find 20 = .ok (.goto 4, 3) := by decide +kernel
theorem dL_find_23 : decode bL_find 23 = .ok (.aconst_null, 1) := by decide +kernel
theorem dL_find_24 : decode bL_find 24 = .ok (.areturn, 1) := by decide +kernel
theorem dL_findStrained_0 : decode bL_findStrained 0 = .ok (.aload_n 0, 1) := by decide +kernel
theorem dL_findStrained_1 : decode bL_findStrained 1 = .ok (.iload_n 1, 1) := by decide +kernel
theorem dL_findStrained_2 : decode bL_findStrained 2 = .ok (.invokevirtual 52, 3) := by decide +kernel
theorem dL_findStrained_5 : decode bL_findStrained 5 = .ok (.astore_n 2, 1) := by decide +kernel
theorem dL_findStrained_6 : decode bL_findStrained 6 = .ok (.aload_n 2, 1) := by decide +kernel
theorem dL_findStrained_7 : decode bL_findStrained 7 = .ok (.ifnull 10, 3) := by decide +kernel
theorem dL_findStrained_10 : decode bL_findStrained 10 = .ok (.aload_n 2, 1) := by decide +kernel
theorem dL_findStrained_11 : decode bL_findStrained 11 = .ok (.getfield 56, 3) := by decide +kernel
theorem dL_findStrained_14 : decode bL_findStrained 14 = .ok (.ifCond .ne 7, 3) := by decide +kernel
theorem dL_findStrained_17 : decode bL_findStrained 17 = .ok (.aconst_null, 1) := by decide +kernel
theorem dL_findStrained_18 : decode bL_findStrained 18 = .ok (.goto 4, 3) := by decide +kernel
theorem dL_findStrained_21 : decode bL_findStrained 21 = .ok (.aload_n 2, 1) := by decide +kernel
theorem dL_findStrained_22 : decode bL_findStrained 22 = .ok (.areturn, 1) := by decide +kernel
theorem dL_weakenLockedOnes_0 : decode bL_weakenLockedOnes 0 = .ok (.iconst 0, 1) := by decide +kernel
theorem dL_weakenLockedOnes_1 : decode bL_weakenLockedOnes 1 = .ok (.istore_n 3, 1) := by decide +kernel
theorem dL_weakenLockedOnes_2 : decode bL_weakenLockedOnes 2 = .ok (.iload_n 3, 1) := by decide +kernel
theorem dL_weakenLockedOnes_3 : decode bL_weakenLockedOnes 3 = .ok (.aload_n 0, 1) := by decide +kernel
theorem dL_weakenLockedOnes_4 : decode bL_weakenLockedOnes 4 = .ok (.getfield 30, 3) := by decide +kernel
theorem dL_weakenLockedOnes_7 : decode bL_weakenLockedOnes 7 = .ok (.if_icmp .ge 32, 3) := by decide +kernel
theorem dL_weakenLockedOnes_10 : decode bL_weakenLockedOnes 10 = .ok (.aload_n 0, 1) := by decide +kernel
theorem dL_weakenLockedOnes_11 : decode bL_weakenLockedOnes 11 = .ok (.aload_n 0, 1) := by decide +kernel
theorem dL_weakenLockedOnes_12 : decode bL_weakenLockedOnes 12 = .ok (.getfield 15, 3) := by decide +kernel
theorem dL_weakenLockedOnes_15 : decode bL_weakenLockedOnes 15 = .ok (.iload_n 3, 1) := by decide +kernel
theorem dL_weakenLockedOnes_16 : decode bL_weakenLockedOnes 16 = .ok (.iaload, 1) := by decide +kernel
theorem dL_weakenLockedOnes_17 : decode bL_weakenLockedOnes 17 = .ok (.invokevirtual 52, 3) := by decide +kernel
theorem dL_weakenLockedOnes_20 : decode bL_weakenLockedOnes 20 = .ok (.astore 4, 2) := by decide +kernel
theorem dL_weakenLockedOnes_22 : decode bL_weakenLockedOnes 22 = .ok (.aload 4, 2) := by decide +kernel
theorem dL_weakenLockedOnes_24 : decode bL_weakenLockedOnes 24 = .ok (.ifnull 9, 3) := by decide +kernel
theorem dL_weakenLockedOnes_27 : decode bL_weakenLockedOnes 27 = .ok (.aload 4, 2) := by decide +kernel
theorem dL_weakenLockedOnes_29 : decode bL_weakenLockedOnes 29 = .ok (.lload_n 1, 1) := by decide +kernel
theorem dL_weakenLockedOnes_30 : decode bL_weakenLockedOnes 30 = .ok (.invokevirtual 168, 3) := by decide +kernel
theorem dL_weakenLockedOnes_33 : decode bL_weakenLockedOnes 33 = .ok (.iinc 3 1, 3) := by decide +kernel
theorem dL_weakenLockedOnes_36 : decode bL_weakenLockedOnes 36 = .ok (.goto (-34), 3) := by decide +kernel
theorem dL_weakenLockedOnes_39 : decode bL_weakenLockedOnes 39 = .ok (.return_, 1) := by decide +kernel
theorem dL_forgetLocked_0 : decode bL_forgetLocked 0 = .ok (.iconst 0, 1) := by decide +kernel
theorem dL_forgetLocked_1 : decode bL_forgetLocked 1 = .ok (.istore_n 2, 1) := by decide +kernel
theorem dL_forgetLocked_2 : decode bL_forgetLocked 2 = .ok (.iconst 0, 1) := by decide +kernel
theorem dL_forgetLocked_3 : decode bL_forgetLocked 3 = .ok (.istore_n 3, 1) := by decide +kernel
theorem dL_forgetLocked_4 : decode bL_forgetLocked 4 = .ok (.iload_n 3, 1) := by decide +kernel
theorem dL_forgetLocked_5 : decode bL_forgetLocked 5 = .ok (.aload_n 0, 1) := by decide +kernel
theorem dL_forgetLocked_6 : decode bL_forgetLocked 6 = .ok (.getfield 30, 3) := by decide +kernel
theorem dL_forgetLocked_9 : decode bL_forgetLocked 9 = .ok (.if_icmp .ge 34, 3) := by decide +kernel
theorem dL_forgetLocked_12 : decode bL_forgetLocked 12 = .ok (.aload_n 0, 1) := by decide +kernel
theorem dL_forgetLocked_13 : decode bL_forgetLocked 13 = .ok (.getfield 15, 3) := by decide +kernel
theorem dL_forgetLocked_16 : decode bL_forgetLocked 16 = .ok (.iload_n 3, 1) := by decide +kernel
theorem dL_forgetLocked_17 : decode bL_forgetLocked 17 = .ok (.iaload, 1) := by decide +kernel
theorem dL_forgetLocked_18 : decode bL_forgetLocked 18 = .ok (.iload_n 1, 1) := by decide +kernel
theorem dL_forgetLocked_19 : decode bL_forgetLocked 19 = .ok (.if_icmp .eq 18, 3) := by decide +kernel
theorem dL_forgetLocked_22 : decode bL_forgetLocked 22 = .ok (.aload_n 0, 1) := by decide +kernel
theorem dL_forgetLocked_23 : decode bL_forgetLocked 23 = .ok (.getfield 15, 3) := by decide +kernel
theorem dL_forgetLocked_26 : decode bL_forgetLocked 26 = .ok (.iload_n 2, 1) := by decide +kernel
theorem dL_forgetLocked_27 : decode bL_forgetLocked 27 = .ok (.aload_n 0, 1) := by decide +kernel
theorem dL_forgetLocked_28 : decode bL_forgetLocked 28 = .ok (.getfield 15, 3) := by decide +kernel
theorem dL_forgetLocked_31 : decode bL_forgetLocked 31 = .ok (.iload_n 3, 1) := by decide +kernel
theorem dL_forgetLocked_32 : decode bL_forgetLocked 32 = .ok (.iaload, 1) := by decide +kernel
theorem dL_forgetLocked_33 : decode bL_forgetLocked 33 = .ok (.iastore, 1) := by decide +kernel
theorem dL_forgetLocked_34 : decode bL_forgetLocked 34 = .ok (.iinc 2 1, 3) := by decide +kernel
theorem dL_forgetLocked_37 : decode bL_forgetLocked 37 = .ok (.iinc 3 1, 3) := by decide +kernel
theorem dL_forgetLocked_40 : decode bL_forgetLocked 40 = .ok (.goto (-36), 3) := by decide +kernel
theorem dL_forgetLocked_43 : decode bL_forgetLocked 43 = .ok (.aload_n 0, 1) := by decide +kernel
theorem dL_forgetLocked_44 : decode bL_forgetLocked 44 = .ok (.iload_n 2, 1) := by decide +kernel
theorem dL_forgetLocked_45 : decode bL_forgetLocked 45 = .ok (.putfield 30, 3) := by decide +kernel
theorem dL_forgetLocked_48 : decode bL_forgetLocked 48 = .ok (.return_, 1) := by decide +kernel
theorem dL_countPulled_0 : decode bL_countPulled 0 = .ok (.iconst 0, 1) := by decide +kernel
theorem dL_countPulled_1 : decode bL_countPulled 1 = .ok (.istore_n 1, 1) := by decide +kernel
theorem dL_countPulled_2 : decode bL_countPulled 2 = .ok (.iconst 0, 1) := by decide +kernel
theorem dL_countPulled_3 : decode bL_countPulled 3 = .ok (.istore_n 2, 1) := by decide +kernel
theorem dL_countPulled_4 : decode bL_countPulled 4 = .ok (.iload_n 2, 1) := by decide +kernel
theorem dL_countPulled_5 : decode bL_countPulled 5 = .ok (.aload_n 0, 1) := by decide +kernel
theorem dL_countPulled_6 : decode bL_countPulled 6 = .ok (.getfield 26, 3) := by decide +kernel
theorem dL_countPulled_9 : decode bL_countPulled 9 = .ok (.if_icmp .ge 30, 3) := by decide +kernel
theorem dL_countPulled_12 : decode bL_countPulled 12 = .ok (.aload_n 0, 1) := by decide +kernel
theorem dL_countPulled_13 : decode bL_countPulled 13 = .ok (.iload_n 2, 1) := by decide +kernel
theorem dL_countPulled_14 : decode bL_countPulled 14 = .ok (.invokevirtual 52, 3) := by decide +kernel
theorem dL_countPulled_17 : decode bL_countPulled 17 = .ok (.astore_n 3, 1) := by decide +kernel
theorem dL_countPulled_18 : decode bL_countPulled 18 = .ok (.aload_n 3, 1) := by decide +kernel
theorem dL_countPulled_19 : decode bL_countPulled 19 = .ok (.ifnull 14, 3) := by decide +kernel
theorem dL_countPulled_22 : decode bL_countPulled 22 = .ok (.aload_n 3, 1) := by decide +kernel
theorem dL_countPulled_23 : decode bL_countPulled 23 = .ok (.getfield 56, 3) := by decide +kernel
theorem dL_countPulled_26 : decode bL_countPulled 26 = .ok (.iconst 1, 1) := by decide +kernel
theorem dL_countPulled_27 : decode bL_countPulled 27 = .ok (.if_icmp .ne 6, 3) := by decide +kernel
theorem dL_countPulled_30 : decode bL_countPulled 30 = .ok (.iinc 1 1, 3) := by decide +kernel
theorem dL_countPulled_33 : decode bL_countPulled 33 = .ok (.iinc 2 1, 3) := by decide +kernel
theorem dL_countPulled_36 : decode bL_countPulled 36 = .ok (.goto (-32), 3) := by decide +kernel
theorem dL_countPulled_39 : decode bL_countPulled 39 = .ok (.iload_n 1, 1) := by decide +kernel
theorem dL_countPulled_40 : decode bL_countPulled 40 = .ok (.ireturn, 1) := by decide +kernel
theorem dL_countPoints_0 : decode bL_countPoints 0 = .ok (.iconst 0, 1) := by decide +kernel
theorem dL_countPoints_1 : decode bL_countPoints 1 = .ok (.istore_n 1, 1) := by decide +kernel
theorem dL_countPoints_2 : decode bL_countPoints 2 = .ok (.iconst 0, 1) := by decide +kernel
theorem dL_countPoints_3 : decode bL_countPoints 3 = .ok (.istore_n 2, 1) := by decide +kernel
theorem dL_countPoints_4 : decode bL_countPoints 4 = .ok (.iload_n 2, 1) := by decide +kernel
theorem dL_countPoints_5 : decode bL_countPoints 5 = .ok (.aload_n 0, 1) := by decide +kernel
theorem dL_countPoints_6 : decode bL_countPoints 6 = .ok (.getfield 26, 3) := by decide +kernel
theorem dL_countPoints_9 : decode bL_countPoints 9 = .ok (.if_icmp .ge 29, 3) := by decide +kernel
theorem dL_countPoints_12 : decode bL_countPoints 12 = .ok (.aload_n 0, 1) := by decide +kernel
theorem dL_countPoints_13 : decode bL_countPoints 13 = .ok (.iload_n 2, 1) := by decide +kernel
theorem dL_countPoints_14 : decode bL_countPoints 14 = .ok (.invokevirtual 52, 3) := by decide +kernel
theorem dL_countPoints_17 : decode bL_countPoints 17 = .ok (.astore_n 3, 1) := by decide +kernel
theorem dL_countPoints_18 : decode bL_countPoints 18 = .ok (.aload_n 3, 1) := by decide +kernel
theorem dL_countPoints_19 : decode bL_countPoints 19 = .ok (.ifnull 13, 3) := by decide +kernel
theorem dL_countPoints_22 : decode bL_countPoints 22 = .ok (.iload_n 1, 1) := by decide +kernel
theorem dL_countPoints_23 : decode bL_countPoints 23 = .ok (.aload_n 3, 1) := by decide +kernel
theorem dL_countPoints_24 : decode bL_countPoints 24 = .ok (.getfield 59, 3) := by decide +kernel
theorem dL_countPoints_27 : decode bL_countPoints 27 = .ok (.getfield 73, 3) := by decide +kernel
theorem dL_countPoints_30 : decode bL_countPoints 30 = .ok (.iadd, 1) := by decide +kernel
theorem dL_countPoints_31 : decode bL_countPoints 31 = .ok (.istore_n 1, 1) := by decide +kernel
theorem dL_countPoints_32 : decode bL_countPoints 32 = .ok (.iinc 2 1, 3) := by decide +kernel
theorem dL_countPoints_35 : decode bL_countPoints 35 = .ok (.goto (-31), 3) := by decide +kernel
theorem dL_countPoints_38 : decode bL_countPoints 38 = .ok (.iload_n 1, 1) := by decide +kernel
theorem dL_countPoints_39 : decode bL_countPoints 39 = .ok (.ireturn, 1) := by decide +kernel
theorem dL_quotient_0 : decode bL_quotient 0 = .ok (.lload_n 2, 1) := by decide +kernel
theorem dL_quotient_1 : decode bL_quotient 1 = .ok (.lconst 0, 1) := by decide +kernel
theorem dL_quotient_2 : decode bL_quotient 2 = .ok (.lcmp, 1) := by decide +kernel
theorem dL_quotient_3 : decode bL_quotient 3 = .ok (.ifCond .ne 7, 3) := by decide +kernel
theorem dL_quotient_6 : decode bL_quotient 6 = .ok (.lconst 0, 1) := by decide +kernel
theorem dL_quotient_7 : decode bL_quotient 7 = .ok (.goto 6, 3) := by decide +kernel
theorem dL_quotient_10 : decode bL_quotient 10 = .ok (.lload_n 0, 1) := by decide +kernel
theorem dL_quotient_11 : decode bL_quotient 11 = .ok (.lload_n 2, 1) := by decide +kernel
theorem dL_quotient_12 : decode bL_quotient 12 = .ok (.ldiv, 1) := by decide +kernel
theorem dL_quotient_13 : decode bL_quotient 13 = .ok (.lreturn, 1) := by decide +kernel
end
section
theorem dM_init_0 : decode bM_init 0 = .ok (.aload_n 0, 1) := by decide +kernel
theorem dM_init_1 : decode bM_init 1 = .ok (.invokespecial 1, 3) := by decide +kernel
theorem dM_init_4 : decode bM_init 4 = .ok (.aload_n 0, 1) := by decide +kernel
theorem dM_init_5 : decode bM_init 5 = .ok (.bipush 6, 2) := by decide +kernel
theorem dM_init_7 : decode bM_init 7 = .ok (.newarray .int, 2) := by decide +kernel
theorem dM_init_9 : decode bM_init 9 = .ok (.putfield 7, 3) := by decide +kernel
theorem dM_init_12 : decode bM_init 12 = .ok (.aload_n 0, 1) := by decide +kernel
theorem dM_init_13 : decode bM_init 13 = .ok (.bipush 6, 2) := by decide +kernel
theorem dM_init_15 : decode bM_init 15 = .ok (.newarray .int, 2) := by decide +kernel
theorem dM_init_17 : decode bM_init 17 = .ok (.putfield 13, 3) := by decide +kernel
theorem dM_init_20 : decode bM_init 20 = .ok (.aload_n 0, 1) := by decide +kernel
theorem dM_init_21 : decode bM_init 21 = .ok (.bipush 6, 2) := by decide +kernel
theorem dM_init_23 : decode bM_init 23 = .ok (.newarray .int, 2) := by decide +kernel
theorem dM_init_25 : decode bM_init 25 = .ok (.putfield 16, 3) := by decide +kernel
theorem dM_init_28 : decode bM_init 28 = .ok (.aload_n 0, 1) := by decide +kernel
theorem dM_init_29 : decode bM_init 29 = .ok (.bipush 6, 2) := by decide +kernel
theorem dM_init_31 : decode bM_init 31 = .ok (.newarray .int, 2) := by decide +kernel
theorem dM_init_33 : decode bM_init 33 = .ok (.putfield 19, 3) := by decide +kernel
theorem dM_init_36 : decode bM_init 36 = .ok (.aload_n 0, 1) := by decide +kernel
theorem dM_init_37 : decode bM_init 37 = .ok (.bipush 6, 2) := by decide +kernel
theorem dM_init_39 : decode bM_init 39 = .ok (.newarray .int, 2) := by decide +kernel
theorem dM_init_41 : decode bM_init 41 = .ok (.putfield 22, 3) := by decide +kernel
theorem dM_init_44 : decode bM_init 44 = .ok (.aload_n 0, 1) := by decide +kernel
theorem dM_init_45 : decode bM_init 45 = .ok (.bipush 60, 2) := by decide +kernel
theorem dM_init_47 : decode bM_init 47 = .ok (.newarray .int, 2) := by decide +kernel
theorem dM_init_49 : decode bM_init 49 = .ok (.putfield 25, 3) := by decide +kernel
theorem dM_init_52 : decode bM_init 52 = .ok (.aload_n 0, 1) := by decide +kernel
theorem dM_init_53 : decode bM_init 53 = .ok (.bipush 60, 2) := by decide +kernel
theorem dM_init_55 : decode bM_init 55 = .ok (.newarray .int, 2) := by decide +kernel
theorem dM_init_57 : decode bM_init 57 = .ok (.putfield 28, 3) := by decide +kernel
theorem dM_init_60 : decode bM_init 60 = .ok (.aload_n 0, 1) := by decide +kernel
theorem dM_init_61 : decode bM_init 61 = .ok (.bipush 60, 2) := by decide +kernel
theorem dM_init_63 : decode bM_init 63 = .ok (.newarray .long, 2) := by decide +kernel
theorem dM_init_65 : decode bM_init 65 = .ok (.putfield 31, 3) := by decide +kernel
theorem dM_init_68 : decode bM_init 68 = .ok (.aload_n 0, 1) := by decide +kernel
theorem dM_init_69 : decode bM_init 69 = .ok (.bipush 6, 2) := by decide +kernel
theorem dM_init_71 : decode bM_init 71 = .ok (.newarray .int, 2) := by decide +kernel
theorem dM_init_73 : decode bM_init 73 = .ok (.putfield 35, 3) := by decide +kernel
theorem dM_init_76 : decode bM_init 76 = .ok (.aload_n 0, 1) := by decide +kernel
theorem dM_init_77 : decode bM_init 77 = .ok (.iconst 5, 1) := by decide +kernel
theorem dM_init_78 : decode bM_init 78 = .ok (.putfield 38, 3) := by decide +kernel
theorem dM_init_81 : decode bM_init 81 = .ok (.aload_n 0, 1) := by decide +kernel
theorem dM_init_82 : decode bM_init 82 = .ok (.sipush 200, 3) := by decide +kernel
theorem dM_init_85 : decode bM_init 85 = .ok (.putfield 42, 3) := by decide +kernel
theorem dM_init_88 : decode bM_init 88 = .ok (.aload_n 0, 1) := by decide +kernel
theorem dM_init_89 : decode bM_init 89 = .ok (.bipush 10, 2) := by decide +kernel
theorem dM_init_91 : decode bM_init 91 = .ok (.putfield 45, 3) := by decide +kernel
theorem dM_init_94 : decode bM_init 94 = .ok (.aload_n 0, 1) := by decide +kernel
theorem dM_init_95 : decode bM_init 95 = .ok (.iconst 3, 1) := by decide +kernel
theorem dM_init_96 : decode bM_init 96 = .ok (.putfield 48, 3) := by decide +kernel
theorem dM_init_99 : decode bM_init 99 = .ok (.aload_n 0, 1) := by decide +kernel
theorem dM_init_100 : decode bM_init 100 = .ok (.bipush 10, 2) := by decide +kernel
theorem dM_init_102 : decode bM_init 102 = .ok (.newarray .long, 2) := by decide +kernel
theorem dM_init_104 : decode bM_init 104 = .ok (.putfield 51, 3) := by decide +kernel
theorem dM_init_107 : decode bM_init 107 = .ok (.aload_n 0, 1) := by decide +kernel
theorem dM_init_108 : decode bM_init 108 = .ok (.bipush 10, 2) := by decide +kernel
theorem dM_init_110 : decode bM_init 110 = .ok (.newarray .long, 2) := by decide +kernel
theorem dM_init_112 : decode bM_init 112 = .ok (.putfield 54, 3) := by decide +kernel
theorem dM_init_115 : decode bM_init 115 = .ok (.aload_n 0, 1) := by decide +kernel
theorem dM_init_116 : decode bM_init 116 = .ok (.iconst 0, 1) := by decide +kernel
theorem dM_init_117 : decode bM_init 117 = .ok (.putfield 57, 3) := by decide +kernel
theorem dM_init_120 : decode bM_init 120 = .ok (.return_, 1) := by decide +kernel
theorem dM_in_0 : decode bM_in 0 = .ok (.iload_n 0, 1) := by decide +kernel
theorem dM_in_1 : decode bM_in 1 = .ok (.iload_n 1, 1) := by decide +kernel
theorem dM_in_2 : decode bM_in 2 = .ok (.if_icmp .lt 12, 3) := by decide +kernel
theorem dM_in_5 : decode bM_in 5 = .ok (.iload_n 0, 1) := by decide +kernel
theorem dM_in_6 : decode bM_in 6 = .ok (.iload_n 2, 1) := by decide +kernel
theorem dM_in_7 : decode bM_in 7 = .ok (.if_icmp .gt 7, 3) := by decide +kernel
theorem dM_in_10 : decode bM_in 10 = .ok (.iconst 1, 1) := by decide +kernel
theorem dM_in_11 : decode bM_in 11 = .ok (.goto 4, 3) := by decide +kernel
theorem dM_in_14 : decode bM_in 14 = .ok (.iconst 0, 1) := by decide +kernel
theorem dM_in_15 : decode bM_in 15 = .ok (.ireturn, 1) := by decide +kernel
theorem dM_isTendon_0 : decode bM_isTendon 0 = .ok (.iload_n 1, 1) := by decide +kernel
theorem dM_isTendon_1 : decode bM_isTendon 1 = .ok (.iconst 0, 1) := by decide +kernel
theorem dM_isTendon_2 : decode bM_isTendon 2 = .ok (.aload_n 0, 1) := by decide +kernel
theorem dM_isTendon_3 : decode bM_isTendon 3 = .ok (.getfield 57, 3) := by decide +kernel
theorem dM_isTendon_6 : decode bM_isTendon 6 = .ok (.iconst 1, 1) := by decide +kernel
theorem dM_isTendon_7 : decode bM_isTendon 7 = .ok (.isub, 1) := by decide +kernel
theorem dM_isTendon_8 : decode bM_isTendon 8 = .ok (.invokestatic 63, 3) := by decide +kernel
theorem dM_isTendon_11 : decode bM_isTendon 11 = .ok (.ireturn, 1) := by decide +kernel
theorem dM_hasForces_0 : decode bM_hasForces 0 = .ok (.aload_n 0, 1) := by decide +kernel
theorem dM_hasForces_1 : decode bM_hasForces 1 = .ok (.iload_n 1, 1) := by decide +kernel
theorem dM_hasForces_2 : decode bM_hasForces 2 = .ok (.invokevirtual 67, 3) := by decide +kernel
theorem dM_hasForces_5 : decode bM_hasForces 5 = .ok (.ifCond .eq 16, 3) := by decide +kernel
theorem dM_hasForces_8 : decode bM_hasForces 8 = .ok (.aload_n 0, 1) := by decide +kernel
theorem dM_hasForces_9 : decode bM_hasForces 9 = .ok (.getfield 16, 3) := by decide +kernel
theorem dM_hasForces_12 : decode bM_hasForces 12 = .ok (.iload_n 1, 1) := by decide +kernel
theorem dM_hasForces_13 : decode bM_hasForces 13 = .ok (.iaload, 1) := by decide +kernel
theorem dM_hasForces_14 : decode bM_hasForces 14 = .ok (.ifCond .le 7, 3) := by decide +kernel
theorem dM_hasForces_17 : decode bM_hasForces 17 = .ok (.iconst 1, 1) := by decide +kernel
theorem dM_hasForces_18 : decode bM_hasForces 18 = .ok (.goto 4, 3) := by decide +kernel
theorem dM_hasForces_21 : decode bM_hasForces 21 = .ok (.iconst 0, 1) := by decide +kernel
theorem dM_hasForces_22 : decode bM_hasForces 22 = .ok (.ireturn, 1) := by decide +kernel
theorem dM_tendon_0 : decode bM_tendon 0 = .ok (.iload_n 1, 1) := by decide +kernel
theorem dM_tendon_1 : decode bM_tendon 1 = .ok (.bipush 50, 2) := by decide +kernel
theorem dM_tendon_3 : decode bM_tendon 3 = .ok (.sipush 10000, 3) := by decide +kernel
theorem dM_tendon_6 : decode bM_tendon 6 = .ok (.invokestatic 63, 3) := by decide +kernel
theorem dM_tendon_9 : decode bM_tendon 9 = .ok (.ifCond .eq 12, 3) := by decide +kernel
theorem dM_tendon_12 : decode bM_tendon 12 = .ok (.aload_n 0, 1) := by decide +kernel
theorem dM_tendon_13 : decode bM_tendon 13 = .ok (.getfield 57, 3) := by decide +kernel
theorem dM_tendon_16 : decode bM_tendon 16 = .ok (.bipush 6, 2) := by decide +kernel
theorem dM_tendon_18 : decode bM_tendon 18 = .ok (.if_icmp .ne 5, 3) := by decide +kernel
theorem dM_tendon_21 : decode bM_tendon 21 = .ok (.iconst (-1), 1) := by decide +kernel
theorem dM_tendon_22 : decode bM_tendon 22 = .ok (.ireturn, 1) := by decide +kernel
theorem dM_tendon_23 : decode bM_tendon 23 = .ok (.aload_n 0, 1) := by decide +kernel
theorem dM_tendon_24 : decode bM_tendon 24 = .ok (.getfield 7, 3) := by decide +kernel
theorem dM_tendon_27 : decode bM_tendon 27 = .ok (.aload_n 0, 1) := by decide +kernel
theorem dM_tendon_28 : decode bM_tendon 28 = .ok (.getfield 57, 3) := by decide +kernel
theorem dM_tendon_31 : decode bM_tendon 31 = .ok (.iload_n 1, 1) := by decide +kernel
theorem dM_tendon_32 : decode bM_tendon 32 = .ok (.iastore, 1) := by decide +kernel
theorem dM_tendon_33 : decode bM_tendon 33 = .ok (.aload_n 0, 1) := by decide +kernel
theorem dM_tendon_34 : decode bM_tendon 34 = .ok (.dup, 1) := by decide +kernel
theorem dM_tendon_35 : decode bM_tendon 35 = .ok (.getfield 57, 3) := by decide +kernel
theorem dM_tendon_38 : decode bM_tendon 38 = .ok (.iconst 1, 1) := by decide +kernel
theorem dM_tendon_39 : decode bM_tendon 39 = .ok (.iadd, 1) := by decide +kernel
theorem dM_tendon_40 : decode bM_tendon 40 = .ok (.putfield 57, 3) := by decide +kernel
theorem dM_tendon_43 : decode bM_tendon 43 = .ok (.aload_n 0, 1) := by decide +kernel
theorem dM_tendon_44 : decode bM_tendon 44 = .ok (.getfield 57, 3) := by decide +kernel
theorem dM_tendon_47 : decode bM_tendon 47 = .ok (.iconst 1, 1) := by decide +kernel
theorem dM_tendon_48 : decode bM_tendon 48 = .ok (.isub, 1) := by decide +kernel
theorem dM_tendon_49 : decode bM_tendon 49 = .ok (.ireturn, 1) := by decide +kernel
theorem dM_point_0 : decode bM_point 0 = .ok (.aload_n 0, 1) := by decide +kernel
theorem dM_point_1 : decode bM_point 1 = .ok (.iload_n 1, 1) := by decide +kernel
theorem dM_point_2 : decode bM_point 2 = .ok (.invokevirtual 67, 3) := by decide +kernel
theorem dM_point_5 : decode bM_point 5 = .ok (.ifCond .eq 23, 3) := by decide +kernel
theorem dM_point_8 : decode bM_point 8 = .ok (.aload_n 0, 1) := by decide +kernel
theorem dM_point_9 : decode bM_point 9 = .ok (.getfield 16, 3) := by decide +kernel
theorem dM_point_12 : decode bM_point 12 = .ok (.iload_n 1, 1) := by decide +kernel
theorem dM_point_13 : decode bM_point 13 = .ok (.iaload, 1) := by decide +kernel
theorem dM_point_14 : decode bM_point 14 = .ok (.ifCond .gt 14, 3) := by decide +kernel
theorem dM_point_17 : decode bM_point 17 = .ok (.aload_n 0, 1) := by decide +kernel
theorem dM_point_18 : decode bM_point 18 = .ok (.getfield 13, 3) := by decide +kernel
theorem dM_point_21 : decode bM_point 21 = .ok (.iload_n 1, 1) := by decide +kernel
theorem dM_point_22 : decode bM_point 22 = .ok (.iaload, 1) := by decide +kernel
theorem dM_point_23 : decode bM_point 23 = .ok (.bipush 10, 2) := by decide +kernel
theorem dM_point_25 : decode bM_point 25 = .ok (.if_icmp .ne 5, 3) := by decide +kernel
theorem dM_point_28 : decode bM_point 28 = .ok (.iconst (-1), 1) := by decide +kernel
theorem dM_point_29 : decode bM_point 29 = .ok (.ireturn, 1) := by decide +kernel
theorem dM_point_30 : decode bM_point 30 = .ok (.aload_n 0, 1) := by decide +kernel
theorem dM_point_31 : decode bM_point 31 = .ok (.getfield 13, 3) := by decide +kernel
theorem dM_point_34 : decode bM_point 34 = .ok (.iload_n 1, 1) := by decide +kernel
theorem dM_point_35 : decode bM_point 35 = .ok (.iaload, 1) := by decide +kernel
theorem dM_point_36 : decode bM_point 36 = .ok (.istore 4, 2) := by decide +kernel
theorem dM_point_38 : decode bM_point 38 = .ok (.iload_n 2, 1) := by decide +kernel
theorem dM_point_39 : decode bM_point 39 = .ok (.iconst 0, 1) := by decide +kernel
theorem dM_point_40 : decode bM_point 40 = .ok (.ldc 71, 2) := by decide +kernel
theorem dM_point_42 : decode bM_point 42 = .ok (.invokestatic 63, 3) := by decide +kernel
theorem dM_point_45 : decode bM_point 45 = .ok (.ifCond .eq 42, 3) := by decide +kernel
theorem dM_point_48 : decode bM_point 48 = .ok (.iload_n 3, 1) := by decide +kernel
theorem dM_point_49 : decode bM_point 49 = .ok (.sipush (-3000), 3) := by decide +kernel
theorem dM_point_52 : decode bM_point 52 = .ok (.sipush 3000, 3) := by decide +kernel
theorem dM_point_55 : decode bM_point 55 = .ok (.invokestatic 63, 3) := by decide +kernel
theorem dM_point_58 : decode bM_point 58 = .ok (.ifCond .eq 29, 3) := by decide +kernel
theorem dM_point_61 : decode bM_point 61 = .ok (.iload 4, 2) := by decide +kernel
theorem dM_point_63 : decode bM_point 63 = .ok (.ifCond .le 26, 3) := by decide +kernel
theorem dM_point_66 : decode bM_point 66 = .ok (.iload_n 2, 1) := by decide +kernel
theorem dM_point_67 : decode bM_point 67 = .ok (.aload_n 0, 1) := by decide +kernel
theorem dM_point_68 : decode bM_point 68 = .ok (.getfield 25, 3) := by decide +kernel
theorem dM_point_71 : decode bM_point 71 = .ok (.bipush 10, 2) := by decide +kernel
theorem dM_point_73 : decode bM_point 73 = .ok (.iload_n 1, 1) := by decide +kernel
theorem dM_point_74 : decode bM_point 74 = .ok (.imul, 1) := by decide +kernel
theorem dM_point_75 : decode bM_point 75 = .ok (.iload 4, 2) := by decide +kernel
theorem dM_point_77 : decode bM_point 77 = .ok (.iadd, 1) := by decide +kernel
theorem dM_point_78 : decode bM_point 78 = .ok (.iconst 1, 1) := by decide +kernel
theorem dM_point_79 : decode bM_point 79 = .ok (.isub, 1) := by decide +kernel
theorem dM_point_80 : decode bM_point 80 = .ok (.iaload, 1) := by decide +kernel
theorem dM_point_81 : decode bM_point 81 = .ok (.isub, 1) := by decide +kernel
theorem dM_point_82 : decode bM_point 82 = .ok (.bipush 100, 2) := by decide +kernel
theorem dM_point_84 : decode bM_point 84 = .ok (.if_icmp .ge 5, 3) := by decide +kernel
theorem dM_point_87 : decode bM_point 87 = .ok (.iconst (-1), 1) := by decide +kernel
theorem dM_point_88 : decode bM_point 88 = .ok (.ireturn, 1) := by decide +kernel
theorem dM_point_89 : decode bM_point 89 = .ok (.aload_n 0, 1) := by decide +kernel
theorem dM_point_90 : decode bM_point 90 = .ok (.getfield 25, 3) := by decide +kernel
theorem dM_point_93 : decode bM_point 93 = .ok (.bipush 10, 2) := by decide +kernel
theorem dM_point_95 : decode bM_point 95 = .ok (.iload_n 1, 1) := by decide +kernel
theorem dM_point_96 : decode bM_point 96 = .ok (.imul, 1) := by decide +kernel
theorem dM_point_97 : decode bM_point 97 = .ok (.iload 4, 2) := by decide +kernel
theorem dM_point_99 : decode bM_point 99 = .ok (.iadd, 1) := by decide +kernel
theorem dM_point_100 : decode bM_point 100 = .ok (.iload_n 2, 1) := by decide +kernel
theorem dM_point_101 : decode bM_point 101 = .ok (.iastore, 1) := by decide +kernel
theorem dM_point_102 : decode bM_point 102 = .ok (.aload_n 0, 1) := by decide +kernel
theorem dM_point_103 : decode bM_point 103 = .ok (.getfield 28, 3) := by decide +kernel
theorem dM_point_106 : decode bM_point 106 = .ok (.bipush 10, 2) := by decide +kernel
theorem dM_point_108 : decode bM_point 108 = .ok (.iload_n 1, 1) := by decide +kernel
theorem dM_point_109 : decode bM_point 109 = .ok (.imul, 1) := by decide +kernel
theorem dM_point_110 : decode bM_point 110 = .ok (.iload 4, 2) := by decide +kernel
theorem dM_point_112 : decode bM_point 112 = .ok (.iadd, 1) := by decide +kernel
theorem dM_point_113 : decode bM_point 113 = .ok (.iload_n 3, 1) := by decide +kernel
theorem dM_point_114 : decode bM_point 114 = .ok (.iastore, 1) := by decide +kernel
theorem dM_point_115 : decode bM_point 115 = .ok (.aload_n 0, 1) := by decide +kernel
theorem dM_point_116 : decode bM_point 116 = .ok (.getfield 13, 3) := by decide +kernel
theorem dM_point_119 : decode bM_point 119 = .ok (.iload_n 1, 1) := by decide +kernel
theorem dM_point_120 : decode bM_point 120 = .ok (.dup2, 1) := by decide +kernel
theorem dM_point_121 : decode bM_point 121 = .ok (.iaload, 1) := by decide +kernel
theorem dM_point_122 : decode bM_point 122 = .ok (.iconst 1, 1) := by decide +kernel
theorem dM_point_123 : decode bM_point 123 = .ok (.iadd, 1) := by decide +kernel
theorem dM_point_124 : decode bM_point 124 = .ok (.iastore, 1) := by decide +kernel
theorem dM_point_125 : decode bM_point 125 = .ok (.aload_n 0, 1) := by decide +kernel
theorem dM_point_126 : decode bM_point 126 = .ok (.getfield 13, 3) := by decide +kernel
theorem dM_point_129 : decode bM_point 129 = .ok (.iload_n 1, 1) := by decide +kernel
theorem dM_point_130 : decode bM_point 130 = .ok (.iaload, 1) := by decide +kernel
theorem dM_point_131 : decode bM_point 131 = .ok (.ireturn, 1) := by decide +kernel
theorem dM_friction_0 : decode bM_friction 0 = .ok (.iload_n 1, 1) := by decide +kernel
theorem dM_friction_1 : decode bM_friction 1 = .ok (.iconst 0, 1) := by decide +kernel
theorem dM_friction_2 : decode bM_friction 2 = .ok (.sipush 1000, 3) := by decide +kernel
theorem dM_friction_5 : decode bM_friction 5 = .ok (.invokestatic 63, 3) := by decide +kernel
theorem dM_friction_8 : decode bM_friction 8 = .ok (.ifCond .eq 14, 3) := by decide +kernel
theorem dM_friction_11 : decode bM_friction 11 = .ok (.iload_n 2, 1) := by decide +kernel
theorem dM_friction_12 : decode bM_friction 12 = .ok (.iconst 0, 1) := by decide +kernel
theorem dM_friction_13 : decode bM_friction 13 = .ok (.sipush 500, 3) := by decide +kernel
theorem dM_friction_16 : decode bM_friction 16 = .ok (.invokestatic 63, 3) := by decide +kernel
theorem dM_friction_19 : decode bM_friction 19 = .ok (.ifCond .ne 5, 3) := by decide +kernel
theorem dM_friction_22 : decode bM_friction 22 = .ok (.iconst 0, 1) := by decide +kernel
theorem dM_friction_23 : decode bM_friction 23 = .ok (.ireturn, 1) := by decide +kernel
theorem dM_friction_24 : decode bM_friction 24 = .ok (.aload_n 0, 1) := by decide +kernel
theorem dM_friction_25 : decode bM_friction 25 = .ok (.iload_n 1, 1) := by decide +kernel
theorem dM_friction_26 : decode bM_friction 26 = .ok (.putfield 38, 3) := by decide +kernel
theorem dM_friction_29 : decode bM_friction 29 = .ok (.aload_n 0, 1) := by decide +kernel
theorem dM_friction_30 : decode bM_friction 30 = .ok (.iload_n 2, 1) := by decide +kernel
theorem dM_friction_31 : decode bM_friction 31 = .ok (.putfield 42, 3) := by decide +kernel
theorem dM_friction_34 : decode bM_friction 34 = .ok (.iconst 1, 1) := by decide +kernel
theorem dM_friction_35 : decode bM_friction 35 = .ok (.ireturn, 1) := by decide +kernel
theorem dM_losses_0 : decode bM_losses 0 = .ok (.iload_n 1, 1) := by decide +kernel
theorem dM_losses_1 : decode bM_losses 1 = .ok (.iconst 0, 1) := by decide +kernel
theorem dM_losses_2 : decode bM_losses 2 = .ok (.sipush 20000, 3) := by decide +kernel
theorem dM_losses_5 : decode bM_losses 5 = .ok (.invokestatic 63, 3) := by decide +kernel
theorem dM_losses_8 : decode bM_losses 8 = .ok (.ifCond .eq 24, 3) := by decide +kernel
theorem dM_losses_11 : decode bM_losses 11 = .ok (.iload_n 2, 1) := by decide +kernel
theorem dM_losses_12 : decode bM_losses 12 = .ok (.iconst 0, 1) := by decide +kernel
theorem dM_losses_13 : decode bM_losses 13 = .ok (.bipush 100, 2) := by decide +kernel
theorem dM_losses_15 : decode bM_losses 15 = .ok (.invokestatic 63, 3) := by decide +kernel
theorem dM_losses_18 : decode bM_losses 18 = .ok (.ifCond .eq 14, 3) := by decide +kernel
theorem dM_losses_21 : decode bM_losses 21 = .ok (.iload_n 3, 1) := by decide +kernel
theorem dM_losses_22 : decode bM_losses 22 = .ok (.iconst 0, 1) := by decide +kernel
theorem dM_losses_23 : decode bM_losses 23 = .ok (.sipush 1000, 3) := by decide +kernel
theorem dM_losses_26 : decode bM_losses 26 = .ok (.invokestatic 63, 3) := by decide +kernel
theorem dM_losses_29 : decode bM_losses 29 = .ok (.ifCond .ne 5, 3) := by decide +kernel
theorem dM_losses_32 : decode bM_losses 32 = .ok (.iconst 0, 1) := by decide +kernel
theorem dM_losses_33 : decode bM_losses 33 = .ok (.ireturn, 1) := by decide +kernel
theorem dM_losses_34 : decode bM_losses 34 = .ok (.aload_n 0, 1) := by decide +kernel
theorem dM_losses_35 : decode bM_losses 35 = .ok (.iload_n 1, 1) := by decide +kernel
theorem dM_losses_36 : decode bM_losses 36 = .ok (.putfield 72, 3) := by decide +kernel
theorem dM_losses_39 : decode bM_losses 39 = .ok (.aload_n 0, 1) := by decide +kernel
theorem dM_losses_40 : decode bM_losses 40 = .ok (.iload_n 2, 1) := by decide +kernel
theorem dM_losses_41 : decode bM_losses 41 = .ok (.putfield 45, 3) := by decide +kernel
theorem dM_losses_44 : decode bM_losses 44 = .ok (.aload_n 0, 1) := by decide +kernel
theorem dM_losses_45 : decode bM_losses 45 = .ok (.iload_n 3, 1) := by decide +kernel
theorem dM_losses_46 : decode bM_losses 46 = .ok (.putfield 48, 3) := by decide +kernel
theorem dM_losses_49 : decode bM_losses 49 = .ok (.iconst 1, 1) := by decide +kernel
theorem dM_losses_50 : decode bM_losses 50 = .ok (.ireturn, 1) := by decide +kernel
theorem dM_root_0 : decode bM_root 0 = .ok (.lconst 0, 1) := by decide +kernel
theorem dM_root_1 : decode bM_root 1 = .ok (.lstore_n 2, 1) := by decide +kernel
theorem dM_root_2 : decode bM_root 2 = .ok (.ldc2_w 75, 3) := by decide +kernel
theorem dM_root_5 : decode bM_root 5 = .ok (.lstore 4, 2) := by decide +kernel
theorem dM_root_7 : decode bM_root 7 = .ok (.lload_n 2, 1) := by decide +kernel
theorem dM_root_8 : decode bM_root 8 = .ok (.lload 4, 2) := by decide +kernel
theorem dM_root_10 : decode bM_root 10 = .ok (.lcmp, 1) := by decide +kernel
theorem dM_root_11 : decode bM_root 11 = .ok (.ifCond .ge 40, 3) := by decide +kernel
theorem dM_root_14 : decode bM_root 14 = .ok (.lload_n 2, 1) := by decide +kernel
theorem dM_root_15 : decode bM_root 15 = .ok (.lload 4, 2) := by decide +kernel
theorem dM_root_17 : decode bM_root 17 = .ok (.ladd, 1) := by decide +kernel
theorem dM_root_18 : decode bM_root 18 = .ok (.lconst 1, 1) := by decide +kernel
theorem dM_root_19 : decode bM_root 19 = .ok (.ladd, 1) := by decide +kernel
theorem dM_root_20 : decode bM_root 20 = .ok (.ldc2_w 77, 3) := by decide +kernel
theorem dM_root_23 : decode bM_root 23 = .ok (.ldiv, 1) := by decide +kernel
theorem dM_root_24 : decode bM_root 24 = .ok (.lstore 6, 2) := by decide +kernel
theorem dM_root_26 : decode bM_root 26 = .ok (.lload 6, 2) := by decide +kernel
theorem dM_root_28 : decode bM_root 28 = .ok (.lload 6, 2) := by decide +kernel
theorem dM_root_30 : decode bM_root 30 = .ok (.lmul, 1) := by decide +kernel
theorem dM_root_31 : decode bM_root 31 = .ok (.lload_n 0, 1) := by decide +kernel
theorem dM_root_32 : decode bM_root 32 = .ok (.lcmp, 1) := by decide +kernel
theorem dM_root_33 : decode bM_root 33 = .ok (.ifCond .gt 9, 3) := by decide +kernel
theorem dM_root_36 : decode bM_root 36 = .ok (.lload 6, 2) := by decide +kernel
theorem dM_root_38 : decode bM_root 38 = .ok (.lstore_n 2, 1) := by decide +kernel
theorem dM_root_39 : decode bM_root 39 = .ok (.goto 9, 3) := by decide +kernel
theorem dM_root_42 : decode bM_root 42 = .ok (.lload 6, 2) := by decide +kernel
theorem dM_root_44 : decode bM_root 44 = .ok (.lconst 1, 1) := by decide +kernel
theorem dM_root_45 : decode bM_root 45 = .ok (.lsub, 1) := by decide +kernel
theorem dM_root_46 : decode bM_root 46 = .ok (.lstore 4, 2) := by decide +kernel
theorem dM_root_48 : decode bM_root 48 = .ok (.goto (-41), 3) := by decide +kernel
theorem dM_root_51 : decode bM_root 51 = .ok (.lload_n 2, 1) := by decide +kernel
theorem dM_root_52 : decode bM_root 52 = .ok (.lreturn, 1) := by decide +kernel
theorem dM_lengthOf_0 : decode bM_lengthOf 0 = .ok (.aload_n 0, 1) := by decide +kernel
theorem dM_lengthOf_1 : decode bM_lengthOf 1 = .ok (.getfield 25, 3) := by decide +kernel
theorem dM_lengthOf_4 : decode bM_lengthOf 4 = .ok (.bipush 10, 2) := by decide +kernel
theorem dM_lengthOf_6 : decode bM_lengthOf 6 = .ok (.iload_n 1, 1) := by decide +kernel
theorem dM_lengthOf_7 : decode bM_lengthOf 7 = .ok (.imul, 1) := by decide +kernel
theorem dM_lengthOf_8 : decode bM_lengthOf 8 = .ok (.iload_n 2, 1) := by decide +kernel
theorem dM_lengthOf_9 : decode bM_lengthOf 9 = .ok (.iadd, 1) := by decide +kernel
theorem dM_lengthOf_10 : decode bM_lengthOf 10 = .ok (.iconst 1, 1) := by decide +kernel
theorem dM_lengthOf_11 : decode bM_lengthOf 11 = .ok (.iadd, 1) := by decide +kernel
theorem dM_lengthOf_12 : decode bM_lengthOf 12 = .ok (.iaload, 1) := by decide +kernel
theorem dM_lengthOf_13 : decode bM_lengthOf 13 = .ok (.aload_n 0, 1) := by decide +kernel
theorem dM_lengthOf_14 : decode bM_lengthOf 14 = .ok (.getfield 25, 3) := by decide +kernel
theorem dM_lengthOf_17 : decode bM_lengthOf 17 = .ok (.bipush 10, 2) := by decide +kernel
theorem dM_lengthOf_19 : decode bM_lengthOf 19 = .ok (.iload_n 1, 1) := by decide +kernel
theorem dM_lengthOf_20 : decode bM_lengthOf 20 = .ok (.imul, 1) := by decide +kernel
theorem dM_lengthOf_21 : decode bM_lengthOf 21 = .ok (.iload_n 2, 1) := by decide +kernel
theorem dM_lengthOf_22 : decode bM_lengthOf 22 = .ok (.iadd, 1) := by decide +kernel
theorem dM_lengthOf_23 : decode bM_lengthOf 23 = .ok (.iaload, 1) := by decide +kernel
theorem dM_lengthOf_24 : decode bM_lengthOf 24 = .ok (.isub, 1) := by decide +kernel
theorem dM_lengthOf_25 : decode bM_lengthOf 25 = .ok (.i2l, 1) := by decide +kernel
theorem dM_lengthOf_26 : decode bM_lengthOf 26 = .ok (.lstore_n 3, 1) := by decide +kernel
theorem dM_lengthOf_27 : decode bM_lengthOf 27 = .ok (.aload_n 0, 1) := by decide +kernel
theorem dM_lengthOf_28 : decode bM_lengthOf 28 = .ok (.getfield 28, 3) := by decide +kernel
theorem dM_lengthOf_31 : decode bM_lengthOf 31 = .ok (.bipush 10, 2) := by decide +kernel
theorem dM_lengthOf_33 : decode bM_lengthOf 33 = .ok (.iload_n 1, 1) := by decide +kernel
theorem dM_lengthOf_34 : decode bM_lengthOf 34 = .ok (.imul, 1) := by decide +kernel
theorem dM_lengthOf_35 : decode bM_lengthOf 35 = .ok (.iload_n 2, 1) := by decide +kernel
theorem dM_lengthOf_36 : decode bM_lengthOf 36 = .ok (.iadd, 1) := by decide +kernel
theorem dM_lengthOf_37 : decode bM_lengthOf 37 = .ok (.iconst 1, 1) := by decide +kernel
theorem dM_lengthOf_38 : decode bM_lengthOf 38 = .ok (.iadd, 1) := by decide +kernel
theorem dM_lengthOf_39 : decode bM_lengthOf 39 = .ok (.iaload, 1) := by decide +kernel
theorem dM_lengthOf_40 : decode bM_lengthOf 40 = .ok (.aload_n 0, 1) := by decide +kernel
theorem dM_lengthOf_41 : decode bM_lengthOf 41 = .ok (.getfield 28, 3) := by decide +kernel
theorem dM_lengthOf_44 : decode bM_lengthOf 44 = .ok (.bipush 10, 2) := by decide +kernel
theorem dM_lengthOf_46 : decode bM_lengthOf 46 = .ok (.iload_n 1, 1) := by decide +kernel
theorem dM_lengthOf_47 : decode bM_lengthOf 47 = .ok (.imul, 1) := by decide +kernel
theorem dM_lengthOf_48 : decode bM_lengthOf 48 = .ok (.iload_n 2, 1) := by decide +kernel
theorem dM_lengthOf_49 : decode bM_lengthOf 49 = .ok (.iadd, 1) := by decide +kernel
theorem dM_lengthOf_50 : decode bM_lengthOf 50 = .ok (.iaload, 1) := by decide +kernel
theorem dM_lengthOf_51 : decode bM_lengthOf 51 = .ok (.isub, 1) := by decide +kernel
theorem dM_lengthOf_52 : decode bM_lengthOf 52 = .ok (.i2l, 1) := by decide +kernel
theorem dM_lengthOf_53 : decode bM_lengthOf 53 = .ok (.lstore 5, 2) := by decide +kernel
theorem dM_lengthOf_55 : decode bM_lengthOf 55 = .ok (.lload_n 3, 1) := by decide +kernel
theorem dM_lengthOf_56 : decode bM_lengthOf 56 = .ok (.lload_n 3, 1) := by decide +kernel
theorem dM_lengthOf_57 : decode bM_lengthOf 57 = .ok (.lmul, 1) := by decide +kernel
theorem dM_lengthOf_58 : decode bM_lengthOf 58 = .ok (.lload 5, 2) := by decide +kernel
theorem dM_lengthOf_60 : decode bM_lengthOf 60 = .ok (.lload 5, 2) := by decide +kernel
theorem dM_lengthOf_62 : decode bM_lengthOf 62 = .ok (.lmul, 1) := by decide +kernel
theorem dM_lengthOf_63 : decode bM_lengthOf 63 = .ok (.ladd, 1) := by decide +kernel
theorem dM_lengthOf_64 : decode bM_lengthOf 64 = .ok (.invokestatic 79, 3) := by decide +kernel
theorem dM_lengthOf_67 : decode bM_lengthOf 67 = .ok (.lreturn, 1) := by decide +kernel
theorem dM_slopeOf_0 : decode bM_slopeOf 0 = .ok (.aload_n 0, 1) := by decide +kernel
theorem dM_slopeOf_1 : decode bM_slopeOf 1 = .ok (.getfield 25, 3) := by decide +kernel
theorem dM_slopeOf_4 : decode bM_slopeOf 4 = .ok (.bipush 10, 2) := by decide +kernel
theorem dM_slopeOf_6 : decode bM_slopeOf 6 = .ok (.iload_n 1, 1) := by decide +kernel
theorem dM_slopeOf_7 : decode bM_slopeOf 7 = .ok (.imul, 1) := by decide +kernel
theorem dM_slopeOf_8 : decode bM_slopeOf 8 = .ok (.iload_n 2, 1) := by decide +kernel
theorem dM_slopeOf_9 : decode bM_slopeOf 9 = .ok (.iadd, 1) := by decide +kernel
theorem dM_slopeOf_10 : decode bM_slopeOf 10 = .ok (.iconst 1, 1) := by decide +kernel
theorem dM_slopeOf_11 : decode bM_slopeOf 11 = .ok (.iadd, 1) := by decide +kernel
theorem dM_slopeOf_12 : decode bM_slopeOf 12 = .ok (.iaload, 1) := by decide +kernel
theorem dM_slopeOf_13 : decode bM_slopeOf 13 = .ok (.aload_n 0, 1) := by decide +kernel
theorem dM_slopeOf_14 : decode bM_slopeOf 14 = .ok (.getfield 25, 3) := by decide +kernel
theorem dM_slopeOf_17 : decode bM_slopeOf 17 = .ok (.bipush 10, 2) := by decide +kernel
theorem dM_slopeOf_19 : decode bM_slopeOf 19 = .ok (.iload_n 1, 1) := by decide +kernel
theorem dM_slopeOf_20 : decode bM_slopeOf 20 = .ok (.imul, 1) := by decide +kernel
theorem dM_slopeOf_21 : decode bM_slopeOf 21 = .ok (.iload_n 2, 1) := by decide +kernel
theorem dM_slopeOf_22 : decode bM_slopeOf 22 = .ok (.iadd, 1) := by decide +kernel
theorem dM_slopeOf_23 : decode bM_slopeOf 23 = .ok (.iaload, 1) := by decide +kernel
theorem dM_slopeOf_24 : decode bM_slopeOf 24 = .ok (.isub, 1) := by decide +kernel
theorem dM_slopeOf_25 : decode bM_slopeOf 25 = .ok (.istore_n 3, 1) := by decide +kernel
theorem dM_slopeOf_26 : decode bM_slopeOf 26 = .ok (.aload_n 0, 1) := by decide +kernel
theorem dM_slopeOf_27 : decode bM_slopeOf 27 = .ok (.getfield 28, 3) := by decide +kernel
theorem dM_slopeOf_30 : decode bM_slopeOf 30 = .ok (.bipush 10, 2) := by decide +kernel
theorem dM_slopeOf_32 : decode bM_slopeOf 32 = .ok (.iload_n 1, 1) := by decide +kernel
theorem dM_slopeOf_33 : decode bM_slopeOf 33 = .ok (.imul, 1) := by decide +kernel
theorem dM_slopeOf_34 : decode bM_slopeOf 34 = .ok (.iload_n 2, 1) := by decide +kernel
theorem dM_slopeOf_35 : decode bM_slopeOf 35 = .ok (.iadd, 1) := by decide +kernel
theorem dM_slopeOf_36 : decode bM_slopeOf 36 = .ok (.iconst 1, 1) := by decide +kernel
theorem dM_slopeOf_37 : decode bM_slopeOf 37 = .ok (.iadd, 1) := by decide +kernel
theorem dM_slopeOf_38 : decode bM_slopeOf 38 = .ok (.iaload, 1) := by decide +kernel
theorem dM_slopeOf_39 : decode bM_slopeOf 39 = .ok (.aload_n 0, 1) := by decide +kernel
theorem dM_slopeOf_40 : decode bM_slopeOf 40 = .ok (.getfield 28, 3) := by decide +kernel
theorem dM_slopeOf_43 : decode bM_slopeOf 43 = .ok (.bipush 10, 2) := by decide +kernel
theorem dM_slopeOf_45 : decode bM_slopeOf 45 = .ok (.iload_n 1, 1) := by decide +kernel
theorem dM_slopeOf_46 : decode bM_slopeOf 46 = .ok (.imul, 1) := by decide +kernel
theorem dM_slopeOf_47 : decode bM_slopeOf 47 = .ok (.iload_n 2, 1) := by decide +kernel
theorem dM_slopeOf_48 : decode bM_slopeOf 48 = .ok (.iadd, 1) := by decide +kernel
theorem dM_slopeOf_49 : decode bM_slopeOf 49 = .ok (.iaload, 1) := by decide +kernel
theorem dM_slopeOf_50 : decode bM_slopeOf 50 = .ok (.isub, 1) := by decide +kernel
theorem dM_slopeOf_51 : decode bM_slopeOf 51 = .ok (.istore 4, 2) := by decide +kernel
theorem dM_slopeOf_53 : decode bM_slopeOf 53 = .ok (.sipush 1000, 3) := by decide +kernel
theorem dM_slopeOf_56 : decode bM_slopeOf 56 = .ok (.iload 4, 2) := by decide +kernel
theorem dM_slopeOf_58 : decode bM_slopeOf 58 = .ok (.imul, 1) := by decide +kernel
theorem dM_slopeOf_59 : decode bM_slopeOf 59 = .ok (.iload_n 3, 1) := by decide +kernel
theorem dM_slopeOf_60 : decode bM_slopeOf 60 = .ok (.idiv, 1) := by decide +kernel
theorem dM_slopeOf_61 : decode bM_slopeOf 61 = .ok (.ireturn, 1) := by decide +kernel
theorem dM_turnOf_0 : decode bM_turnOf 0 = .ok (.iload_n 2, 1) := by decide +kernel
theorem dM_turnOf_1 : decode bM_turnOf 1 = .ok (.ifCond .eq 15, 3) := by decide +kernel
theorem dM_turnOf_4 : decode bM_turnOf 4 = .ok (.iload_n 2, 1) := by decide +kernel
theorem dM_turnOf_5 : decode bM_turnOf 5 = .ok (.aload_n 0, 1) := by decide +kernel
theorem dM_turnOf_6 : decode bM_turnOf 6 = .ok (.getfield 13, 3) := by decide +kernel
theorem dM_turnOf_9 : decode bM_turnOf 9 = .ok (.iload_n 1, 1) := by decide +kernel
theorem dM_turnOf_10 : decode bM_turnOf 10 = .ok (.iaload, 1) := by decide +kernel
theorem dM_turnOf_11 : decode bM_turnOf 11 = .ok (.iconst 1, 1) := by decide +kernel
theorem dM_turnOf_12 : decode bM_turnOf 12 = .ok (.isub, 1) := by decide +kernel
theorem dM_turnOf_13 : decode bM_turnOf 13 = .ok (.if_icmp .ne 5, 3) := by decide +kernel
theorem dM_turnOf_16 : decode bM_turnOf 16 = .ok (.iconst 0, 1) := by decide +kernel
theorem dM_turnOf_17 : decode bM_turnOf 17 = .ok (.ireturn, 1) := by decide +kernel
theorem dM_turnOf_18 : decode bM_turnOf 18 = .ok (.aload_n 0, 1) := by decide +kernel
theorem dM_turnOf_19 : decode bM_turnOf 19 = .ok (.iload_n 1, 1) := by decide +kernel
theorem dM_turnOf_20 : decode bM_turnOf 20 = .ok (.iload_n 2, 1) := by decide +kernel
theorem dM_turnOf_21 : decode bM_turnOf 21 = .ok (.invokevirtual 83, 3) := by decide +kernel
theorem dM_turnOf_24 : decode bM_turnOf 24 = .ok (.aload_n 0, 1) := by decide +kernel
theorem dM_turnOf_25 : decode bM_turnOf 25 = .ok (.iload_n 1, 1) := by decide +kernel
theorem dM_turnOf_26 : decode bM_turnOf 26 = .ok (.iload_n 2, 1) := by decide +kernel
theorem dM_turnOf_27 : decode bM_turnOf 27 = .ok (.iconst 1, 1) := by decide +kernel
theorem dM_turnOf_28 : decode bM_turnOf 28 = .ok (.isub, 1) := by decide +kernel
end
section
theorem dM_turnOf_29 : decode bM_turnOf 29 = .ok (.invokevirtual 83, 3) := by decide +kernel
theorem dM_turnOf_32 : decode bM_turnOf 32 = .ok (.isub, 1) := by decide +kernel
theorem dM_turnOf_33 : decode bM_turnOf 33 = .ok (.istore_n 3, 1) := by decide +kernel
theorem dM_turnOf_34 : decode bM_turnOf 34 = .ok (.iload_n 3, 1) := by decide +kernel
theorem dM_turnOf_35 : decode bM_turnOf 35 = .ok (.ifCond .ge 8, 3) := by decide +kernel
theorem dM_turnOf_38 : decode bM_turnOf 38 = .ok (.iload_n 3, 1) := by decide +kernel
theorem dM_turnOf_39 : decode bM_turnOf 39 = .ok (.ineg, 1) := by decide +kernel
theorem dM_turnOf_40 : decode bM_turnOf 40 = .ok (.goto 4, 3) := by decide +kernel
theorem dM_turnOf_43 : decode bM_turnOf 43 = .ok (.iload_n 3, 1) := by decide +kernel
theorem dM_turnOf_44 : decode bM_turnOf 44 = .ok (.ireturn, 1) := by decide +kernel
theorem dM_byRough_0 : decode bM_byRough 0 = .ok (.lload_n 1, 1) := by decide +kernel
theorem dM_byRough_1 : decode bM_byRough 1 = .ok (.aload_n 0, 1) := by decide +kernel
theorem dM_byRough_2 : decode bM_byRough 2 = .ok (.getfield 38, 3) := by decide +kernel
theorem dM_byRough_5 : decode bM_byRough 5 = .ok (.i2l, 1) := by decide +kernel
theorem dM_byRough_6 : decode bM_byRough 6 = .ok (.lmul, 1) := by decide +kernel
theorem dM_byRough_7 : decode bM_byRough 7 = .ok (.lload_n 3, 1) := by decide +kernel
theorem dM_byRough_8 : decode bM_byRough 8 = .ok (.lmul, 1) := by decide +kernel
theorem dM_byRough_9 : decode bM_byRough 9 = .ok (.ldc2_w 87, 3) := by decide +kernel
theorem dM_byRough_12 : decode bM_byRough 12 = .ok (.ldiv, 1) := by decide +kernel
theorem dM_byRough_13 : decode bM_byRough 13 = .ok (.lreturn, 1) := by decide +kernel
theorem dM_byTurn_0 : decode bM_byTurn 0 = .ok (.lload_n 1, 1) := by decide +kernel
theorem dM_byTurn_1 : decode bM_byTurn 1 = .ok (.aload_n 0, 1) := by decide +kernel
theorem dM_byTurn_2 : decode bM_byTurn 2 = .ok (.getfield 42, 3) := by decide +kernel
theorem dM_byTurn_5 : decode bM_byTurn 5 = .ok (.i2l, 1) := by decide +kernel
theorem dM_byTurn_6 : decode bM_byTurn 6 = .ok (.lmul, 1) := by decide +kernel
theorem dM_byTurn_7 : decode bM_byTurn 7 = .ok (.iload_n 3, 1) := by decide +kernel
theorem dM_byTurn_8 : decode bM_byTurn 8 = .ok (.i2l, 1) := by decide +kernel
theorem dM_byTurn_9 : decode bM_byTurn 9 = .ok (.lmul, 1) := by decide +kernel
theorem dM_byTurn_10 : decode bM_byTurn 10 = .ok (.ldc2_w 89, 3) := by decide +kernel
theorem dM_byTurn_13 : decode bM_byTurn 13 = .ok (.ldiv, 1) := by decide +kernel
theorem dM_byTurn_14 : decode bM_byTurn 14 = .ok (.lreturn, 1) := by decide +kernel
theorem dM_draw_0 : decode bM_draw 0 = .ok (.aload_n 0, 1) := by decide +kernel
theorem dM_draw_1 : decode bM_draw 1 = .ok (.getfield 13, 3) := by decide +kernel
theorem dM_draw_4 : decode bM_draw 4 = .ok (.iload_n 1, 1) := by decide +kernel
theorem dM_draw_5 : decode bM_draw 5 = .ok (.iaload, 1) := by decide +kernel
theorem dM_draw_6 : decode bM_draw 6 = .ok (.istore 6, 2) := by decide +kernel
theorem dM_draw_8 : decode bM_draw 8 = .ok (.lload_n 3, 1) := by decide +kernel
theorem dM_draw_9 : decode bM_draw 9 = .ok (.lstore 7, 2) := by decide +kernel
theorem dM_draw_11 : decode bM_draw 11 = .ok (.iconst 0, 1) := by decide +kernel
theorem dM_draw_12 : decode bM_draw 12 = .ok (.istore 9, 2) := by decide +kernel
theorem dM_draw_14 : decode bM_draw 14 = .ok (.iload 9, 2) := by decide +kernel
theorem dM_draw_16 : decode bM_draw 16 = .ok (.iload 6, 2) := by decide +kernel
theorem dM_draw_18 : decode bM_draw 18 = .ok (.if_icmp .ge 102, 3) := by decide +kernel
theorem dM_draw_21 : decode bM_draw 21 = .ok (.iload_n 2, 1) := by decide +kernel
theorem dM_draw_22 : decode bM_draw 22 = .ok (.ifCond .eq 13, 3) := by decide +kernel
theorem dM_draw_25 : decode bM_draw 25 = .ok (.iload 6, 2) := by decide +kernel
theorem dM_draw_27 : decode bM_draw 27 = .ok (.iconst 1, 1) := by decide +kernel
theorem dM_draw_28 : decode bM_draw 28 = .ok (.isub, 1) := by decide +kernel
theorem dM_draw_29 : decode bM_draw 29 = .ok (.iload 9, 2) := by decide +kernel
theorem dM_draw_31 : decode bM_draw 31 = .ok (.isub, 1) := by decide +kernel
theorem dM_draw_32 : decode bM_draw 32 = .ok (.goto 5, 3) := by decide +kernel
theorem dM_draw_35 : decode bM_draw 35 = .ok (.iload 9, 2) := by decide +kernel
theorem dM_draw_37 : decode bM_draw 37 = .ok (.istore 10, 2) := by decide +kernel
theorem dM_draw_39 : decode bM_draw 39 = .ok (.iload 9, 2) := by decide +kernel
theorem dM_draw_41 : decode bM_draw 41 = .ok (.ifCond .le 66, 3) := by decide +kernel
theorem dM_draw_44 : decode bM_draw 44 = .ok (.lload 7, 2) := by decide +kernel
theorem dM_draw_46 : decode bM_draw 46 = .ok (.aload_n 0, 1) := by decide +kernel
theorem dM_draw_47 : decode bM_draw 47 = .ok (.lload 7, 2) := by decide +kernel
theorem dM_draw_49 : decode bM_draw 49 = .ok (.aload_n 0, 1) := by decide +kernel
theorem dM_draw_50 : decode bM_draw 50 = .ok (.iload_n 1, 1) := by decide +kernel
theorem dM_draw_51 : decode bM_draw 51 = .ok (.iload_n 2, 1) := by decide +kernel
theorem dM_draw_52 : decode bM_draw 52 = .ok (.ifCond .eq 8, 3) := by decide +kernel
theorem dM_draw_55 : decode bM_draw 55 = .ok (.iload 10, 2) := by decide +kernel
theorem dM_draw_57 : decode bM_draw 57 = .ok (.goto 7, 3) := by decide +kernel
theorem dM_draw_60 : decode bM_draw 60 = .ok (.iload 10, 2) := by decide +kernel
theorem dM_draw_62 : decode bM_draw 62 = .ok (.iconst 1, 1) := by decide +kernel
theorem dM_draw_63 : decode bM_draw 63 = .ok (.isub, 1) := by decide +kernel
theorem dM_draw_64 : decode bM_draw 64 = .ok (.invokevirtual 91, 3) := by decide +kernel
theorem dM_draw_67 : decode bM_draw 67 = .ok (.invokevirtual 95, 3) := by decide +kernel
theorem dM_draw_70 : decode bM_draw 70 = .ok (.lsub, 1) := by decide +kernel
theorem dM_draw_71 : decode bM_draw 71 = .ok (.lstore 7, 2) := by decide +kernel
theorem dM_draw_73 : decode bM_draw 73 = .ok (.aload_n 0, 1) := by decide +kernel
theorem dM_draw_74 : decode bM_draw 74 = .ok (.lload 7, 2) := by decide +kernel
theorem dM_draw_76 : decode bM_draw 76 = .ok (.aload_n 0, 1) := by decide +kernel
theorem dM_draw_77 : decode bM_draw 77 = .ok (.iload_n 1, 1) := by decide +kernel
theorem dM_draw_78 : decode bM_draw 78 = .ok (.iload 10, 2) := by decide +kernel
theorem dM_draw_80 : decode bM_draw 80 = .ok (.invokevirtual 99, 3) := by decide +kernel
theorem dM_draw_83 : decode bM_draw 83 = .ok (.invokevirtual 102, 3) := by decide +kernel
theorem dM_draw_86 : decode bM_draw 86 = .ok (.lstore 11, 2) := by decide +kernel
theorem dM_draw_88 : decode bM_draw 88 = .ok (.lload 11, 2) := by decide +kernel
theorem dM_draw_90 : decode bM_draw 90 = .ok (.lload 7, 2) := by decide +kernel
theorem dM_draw_92 : decode bM_draw 92 = .ok (.lcmp, 1) := by decide +kernel
theorem dM_draw_93 : decode bM_draw 93 = .ok (.ifCond .le 7, 3) := by decide +kernel
theorem dM_draw_96 : decode bM_draw 96 = .ok (.lconst 0, 1) := by decide +kernel
theorem dM_draw_97 : decode bM_draw 97 = .ok (.goto 8, 3) := by decide +kernel
theorem dM_draw_100 : decode bM_draw 100 = .ok (.lload 7, 2) := by decide +kernel
theorem dM_draw_102 : decode bM_draw 102 = .ok (.lload 11, 2) := by decide +kernel
theorem dM_draw_104 : decode bM_draw 104 = .ok (.lsub, 1) := by decide +kernel
theorem dM_draw_105 : decode bM_draw 105 = .ok (.lstore 7, 2) := by decide +kernel
theorem dM_draw_107 : decode bM_draw 107 = .ok (.aload 5, 2) := by decide +kernel
theorem dM_draw_109 : decode bM_draw 109 = .ok (.iload 10, 2) := by decide +kernel
theorem dM_draw_111 : decode bM_draw 111 = .ok (.lload 7, 2) := by decide +kernel
theorem dM_draw_113 : decode bM_draw 113 = .ok (.lastore, 1) := by decide +kernel
theorem dM_draw_114 : decode bM_draw 114 = .ok (.iinc 9 1, 3) := by decide +kernel
theorem dM_draw_117 : decode bM_draw 117 = .ok (.goto (-103), 3) := by decide +kernel
theorem dM_draw_120 : decode bM_draw 120 = .ok (.return_, 1) := by decide +kernel
theorem dM_drawAll_0 : decode bM_drawAll 0 = .ok (.aload_n 0, 1) := by decide +kernel
theorem dM_drawAll_1 : decode bM_drawAll 1 = .ok (.iload_n 1, 1) := by decide +kernel
theorem dM_drawAll_2 : decode bM_drawAll 2 = .ok (.iload_n 2, 1) := by decide +kernel
theorem dM_drawAll_3 : decode bM_drawAll 3 = .ok (.iconst 2, 1) := by decide +kernel
theorem dM_drawAll_4 : decode bM_drawAll 4 = .ok (.if_icmp .ne 7, 3) := by decide +kernel
theorem dM_drawAll_7 : decode bM_drawAll 7 = .ok (.iconst 1, 1) := by decide +kernel
theorem dM_drawAll_8 : decode bM_drawAll 8 = .ok (.goto 4, 3) := by decide +kernel
theorem dM_drawAll_11 : decode bM_drawAll 11 = .ok (.iconst 0, 1) := by decide +kernel
theorem dM_drawAll_12 : decode bM_drawAll 12 = .ok (.lload_n 3, 1) := by decide +kernel
theorem dM_drawAll_13 : decode bM_drawAll 13 = .ok (.aload_n 0, 1) := by decide +kernel
theorem dM_drawAll_14 : decode bM_drawAll 14 = .ok (.getfield 51, 3) := by decide +kernel
theorem dM_drawAll_17 : decode bM_drawAll 17 = .ok (.invokevirtual 106, 3) := by decide +kernel
theorem dM_drawAll_20 : decode bM_drawAll 20 = .ok (.iload_n 2, 1) := by decide +kernel
theorem dM_drawAll_21 : decode bM_drawAll 21 = .ok (.iconst 3, 1) := by decide +kernel
theorem dM_drawAll_22 : decode bM_drawAll 22 = .ok (.if_icmp .ne 76, 3) := by decide +kernel
theorem dM_drawAll_25 : decode bM_drawAll 25 = .ok (.aload_n 0, 1) := by decide +kernel
theorem dM_drawAll_26 : decode bM_drawAll 26 = .ok (.iload_n 1, 1) := by decide +kernel
theorem dM_drawAll_27 : decode bM_drawAll 27 = .ok (.iconst 1, 1) := by decide +kernel
theorem dM_drawAll_28 : decode bM_drawAll 28 = .ok (.lload_n 3, 1) := by decide +kernel
theorem dM_drawAll_29 : decode bM_drawAll 29 = .ok (.aload_n 0, 1) := by decide +kernel
theorem dM_drawAll_30 : decode bM_drawAll 30 = .ok (.getfield 54, 3) := by decide +kernel
theorem dM_drawAll_33 : decode bM_drawAll 33 = .ok (.invokevirtual 106, 3) := by decide +kernel
theorem dM_drawAll_36 : decode bM_drawAll 36 = .ok (.iconst 0, 1) := by decide +kernel
theorem dM_drawAll_37 : decode bM_drawAll 37 = .ok (.istore 5, 2) := by decide +kernel
theorem dM_drawAll_39 : decode bM_drawAll 39 = .ok (.iload 5, 2) := by decide +kernel
theorem dM_drawAll_41 : decode bM_drawAll 41 = .ok (.aload_n 0, 1) := by decide +kernel
theorem dM_drawAll_42 : decode bM_drawAll 42 = .ok (.getfield 13, 3) := by decide +kernel
theorem dM_drawAll_45 : decode bM_drawAll 45 = .ok (.iload_n 1, 1) := by decide +kernel
theorem dM_drawAll_46 : decode bM_drawAll 46 = .ok (.iaload, 1) := by decide +kernel
theorem dM_drawAll_47 : decode bM_drawAll 47 = .ok (.if_icmp .ge 51, 3) := by decide +kernel
theorem dM_drawAll_50 : decode bM_drawAll 50 = .ok (.aload_n 0, 1) := by decide +kernel
theorem dM_drawAll_51 : decode bM_drawAll 51 = .ok (.getfield 51, 3) := by decide +kernel
theorem dM_drawAll_54 : decode bM_drawAll 54 = .ok (.iload 5, 2) := by decide +kernel
theorem dM_drawAll_56 : decode bM_drawAll 56 = .ok (.aload_n 0, 1) := by decide +kernel
theorem dM_drawAll_57 : decode bM_drawAll 57 = .ok (.getfield 51, 3) := by decide +kernel
theorem dM_drawAll_60 : decode bM_drawAll 60 = .ok (.iload 5, 2) := by decide +kernel
theorem dM_drawAll_62 : decode bM_drawAll 62 = .ok (.laload, 1) := by decide +kernel
theorem dM_drawAll_63 : decode bM_drawAll 63 = .ok (.aload_n 0, 1) := by decide +kernel
theorem dM_drawAll_64 : decode bM_drawAll 64 = .ok (.getfield 54, 3) := by decide +kernel
theorem dM_drawAll_67 : decode bM_drawAll 67 = .ok (.iload 5, 2) := by decide +kernel
theorem dM_drawAll_69 : decode bM_drawAll 69 = .ok (.laload, 1) := by decide +kernel
theorem dM_drawAll_70 : decode bM_drawAll 70 = .ok (.lcmp, 1) := by decide +kernel
theorem dM_drawAll_71 : decode bM_drawAll 71 = .ok (.ifCond .le 13, 3) := by decide +kernel
theorem dM_drawAll_74 : decode bM_drawAll 74 = .ok (.aload_n 0, 1) := by decide +kernel
theorem dM_drawAll_75 : decode bM_drawAll 75 = .ok (.getfield 51, 3) := by decide +kernel
theorem dM_drawAll_78 : decode bM_drawAll 78 = .ok (.iload 5, 2) := by decide +kernel
theorem dM_drawAll_80 : decode bM_drawAll 80 = .ok (.laload, 1) := by decide +kernel
theorem dM_drawAll_81 : decode bM_drawAll 81 = .ok (.goto 10, 3) := by decide +kernel
theorem dM_drawAll_84 : decode bM_drawAll 84 = .ok (.aload_n 0, 1) := by decide +kernel
theorem dM_drawAll_85 : decode bM_drawAll 85 = .ok (.getfield 54, 3) := by decide +kernel
theorem dM_drawAll_88 : decode bM_drawAll 88 = .ok (.iload 5, 2) := by decide +kernel
theorem dM_drawAll_90 : decode bM_drawAll 90 = .ok (.laload, 1) := by decide +kernel
theorem dM_drawAll_91 : decode bM_drawAll 91 = .ok (.lastore, 1) := by decide +kernel
theorem dM_drawAll_92 : decode bM_drawAll 92 = .ok (.iinc 5 1, 3) := by decide +kernel
theorem dM_drawAll_95 : decode bM_drawAll 95 = .ok (.goto (-56), 3) := by decide +kernel
theorem dM_drawAll_98 : decode bM_drawAll 98 = .ok (.return_, 1) := by decide +kernel
theorem dM_longerOf_0 : decode bM_longerOf 0 = .ok (.lconst 0, 1) := by decide +kernel
theorem dM_longerOf_1 : decode bM_longerOf 1 = .ok (.lstore_n 2, 1) := by decide +kernel
theorem dM_longerOf_2 : decode bM_longerOf 2 = .ok (.iconst 0, 1) := by decide +kernel
theorem dM_longerOf_3 : decode bM_longerOf 3 = .ok (.istore 4, 2) := by decide +kernel
theorem dM_longerOf_5 : decode bM_longerOf 5 = .ok (.iload 4, 2) := by decide +kernel
theorem dM_longerOf_7 : decode bM_longerOf 7 = .ok (.iconst 1, 1) := by decide +kernel
theorem dM_longerOf_8 : decode bM_longerOf 8 = .ok (.iadd, 1) := by decide +kernel
theorem dM_longerOf_9 : decode bM_longerOf 9 = .ok (.aload_n 0, 1) := by decide +kernel
theorem dM_longerOf_10 : decode bM_longerOf 10 = .ok (.getfield 13, 3) := by decide +kernel
theorem dM_longerOf_13 : decode bM_longerOf 13 = .ok (.iload_n 1, 1) := by decide +kernel
theorem dM_longerOf_14 : decode bM_longerOf 14 = .ok (.iaload, 1) := by decide +kernel
theorem dM_longerOf_15 : decode bM_longerOf 15 = .ok (.if_icmp .ge 71, 3) := by decide +kernel
theorem dM_longerOf_18 : decode bM_longerOf 18 = .ok (.aload_n 0, 1) := by decide +kernel
theorem dM_longerOf_19 : decode bM_longerOf 19 = .ok (.getfield 31, 3) := by decide +kernel
theorem dM_longerOf_22 : decode bM_longerOf 22 = .ok (.bipush 10, 2) := by decide +kernel
theorem dM_longerOf_24 : decode bM_longerOf 24 = .ok (.iload_n 1, 1) := by decide +kernel
theorem dM_longerOf_25 : decode bM_longerOf 25 = .ok (.imul, 1) := by decide +kernel
theorem dM_longerOf_26 : decode bM_longerOf 26 = .ok (.iload 4, 2) := by decide +kernel
theorem dM_longerOf_28 : decode bM_longerOf 28 = .ok (.iadd, 1) := by decide +kernel
theorem dM_longerOf_29 : decode bM_longerOf 29 = .ok (.laload, 1) := by decide +kernel
theorem dM_longerOf_30 : decode bM_longerOf 30 = .ok (.aload_n 0, 1) := by decide +kernel
theorem dM_longerOf_31 : decode bM_longerOf 31 = .ok (.getfield 31, 3) := by decide +kernel
theorem dM_longerOf_34 : decode bM_longerOf 34 = .ok (.bipush 10, 2) := by decide +kernel
theorem dM_longerOf_36 : decode bM_longerOf 36 = .ok (.iload_n 1, 1) := by decide +kernel
theorem dM_longerOf_37 : decode bM_longerOf 37 = .ok (.imul, 1) := by decide +kernel
theorem dM_longerOf_38 : decode bM_longerOf 38 = .ok (.iload 4, 2) := by decide +kernel
theorem dM_longerOf_40 : decode bM_longerOf 40 = .ok (.iadd, 1) := by decide +kernel
theorem dM_longerOf_41 : decode bM_longerOf 41 = .ok (.iconst 1, 1) := by decide +kernel
theorem dM_longerOf_42 : decode bM_longerOf 42 = .ok (.iadd, 1) := by decide +kernel
theorem dM_longerOf_43 : decode bM_longerOf 43 = .ok (.laload, 1) := by decide +kernel
theorem dM_longerOf_44 : decode bM_longerOf 44 = .ok (.ladd, 1) := by decide +kernel
theorem dM_longerOf_45 : decode bM_longerOf 45 = .ok (.lstore 5, 2) := by decide +kernel
theorem dM_longerOf_47 : decode bM_longerOf 47 = .ok (.lload_n 2, 1) := by decide +kernel
theorem dM_longerOf_48 : decode bM_longerOf 48 = .ok (.lload 5, 2) := by decide +kernel
theorem dM_longerOf_50 : decode bM_longerOf 50 = .ok (.aload_n 0, 1) := by decide +kernel
theorem dM_longerOf_51 : decode bM_longerOf 51 = .ok (.iload_n 1, 1) := by decide +kernel
theorem dM_longerOf_52 : decode bM_longerOf 52 = .ok (.iload 4, 2) := by decide +kernel
theorem dM_longerOf_54 : decode bM_longerOf 54 = .ok (.invokevirtual 91, 3) := by decide +kernel
theorem dM_longerOf_57 : decode bM_longerOf 57 = .ok (.lmul, 1) := by decide +kernel
theorem dM_longerOf_58 : decode bM_longerOf 58 = .ok (.ldc2_w 110, 3) := by decide +kernel
theorem dM_longerOf_61 : decode bM_longerOf 61 = .ok (.lmul, 1) := by decide +kernel
theorem dM_longerOf_62 : decode bM_longerOf 62 = .ok (.ldc2_w 77, 3) := by decide +kernel
theorem dM_longerOf_65 : decode bM_longerOf 65 = .ok (.aload_n 0, 1) := by decide +kernel
theorem dM_longerOf_66 : decode bM_longerOf 66 = .ok (.getfield 7, 3) := by decide +kernel
theorem dM_longerOf_69 : decode bM_longerOf 69 = .ok (.iload_n 1, 1) := by decide +kernel
theorem dM_longerOf_70 : decode bM_longerOf 70 = .ok (.iaload, 1) := by decide +kernel
theorem dM_longerOf_71 : decode bM_longerOf 71 = .ok (.i2l, 1) := by decide +kernel
theorem dM_longerOf_72 : decode bM_longerOf 72 = .ok (.lmul, 1) := by decide +kernel
theorem dM_longerOf_73 : decode bM_longerOf 73 = .ok (.ldc2_w 112, 3) := by decide +kernel
theorem dM_longerOf_76 : decode bM_longerOf 76 = .ok (.lmul, 1) := by decide +kernel
theorem dM_longerOf_77 : decode bM_longerOf 77 = .ok (.ldiv, 1) := by decide +kernel
theorem dM_longerOf_78 : decode bM_longerOf 78 = .ok (.ladd, 1) := by decide +kernel
theorem dM_longerOf_79 : decode bM_longerOf 79 = .ok (.lstore_n 2, 1) := by decide +kernel
theorem dM_longerOf_80 : decode bM_longerOf 80 = .ok (.iinc 4 1, 3) := by decide +kernel
theorem dM_longerOf_83 : decode bM_longerOf 83 = .ok (.goto (-78), 3) := by decide +kernel
theorem dM_longerOf_86 : decode bM_longerOf 86 = .ok (.lload_n 2, 1) := by decide +kernel
theorem dM_longerOf_87 : decode bM_longerOf 87 = .ok (.l2i, 1) := by decide +kernel
theorem dM_longerOf_88 : decode bM_longerOf 88 = .ok (.ireturn, 1) := by decide +kernel
theorem dM_pull_0 : decode bM_pull 0 = .ok (.aload_n 0, 1) := by decide +kernel
theorem dM_pull_1 : decode bM_pull 1 = .ok (.iload_n 1, 1) := by decide +kernel
theorem dM_pull_2 : decode bM_pull 2 = .ok (.invokevirtual 67, 3) := by decide +kernel
theorem dM_pull_5 : decode bM_pull 5 = .ok (.ifCond .eq 42, 3) := by decide +kernel
theorem dM_pull_8 : decode bM_pull 8 = .ok (.aload_n 0, 1) := by decide +kernel
theorem dM_pull_9 : decode bM_pull 9 = .ok (.getfield 16, 3) := by decide +kernel
theorem dM_pull_12 : decode bM_pull 12 = .ok (.iload_n 1, 1) := by decide +kernel
theorem dM_pull_13 : decode bM_pull 13 = .ok (.iaload, 1) := by decide +kernel
theorem dM_pull_14 : decode bM_pull 14 = .ok (.iconst 2, 1) := by decide +kernel
theorem dM_pull_15 : decode bM_pull 15 = .ok (.if_icmp .eq 32, 3) := by decide +kernel
theorem dM_pull_18 : decode bM_pull 18 = .ok (.aload_n 0, 1) := by decide +kernel
theorem dM_pull_19 : decode bM_pull 19 = .ok (.getfield 13, 3) := by decide +kernel
theorem dM_pull_22 : decode bM_pull 22 = .ok (.iload_n 1, 1) := by decide +kernel
theorem dM_pull_23 : decode bM_pull 23 = .ok (.iaload, 1) := by decide +kernel
theorem dM_pull_24 : decode bM_pull 24 = .ok (.iconst 2, 1) := by decide +kernel
theorem dM_pull_25 : decode bM_pull 25 = .ok (.if_icmp .lt 22, 3) := by decide +kernel
theorem dM_pull_28 : decode bM_pull 28 = .ok (.iload_n 2, 1) := by decide +kernel
theorem dM_pull_29 : decode bM_pull 29 = .ok (.iconst 1, 1) := by decide +kernel
theorem dM_pull_30 : decode bM_pull 30 = .ok (.iconst 3, 1) := by decide +kernel
theorem dM_pull_31 : decode bM_pull 31 = .ok (.invokestatic 63, 3) := by decide +kernel
theorem dM_pull_34 : decode bM_pull 34 = .ok (.ifCond .eq 13, 3) := by decide +kernel
theorem dM_pull_37 : decode bM_pull 37 = .ok (.iload_n 3, 1) := by decide +kernel
theorem dM_pull_38 : decode bM_pull 38 = .ok (.iconst 1, 1) := by decide +kernel
theorem dM_pull_39 : decode bM_pull 39 = .ok (.ldc 114, 2) := by decide +kernel
theorem dM_pull_41 : decode bM_pull 41 = .ok (.invokestatic 63, 3) := by decide +kernel
theorem dM_pull_44 : decode bM_pull 44 = .ok (.ifCond .ne 5, 3) := by decide +kernel
theorem dM_pull_47 : decode bM_pull 47 = .ok (.iconst (-1), 1) := by decide +kernel
theorem dM_pull_48 : decode bM_pull 48 = .ok (.ireturn, 1) := by decide +kernel
theorem dM_pull_49 : decode bM_pull 49 = .ok (.aload_n 0, 1) := by decide +kernel
theorem dM_pull_50 : decode bM_pull 50 = .ok (.iload_n 1, 1) := by decide +kernel
theorem dM_pull_51 : decode bM_pull 51 = .ok (.iload_n 2, 1) := by decide +kernel
theorem dM_pull_52 : decode bM_pull 52 = .ok (.iload_n 3, 1) := by decide +kernel
theorem dM_pull_53 : decode bM_pull 53 = .ok (.i2l, 1) := by decide +kernel
theorem dM_pull_54 : decode bM_pull 54 = .ok (.invokevirtual 115, 3) := by decide +kernel
theorem dM_pull_57 : decode bM_pull 57 = .ok (.iconst 0, 1) := by decide +kernel
theorem dM_pull_58 : decode bM_pull 58 = .ok (.istore 4, 2) := by decide +kernel
theorem dM_pull_60 : decode bM_pull 60 = .ok (.iload 4, 2) := by decide +kernel
theorem dM_pull_62 : decode bM_pull 62 = .ok (.aload_n 0, 1) := by decide +kernel
theorem dM_pull_63 : decode bM_pull 63 = .ok (.getfield 13, 3) := by decide +kernel
theorem dM_pull_66 : decode bM_pull 66 = .ok (.iload_n 1, 1) := by decide +kernel
theorem dM_pull_67 : decode bM_pull 67 = .ok (.iaload, 1) := by decide +kernel
theorem dM_pull_68 : decode bM_pull 68 = .ok (.if_icmp .ge 28, 3) := by decide +kernel
theorem dM_pull_71 : decode bM_pull 71 = .ok (.aload_n 0, 1) := by decide +kernel
theorem dM_pull_72 : decode bM_pull 72 = .ok (.getfield 31, 3) := by decide +kernel
theorem dM_pull_75 : decode bM_pull 75 = .ok (.bipush 10, 2) := by decide +kernel
theorem dM_pull_77 : decode bM_pull 77 = .ok (.iload_n 1, 1) := by decide +kernel
theorem dM_pull_78 : decode bM_pull 78 = .ok (.imul, 1) := by decide +kernel
theorem dM_pull_79 : decode bM_pull 79 = .ok (.iload 4, 2) := by decide +kernel
theorem dM_pull_81 : decode bM_pull 81 = .ok (.iadd, 1) := by decide +kernel
theorem dM_pull_82 : decode bM_pull 82 = .ok (.aload_n 0, 1) := by decide +kernel
theorem dM_pull_83 : decode bM_pull 83 = .ok (.getfield 51, 3) := by decide +kernel
theorem dM_pull_86 : decode bM_pull 86 = .ok (.iload 4, 2) := by decide +kernel
theorem dM_pull_88 : decode bM_pull 88 = .ok (.laload, 1) := by decide +kernel
theorem dM_pull_89 : decode bM_pull 89 = .ok (.lastore, 1) := by decide +kernel
theorem dM_pull_90 : decode bM_pull 90 = .ok (.iinc 4 1, 3) := by decide +kernel
theorem dM_pull_93 : decode bM_pull 93 = .ok (.goto (-33), 3) := by decide +kernel
theorem dM_pull_96 : decode bM_pull 96 = .ok (.aload_n 0, 1) := by decide +kernel
theorem dM_pull_97 : decode bM_pull 97 = .ok (.getfield 16, 3) := by decide +kernel
theorem dM_pull_100 : decode bM_pull 100 = .ok (.iload_n 1, 1) := by decide +kernel
theorem dM_pull_101 : decode bM_pull 101 = .ok (.iconst 1, 1) := by decide +kernel
theorem dM_pull_102 : decode bM_pull 102 = .ok (.iastore, 1) := by decide +kernel
theorem dM_pull_103 : decode bM_pull 103 = .ok (.aload_n 0, 1) := by decide +kernel
theorem dM_pull_104 : decode bM_pull 104 = .ok (.getfield 19, 3) := by decide +kernel
theorem dM_pull_107 : decode bM_pull 107 = .ok (.iload_n 1, 1) := by decide +kernel
theorem dM_pull_108 : decode bM_pull 108 = .ok (.iload_n 2, 1) := by decide +kernel
theorem dM_pull_109 : decode bM_pull 109 = .ok (.iastore, 1) := by decide +kernel
theorem dM_pull_110 : decode bM_pull 110 = .ok (.aload_n 0, 1) := by decide +kernel
theorem dM_pull_111 : decode bM_pull 111 = .ok (.getfield 22, 3) := by decide +kernel
theorem dM_pull_114 : decode bM_pull 114 = .ok (.iload_n 1, 1) := by decide +kernel
theorem dM_pull_115 : decode bM_pull 115 = .ok (.iload_n 3, 1) := by decide +kernel
theorem dM_pull_116 : decode bM_pull 116 = .ok (.iastore, 1) := by decide +kernel
theorem dM_pull_117 : decode bM_pull 117 = .ok (.aload_n 0, 1) := by decide +kernel
theorem dM_pull_118 : decode bM_pull 118 = .ok (.iload_n 1, 1) := by decide +kernel
theorem dM_pull_119 : decode bM_pull 119 = .ok (.invokevirtual 119, 3) := by decide +kernel
theorem dM_pull_122 : decode bM_pull 122 = .ok (.ireturn, 1) := by decide +kernel
theorem dM_tryOut_0 : decode bM_tryOut 0 = .ok (.aload_n 0, 1) := by decide +kernel
theorem dM_tryOut_1 : decode bM_tryOut 1 = .ok (.getfield 13, 3) := by decide +kernel
theorem dM_tryOut_4 : decode bM_tryOut 4 = .ok (.iload_n 1, 1) := by decide +kernel
theorem dM_tryOut_5 : decode bM_tryOut 5 = .ok (.iaload, 1) := by decide +kernel
theorem dM_tryOut_6 : decode bM_tryOut 6 = .ok (.istore 5, 2) := by decide +kernel
theorem dM_tryOut_8 : decode bM_tryOut 8 = .ok (.lload_n 3, 1) := by decide +kernel
theorem dM_tryOut_9 : decode bM_tryOut 9 = .ok (.lstore 6, 2) := by decide +kernel
theorem dM_tryOut_11 : decode bM_tryOut 11 = .ok (.iconst 1, 1) := by decide +kernel
theorem dM_tryOut_12 : decode bM_tryOut 12 = .ok (.istore 8, 2) := by decide +kernel
theorem dM_tryOut_14 : decode bM_tryOut 14 = .ok (.iconst 0, 1) := by decide +kernel
theorem dM_tryOut_15 : decode bM_tryOut 15 = .ok (.istore 9, 2) := by decide +kernel
theorem dM_tryOut_17 : decode bM_tryOut 17 = .ok (.iload 9, 2) := by decide +kernel
theorem dM_tryOut_19 : decode bM_tryOut 19 = .ok (.iload 5, 2) := by decide +kernel
theorem dM_tryOut_21 : decode bM_tryOut 21 = .ok (.if_icmp .ge 137, 3) := by decide +kernel
theorem dM_tryOut_24 : decode bM_tryOut 24 = .ok (.iload_n 2, 1) := by decide +kernel
theorem dM_tryOut_25 : decode bM_tryOut 25 = .ok (.ifCond .eq 13, 3) := by decide +kernel
theorem dM_tryOut_28 : decode bM_tryOut 28 = .ok (.iload 5, 2) := by decide +kernel
theorem dM_tryOut_30 : decode bM_tryOut 30 = .ok (.iconst 1, 1) := by decide +kernel
theorem dM_tryOut_31 : decode bM_tryOut 31 = .ok (.isub, 1) := by decide +kernel
theorem dM_tryOut_32 : decode bM_tryOut 32 = .ok (.iload 9, 2) := by decide +kernel
theorem dM_tryOut_34 : decode bM_tryOut 34 = .ok (.isub, 1) := by decide +kernel
theorem dM_tryOut_35 : decode bM_tryOut 35 = .ok (.goto 5, 3) := by decide +kernel
theorem dM_tryOut_38 : decode bM_tryOut 38 = .ok (.iload 9, 2) := by decide +kernel
theorem dM_tryOut_40 : decode bM_tryOut 40 = .ok (.istore 10, 2) := by decide +kernel
theorem dM_tryOut_42 : decode bM_tryOut 42 = .ok (.aload_n 0, 1) := by decide +kernel
theorem dM_tryOut_43 : decode bM_tryOut 43 = .ok (.getfield 31, 3) := by decide +kernel
theorem dM_tryOut_46 : decode bM_tryOut 46 = .ok (.bipush 10, 2) := by decide +kernel
theorem dM_tryOut_48 : decode bM_tryOut 48 = .ok (.iload_n 1, 1) := by decide +kernel
theorem dM_tryOut_49 : decode bM_tryOut 49 = .ok (.imul, 1) := by decide +kernel
theorem dM_tryOut_50 : decode bM_tryOut 50 = .ok (.iload 10, 2) := by decide +kernel
theorem dM_tryOut_52 : decode bM_tryOut 52 = .ok (.iadd, 1) := by decide +kernel
theorem dM_tryOut_53 : decode bM_tryOut 53 = .ok (.laload, 1) := by decide +kernel
theorem dM_tryOut_54 : decode bM_tryOut 54 = .ok (.lstore 11, 2) := by decide +kernel
theorem dM_tryOut_56 : decode bM_tryOut 56 = .ok (.iload 9, 2) := by decide +kernel
theorem dM_tryOut_58 : decode bM_tryOut 58 = .ok (.ifCond .le 55, 3) := by decide +kernel
theorem dM_tryOut_61 : decode bM_tryOut 61 = .ok (.iload 8, 2) := by decide +kernel
theorem dM_tryOut_63 : decode bM_tryOut 63 = .ok (.ifCond .eq 50, 3) := by decide +kernel
theorem dM_tryOut_66 : decode bM_tryOut 66 = .ok (.lload 6, 2) := by decide +kernel
theorem dM_tryOut_68 : decode bM_tryOut 68 = .ok (.aload_n 0, 1) := by decide +kernel
theorem dM_tryOut_69 : decode bM_tryOut 69 = .ok (.lload 6, 2) := by decide +kernel
theorem dM_tryOut_71 : decode bM_tryOut 71 = .ok (.aload_n 0, 1) := by decide +kernel
theorem dM_tryOut_72 : decode bM_tryOut 72 = .ok (.iload_n 1, 1) := by decide +kernel
theorem dM_tryOut_73 : decode bM_tryOut 73 = .ok (.iload_n 2, 1) := by decide +kernel
theorem dM_tryOut_74 : decode bM_tryOut 74 = .ok (.ifCond .eq 8, 3) := by decide +kernel
theorem dM_tryOut_77 : decode bM_tryOut 77 = .ok (.iload 10, 2) := by decide +kernel
theorem dM_tryOut_79 : decode bM_tryOut 79 = .ok (.goto 7, 3) := by decide +kernel
theorem dM_tryOut_82 : decode bM_tryOut 82 = .ok (.iload 10, 2) := by decide +kernel
theorem dM_tryOut_84 : decode bM_tryOut 84 = .ok (.iconst 1, 1) := by decide +kernel
theorem dM_tryOut_85 : decode bM_tryOut 85 = .ok (.isub, 1) := by decide +kernel
theorem dM_tryOut_86 : decode bM_tryOut 86 = .ok (.invokevirtual 91, 3) := by decide +kernel
theorem dM_tryOut_89 : decode bM_tryOut 89 = .ok (.invokevirtual 95, 3) := by decide +kernel
theorem dM_tryOut_92 : decode bM_tryOut 92 = .ok (.ladd, 1) := by decide +kernel
theorem dM_tryOut_93 : decode bM_tryOut 93 = .ok (.lstore 6, 2) := by decide +kernel
theorem dM_tryOut_95 : decode bM_tryOut 95 = .ok (.lload 6, 2) := by decide +kernel
theorem dM_tryOut_97 : decode bM_tryOut 97 = .ok (.aload_n 0, 1) := by decide +kernel
theorem dM_tryOut_98 : decode bM_tryOut 98 = .ok (.lload 6, 2) := by decide +kernel
theorem dM_tryOut_100 : decode bM_tryOut 100 = .ok (.aload_n 0, 1) := by decide +kernel
theorem dM_tryOut_101 : decode bM_tryOut 101 = .ok (.iload_n 1, 1) := by decide +kernel
theorem dM_tryOut_102 : decode bM_tryOut 102 = .ok (.iload 10, 2) := by decide +kernel
theorem dM_tryOut_104 : decode bM_tryOut 104 = .ok (.invokevirtual 99, 3) := by decide +kernel
theorem dM_tryOut_107 : decode bM_tryOut 107 = .ok (.invokevirtual 102, 3) := by decide +kernel
theorem dM_tryOut_110 : decode bM_tryOut 110 = .ok (.ladd, 1) := by decide +kernel
theorem dM_tryOut_111 : decode bM_tryOut 111 = .ok (.lstore 6, 2) := by decide +kernel
theorem dM_tryOut_113 : decode bM_tryOut 113 = .ok (.iload 8, 2) := by decide +kernel
theorem dM_tryOut_115 : decode bM_tryOut 115 = .ok (.ifCond .eq 15, 3) := by decide +kernel
theorem dM_tryOut_118 : decode bM_tryOut 118 = .ok (.lload 6, 2) := by decide +kernel
theorem dM_tryOut_120 : decode bM_tryOut 120 = .ok (.lload 11, 2) := by decide +kernel
theorem dM_tryOut_122 : decode bM_tryOut 122 = .ok (.lcmp, 1) := by decide +kernel
theorem dM_tryOut_123 : decode bM_tryOut 123 = .ok (.ifCond .ge 7, 3) := by decide +kernel
theorem dM_tryOut_126 : decode bM_tryOut 126 = .ok (.iconst 1, 1) := by decide +kernel
theorem dM_tryOut_127 : decode bM_tryOut 127 = .ok (.goto 4, 3) := by decide +kernel
theorem dM_tryOut_130 : decode bM_tryOut 130 = .ok (.iconst 0, 1) := by decide +kernel
theorem dM_tryOut_131 : decode bM_tryOut 131 = .ok (.istore 8, 2) := by decide +kernel
theorem dM_tryOut_133 : decode bM_tryOut 133 = .ok (.aload_n 0, 1) := by decide +kernel
theorem dM_tryOut_134 : decode bM_tryOut 134 = .ok (.getfield 51, 3) := by decide +kernel
theorem dM_tryOut_137 : decode bM_tryOut 137 = .ok (.iload 10, 2) := by decide +kernel
theorem dM_tryOut_139 : decode bM_tryOut 139 = .ok (.iload 8, 2) := by decide +kernel
theorem dM_tryOut_141 : decode bM_tryOut 141 = .ok (.ifCond .eq 8, 3) := by decide +kernel
theorem dM_tryOut_144 : decode bM_tryOut 144 = .ok (.lload 6, 2) := by decide +kernel
theorem dM_tryOut_146 : decode bM_tryOut 146 = .ok (.goto 5, 3) := by decide +kernel
theorem dM_tryOut_149 : decode bM_tryOut 149 = .ok (.lload 11, 2) := by decide +kernel
theorem dM_tryOut_151 : decode bM_tryOut 151 = .ok (.lastore, 1) := by decide +kernel
theorem dM_tryOut_152 : decode bM_tryOut 152 = .ok (.iinc 9 1, 3) := by decide +kernel
theorem dM_tryOut_155 : decode bM_tryOut 155 = .ok (.goto (-138), 3) := by decide +kernel
theorem dM_tryOut_158 : decode bM_tryOut 158 = .ok (.lconst 0, 1) := by decide +kernel
theorem dM_tryOut_159 : decode bM_tryOut 159 = .ok (.lstore 9, 2) := by decide +kernel
theorem dM_tryOut_161 : decode bM_tryOut 161 = .ok (.iconst 0, 1) := by decide +kernel
theorem dM_tryOut_162 : decode bM_tryOut 162 = .ok (.istore 11, 2) := by decide +kernel
theorem dM_tryOut_164 : decode bM_tryOut 164 = .ok (.iload 11, 2) := by decide +kernel
theorem dM_tryOut_166 : decode bM_tryOut 166 = .ok (.iconst 1, 1) := by decide +kernel
theorem dM_tryOut_167 : decode bM_tryOut 167 = .ok (.iadd, 1) := by decide +kernel
theorem dM_tryOut_168 : decode bM_tryOut 168 = .ok (.iload 5, 2) := by decide +kernel
theorem dM_tryOut_170 : decode bM_tryOut 170 = .ok (.if_icmp .ge 91, 3) := by decide +kernel
theorem dM_tryOut_173 : decode bM_tryOut 173 = .ok (.aload_n 0, 1) := by decide +kernel
theorem dM_tryOut_174 : decode bM_tryOut 174 = .ok (.getfield 31, 3) := by decide +kernel
theorem dM_tryOut_177 : decode bM_tryOut 177 = .ok (.bipush 10, 2) := by decide +kernel
theorem dM_tryOut_179 : decode bM_tryOut 179 = .ok (.iload_n 1, 1) := by decide +kernel
theorem dM_tryOut_180 : decode bM_tryOut 180 = .ok (.imul, 1) := by decide +kernel
theorem dM_tryOut_181 : decode bM_tryOut 181 = .ok (.iload 11, 2) := by decide +kernel
theorem dM_tryOut_183 : decode bM_tryOut 183 = .ok (.iadd, 1) := by decide +kernel
theorem dM_tryOut_184 : decode bM_tryOut 184 = .ok (.laload, 1) := by decide +kernel
theorem dM_tryOut_185 : decode bM_tryOut 185 = .ok (.aload_n 0, 1) := by decide +kernel
theorem dM_tryOut_186 : decode bM_tryOut 186 = .ok (.getfield 31, 3) := by decide +kernel
theorem dM_tryOut_189 : decode bM_tryOut 189 = .ok (.bipush 10, 2) := by decide +kernel
theorem dM_tryOut_191 : decode bM_tryOut 191 = .ok (.iload_n 1, 1) := by decide +kernel
theorem dM_tryOut_192 : decode bM_tryOut 192 = .ok (.imul, 1) := by decide +kernel
theorem dM_tryOut_193 : decode bM_tryOut 193 = .ok (.iload 11, 2) := by decide +kernel
theorem dM_tryOut_195 : decode bM_tryOut 195 = .ok (.iadd, 1) := by decide +kernel
theorem dM_tryOut_196 : decode bM_tryOut 196 = .ok (.iconst 1, 1) := by decide +kernel
theorem dM_tryOut_197 : decode bM_tryOut 197 = .ok (.iadd, 1) := by decide +kernel
theorem dM_tryOut_198 : decode bM_tryOut 198 = .ok (.laload, 1) := by decide +kernel
theorem dM_tryOut_199 : decode bM_tryOut 199 = .ok (.ladd, 1) := by decide +kernel
theorem dM_tryOut_200 : decode bM_tryOut 200 = .ok (.aload_n 0, 1) := by decide +kernel
theorem dM_tryOut_201 : decode bM_tryOut 201 = .ok (.getfield 51, 3) := by decide +kernel
theorem dM_tryOut_204 : decode bM_tryOut 204 = .ok (.iload 11, 2) := by decide +kernel
end
section
theorem dM_tryOut_206 : decode bM_tryOut 206 = .ok (.laload, 1) := by decide +kernel
theorem dM_tryOut_207 : decode bM_tryOut 207 = .ok (.lsub, 1) := by decide +kernel
theorem dM_tryOut_208 : decode bM_tryOut 208 = .ok (.aload_n 0, 1) := by decide +kernel
theorem dM_tryOut_209 : decode bM_tryOut 209 = .ok (.getfield 51, 3) := by decide +kernel
theorem dM_tryOut_212 : decode bM_tryOut 212 = .ok (.iload 11, 2) := by decide +kernel
theorem dM_tryOut_214 : decode bM_tryOut 214 = .ok (.iconst 1, 1) := by decide +kernel
theorem dM_tryOut_215 : decode bM_tryOut 215 = .ok (.iadd, 1) := by decide +kernel
theorem dM_tryOut_216 : decode bM_tryOut 216 = .ok (.laload, 1) := by decide +kernel
theorem dM_tryOut_217 : decode bM_tryOut 217 = .ok (.lsub, 1) := by decide +kernel
theorem dM_tryOut_218 : decode bM_tryOut 218 = .ok (.lstore 12, 2) := by decide +kernel
theorem dM_tryOut_220 : decode bM_tryOut 220 = .ok (.lload 9, 2) := by decide +kernel
theorem dM_tryOut_222 : decode bM_tryOut 222 = .ok (.lload 12, 2) := by decide +kernel
theorem dM_tryOut_224 : decode bM_tryOut 224 = .ok (.aload_n 0, 1) := by decide +kernel
theorem dM_tryOut_225 : decode bM_tryOut 225 = .ok (.iload_n 1, 1) := by decide +kernel
theorem dM_tryOut_226 : decode bM_tryOut 226 = .ok (.iload 11, 2) := by decide +kernel
theorem dM_tryOut_228 : decode bM_tryOut 228 = .ok (.invokevirtual 91, 3) := by decide +kernel
theorem dM_tryOut_231 : decode bM_tryOut 231 = .ok (.lmul, 1) := by decide +kernel
theorem dM_tryOut_232 : decode bM_tryOut 232 = .ok (.ldc2_w 110, 3) := by decide +kernel
theorem dM_tryOut_235 : decode bM_tryOut 235 = .ok (.lmul, 1) := by decide +kernel
theorem dM_tryOut_236 : decode bM_tryOut 236 = .ok (.ldc2_w 77, 3) := by decide +kernel
theorem dM_tryOut_239 : decode bM_tryOut 239 = .ok (.aload_n 0, 1) := by decide +kernel
theorem dM_tryOut_240 : decode bM_tryOut 240 = .ok (.getfield 7, 3) := by decide +kernel
theorem dM_tryOut_243 : decode bM_tryOut 243 = .ok (.iload_n 1, 1) := by decide +kernel
theorem dM_tryOut_244 : decode bM_tryOut 244 = .ok (.iaload, 1) := by decide +kernel
theorem dM_tryOut_245 : decode bM_tryOut 245 = .ok (.i2l, 1) := by decide +kernel
theorem dM_tryOut_246 : decode bM_tryOut 246 = .ok (.lmul, 1) := by decide +kernel
theorem dM_tryOut_247 : decode bM_tryOut 247 = .ok (.ldc2_w 112, 3) := by decide +kernel
theorem dM_tryOut_250 : decode bM_tryOut 250 = .ok (.lmul, 1) := by decide +kernel
theorem dM_tryOut_251 : decode bM_tryOut 251 = .ok (.ldiv, 1) := by decide +kernel
theorem dM_tryOut_252 : decode bM_tryOut 252 = .ok (.ladd, 1) := by decide +kernel
theorem dM_tryOut_253 : decode bM_tryOut 253 = .ok (.lstore 9, 2) := by decide +kernel
theorem dM_tryOut_255 : decode bM_tryOut 255 = .ok (.iinc 11 1, 3) := by decide +kernel
theorem dM_tryOut_258 : decode bM_tryOut 258 = .ok (.goto (-94), 3) := by decide +kernel
theorem dM_tryOut_261 : decode bM_tryOut 261 = .ok (.lload 9, 2) := by decide +kernel
theorem dM_tryOut_263 : decode bM_tryOut 263 = .ok (.lreturn, 1) := by decide +kernel
theorem dM_letSlip_0 : decode bM_letSlip 0 = .ok (.lconst 0, 1) := by decide +kernel
theorem dM_letSlip_1 : decode bM_letSlip 1 = .ok (.lstore_n 3, 1) := by decide +kernel
theorem dM_letSlip_2 : decode bM_letSlip 2 = .ok (.aload_n 0, 1) := by decide +kernel
theorem dM_letSlip_3 : decode bM_letSlip 3 = .ok (.getfield 22, 3) := by decide +kernel
theorem dM_letSlip_6 : decode bM_letSlip 6 = .ok (.iload_n 1, 1) := by decide +kernel
theorem dM_letSlip_7 : decode bM_letSlip 7 = .ok (.iaload, 1) := by decide +kernel
theorem dM_letSlip_8 : decode bM_letSlip 8 = .ok (.i2l, 1) := by decide +kernel
theorem dM_letSlip_9 : decode bM_letSlip 9 = .ok (.lstore 5, 2) := by decide +kernel
theorem dM_letSlip_11 : decode bM_letSlip 11 = .ok (.lload_n 3, 1) := by decide +kernel
theorem dM_letSlip_12 : decode bM_letSlip 12 = .ok (.lload 5, 2) := by decide +kernel
theorem dM_letSlip_14 : decode bM_letSlip 14 = .ok (.lcmp, 1) := by decide +kernel
theorem dM_letSlip_15 : decode bM_letSlip 15 = .ok (.ifCond .ge 47, 3) := by decide +kernel
theorem dM_letSlip_18 : decode bM_letSlip 18 = .ok (.lload_n 3, 1) := by decide +kernel
theorem dM_letSlip_19 : decode bM_letSlip 19 = .ok (.lload 5, 2) := by decide +kernel
theorem dM_letSlip_21 : decode bM_letSlip 21 = .ok (.ladd, 1) := by decide +kernel
theorem dM_letSlip_22 : decode bM_letSlip 22 = .ok (.lconst 1, 1) := by decide +kernel
theorem dM_letSlip_23 : decode bM_letSlip 23 = .ok (.ladd, 1) := by decide +kernel
theorem dM_letSlip_24 : decode bM_letSlip 24 = .ok (.ldc2_w 77, 3) := by decide +kernel
theorem dM_letSlip_27 : decode bM_letSlip 27 = .ok (.ldiv, 1) := by decide +kernel
theorem dM_letSlip_28 : decode bM_letSlip 28 = .ok (.lstore 7, 2) := by decide +kernel
theorem dM_letSlip_30 : decode bM_letSlip 30 = .ok (.aload_n 0, 1) := by decide +kernel
theorem dM_letSlip_31 : decode bM_letSlip 31 = .ok (.iload_n 1, 1) := by decide +kernel
theorem dM_letSlip_32 : decode bM_letSlip 32 = .ok (.iload_n 2, 1) := by decide +kernel
theorem dM_letSlip_33 : decode bM_letSlip 33 = .ok (.lload 7, 2) := by decide +kernel
theorem dM_letSlip_35 : decode bM_letSlip 35 = .ok (.invokevirtual 123, 3) := by decide +kernel
theorem dM_letSlip_38 : decode bM_letSlip 38 = .ok (.aload_n 0, 1) := by decide +kernel
theorem dM_letSlip_39 : decode bM_letSlip 39 = .ok (.getfield 72, 3) := by decide +kernel
theorem dM_letSlip_42 : decode bM_letSlip 42 = .ok (.i2l, 1) := by decide +kernel
theorem dM_letSlip_43 : decode bM_letSlip 43 = .ok (.lcmp, 1) := by decide +kernel
theorem dM_letSlip_44 : decode bM_letSlip 44 = .ok (.ifCond .lt 9, 3) := by decide +kernel
theorem dM_letSlip_47 : decode bM_letSlip 47 = .ok (.lload 7, 2) := by decide +kernel
theorem dM_letSlip_49 : decode bM_letSlip 49 = .ok (.lstore_n 3, 1) := by decide +kernel
theorem dM_letSlip_50 : decode bM_letSlip 50 = .ok (.goto 9, 3) := by decide +kernel
theorem dM_letSlip_53 : decode bM_letSlip 53 = .ok (.lload 7, 2) := by decide +kernel
theorem dM_letSlip_55 : decode bM_letSlip 55 = .ok (.lconst 1, 1) := by decide +kernel
theorem dM_letSlip_56 : decode bM_letSlip 56 = .ok (.lsub, 1) := by decide +kernel
theorem dM_letSlip_57 : decode bM_letSlip 57 = .ok (.lstore 5, 2) := by decide +kernel
theorem dM_letSlip_59 : decode bM_letSlip 59 = .ok (.goto (-48), 3) := by decide +kernel
theorem dM_letSlip_62 : decode bM_letSlip 62 = .ok (.aload_n 0, 1) := by decide +kernel
theorem dM_letSlip_63 : decode bM_letSlip 63 = .ok (.iload_n 1, 1) := by decide +kernel
theorem dM_letSlip_64 : decode bM_letSlip 64 = .ok (.iload_n 2, 1) := by decide +kernel
theorem dM_letSlip_65 : decode bM_letSlip 65 = .ok (.lload_n 3, 1) := by decide +kernel
theorem dM_letSlip_66 : decode bM_letSlip 66 = .ok (.invokevirtual 123, 3) := by decide +kernel
theorem dM_letSlip_69 : decode bM_letSlip 69 = .ok (.lstore 7, 2) := by decide +kernel
theorem dM_letSlip_71 : decode bM_letSlip 71 = .ok (.iconst 0, 1) := by decide +kernel
theorem dM_letSlip_72 : decode bM_letSlip 72 = .ok (.istore 9, 2) := by decide +kernel
theorem dM_letSlip_74 : decode bM_letSlip 74 = .ok (.iload 9, 2) := by decide +kernel
theorem dM_letSlip_76 : decode bM_letSlip 76 = .ok (.aload_n 0, 1) := by decide +kernel
theorem dM_letSlip_77 : decode bM_letSlip 77 = .ok (.getfield 13, 3) := by decide +kernel
theorem dM_letSlip_80 : decode bM_letSlip 80 = .ok (.iload_n 1, 1) := by decide +kernel
theorem dM_letSlip_81 : decode bM_letSlip 81 = .ok (.iaload, 1) := by decide +kernel
theorem dM_letSlip_82 : decode bM_letSlip 82 = .ok (.if_icmp .ge 28, 3) := by decide +kernel
theorem dM_letSlip_85 : decode bM_letSlip 85 = .ok (.aload_n 0, 1) := by decide +kernel
theorem dM_letSlip_86 : decode bM_letSlip 86 = .ok (.getfield 31, 3) := by decide +kernel
theorem dM_letSlip_89 : decode bM_letSlip 89 = .ok (.bipush 10, 2) := by decide +kernel
theorem dM_letSlip_91 : decode bM_letSlip 91 = .ok (.iload_n 1, 1) := by decide +kernel
theorem dM_letSlip_92 : decode bM_letSlip 92 = .ok (.imul, 1) := by decide +kernel
theorem dM_letSlip_93 : decode bM_letSlip 93 = .ok (.iload 9, 2) := by decide +kernel
theorem dM_letSlip_95 : decode bM_letSlip 95 = .ok (.iadd, 1) := by decide +kernel
theorem dM_letSlip_96 : decode bM_letSlip 96 = .ok (.aload_n 0, 1) := by decide +kernel
theorem dM_letSlip_97 : decode bM_letSlip 97 = .ok (.getfield 51, 3) := by decide +kernel
theorem dM_letSlip_100 : decode bM_letSlip 100 = .ok (.iload 9, 2) := by decide +kernel
theorem dM_letSlip_102 : decode bM_letSlip 102 = .ok (.laload, 1) := by decide +kernel
theorem dM_letSlip_103 : decode bM_letSlip 103 = .ok (.lastore, 1) := by decide +kernel
theorem dM_letSlip_104 : decode bM_letSlip 104 = .ok (.iinc 9 1, 3) := by decide +kernel
theorem dM_letSlip_107 : decode bM_letSlip 107 = .ok (.goto (-33), 3) := by decide +kernel
theorem dM_letSlip_110 : decode bM_letSlip 110 = .ok (.return_, 1) := by decide +kernel
theorem dM_lock_0 : decode bM_lock 0 = .ok (.aload_n 0, 1) := by decide +kernel
theorem dM_lock_1 : decode bM_lock 1 = .ok (.iload_n 1, 1) := by decide +kernel
theorem dM_lock_2 : decode bM_lock 2 = .ok (.invokevirtual 67, 3) := by decide +kernel
theorem dM_lock_5 : decode bM_lock 5 = .ok (.ifCond .eq 13, 3) := by decide +kernel
theorem dM_lock_8 : decode bM_lock 8 = .ok (.aload_n 0, 1) := by decide +kernel
theorem dM_lock_9 : decode bM_lock 9 = .ok (.getfield 16, 3) := by decide +kernel
theorem dM_lock_12 : decode bM_lock 12 = .ok (.iload_n 1, 1) := by decide +kernel
theorem dM_lock_13 : decode bM_lock 13 = .ok (.iaload, 1) := by decide +kernel
theorem dM_lock_14 : decode bM_lock 14 = .ok (.iconst 1, 1) := by decide +kernel
theorem dM_lock_15 : decode bM_lock 15 = .ok (.if_icmp .eq 5, 3) := by decide +kernel
theorem dM_lock_18 : decode bM_lock 18 = .ok (.iconst (-1), 1) := by decide +kernel
theorem dM_lock_19 : decode bM_lock 19 = .ok (.ireturn, 1) := by decide +kernel
theorem dM_lock_20 : decode bM_lock 20 = .ok (.aload_n 0, 1) := by decide +kernel
theorem dM_lock_21 : decode bM_lock 21 = .ok (.iload_n 1, 1) := by decide +kernel
theorem dM_lock_22 : decode bM_lock 22 = .ok (.invokevirtual 119, 3) := by decide +kernel
theorem dM_lock_25 : decode bM_lock 25 = .ok (.istore_n 2, 1) := by decide +kernel
theorem dM_lock_26 : decode bM_lock 26 = .ok (.aload_n 0, 1) := by decide +kernel
theorem dM_lock_27 : decode bM_lock 27 = .ok (.getfield 19, 3) := by decide +kernel
theorem dM_lock_30 : decode bM_lock 30 = .ok (.iload_n 1, 1) := by decide +kernel
theorem dM_lock_31 : decode bM_lock 31 = .ok (.iaload, 1) := by decide +kernel
theorem dM_lock_32 : decode bM_lock 32 = .ok (.iconst 2, 1) := by decide +kernel
theorem dM_lock_33 : decode bM_lock 33 = .ok (.if_icmp .eq 9, 3) := by decide +kernel
theorem dM_lock_36 : decode bM_lock 36 = .ok (.aload_n 0, 1) := by decide +kernel
theorem dM_lock_37 : decode bM_lock 37 = .ok (.iload_n 1, 1) := by decide +kernel
theorem dM_lock_38 : decode bM_lock 38 = .ok (.iconst 0, 1) := by decide +kernel
theorem dM_lock_39 : decode bM_lock 39 = .ok (.invokevirtual 127, 3) := by decide +kernel
theorem dM_lock_42 : decode bM_lock 42 = .ok (.aload_n 0, 1) := by decide +kernel
theorem dM_lock_43 : decode bM_lock 43 = .ok (.getfield 19, 3) := by decide +kernel
theorem dM_lock_46 : decode bM_lock 46 = .ok (.iload_n 1, 1) := by decide +kernel
theorem dM_lock_47 : decode bM_lock 47 = .ok (.iaload, 1) := by decide +kernel
theorem dM_lock_48 : decode bM_lock 48 = .ok (.iconst 1, 1) := by decide +kernel
theorem dM_lock_49 : decode bM_lock 49 = .ok (.if_icmp .eq 9, 3) := by decide +kernel
theorem dM_lock_52 : decode bM_lock 52 = .ok (.aload_n 0, 1) := by decide +kernel
theorem dM_lock_53 : decode bM_lock 53 = .ok (.iload_n 1, 1) := by decide +kernel
theorem dM_lock_54 : decode bM_lock 54 = .ok (.iconst 1, 1) := by decide +kernel
theorem dM_lock_55 : decode bM_lock 55 = .ok (.invokevirtual 127, 3) := by decide +kernel
theorem dM_lock_58 : decode bM_lock 58 = .ok (.lconst 0, 1) := by decide +kernel
theorem dM_lock_59 : decode bM_lock 59 = .ok (.lstore_n 3, 1) := by decide +kernel
theorem dM_lock_60 : decode bM_lock 60 = .ok (.iconst 0, 1) := by decide +kernel
theorem dM_lock_61 : decode bM_lock 61 = .ok (.istore 5, 2) := by decide +kernel
theorem dM_lock_63 : decode bM_lock 63 = .ok (.iload 5, 2) := by decide +kernel
theorem dM_lock_65 : decode bM_lock 65 = .ok (.aload_n 0, 1) := by decide +kernel
theorem dM_lock_66 : decode bM_lock 66 = .ok (.getfield 13, 3) := by decide +kernel
theorem dM_lock_69 : decode bM_lock 69 = .ok (.iload_n 1, 1) := by decide +kernel
theorem dM_lock_70 : decode bM_lock 70 = .ok (.iaload, 1) := by decide +kernel
theorem dM_lock_71 : decode bM_lock 71 = .ok (.if_icmp .ge 24, 3) := by decide +kernel
theorem dM_lock_74 : decode bM_lock 74 = .ok (.lload_n 3, 1) := by decide +kernel
theorem dM_lock_75 : decode bM_lock 75 = .ok (.aload_n 0, 1) := by decide +kernel
theorem dM_lock_76 : decode bM_lock 76 = .ok (.getfield 31, 3) := by decide +kernel
theorem dM_lock_79 : decode bM_lock 79 = .ok (.bipush 10, 2) := by decide +kernel
theorem dM_lock_81 : decode bM_lock 81 = .ok (.iload_n 1, 1) := by decide +kernel
theorem dM_lock_82 : decode bM_lock 82 = .ok (.imul, 1) := by decide +kernel
theorem dM_lock_83 : decode bM_lock 83 = .ok (.iload 5, 2) := by decide +kernel
theorem dM_lock_85 : decode bM_lock 85 = .ok (.iadd, 1) := by decide +kernel
theorem dM_lock_86 : decode bM_lock 86 = .ok (.laload, 1) := by decide +kernel
theorem dM_lock_87 : decode bM_lock 87 = .ok (.ladd, 1) := by decide +kernel
theorem dM_lock_88 : decode bM_lock 88 = .ok (.lstore_n 3, 1) := by decide +kernel
theorem dM_lock_89 : decode bM_lock 89 = .ok (.iinc 5 1, 3) := by decide +kernel
theorem dM_lock_92 : decode bM_lock 92 = .ok (.goto (-29), 3) := by decide +kernel
theorem dM_lock_95 : decode bM_lock 95 = .ok (.lload_n 3, 1) := by decide +kernel
theorem dM_lock_96 : decode bM_lock 96 = .ok (.aload_n 0, 1) := by decide +kernel
theorem dM_lock_97 : decode bM_lock 97 = .ok (.getfield 13, 3) := by decide +kernel
theorem dM_lock_100 : decode bM_lock 100 = .ok (.iload_n 1, 1) := by decide +kernel
theorem dM_lock_101 : decode bM_lock 101 = .ok (.iaload, 1) := by decide +kernel
theorem dM_lock_102 : decode bM_lock 102 = .ok (.i2l, 1) := by decide +kernel
theorem dM_lock_103 : decode bM_lock 103 = .ok (.ldiv, 1) := by decide +kernel
theorem dM_lock_104 : decode bM_lock 104 = .ok (.aload_n 0, 1) := by decide +kernel
theorem dM_lock_105 : decode bM_lock 105 = .ok (.getfield 45, 3) := by decide +kernel
theorem dM_lock_108 : decode bM_lock 108 = .ok (.i2l, 1) := by decide +kernel
theorem dM_lock_109 : decode bM_lock 109 = .ok (.lmul, 1) := by decide +kernel
theorem dM_lock_110 : decode bM_lock 110 = .ok (.ldc2_w 110, 3) := by decide +kernel
theorem dM_lock_113 : decode bM_lock 113 = .ok (.ldiv, 1) := by decide +kernel
theorem dM_lock_114 : decode bM_lock 114 = .ok (.lstore 5, 2) := by decide +kernel
theorem dM_lock_116 : decode bM_lock 116 = .ok (.iconst 0, 1) := by decide +kernel
theorem dM_lock_117 : decode bM_lock 117 = .ok (.istore 7, 2) := by decide +kernel
theorem dM_lock_119 : decode bM_lock 119 = .ok (.iload 7, 2) := by decide +kernel
theorem dM_lock_121 : decode bM_lock 121 = .ok (.aload_n 0, 1) := by decide +kernel
theorem dM_lock_122 : decode bM_lock 122 = .ok (.getfield 131, 3) := by decide +kernel
theorem dM_lock_125 : decode bM_lock 125 = .ok (.if_icmp .ge 84, 3) := by decide +kernel
theorem dM_lock_128 : decode bM_lock 128 = .ok (.iconst 0, 1) := by decide +kernel
theorem dM_lock_129 : decode bM_lock 129 = .ok (.istore 8, 2) := by decide +kernel
theorem dM_lock_131 : decode bM_lock 131 = .ok (.iload 8, 2) := by decide +kernel
theorem dM_lock_133 : decode bM_lock 133 = .ok (.aload_n 0, 1) := by decide +kernel
theorem dM_lock_134 : decode bM_lock 134 = .ok (.getfield 13, 3) := by decide +kernel
theorem dM_lock_137 : decode bM_lock 137 = .ok (.aload_n 0, 1) := by decide +kernel
theorem dM_lock_138 : decode bM_lock 138 = .ok (.getfield 35, 3) := by decide +kernel
theorem dM_lock_141 : decode bM_lock 141 = .ok (.iload 7, 2) := by decide +kernel
theorem dM_lock_143 : decode bM_lock 143 = .ok (.iaload, 1) := by decide +kernel
theorem dM_lock_144 : decode bM_lock 144 = .ok (.iaload, 1) := by decide +kernel
theorem dM_lock_145 : decode bM_lock 145 = .ok (.if_icmp .ge 58, 3) := by decide +kernel
theorem dM_lock_148 : decode bM_lock 148 = .ok (.bipush 10, 2) := by decide +kernel
theorem dM_lock_150 : decode bM_lock 150 = .ok (.aload_n 0, 1) := by decide +kernel
theorem dM_lock_151 : decode bM_lock 151 = .ok (.getfield 35, 3) := by decide +kernel
theorem dM_lock_154 : decode bM_lock 154 = .ok (.iload 7, 2) := by decide +kernel
theorem dM_lock_156 : decode bM_lock 156 = .ok (.iaload, 1) := by decide +kernel
theorem dM_lock_157 : decode bM_lock 157 = .ok (.imul, 1) := by decide +kernel
theorem dM_lock_158 : decode bM_lock 158 = .ok (.iload 8, 2) := by decide +kernel
theorem dM_lock_160 : decode bM_lock 160 = .ok (.iadd, 1) := by decide +kernel
theorem dM_lock_161 : decode bM_lock 161 = .ok (.istore 9, 2) := by decide +kernel
theorem dM_lock_163 : decode bM_lock 163 = .ok (.aload_n 0, 1) := by decide +kernel
theorem dM_lock_164 : decode bM_lock 164 = .ok (.getfield 31, 3) := by decide +kernel
theorem dM_lock_167 : decode bM_lock 167 = .ok (.iload 9, 2) := by decide +kernel
theorem dM_lock_169 : decode bM_lock 169 = .ok (.aload_n 0, 1) := by decide +kernel
theorem dM_lock_170 : decode bM_lock 170 = .ok (.getfield 31, 3) := by decide +kernel
theorem dM_lock_173 : decode bM_lock 173 = .ok (.iload 9, 2) := by decide +kernel
theorem dM_lock_175 : decode bM_lock 175 = .ok (.laload, 1) := by decide +kernel
theorem dM_lock_176 : decode bM_lock 176 = .ok (.lload 5, 2) := by decide +kernel
theorem dM_lock_178 : decode bM_lock 178 = .ok (.lcmp, 1) := by decide +kernel
theorem dM_lock_179 : decode bM_lock 179 = .ok (.ifCond .ge 7, 3) := by decide +kernel
theorem dM_lock_182 : decode bM_lock 182 = .ok (.lconst 0, 1) := by decide +kernel
theorem dM_lock_183 : decode bM_lock 183 = .ok (.goto 13, 3) := by decide +kernel
theorem dM_lock_186 : decode bM_lock 186 = .ok (.aload_n 0, 1) := by decide +kernel
theorem dM_lock_187 : decode bM_lock 187 = .ok (.getfield 31, 3) := by decide +kernel
theorem dM_lock_190 : decode bM_lock 190 = .ok (.iload 9, 2) := by decide +kernel
theorem dM_lock_192 : decode bM_lock 192 = .ok (.laload, 1) := by decide +kernel
theorem dM_lock_193 : decode bM_lock 193 = .ok (.lload 5, 2) := by decide +kernel
theorem dM_lock_195 : decode bM_lock 195 = .ok (.lsub, 1) := by decide +kernel
theorem dM_lock_196 : decode bM_lock 196 = .ok (.lastore, 1) := by decide +kernel
theorem dM_lock_197 : decode bM_lock 197 = .ok (.iinc 8 1, 3) := by decide +kernel
theorem dM_lock_200 : decode bM_lock 200 = .ok (.goto (-69), 3) := by decide +kernel
theorem dM_lock_203 : decode bM_lock 203 = .ok (.iinc 7 1, 3) := by decide +kernel
theorem dM_lock_206 : decode bM_lock 206 = .ok (.goto (-87), 3) := by decide +kernel
theorem dM_lock_209 : decode bM_lock 209 = .ok (.aload_n 0, 1) := by decide +kernel
theorem dM_lock_210 : decode bM_lock 210 = .ok (.getfield 16, 3) := by decide +kernel
theorem dM_lock_213 : decode bM_lock 213 = .ok (.iload_n 1, 1) := by decide +kernel
theorem dM_lock_214 : decode bM_lock 214 = .ok (.iconst 2, 1) := by decide +kernel
theorem dM_lock_215 : decode bM_lock 215 = .ok (.iastore, 1) := by decide +kernel
theorem dM_lock_216 : decode bM_lock 216 = .ok (.aload_n 0, 1) := by decide +kernel
theorem dM_lock_217 : decode bM_lock 217 = .ok (.getfield 35, 3) := by decide +kernel
theorem dM_lock_220 : decode bM_lock 220 = .ok (.aload_n 0, 1) := by decide +kernel
theorem dM_lock_221 : decode bM_lock 221 = .ok (.getfield 131, 3) := by decide +kernel
theorem dM_lock_224 : decode bM_lock 224 = .ok (.iload_n 1, 1) := by decide +kernel
theorem dM_lock_225 : decode bM_lock 225 = .ok (.iastore, 1) := by decide +kernel
theorem dM_lock_226 : decode bM_lock 226 = .ok (.aload_n 0, 1) := by decide +kernel
theorem dM_lock_227 : decode bM_lock 227 = .ok (.dup, 1) := by decide +kernel
theorem dM_lock_228 : decode bM_lock 228 = .ok (.getfield 131, 3) := by decide +kernel
theorem dM_lock_231 : decode bM_lock 231 = .ok (.iconst 1, 1) := by decide +kernel
theorem dM_lock_232 : decode bM_lock 232 = .ok (.iadd, 1) := by decide +kernel
theorem dM_lock_233 : decode bM_lock 233 = .ok (.putfield 131, 3) := by decide +kernel
theorem dM_lock_236 : decode bM_lock 236 = .ok (.iload_n 2, 1) := by decide +kernel
theorem dM_lock_237 : decode bM_lock 237 = .ok (.aload_n 0, 1) := by decide +kernel
theorem dM_lock_238 : decode bM_lock 238 = .ok (.iload_n 1, 1) := by decide +kernel
theorem dM_lock_239 : decode bM_lock 239 = .ok (.invokevirtual 119, 3) := by decide +kernel
theorem dM_lock_242 : decode bM_lock 242 = .ok (.isub, 1) := by decide +kernel
theorem dM_lock_243 : decode bM_lock 243 = .ok (.ireturn, 1) := by decide +kernel
theorem dM_cut_0 : decode bM_cut 0 = .ok (.aload_n 0, 1) := by decide +kernel
theorem dM_cut_1 : decode bM_cut 1 = .ok (.iload_n 1, 1) := by decide +kernel
theorem dM_cut_2 : decode bM_cut 2 = .ok (.invokevirtual 134, 3) := by decide +kernel
theorem dM_cut_5 : decode bM_cut 5 = .ok (.ifCond .ne 5, 3) := by decide +kernel
theorem dM_cut_8 : decode bM_cut 8 = .ok (.iconst 0, 1) := by decide +kernel
theorem dM_cut_9 : decode bM_cut 9 = .ok (.ireturn, 1) := by decide +kernel
theorem dM_cut_10 : decode bM_cut 10 = .ok (.iconst 0, 1) := by decide +kernel
theorem dM_cut_11 : decode bM_cut 11 = .ok (.istore_n 2, 1) := by decide +kernel
theorem dM_cut_12 : decode bM_cut 12 = .ok (.iconst 0, 1) := by decide +kernel
theorem dM_cut_13 : decode bM_cut 13 = .ok (.istore_n 3, 1) := by decide +kernel
theorem dM_cut_14 : decode bM_cut 14 = .ok (.iload_n 3, 1) := by decide +kernel
theorem dM_cut_15 : decode bM_cut 15 = .ok (.aload_n 0, 1) := by decide +kernel
theorem dM_cut_16 : decode bM_cut 16 = .ok (.getfield 131, 3) := by decide +kernel
theorem dM_cut_19 : decode bM_cut 19 = .ok (.if_icmp .ge 34, 3) := by decide +kernel
theorem dM_cut_22 : decode bM_cut 22 = .ok (.aload_n 0, 1) := by decide +kernel
theorem dM_cut_23 : decode bM_cut 23 = .ok (.getfield 35, 3) := by decide +kernel
theorem dM_cut_26 : decode bM_cut 26 = .ok (.iload_n 3, 1) := by decide +kernel
theorem dM_cut_27 : decode bM_cut 27 = .ok (.iaload, 1) := by decide +kernel
theorem dM_cut_28 : decode bM_cut 28 = .ok (.iload_n 1, 1) := by decide +kernel
theorem dM_cut_29 : decode bM_cut 29 = .ok (.if_icmp .eq 18, 3) := by decide +kernel
theorem dM_cut_32 : decode bM_cut 32 = .ok (.aload_n 0, 1) := by decide +kernel
theorem dM_cut_33 : decode bM_cut 33 = .ok (.getfield 35, 3) := by decide +kernel
theorem dM_cut_36 : decode bM_cut 36 = .ok (.iload_n 2, 1) := by decide +kernel
theorem dM_cut_37 : decode bM_cut 37 = .ok (.aload_n 0, 1) := by decide +kernel
theorem dM_cut_38 : decode bM_cut 38 = .ok (.getfield 35, 3) := by decide +kernel
theorem dM_cut_41 : decode bM_cut 41 = .ok (.iload_n 3, 1) := by decide +kernel
theorem dM_cut_42 : decode bM_cut 42 = .ok (.iaload, 1) := by decide +kernel
theorem dM_cut_43 : decode bM_cut 43 = .ok (.iastore, 1) := by decide +kernel
theorem dM_cut_44 : decode bM_cut 44 = .ok (.iinc 2 1, 3) := by decide +kernel
theorem dM_cut_47 : decode bM_cut 47 = .ok (.iinc 3 1, 3) := by decide +kernel
theorem dM_cut_50 : decode bM_cut 50 = .ok (.goto (-36), 3) := by decide +kernel
theorem dM_cut_53 : decode bM_cut 53 = .ok (.aload_n 0, 1) := by decide +kernel
theorem dM_cut_54 : decode bM_cut 54 = .ok (.iload_n 2, 1) := by decide +kernel
theorem dM_cut_55 : decode bM_cut 55 = .ok (.putfield 131, 3) := by decide +kernel
theorem dM_cut_58 : decode bM_cut 58 = .ok (.aload_n 0, 1) := by decide +kernel
theorem dM_cut_59 : decode bM_cut 59 = .ok (.getfield 16, 3) := by decide +kernel
theorem dM_cut_62 : decode bM_cut 62 = .ok (.iload_n 1, 1) := by decide +kernel
theorem dM_cut_63 : decode bM_cut 63 = .ok (.iconst 0, 1) := by decide +kernel
theorem dM_cut_64 : decode bM_cut 64 = .ok (.iastore, 1) := by decide +kernel
theorem dM_cut_65 : decode bM_cut 65 = .ok (.iconst 1, 1) := by decide +kernel
theorem dM_cut_66 : decode bM_cut 66 = .ok (.ireturn, 1) := by decide +kernel
theorem dM_days_0 : decode bM_days 0 = .ok (.iload_n 1, 1) := by decide +kernel
theorem dM_days_1 : decode bM_days 1 = .ok (.iconst 1, 1) := by decide +kernel
theorem dM_days_2 : decode bM_days 2 = .ok (.sipush 1000, 3) := by decide +kernel
theorem dM_days_5 : decode bM_days 5 = .ok (.invokestatic 63, 3) := by decide +kernel
theorem dM_days_8 : decode bM_days 8 = .ok (.ifCond .ne 5, 3) := by decide +kernel
theorem dM_days_11 : decode bM_days 11 = .ok (.iconst (-1), 1) := by decide +kernel
theorem dM_days_12 : decode bM_days 12 = .ok (.ireturn, 1) := by decide +kernel
theorem dM_days_13 : decode bM_days 13 = .ok (.iconst 0, 1) := by decide +kernel
theorem dM_days_14 : decode bM_days 14 = .ok (.istore_n 2, 1) := by decide +kernel
theorem dM_days_15 : decode bM_days 15 = .ok (.iload_n 2, 1) := by decide +kernel
theorem dM_days_16 : decode bM_days 16 = .ok (.iload_n 1, 1) := by decide +kernel
theorem dM_days_17 : decode bM_days 17 = .ok (.if_icmp .ge 96, 3) := by decide +kernel
theorem dM_days_20 : decode bM_days 20 = .ok (.iconst 0, 1) := by decide +kernel
theorem dM_days_21 : decode bM_days 21 = .ok (.istore_n 3, 1) := by decide +kernel
theorem dM_days_22 : decode bM_days 22 = .ok (.iload_n 3, 1) := by decide +kernel
theorem dM_days_23 : decode bM_days 23 = .ok (.aload_n 0, 1) := by decide +kernel
theorem dM_days_24 : decode bM_days 24 = .ok (.getfield 131, 3) := by decide +kernel
theorem dM_days_27 : decode bM_days 27 = .ok (.if_icmp .ge 80, 3) := by decide +kernel
theorem dM_days_30 : decode bM_days 30 = .ok (.iconst 0, 1) := by decide +kernel
theorem dM_days_31 : decode bM_days 31 = .ok (.istore 4, 2) := by decide +kernel
theorem dM_days_33 : decode bM_days 33 = .ok (.iload 4, 2) := by decide +kernel
theorem dM_days_35 : decode bM_days 35 = .ok (.aload_n 0, 1) := by decide +kernel
theorem dM_days_36 : decode bM_days 36 = .ok (.getfield 13, 3) := by decide +kernel
theorem dM_days_39 : decode bM_days 39 = .ok (.aload_n 0, 1) := by decide +kernel
theorem dM_days_40 : decode bM_days 40 = .ok (.getfield 35, 3) := by decide +kernel
theorem dM_days_43 : decode bM_days 43 = .ok (.iload_n 3, 1) := by decide +kernel
theorem dM_days_44 : decode bM_days 44 = .ok (.iaload, 1) := by decide +kernel
theorem dM_days_45 : decode bM_days 45 = .ok (.iaload, 1) := by decide +kernel
theorem dM_days_46 : decode bM_days 46 = .ok (.if_icmp .ge 55, 3) := by decide +kernel
theorem dM_days_49 : decode bM_days 49 = .ok (.bipush 10, 2) := by decide +kernel
theorem dM_days_51 : decode bM_days 51 = .ok (.aload_n 0, 1) := by decide +kernel
theorem dM_days_52 : decode bM_days 52 = .ok (.getfield 35, 3) := by decide +kernel
theorem dM_days_55 : decode bM_days 55 = .ok (.iload_n 3, 1) := by decide +kernel
theorem dM_days_56 : decode bM_days 56 = .ok (.iaload, 1) := by decide +kernel
theorem dM_days_57 : decode bM_days 57 = .ok (.imul, 1) := by decide +kernel
theorem dM_days_58 : decode bM_days 58 = .ok (.iload 4, 2) := by decide +kernel
theorem dM_days_60 : decode bM_days 60 = .ok (.iadd, 1) := by decide +kernel
theorem dM_days_61 : decode bM_days 61 = .ok (.istore 5, 2) := by decide +kernel
theorem dM_days_63 : decode bM_days 63 = .ok (.aload_n 0, 1) := by decide +kernel
theorem dM_days_64 : decode bM_days 64 = .ok (.getfield 31, 3) := by decide +kernel
theorem dM_days_67 : decode bM_days 67 = .ok (.iload 5, 2) := by decide +kernel
theorem dM_days_69 : decode bM_days 69 = .ok (.aload_n 0, 1) := by decide +kernel
theorem dM_days_70 : decode bM_days 70 = .ok (.getfield 31, 3) := by decide +kernel
theorem dM_days_73 : decode bM_days 73 = .ok (.iload 5, 2) := by decide +kernel
theorem dM_days_75 : decode bM_days 75 = .ok (.laload, 1) := by decide +kernel
theorem dM_days_76 : decode bM_days 76 = .ok (.aload_n 0, 1) := by decide +kernel
theorem dM_days_77 : decode bM_days 77 = .ok (.getfield 31, 3) := by decide +kernel
theorem dM_days_80 : decode bM_days 80 = .ok (.iload 5, 2) := by decide +kernel
theorem dM_days_82 : decode bM_days 82 = .ok (.laload, 1) := by decide +kernel
theorem dM_days_83 : decode bM_days 83 = .ok (.aload_n 0, 1) := by decide +kernel
theorem dM_days_84 : decode bM_days 84 = .ok (.getfield 48, 3) := by decide +kernel
theorem dM_days_87 : decode bM_days 87 = .ok (.i2l, 1) := by decide +kernel
theorem dM_days_88 : decode bM_days 88 = .ok (.lmul, 1) := by decide +kernel
theorem dM_days_89 : decode bM_days 89 = .ok (.ldc2_w 89, 3) := by decide +kernel
theorem dM_days_92 : decode bM_days 92 = .ok (.ldiv, 1) := by decide +kernel
theorem dM_days_93 : decode bM_days 93 = .ok (.lsub, 1) := by decide +kernel
theorem dM_days_94 : decode bM_days 94 = .ok (.lastore, 1) := by decide +kernel
theorem dM_days_95 : decode bM_days 95 = .ok (.iinc 4 1, 3) := by decide +kernel
theorem dM_days_98 : decode bM_days 98 = .ok (.goto (-65), 3) := by decide +kernel
theorem dM_days_101 : decode bM_days 101 = .ok (.iinc 3 1, 3) := by decide +kernel
theorem dM_days_104 : decode bM_days 104 = .ok (.goto (-82), 3) := by decide +kernel
theorem dM_days_107 : decode bM_days 107 = .ok (.iinc 2 1, 3) := by decide +kernel
theorem dM_days_110 : decode bM_days 110 = .ok (.goto (-95), 3) := by decide +kernel
theorem dM_days_113 : decode bM_days 113 = .ok (.aload_n 0, 1) := by decide +kernel
theorem dM_days_114 : decode bM_days 114 = .ok (.aload_n 0, 1) := by decide +kernel
theorem dM_days_115 : decode bM_days 115 = .ok (.getfield 137, 3) := by decide +kernel
theorem dM_days_118 : decode bM_days 118 = .ok (.iload_n 1, 1) := by decide +kernel
theorem dM_days_119 : decode bM_days 119 = .ok (.iadd, 1) := by decide +kernel
theorem dM_days_120 : decode bM_days 120 = .ok (.putfield 137, 3) := by decide +kernel
theorem dM_days_123 : decode bM_days 123 = .ok (.aload_n 0, 1) := by decide +kernel
theorem dM_days_124 : decode bM_days 124 = .ok (.getfield 137, 3) := by decide +kernel
theorem dM_days_127 : decode bM_days 127 = .ok (.ireturn, 1) := by decide +kernel
theorem dM_force_0 : decode bM_force 0 = .ok (.aload_n 0, 1) := by decide +kernel
theorem dM_force_1 : decode bM_force 1 = .ok (.iload_n 1, 1) := by decide +kernel
theorem dM_force_2 : decode bM_force 2 = .ok (.invokevirtual 134, 3) := by decide +kernel
theorem dM_force_5 : decode bM_force 5 = .ok (.ifCond .eq 34, 3) := by decide +kernel
theorem dM_force_8 : decode bM_force 8 = .ok (.iload_n 2, 1) := by decide +kernel
theorem dM_force_9 : decode bM_force 9 = .ok (.iconst 0, 1) := by decide +kernel
theorem dM_force_10 : decode bM_force 10 = .ok (.aload_n 0, 1) := by decide +kernel
theorem dM_force_11 : decode bM_force 11 = .ok (.getfield 13, 3) := by decide +kernel
theorem dM_force_14 : decode bM_force 14 = .ok (.iload_n 1, 1) := by decide +kernel
theorem dM_force_15 : decode bM_force 15 = .ok (.iaload, 1) := by decide +kernel
theorem dM_force_16 : decode bM_force 16 = .ok (.iconst 1, 1) := by decide +kernel
theorem dM_force_17 : decode bM_force 17 = .ok (.isub, 1) := by decide +kernel
theorem dM_force_18 : decode bM_force 18 = .ok (.invokestatic 63, 3) := by decide +kernel
theorem dM_force_21 : decode bM_force 21 = .ok (.ifCond .eq 18, 3) := by decide +kernel
theorem dM_force_24 : decode bM_force 24 = .ok (.aload_n 0, 1) := by decide +kernel
theorem dM_force_25 : decode bM_force 25 = .ok (.getfield 31, 3) := by decide +kernel
theorem dM_force_28 : decode bM_force 28 = .ok (.bipush 10, 2) := by decide +kernel
theorem dM_force_30 : decode bM_force 30 = .ok (.iload_n 1, 1) := by decide +kernel
theorem dM_force_31 : decode bM_force 31 = .ok (.imul, 1) := by decide +kernel
theorem dM_force_32 : decode bM_force 32 = .ok (.iload_n 2, 1) := by decide +kernel
theorem dM_force_33 : decode bM_force 33 = .ok (.iadd, 1) := by decide +kernel
theorem dM_force_34 : decode bM_force 34 = .ok (.laload, 1) := by decide +kernel
theorem dM_force_35 : decode bM_force 35 = .ok (.l2i, 1) := by decide +kernel
theorem dM_force_36 : decode bM_force 36 = .ok (.goto 4, 3) := by decide +kernel
theorem dM_force_39 : decode bM_force 39 = .ok (.iconst (-1), 1) := by decide +kernel
theorem dM_force_40 : decode bM_force 40 = .ok (.ireturn, 1) := by decide +kernel
theorem dM_at_0 : decode bM_at 0 = .ok (.aload_n 0, 1) := by decide +kernel
theorem dM_at_1 : decode bM_at 1 = .ok (.iload_n 1, 1) := by decide +kernel
theorem dM_at_2 : decode bM_at 2 = .ok (.invokevirtual 134, 3) := by decide +kernel
theorem dM_at_5 : decode bM_at 5 = .ok (.ifCond .ne 5, 3) := by decide +kernel
theorem dM_at_8 : decode bM_at 8 = .ok (.iconst (-1), 1) := by decide +kernel
theorem dM_at_9 : decode bM_at 9 = .ok (.ireturn, 1) := by decide +kernel
theorem dM_at_10 : decode bM_at 10 = .ok (.iconst 0, 1) := by decide +kernel
theorem dM_at_11 : decode bM_at 11 = .ok (.istore_n 3, 1) := by decide +kernel
theorem dM_at_12 : decode bM_at 12 = .ok (.iload_n 3, 1) := by decide +kernel
theorem dM_at_13 : decode bM_at 13 = .ok (.iconst 1, 1) := by decide +kernel
theorem dM_at_14 : decode bM_at 14 = .ok (.iadd, 1) := by decide +kernel
theorem dM_at_15 : decode bM_at 15 = .ok (.aload_n 0, 1) := by decide +kernel
theorem dM_at_16 : decode bM_at 16 = .ok (.getfield 13, 3) := by decide +kernel
theorem dM_at_19 : decode bM_at 19 = .ok (.iload_n 1, 1) := by decide +kernel
end
section
theorem dM_at_20 : decode bM_at 20 = .ok (.iaload, 1) := by decide +kernel
theorem dM_at_21 : decode bM_at 21 = .ok (.if_icmp .ge 97, 3) := by decide +kernel
theorem dM_at_24 : decode bM_at 24 = .ok (.bipush 10, 2) := by decide +kernel
theorem dM_at_26 : decode bM_at 26 = .ok (.iload_n 1, 1) := by decide +kernel
theorem dM_at_27 : decode bM_at 27 = .ok (.imul, 1) := by decide +kernel
theorem dM_at_28 : decode bM_at 28 = .ok (.iload_n 3, 1) := by decide +kernel
theorem dM_at_29 : decode bM_at 29 = .ok (.iadd, 1) := by decide +kernel
theorem dM_at_30 : decode bM_at 30 = .ok (.istore 4, 2) := by decide +kernel
theorem dM_at_32 : decode bM_at 32 = .ok (.iload_n 2, 1) := by decide +kernel
theorem dM_at_33 : decode bM_at 33 = .ok (.aload_n 0, 1) := by decide +kernel
theorem dM_at_34 : decode bM_at 34 = .ok (.getfield 25, 3) := by decide +kernel
theorem dM_at_37 : decode bM_at 37 = .ok (.iload 4, 2) := by decide +kernel
theorem dM_at_39 : decode bM_at 39 = .ok (.iaload, 1) := by decide +kernel
theorem dM_at_40 : decode bM_at 40 = .ok (.aload_n 0, 1) := by decide +kernel
theorem dM_at_41 : decode bM_at 41 = .ok (.getfield 25, 3) := by decide +kernel
theorem dM_at_44 : decode bM_at 44 = .ok (.iload 4, 2) := by decide +kernel
theorem dM_at_46 : decode bM_at 46 = .ok (.iconst 1, 1) := by decide +kernel
theorem dM_at_47 : decode bM_at 47 = .ok (.iadd, 1) := by decide +kernel
theorem dM_at_48 : decode bM_at 48 = .ok (.iaload, 1) := by decide +kernel
theorem dM_at_49 : decode bM_at 49 = .ok (.invokestatic 63, 3) := by decide +kernel
theorem dM_at_52 : decode bM_at 52 = .ok (.ifCond .eq 60, 3) := by decide +kernel
theorem dM_at_55 : decode bM_at 55 = .ok (.aload_n 0, 1) := by decide +kernel
theorem dM_at_56 : decode bM_at 56 = .ok (.getfield 31, 3) := by decide +kernel
theorem dM_at_59 : decode bM_at 59 = .ok (.iload 4, 2) := by decide +kernel
theorem dM_at_61 : decode bM_at 61 = .ok (.laload, 1) := by decide +kernel
theorem dM_at_62 : decode bM_at 62 = .ok (.aload_n 0, 1) := by decide +kernel
theorem dM_at_63 : decode bM_at 63 = .ok (.getfield 31, 3) := by decide +kernel
theorem dM_at_66 : decode bM_at 66 = .ok (.iload 4, 2) := by decide +kernel
theorem dM_at_68 : decode bM_at 68 = .ok (.iconst 1, 1) := by decide +kernel
theorem dM_at_69 : decode bM_at 69 = .ok (.iadd, 1) := by decide +kernel
theorem dM_at_70 : decode bM_at 70 = .ok (.laload, 1) := by decide +kernel
theorem dM_at_71 : decode bM_at 71 = .ok (.aload_n 0, 1) := by decide +kernel
theorem dM_at_72 : decode bM_at 72 = .ok (.getfield 31, 3) := by decide +kernel
theorem dM_at_75 : decode bM_at 75 = .ok (.iload 4, 2) := by decide +kernel
theorem dM_at_77 : decode bM_at 77 = .ok (.laload, 1) := by decide +kernel
theorem dM_at_78 : decode bM_at 78 = .ok (.lsub, 1) := by decide +kernel
theorem dM_at_79 : decode bM_at 79 = .ok (.iload_n 2, 1) := by decide +kernel
theorem dM_at_80 : decode bM_at 80 = .ok (.aload_n 0, 1) := by decide +kernel
theorem dM_at_81 : decode bM_at 81 = .ok (.getfield 25, 3) := by decide +kernel
theorem dM_at_84 : decode bM_at 84 = .ok (.iload 4, 2) := by decide +kernel
theorem dM_at_86 : decode bM_at 86 = .ok (.iaload, 1) := by decide +kernel
theorem dM_at_87 : decode bM_at 87 = .ok (.isub, 1) := by decide +kernel
theorem dM_at_88 : decode bM_at 88 = .ok (.i2l, 1) := by decide +kernel
theorem dM_at_89 : decode bM_at 89 = .ok (.lmul, 1) := by decide +kernel
theorem dM_at_90 : decode bM_at 90 = .ok (.aload_n 0, 1) := by decide +kernel
theorem dM_at_91 : decode bM_at 91 = .ok (.getfield 25, 3) := by decide +kernel
theorem dM_at_94 : decode bM_at 94 = .ok (.iload 4, 2) := by decide +kernel
theorem dM_at_96 : decode bM_at 96 = .ok (.iconst 1, 1) := by decide +kernel
theorem dM_at_97 : decode bM_at 97 = .ok (.iadd, 1) := by decide +kernel
theorem dM_at_98 : decode bM_at 98 = .ok (.iaload, 1) := by decide +kernel
theorem dM_at_99 : decode bM_at 99 = .ok (.aload_n 0, 1) := by decide +kernel
theorem dM_at_100 : decode bM_at 100 = .ok (.getfield 25, 3) := by decide +kernel
theorem dM_at_103 : decode bM_at 103 = .ok (.iload 4, 2) := by decide +kernel
theorem dM_at_105 : decode bM_at 105 = .ok (.iaload, 1) := by decide +kernel
theorem dM_at_106 : decode bM_at 106 = .ok (.isub, 1) := by decide +kernel
theorem dM_at_107 : decode bM_at 107 = .ok (.i2l, 1) := by decide +kernel
theorem dM_at_108 : decode bM_at 108 = .ok (.ldiv, 1) := by decide +kernel
theorem dM_at_109 : decode bM_at 109 = .ok (.ladd, 1) := by decide +kernel
theorem dM_at_110 : decode bM_at 110 = .ok (.l2i, 1) := by decide +kernel
theorem dM_at_111 : decode bM_at 111 = .ok (.ireturn, 1) := by decide +kernel
theorem dM_at_112 : decode bM_at 112 = .ok (.iinc 3 1, 3) := by decide +kernel
theorem dM_at_115 : decode bM_at 115 = .ok (.goto (-103), 3) := by decide +kernel
theorem dM_at_118 : decode bM_at 118 = .ok (.iconst (-1), 1) := by decide +kernel
theorem dM_at_119 : decode bM_at 119 = .ok (.ireturn, 1) := by decide +kernel
theorem dM_longer_0 : decode bM_longer 0 = .ok (.aload_n 0, 1) := by decide +kernel
theorem dM_longer_1 : decode bM_longer 1 = .ok (.iload_n 1, 1) := by decide +kernel
theorem dM_longer_2 : decode bM_longer 2 = .ok (.invokevirtual 134, 3) := by decide +kernel
theorem dM_longer_5 : decode bM_longer 5 = .ok (.ifCond .eq 11, 3) := by decide +kernel
theorem dM_longer_8 : decode bM_longer 8 = .ok (.aload_n 0, 1) := by decide +kernel
theorem dM_longer_9 : decode bM_longer 9 = .ok (.iload_n 1, 1) := by decide +kernel
theorem dM_longer_10 : decode bM_longer 10 = .ok (.invokevirtual 119, 3) := by decide +kernel
theorem dM_longer_13 : decode bM_longer 13 = .ok (.goto 4, 3) := by decide +kernel
theorem dM_longer_16 : decode bM_longer 16 = .ok (.iconst (-1), 1) := by decide +kernel
theorem dM_longer_17 : decode bM_longer 17 = .ok (.ireturn, 1) := by decide +kernel
theorem dM_piece_0 : decode bM_piece 0 = .ok (.aload_n 0, 1) := by decide +kernel
theorem dM_piece_1 : decode bM_piece 1 = .ok (.iload_n 1, 1) := by decide +kernel
theorem dM_piece_2 : decode bM_piece 2 = .ok (.invokevirtual 67, 3) := by decide +kernel
theorem dM_piece_5 : decode bM_piece 5 = .ok (.ifCond .eq 28, 3) := by decide +kernel
theorem dM_piece_8 : decode bM_piece 8 = .ok (.iload_n 2, 1) := by decide +kernel
theorem dM_piece_9 : decode bM_piece 9 = .ok (.iconst 0, 1) := by decide +kernel
theorem dM_piece_10 : decode bM_piece 10 = .ok (.aload_n 0, 1) := by decide +kernel
theorem dM_piece_11 : decode bM_piece 11 = .ok (.getfield 13, 3) := by decide +kernel
theorem dM_piece_14 : decode bM_piece 14 = .ok (.iload_n 1, 1) := by decide +kernel
theorem dM_piece_15 : decode bM_piece 15 = .ok (.iaload, 1) := by decide +kernel
theorem dM_piece_16 : decode bM_piece 16 = .ok (.iconst 2, 1) := by decide +kernel
theorem dM_piece_17 : decode bM_piece 17 = .ok (.isub, 1) := by decide +kernel
theorem dM_piece_18 : decode bM_piece 18 = .ok (.invokestatic 63, 3) := by decide +kernel
theorem dM_piece_21 : decode bM_piece 21 = .ok (.ifCond .eq 12, 3) := by decide +kernel
theorem dM_piece_24 : decode bM_piece 24 = .ok (.iload_n 3, 1) := by decide +kernel
theorem dM_piece_25 : decode bM_piece 25 = .ok (.iconst 0, 1) := by decide +kernel
theorem dM_piece_26 : decode bM_piece 26 = .ok (.iconst 2, 1) := by decide +kernel
theorem dM_piece_27 : decode bM_piece 27 = .ok (.invokestatic 63, 3) := by decide +kernel
theorem dM_piece_30 : decode bM_piece 30 = .ok (.ifCond .ne 5, 3) := by decide +kernel
theorem dM_piece_33 : decode bM_piece 33 = .ok (.iconst (-1), 1) := by decide +kernel
theorem dM_piece_34 : decode bM_piece 34 = .ok (.ireturn, 1) := by decide +kernel
theorem dM_piece_35 : decode bM_piece 35 = .ok (.iload_n 3, 1) := by decide +kernel
theorem dM_piece_36 : decode bM_piece 36 = .ok (.ifCond .ne 13, 3) := by decide +kernel
theorem dM_piece_39 : decode bM_piece 39 = .ok (.aload_n 0, 1) := by decide +kernel
theorem dM_piece_40 : decode bM_piece 40 = .ok (.iload_n 1, 1) := by decide +kernel
theorem dM_piece_41 : decode bM_piece 41 = .ok (.iload_n 2, 1) := by decide +kernel
theorem dM_piece_42 : decode bM_piece 42 = .ok (.invokevirtual 91, 3) := by decide +kernel
theorem dM_piece_45 : decode bM_piece 45 = .ok (.l2i, 1) := by decide +kernel
theorem dM_piece_46 : decode bM_piece 46 = .ok (.goto 25, 3) := by decide +kernel
theorem dM_piece_49 : decode bM_piece 49 = .ok (.iload_n 3, 1) := by decide +kernel
theorem dM_piece_50 : decode bM_piece 50 = .ok (.iconst 1, 1) := by decide +kernel
theorem dM_piece_51 : decode bM_piece 51 = .ok (.if_icmp .ne 12, 3) := by decide +kernel
theorem dM_piece_54 : decode bM_piece 54 = .ok (.aload_n 0, 1) := by decide +kernel
theorem dM_piece_55 : decode bM_piece 55 = .ok (.iload_n 1, 1) := by decide +kernel
theorem dM_piece_56 : decode bM_piece 56 = .ok (.iload_n 2, 1) := by decide +kernel
theorem dM_piece_57 : decode bM_piece 57 = .ok (.invokevirtual 83, 3) := by decide +kernel
theorem dM_piece_60 : decode bM_piece 60 = .ok (.goto 11, 3) := by decide +kernel
theorem dM_piece_63 : decode bM_piece 63 = .ok (.aload_n 0, 1) := by decide +kernel
theorem dM_piece_64 : decode bM_piece 64 = .ok (.iload_n 1, 1) := by decide +kernel
theorem dM_piece_65 : decode bM_piece 65 = .ok (.iload_n 2, 1) := by decide +kernel
theorem dM_piece_66 : decode bM_piece 66 = .ok (.iconst 1, 1) := by decide +kernel
theorem dM_piece_67 : decode bM_piece 67 = .ok (.iadd, 1) := by decide +kernel
theorem dM_piece_68 : decode bM_piece 68 = .ok (.invokevirtual 99, 3) := by decide +kernel
theorem dM_piece_71 : decode bM_piece 71 = .ok (.ireturn, 1) := by decide +kernel
theorem dM_presses_0 : decode bM_presses 0 = .ok (.aload_n 0, 1) := by decide +kernel
theorem dM_presses_1 : decode bM_presses 1 = .ok (.iload_n 1, 1) := by decide +kernel
theorem dM_presses_2 : decode bM_presses 2 = .ok (.invokevirtual 134, 3) := by decide +kernel
theorem dM_presses_5 : decode bM_presses 5 = .ok (.ifCond .eq 19, 3) := by decide +kernel
theorem dM_presses_8 : decode bM_presses 8 = .ok (.iload_n 2, 1) := by decide +kernel
theorem dM_presses_9 : decode bM_presses 9 = .ok (.iconst 1, 1) := by decide +kernel
theorem dM_presses_10 : decode bM_presses 10 = .ok (.aload_n 0, 1) := by decide +kernel
theorem dM_presses_11 : decode bM_presses 11 = .ok (.getfield 13, 3) := by decide +kernel
theorem dM_presses_14 : decode bM_presses 14 = .ok (.iload_n 1, 1) := by decide +kernel
theorem dM_presses_15 : decode bM_presses 15 = .ok (.iaload, 1) := by decide +kernel
theorem dM_presses_16 : decode bM_presses 16 = .ok (.iconst 2, 1) := by decide +kernel
theorem dM_presses_17 : decode bM_presses 17 = .ok (.isub, 1) := by decide +kernel
theorem dM_presses_18 : decode bM_presses 18 = .ok (.invokestatic 63, 3) := by decide +kernel
theorem dM_presses_21 : decode bM_presses 21 = .ok (.ifCond .ne 6, 3) := by decide +kernel
theorem dM_presses_24 : decode bM_presses 24 = .ok (.ldc 140, 2) := by decide +kernel
theorem dM_presses_26 : decode bM_presses 26 = .ok (.ireturn, 1) := by decide +kernel
theorem dM_presses_27 : decode bM_presses 27 = .ok (.aload_n 0, 1) := by decide +kernel
theorem dM_presses_28 : decode bM_presses 28 = .ok (.iload_n 1, 1) := by decide +kernel
theorem dM_presses_29 : decode bM_presses 29 = .ok (.iload_n 2, 1) := by decide +kernel
theorem dM_presses_30 : decode bM_presses 30 = .ok (.invokevirtual 83, 3) := by decide +kernel
theorem dM_presses_33 : decode bM_presses 33 = .ok (.aload_n 0, 1) := by decide +kernel
theorem dM_presses_34 : decode bM_presses 34 = .ok (.iload_n 1, 1) := by decide +kernel
theorem dM_presses_35 : decode bM_presses 35 = .ok (.iload_n 2, 1) := by decide +kernel
theorem dM_presses_36 : decode bM_presses 36 = .ok (.iconst 1, 1) := by decide +kernel
theorem dM_presses_37 : decode bM_presses 37 = .ok (.isub, 1) := by decide +kernel
theorem dM_presses_38 : decode bM_presses 38 = .ok (.invokevirtual 83, 3) := by decide +kernel
theorem dM_presses_41 : decode bM_presses 41 = .ok (.isub, 1) := by decide +kernel
theorem dM_presses_42 : decode bM_presses 42 = .ok (.i2l, 1) := by decide +kernel
theorem dM_presses_43 : decode bM_presses 43 = .ok (.lstore_n 3, 1) := by decide +kernel
theorem dM_presses_44 : decode bM_presses 44 = .ok (.aload_n 0, 1) := by decide +kernel
theorem dM_presses_45 : decode bM_presses 45 = .ok (.getfield 31, 3) := by decide +kernel
theorem dM_presses_48 : decode bM_presses 48 = .ok (.bipush 10, 2) := by decide +kernel
theorem dM_presses_50 : decode bM_presses 50 = .ok (.iload_n 1, 1) := by decide +kernel
theorem dM_presses_51 : decode bM_presses 51 = .ok (.imul, 1) := by decide +kernel
theorem dM_presses_52 : decode bM_presses 52 = .ok (.iload_n 2, 1) := by decide +kernel
theorem dM_presses_53 : decode bM_presses 53 = .ok (.iadd, 1) := by decide +kernel
theorem dM_presses_54 : decode bM_presses 54 = .ok (.laload, 1) := by decide +kernel
theorem dM_presses_55 : decode bM_presses 55 = .ok (.lload_n 3, 1) := by decide +kernel
theorem dM_presses_56 : decode bM_presses 56 = .ok (.lmul, 1) := by decide +kernel
theorem dM_presses_57 : decode bM_presses 57 = .ok (.ldc2_w 110, 3) := by decide +kernel
theorem dM_presses_60 : decode bM_presses 60 = .ok (.ldiv, 1) := by decide +kernel
theorem dM_presses_61 : decode bM_presses 61 = .ok (.l2i, 1) := by decide +kernel
theorem dM_presses_62 : decode bM_presses 62 = .ok (.ireturn, 1) := by decide +kernel
theorem dM_pieceAt_0 : decode bM_pieceAt 0 = .ok (.iconst 0, 1) := by decide +kernel
theorem dM_pieceAt_1 : decode bM_pieceAt 1 = .ok (.istore_n 3, 1) := by decide +kernel
theorem dM_pieceAt_2 : decode bM_pieceAt 2 = .ok (.iload_n 3, 1) := by decide +kernel
theorem dM_pieceAt_3 : decode bM_pieceAt 3 = .ok (.iconst 2, 1) := by decide +kernel
theorem dM_pieceAt_4 : decode bM_pieceAt 4 = .ok (.iadd, 1) := by decide +kernel
theorem dM_pieceAt_5 : decode bM_pieceAt 5 = .ok (.aload_n 0, 1) := by decide +kernel
theorem dM_pieceAt_6 : decode bM_pieceAt 6 = .ok (.getfield 13, 3) := by decide +kernel
theorem dM_pieceAt_9 : decode bM_pieceAt 9 = .ok (.iload_n 1, 1) := by decide +kernel
theorem dM_pieceAt_10 : decode bM_pieceAt 10 = .ok (.iaload, 1) := by decide +kernel
theorem dM_pieceAt_11 : decode bM_pieceAt 11 = .ok (.if_icmp .ge 26, 3) := by decide +kernel
theorem dM_pieceAt_14 : decode bM_pieceAt 14 = .ok (.iload_n 2, 1) := by decide +kernel
theorem dM_pieceAt_15 : decode bM_pieceAt 15 = .ok (.aload_n 0, 1) := by decide +kernel
theorem dM_pieceAt_16 : decode bM_pieceAt 16 = .ok (.getfield 25, 3) := by decide +kernel
theorem dM_pieceAt_19 : decode bM_pieceAt 19 = .ok (.bipush 10, 2) := by decide +kernel
theorem dM_pieceAt_21 : decode bM_pieceAt 21 = .ok (.iload_n 1, 1) := by decide +kernel
theorem dM_pieceAt_22 : decode bM_pieceAt 22 = .ok (.imul, 1) := by decide +kernel
theorem dM_pieceAt_23 : decode bM_pieceAt 23 = .ok (.iload_n 3, 1) := by decide +kernel
theorem dM_pieceAt_24 : decode bM_pieceAt 24 = .ok (.iadd, 1) := by decide +kernel
theorem dM_pieceAt_25 : decode bM_pieceAt 25 = .ok (.iconst 1, 1) := by decide +kernel
theorem dM_pieceAt_26 : decode bM_pieceAt 26 = .ok (.iadd, 1) := by decide +kernel
theorem dM_pieceAt_27 : decode bM_pieceAt 27 = .ok (.iaload, 1) := by decide +kernel
theorem dM_pieceAt_28 : decode bM_pieceAt 28 = .ok (.if_icmp .le 9, 3) := by decide +kernel
theorem dM_pieceAt_31 : decode bM_pieceAt 31 = .ok (.iinc 3 1, 3) := by decide +kernel
theorem dM_pieceAt_34 : decode bM_pieceAt 34 = .ok (.goto (-32), 3) := by decide +kernel
theorem dM_pieceAt_37 : decode bM_pieceAt 37 = .ok (.bipush 10, 2) := by decide +kernel
theorem dM_pieceAt_39 : decode bM_pieceAt 39 = .ok (.iload_n 1, 1) := by decide +kernel
theorem dM_pieceAt_40 : decode bM_pieceAt 40 = .ok (.imul, 1) := by decide +kernel
theorem dM_pieceAt_41 : decode bM_pieceAt 41 = .ok (.iload_n 3, 1) := by decide +kernel
theorem dM_pieceAt_42 : decode bM_pieceAt 42 = .ok (.iadd, 1) := by decide +kernel
theorem dM_pieceAt_43 : decode bM_pieceAt 43 = .ok (.ireturn, 1) := by decide +kernel
theorem dM_apart_0 : decode bM_apart 0 = .ok (.aload_n 0, 1) := by decide +kernel
theorem dM_apart_1 : decode bM_apart 1 = .ok (.iload_n 1, 1) := by decide +kernel
theorem dM_apart_2 : decode bM_apart 2 = .ok (.iload_n 3, 1) := by decide +kernel
theorem dM_apart_3 : decode bM_apart 3 = .ok (.invokevirtual 141, 3) := by decide +kernel
theorem dM_apart_6 : decode bM_apart 6 = .ok (.istore 4, 2) := by decide +kernel
theorem dM_apart_8 : decode bM_apart 8 = .ok (.aload_n 0, 1) := by decide +kernel
theorem dM_apart_9 : decode bM_apart 9 = .ok (.iload_n 2, 1) := by decide +kernel
theorem dM_apart_10 : decode bM_apart 10 = .ok (.iload_n 3, 1) := by decide +kernel
theorem dM_apart_11 : decode bM_apart 11 = .ok (.invokevirtual 141, 3) := by decide +kernel
theorem dM_apart_14 : decode bM_apart 14 = .ok (.istore 5, 2) := by decide +kernel
theorem dM_apart_16 : decode bM_apart 16 = .ok (.aload_n 0, 1) := by decide +kernel
theorem dM_apart_17 : decode bM_apart 17 = .ok (.getfield 25, 3) := by decide +kernel
theorem dM_apart_20 : decode bM_apart 20 = .ok (.iload 4, 2) := by decide +kernel
theorem dM_apart_22 : decode bM_apart 22 = .ok (.iconst 1, 1) := by decide +kernel
theorem dM_apart_23 : decode bM_apart 23 = .ok (.iadd, 1) := by decide +kernel
theorem dM_apart_24 : decode bM_apart 24 = .ok (.iaload, 1) := by decide +kernel
theorem dM_apart_25 : decode bM_apart 25 = .ok (.aload_n 0, 1) := by decide +kernel
theorem dM_apart_26 : decode bM_apart 26 = .ok (.getfield 25, 3) := by decide +kernel
theorem dM_apart_29 : decode bM_apart 29 = .ok (.iload 4, 2) := by decide +kernel
theorem dM_apart_31 : decode bM_apart 31 = .ok (.iaload, 1) := by decide +kernel
theorem dM_apart_32 : decode bM_apart 32 = .ok (.isub, 1) := by decide +kernel
theorem dM_apart_33 : decode bM_apart 33 = .ok (.i2l, 1) := by decide +kernel
theorem dM_apart_34 : decode bM_apart 34 = .ok (.lstore 6, 2) := by decide +kernel
theorem dM_apart_36 : decode bM_apart 36 = .ok (.aload_n 0, 1) := by decide +kernel
theorem dM_apart_37 : decode bM_apart 37 = .ok (.getfield 25, 3) := by decide +kernel
theorem dM_apart_40 : decode bM_apart 40 = .ok (.iload 5, 2) := by decide +kernel
theorem dM_apart_42 : decode bM_apart 42 = .ok (.iconst 1, 1) := by decide +kernel
theorem dM_apart_43 : decode bM_apart 43 = .ok (.iadd, 1) := by decide +kernel
theorem dM_apart_44 : decode bM_apart 44 = .ok (.iaload, 1) := by decide +kernel
theorem dM_apart_45 : decode bM_apart 45 = .ok (.aload_n 0, 1) := by decide +kernel
theorem dM_apart_46 : decode bM_apart 46 = .ok (.getfield 25, 3) := by decide +kernel
theorem dM_apart_49 : decode bM_apart 49 = .ok (.iload 5, 2) := by decide +kernel
theorem dM_apart_51 : decode bM_apart 51 = .ok (.iaload, 1) := by decide +kernel
theorem dM_apart_52 : decode bM_apart 52 = .ok (.isub, 1) := by decide +kernel
theorem dM_apart_53 : decode bM_apart 53 = .ok (.i2l, 1) := by decide +kernel
theorem dM_apart_54 : decode bM_apart 54 = .ok (.lstore 8, 2) := by decide +kernel
theorem dM_apart_56 : decode bM_apart 56 = .ok (.aload_n 0, 1) := by decide +kernel
theorem dM_apart_57 : decode bM_apart 57 = .ok (.getfield 28, 3) := by decide +kernel
theorem dM_apart_60 : decode bM_apart 60 = .ok (.iload 4, 2) := by decide +kernel
theorem dM_apart_62 : decode bM_apart 62 = .ok (.iaload, 1) := by decide +kernel
theorem dM_apart_63 : decode bM_apart 63 = .ok (.i2l, 1) := by decide +kernel
theorem dM_apart_64 : decode bM_apart 64 = .ok (.lload 6, 2) := by decide +kernel
theorem dM_apart_66 : decode bM_apart 66 = .ok (.lmul, 1) := by decide +kernel
theorem dM_apart_67 : decode bM_apart 67 = .ok (.aload_n 0, 1) := by decide +kernel
theorem dM_apart_68 : decode bM_apart 68 = .ok (.getfield 28, 3) := by decide +kernel
theorem dM_apart_71 : decode bM_apart 71 = .ok (.iload 4, 2) := by decide +kernel
theorem dM_apart_73 : decode bM_apart 73 = .ok (.iconst 1, 1) := by decide +kernel
theorem dM_apart_74 : decode bM_apart 74 = .ok (.iadd, 1) := by decide +kernel
theorem dM_apart_75 : decode bM_apart 75 = .ok (.iaload, 1) := by decide +kernel
theorem dM_apart_76 : decode bM_apart 76 = .ok (.aload_n 0, 1) := by decide +kernel
theorem dM_apart_77 : decode bM_apart 77 = .ok (.getfield 28, 3) := by decide +kernel
theorem dM_apart_80 : decode bM_apart 80 = .ok (.iload 4, 2) := by decide +kernel
theorem dM_apart_82 : decode bM_apart 82 = .ok (.iaload, 1) := by decide +kernel
theorem dM_apart_83 : decode bM_apart 83 = .ok (.isub, 1) := by decide +kernel
theorem dM_apart_84 : decode bM_apart 84 = .ok (.i2l, 1) := by decide +kernel
theorem dM_apart_85 : decode bM_apart 85 = .ok (.iload_n 3, 1) := by decide +kernel
theorem dM_apart_86 : decode bM_apart 86 = .ok (.aload_n 0, 1) := by decide +kernel
theorem dM_apart_87 : decode bM_apart 87 = .ok (.getfield 25, 3) := by decide +kernel
theorem dM_apart_90 : decode bM_apart 90 = .ok (.iload 4, 2) := by decide +kernel
theorem dM_apart_92 : decode bM_apart 92 = .ok (.iaload, 1) := by decide +kernel
theorem dM_apart_93 : decode bM_apart 93 = .ok (.isub, 1) := by decide +kernel
theorem dM_apart_94 : decode bM_apart 94 = .ok (.i2l, 1) := by decide +kernel
theorem dM_apart_95 : decode bM_apart 95 = .ok (.lmul, 1) := by decide +kernel
theorem dM_apart_96 : decode bM_apart 96 = .ok (.ladd, 1) := by decide +kernel
theorem dM_apart_97 : decode bM_apart 97 = .ok (.lstore 10, 2) := by decide +kernel
theorem dM_apart_99 : decode bM_apart 99 = .ok (.aload_n 0, 1) := by decide +kernel
theorem dM_apart_100 : decode bM_apart 100 = .ok (.getfield 28, 3) := by decide +kernel
theorem dM_apart_103 : decode bM_apart 103 = .ok (.iload 5, 2) := by decide +kernel
theorem dM_apart_105 : decode bM_apart 105 = .ok (.iaload, 1) := by decide +kernel
theorem dM_apart_106 : decode bM_apart 106 = .ok (.i2l, 1) := by decide +kernel
theorem dM_apart_107 : decode bM_apart 107 = .ok (.lload 8, 2) := by decide +kernel
theorem dM_apart_109 : decode bM_apart 109 = .ok (.lmul, 1) := by decide +kernel
theorem dM_apart_110 : decode bM_apart 110 = .ok (.aload_n 0, 1) := by decide +kernel
theorem dM_apart_111 : decode bM_apart 111 = .ok (.getfield 28, 3) := by decide +kernel
theorem dM_apart_114 : decode bM_apart 114 = .ok (.iload 5, 2) := by decide +kernel
theorem dM_apart_116 : decode bM_apart 116 = .ok (.iconst 1, 1) := by decide +kernel
theorem dM_apart_117 : decode bM_apart 117 = .ok (.iadd, 1) := by decide +kernel
theorem dM_apart_118 : decode bM_apart 118 = .ok (.iaload, 1) := by decide +kernel
theorem dM_apart_119 : decode bM_apart 119 = .ok (.aload_n 0, 1) := by decide +kernel
theorem dM_apart_120 : decode bM_apart 120 = .ok (.getfield 28, 3) := by decide +kernel
theorem dM_apart_123 : decode bM_apart 123 = .ok (.iload 5, 2) := by decide +kernel
theorem dM_apart_125 : decode bM_apart 125 = .ok (.iaload, 1) := by decide +kernel
theorem dM_apart_126 : decode bM_apart 126 = .ok (.isub, 1) := by decide +kernel
theorem dM_apart_127 : decode bM_apart 127 = .ok (.i2l, 1) := by decide +kernel
theorem dM_apart_128 : decode bM_apart 128 = .ok (.iload_n 3, 1) := by decide +kernel
theorem dM_apart_129 : decode bM_apart 129 = .ok (.aload_n 0, 1) := by decide +kernel
theorem dM_apart_130 : decode bM_apart 130 = .ok (.getfield 25, 3) := by decide +kernel
theorem dM_apart_133 : decode bM_apart 133 = .ok (.iload 5, 2) := by decide +kernel
theorem dM_apart_135 : decode bM_apart 135 = .ok (.iaload, 1) := by decide +kernel
theorem dM_apart_136 : decode bM_apart 136 = .ok (.isub, 1) := by decide +kernel
theorem dM_apart_137 : decode bM_apart 137 = .ok (.i2l, 1) := by decide +kernel
theorem dM_apart_138 : decode bM_apart 138 = .ok (.lmul, 1) := by decide +kernel
theorem dM_apart_139 : decode bM_apart 139 = .ok (.ladd, 1) := by decide +kernel
theorem dM_apart_140 : decode bM_apart 140 = .ok (.lstore 12, 2) := by decide +kernel
theorem dM_apart_142 : decode bM_apart 142 = .ok (.lload 10, 2) := by decide +kernel
theorem dM_apart_144 : decode bM_apart 144 = .ok (.lload 8, 2) := by decide +kernel
theorem dM_apart_146 : decode bM_apart 146 = .ok (.lmul, 1) := by decide +kernel
theorem dM_apart_147 : decode bM_apart 147 = .ok (.lload 12, 2) := by decide +kernel
theorem dM_apart_149 : decode bM_apart 149 = .ok (.lload 6, 2) := by decide +kernel
theorem dM_apart_151 : decode bM_apart 151 = .ok (.lmul, 1) := by decide +kernel
theorem dM_apart_152 : decode bM_apart 152 = .ok (.lsub, 1) := by decide +kernel
theorem dM_apart_153 : decode bM_apart 153 = .ok (.lreturn, 1) := by decide +kernel
theorem dM_unit_0 : decode bM_unit 0 = .ok (.aload_n 0, 1) := by decide +kernel
theorem dM_unit_1 : decode bM_unit 1 = .ok (.iload_n 1, 1) := by decide +kernel
theorem dM_unit_2 : decode bM_unit 2 = .ok (.iload_n 3, 1) := by decide +kernel
theorem dM_unit_3 : decode bM_unit 3 = .ok (.invokevirtual 141, 3) := by decide +kernel
theorem dM_unit_6 : decode bM_unit 6 = .ok (.istore 4, 2) := by decide +kernel
theorem dM_unit_8 : decode bM_unit 8 = .ok (.aload_n 0, 1) := by decide +kernel
theorem dM_unit_9 : decode bM_unit 9 = .ok (.iload_n 2, 1) := by decide +kernel
theorem dM_unit_10 : decode bM_unit 10 = .ok (.iload_n 3, 1) := by decide +kernel
theorem dM_unit_11 : decode bM_unit 11 = .ok (.invokevirtual 141, 3) := by decide +kernel
theorem dM_unit_14 : decode bM_unit 14 = .ok (.istore 5, 2) := by decide +kernel
theorem dM_unit_16 : decode bM_unit 16 = .ok (.aload_n 0, 1) := by decide +kernel
theorem dM_unit_17 : decode bM_unit 17 = .ok (.getfield 25, 3) := by decide +kernel
theorem dM_unit_20 : decode bM_unit 20 = .ok (.iload 4, 2) := by decide +kernel
theorem dM_unit_22 : decode bM_unit 22 = .ok (.iconst 1, 1) := by decide +kernel
theorem dM_unit_23 : decode bM_unit 23 = .ok (.iadd, 1) := by decide +kernel
theorem dM_unit_24 : decode bM_unit 24 = .ok (.iaload, 1) := by decide +kernel
theorem dM_unit_25 : decode bM_unit 25 = .ok (.aload_n 0, 1) := by decide +kernel
theorem dM_unit_26 : decode bM_unit 26 = .ok (.getfield 25, 3) := by decide +kernel
theorem dM_unit_29 : decode bM_unit 29 = .ok (.iload 4, 2) := by decide +kernel
theorem dM_unit_31 : decode bM_unit 31 = .ok (.iaload, 1) := by decide +kernel
theorem dM_unit_32 : decode bM_unit 32 = .ok (.isub, 1) := by decide +kernel
theorem dM_unit_33 : decode bM_unit 33 = .ok (.i2l, 1) := by decide +kernel
theorem dM_unit_34 : decode bM_unit 34 = .ok (.aload_n 0, 1) := by decide +kernel
theorem dM_unit_35 : decode bM_unit 35 = .ok (.getfield 25, 3) := by decide +kernel
theorem dM_unit_38 : decode bM_unit 38 = .ok (.iload 5, 2) := by decide +kernel
theorem dM_unit_40 : decode bM_unit 40 = .ok (.iconst 1, 1) := by decide +kernel
theorem dM_unit_41 : decode bM_unit 41 = .ok (.iadd, 1) := by decide +kernel
theorem dM_unit_42 : decode bM_unit 42 = .ok (.iaload, 1) := by decide +kernel
theorem dM_unit_43 : decode bM_unit 43 = .ok (.aload_n 0, 1) := by decide +kernel
theorem dM_unit_44 : decode bM_unit 44 = .ok (.getfield 25, 3) := by decide +kernel
theorem dM_unit_47 : decode bM_unit 47 = .ok (.iload 5, 2) := by decide +kernel
theorem dM_unit_49 : decode bM_unit 49 = .ok (.iaload, 1) := by decide +kernel
theorem dM_unit_50 : decode bM_unit 50 = .ok (.isub, 1) := by decide +kernel
theorem dM_unit_51 : decode bM_unit 51 = .ok (.i2l, 1) := by decide +kernel
theorem dM_unit_52 : decode bM_unit 52 = .ok (.lmul, 1) := by decide +kernel
theorem dM_unit_53 : decode bM_unit 53 = .ok (.lreturn, 1) := by decide +kernel
theorem dM_clash_0 : decode bM_clash 0 = .ok (.aload_n 0, 1) := by decide +kernel
theorem dM_clash_1 : decode bM_clash 1 = .ok (.iload_n 1, 1) := by decide +kernel
theorem dM_clash_2 : decode bM_clash 2 = .ok (.invokevirtual 67, 3) := by decide +kernel
theorem dM_clash_5 : decode bM_clash 5 = .ok (.ifCond .eq 47, 3) := by decide +kernel
theorem dM_clash_8 : decode bM_clash 8 = .ok (.aload_n 0, 1) := by decide +kernel
theorem dM_clash_9 : decode bM_clash 9 = .ok (.iload_n 2, 1) := by decide +kernel
theorem dM_clash_10 : decode bM_clash 10 = .ok (.invokevirtual 67, 3) := by decide +kernel
theorem dM_clash_13 : decode bM_clash 13 = .ok (.ifCond .eq 39, 3) := by decide +kernel
theorem dM_clash_16 : decode bM_clash 16 = .ok (.iload_n 1, 1) := by decide +kernel
theorem dM_clash_17 : decode bM_clash 17 = .ok (.iload_n 2, 1) := by decide +kernel
theorem dM_clash_18 : decode bM_clash 18 = .ok (.if_icmp .eq 34, 3) := by decide +kernel
theorem dM_clash_21 : decode bM_clash 21 = .ok (.aload_n 0, 1) := by decide +kernel
theorem dM_clash_22 : decode bM_clash 22 = .ok (.getfield 13, 3) := by decide +kernel
theorem dM_clash_25 : decode bM_clash 25 = .ok (.iload_n 1, 1) := by decide +kernel
theorem dM_clash_26 : decode bM_clash 26 = .ok (.iaload, 1) := by decide +kernel
theorem dM_clash_27 : decode bM_clash 27 = .ok (.iconst 2, 1) := by decide +kernel
theorem dM_clash_28 : decode bM_clash 28 = .ok (.if_icmp .lt 24, 3) := by decide +kernel
theorem dM_clash_31 : decode bM_clash 31 = .ok (.aload_n 0, 1) := by decide +kernel
theorem dM_clash_32 : decode bM_clash 32 = .ok (.getfield 13, 3) := by decide +kernel
theorem dM_clash_35 : decode bM_clash 35 = .ok (.iload_n 2, 1) := by decide +kernel
theorem dM_clash_36 : decode bM_clash 36 = .ok (.iaload, 1) := by decide +kernel
theorem dM_clash_37 : decode bM_clash 37 = .ok (.iconst 2, 1) := by decide +kernel
theorem dM_clash_38 : decode bM_clash 38 = .ok (.if_icmp .lt 14, 3) := by decide +kernel
theorem dM_clash_41 : decode bM_clash 41 = .ok (.iload_n 3, 1) := by decide +kernel
theorem dM_clash_42 : decode bM_clash 42 = .ok (.iconst 1, 1) := by decide +kernel
theorem dM_clash_43 : decode bM_clash 43 = .ok (.sipush 1000, 3) := by decide +kernel
theorem dM_clash_46 : decode bM_clash 46 = .ok (.invokestatic 63, 3) := by decide +kernel
theorem dM_clash_49 : decode bM_clash 49 = .ok (.ifCond .ne 5, 3) := by decide +kernel
theorem dM_clash_52 : decode bM_clash 52 = .ok (.iconst 0, 1) := by decide +kernel
theorem dM_clash_53 : decode bM_clash 53 = .ok (.ireturn, 1) := by decide +kernel
theorem dM_clash_54 : decode bM_clash 54 = .ok (.aload_n 0, 1) := by decide +kernel
theorem dM_clash_55 : decode bM_clash 55 = .ok (.getfield 25, 3) := by decide +kernel
theorem dM_clash_58 : decode bM_clash 58 = .ok (.bipush 10, 2) := by decide +kernel
theorem dM_clash_60 : decode bM_clash 60 = .ok (.iload_n 1, 1) := by decide +kernel
theorem dM_clash_61 : decode bM_clash 61 = .ok (.imul, 1) := by decide +kernel
theorem dM_clash_62 : decode bM_clash 62 = .ok (.iaload, 1) := by decide +kernel
theorem dM_clash_63 : decode bM_clash 63 = .ok (.aload_n 0, 1) := by decide +kernel
theorem dM_clash_64 : decode bM_clash 64 = .ok (.getfield 25, 3) := by decide +kernel
theorem dM_clash_67 : decode bM_clash 67 = .ok (.bipush 10, 2) := by decide +kernel
theorem dM_clash_69 : decode bM_clash 69 = .ok (.iload_n 2, 1) := by decide +kernel
theorem dM_clash_70 : decode bM_clash 70 = .ok (.imul, 1) := by decide +kernel
theorem dM_clash_71 : decode bM_clash 71 = .ok (.iaload, 1) := by decide +kernel
theorem dM_clash_72 : decode bM_clash 72 = .ok (.if_icmp .le 15, 3) := by decide +kernel
theorem dM_clash_75 : decode bM_clash 75 = .ok (.aload_n 0, 1) := by decide +kernel
theorem dM_clash_76 : decode bM_clash 76 = .ok (.getfield 25, 3) := by decide +kernel
theorem dM_clash_79 : decode bM_clash 79 = .ok (.bipush 10, 2) := by decide +kernel
theorem dM_clash_81 : decode bM_clash 81 = .ok (.iload_n 1, 1) := by decide +kernel
theorem dM_clash_82 : decode bM_clash 82 = .ok (.imul, 1) := by decide +kernel
theorem dM_clash_83 : decode bM_clash 83 = .ok (.iaload, 1) := by decide +kernel
theorem dM_clash_84 : decode bM_clash 84 = .ok (.goto 12, 3) := by decide +kernel
theorem dM_clash_87 : decode bM_clash 87 = .ok (.aload_n 0, 1) := by decide +kernel
theorem dM_clash_88 : decode bM_clash 88 = .ok (.getfield 25, 3) := by decide +kernel
theorem dM_clash_91 : decode bM_clash 91 = .ok (.bipush 10, 2) := by decide +kernel
theorem dM_clash_93 : decode bM_clash 93 = .ok (.iload_n 2, 1) := by decide +kernel
theorem dM_clash_94 : decode bM_clash 94 = .ok (.imul, 1) := by decide +kernel
theorem dM_clash_95 : decode bM_clash 95 = .ok (.iaload, 1) := by decide +kernel
theorem dM_clash_96 : decode bM_clash 96 = .ok (.istore 4, 2) := by decide +kernel
theorem dM_clash_98 : decode bM_clash 98 = .ok (.aload_n 0, 1) := by decide +kernel
theorem dM_clash_99 : decode bM_clash 99 = .ok (.getfield 25, 3) := by decide +kernel
theorem dM_clash_102 : decode bM_clash 102 = .ok (.bipush 10, 2) := by decide +kernel
theorem dM_clash_104 : decode bM_clash 104 = .ok (.iload_n 1, 1) := by decide +kernel
theorem dM_clash_105 : decode bM_clash 105 = .ok (.imul, 1) := by decide +kernel
theorem dM_clash_106 : decode bM_clash 106 = .ok (.aload_n 0, 1) := by decide +kernel
theorem dM_clash_107 : decode bM_clash 107 = .ok (.getfield 13, 3) := by decide +kernel
theorem dM_clash_110 : decode bM_clash 110 = .ok (.iload_n 1, 1) := by decide +kernel
theorem dM_clash_111 : decode bM_clash 111 = .ok (.iaload, 1) := by decide +kernel
theorem dM_clash_112 : decode bM_clash 112 = .ok (.iadd, 1) := by decide +kernel
theorem dM_clash_113 : decode bM_clash 113 = .ok (.iconst 1, 1) := by decide +kernel
theorem dM_clash_114 : decode bM_clash 114 = .ok (.isub, 1) := by decide +kernel
theorem dM_clash_115 : decode bM_clash 115 = .ok (.iaload, 1) := by decide +kernel
theorem dM_clash_116 : decode bM_clash 116 = .ok (.istore 5, 2) := by decide +kernel
end
section
theorem dM_clash_118 : decode bM_clash 118 = .ok (.aload_n 0, 1) := by decide +kernel
theorem dM_clash_119 : decode bM_clash 119 = .ok (.getfield 25, 3) := by decide +kernel
theorem dM_clash_122 : decode bM_clash 122 = .ok (.bipush 10, 2) := by decide +kernel
theorem dM_clash_124 : decode bM_clash 124 = .ok (.iload_n 2, 1) := by decide +kernel
theorem dM_clash_125 : decode bM_clash 125 = .ok (.imul, 1) := by decide +kernel
theorem dM_clash_126 : decode bM_clash 126 = .ok (.aload_n 0, 1) := by decide +kernel
theorem dM_clash_127 : decode bM_clash 127 = .ok (.getfield 13, 3) := by decide +kernel
theorem dM_clash_130 : decode bM_clash 130 = .ok (.iload_n 2, 1) := by decide +kernel
theorem dM_clash_131 : decode bM_clash 131 = .ok (.iaload, 1) := by decide +kernel
theorem dM_clash_132 : decode bM_clash 132 = .ok (.iadd, 1) := by decide +kernel
theorem dM_clash_133 : decode bM_clash 133 = .ok (.iconst 1, 1) := by decide +kernel
theorem dM_clash_134 : decode bM_clash 134 = .ok (.isub, 1) := by decide +kernel
theorem dM_clash_135 : decode bM_clash 135 = .ok (.iaload, 1) := by decide +kernel
theorem dM_clash_136 : decode bM_clash 136 = .ok (.istore 6, 2) := by decide +kernel
theorem dM_clash_138 : decode bM_clash 138 = .ok (.iload 5, 2) := by decide +kernel
theorem dM_clash_140 : decode bM_clash 140 = .ok (.iload 6, 2) := by decide +kernel
theorem dM_clash_142 : decode bM_clash 142 = .ok (.if_icmp .ge 8, 3) := by decide +kernel
theorem dM_clash_145 : decode bM_clash 145 = .ok (.iload 5, 2) := by decide +kernel
theorem dM_clash_147 : decode bM_clash 147 = .ok (.goto 5, 3) := by decide +kernel
theorem dM_clash_150 : decode bM_clash 150 = .ok (.iload 6, 2) := by decide +kernel
theorem dM_clash_152 : decode bM_clash 152 = .ok (.istore 7, 2) := by decide +kernel
theorem dM_clash_154 : decode bM_clash 154 = .ok (.iconst 0, 1) := by decide +kernel
theorem dM_clash_155 : decode bM_clash 155 = .ok (.istore 8, 2) := by decide +kernel
theorem dM_clash_157 : decode bM_clash 157 = .ok (.iconst 0, 1) := by decide +kernel
theorem dM_clash_158 : decode bM_clash 158 = .ok (.istore 9, 2) := by decide +kernel
theorem dM_clash_160 : decode bM_clash 160 = .ok (.iconst 0, 1) := by decide +kernel
theorem dM_clash_161 : decode bM_clash 161 = .ok (.istore 10, 2) := by decide +kernel
theorem dM_clash_163 : decode bM_clash 163 = .ok (.iload 10, 2) := by decide +kernel
theorem dM_clash_165 : decode bM_clash 165 = .ok (.iconst 2, 1) := by decide +kernel
theorem dM_clash_166 : decode bM_clash 166 = .ok (.if_icmp .ge 149, 3) := by decide +kernel
theorem dM_clash_169 : decode bM_clash 169 = .ok (.iload 10, 2) := by decide +kernel
theorem dM_clash_171 : decode bM_clash 171 = .ok (.ifCond .ne 7, 3) := by decide +kernel
theorem dM_clash_174 : decode bM_clash 174 = .ok (.iload_n 1, 1) := by decide +kernel
theorem dM_clash_175 : decode bM_clash 175 = .ok (.goto 4, 3) := by decide +kernel
theorem dM_clash_178 : decode bM_clash 178 = .ok (.iload_n 2, 1) := by decide +kernel
theorem dM_clash_179 : decode bM_clash 179 = .ok (.istore 11, 2) := by decide +kernel
theorem dM_clash_181 : decode bM_clash 181 = .ok (.iconst 0, 1) := by decide +kernel
theorem dM_clash_182 : decode bM_clash 182 = .ok (.istore 12, 2) := by decide +kernel
theorem dM_clash_184 : decode bM_clash 184 = .ok (.iload 12, 2) := by decide +kernel
theorem dM_clash_186 : decode bM_clash 186 = .ok (.aload_n 0, 1) := by decide +kernel
theorem dM_clash_187 : decode bM_clash 187 = .ok (.getfield 13, 3) := by decide +kernel
theorem dM_clash_190 : decode bM_clash 190 = .ok (.iload 11, 2) := by decide +kernel
theorem dM_clash_192 : decode bM_clash 192 = .ok (.iaload, 1) := by decide +kernel
theorem dM_clash_193 : decode bM_clash 193 = .ok (.if_icmp .ge 116, 3) := by decide +kernel
theorem dM_clash_196 : decode bM_clash 196 = .ok (.aload_n 0, 1) := by decide +kernel
theorem dM_clash_197 : decode bM_clash 197 = .ok (.getfield 25, 3) := by decide +kernel
theorem dM_clash_200 : decode bM_clash 200 = .ok (.bipush 10, 2) := by decide +kernel
theorem dM_clash_202 : decode bM_clash 202 = .ok (.iload 11, 2) := by decide +kernel
theorem dM_clash_204 : decode bM_clash 204 = .ok (.imul, 1) := by decide +kernel
theorem dM_clash_205 : decode bM_clash 205 = .ok (.iload 12, 2) := by decide +kernel
theorem dM_clash_207 : decode bM_clash 207 = .ok (.iadd, 1) := by decide +kernel
theorem dM_clash_208 : decode bM_clash 208 = .ok (.iaload, 1) := by decide +kernel
theorem dM_clash_209 : decode bM_clash 209 = .ok (.istore 13, 2) := by decide +kernel
theorem dM_clash_211 : decode bM_clash 211 = .ok (.iload 13, 2) := by decide +kernel
theorem dM_clash_213 : decode bM_clash 213 = .ok (.iload 4, 2) := by decide +kernel
theorem dM_clash_215 : decode bM_clash 215 = .ok (.iload 7, 2) := by decide +kernel
theorem dM_clash_217 : decode bM_clash 217 = .ok (.invokestatic 63, 3) := by decide +kernel
theorem dM_clash_220 : decode bM_clash 220 = .ok (.ifCond .eq 83, 3) := by decide +kernel
theorem dM_clash_223 : decode bM_clash 223 = .ok (.aload_n 0, 1) := by decide +kernel
theorem dM_clash_224 : decode bM_clash 224 = .ok (.iload_n 1, 1) := by decide +kernel
theorem dM_clash_225 : decode bM_clash 225 = .ok (.iload_n 2, 1) := by decide +kernel
theorem dM_clash_226 : decode bM_clash 226 = .ok (.iload 13, 2) := by decide +kernel
theorem dM_clash_228 : decode bM_clash 228 = .ok (.invokevirtual 144, 3) := by decide +kernel
theorem dM_clash_231 : decode bM_clash 231 = .ok (.lstore 14, 2) := by decide +kernel
theorem dM_clash_233 : decode bM_clash 233 = .ok (.iload 8, 2) := by decide +kernel
theorem dM_clash_235 : decode bM_clash 235 = .ok (.ifCond .ne 10, 3) := by decide +kernel
theorem dM_clash_238 : decode bM_clash 238 = .ok (.lload 14, 2) := by decide +kernel
theorem dM_clash_240 : decode bM_clash 240 = .ok (.lconst 0, 1) := by decide +kernel
theorem dM_clash_241 : decode bM_clash 241 = .ok (.lcmp, 1) := by decide +kernel
theorem dM_clash_242 : decode bM_clash 242 = .ok (.ifCond .le 7, 3) := by decide +kernel
theorem dM_clash_245 : decode bM_clash 245 = .ok (.iconst 1, 1) := by decide +kernel
theorem dM_clash_246 : decode bM_clash 246 = .ok (.goto 4, 3) := by decide +kernel
theorem dM_clash_249 : decode bM_clash 249 = .ok (.iconst 0, 1) := by decide +kernel
theorem dM_clash_250 : decode bM_clash 250 = .ok (.istore 8, 2) := by decide +kernel
theorem dM_clash_252 : decode bM_clash 252 = .ok (.iload 9, 2) := by decide +kernel
theorem dM_clash_254 : decode bM_clash 254 = .ok (.ifCond .ne 10, 3) := by decide +kernel
theorem dM_clash_257 : decode bM_clash 257 = .ok (.lload 14, 2) := by decide +kernel
theorem dM_clash_259 : decode bM_clash 259 = .ok (.lconst 0, 1) := by decide +kernel
theorem dM_clash_260 : decode bM_clash 260 = .ok (.lcmp, 1) := by decide +kernel
theorem dM_clash_261 : decode bM_clash 261 = .ok (.ifCond .ge 7, 3) := by decide +kernel
theorem dM_clash_264 : decode bM_clash 264 = .ok (.iconst 1, 1) := by decide +kernel
theorem dM_clash_265 : decode bM_clash 265 = .ok (.goto 4, 3) := by decide +kernel
theorem dM_clash_268 : decode bM_clash 268 = .ok (.iconst 0, 1) := by decide +kernel
theorem dM_clash_269 : decode bM_clash 269 = .ok (.istore 9, 2) := by decide +kernel
theorem dM_clash_271 : decode bM_clash 271 = .ok (.lload 14, 2) := by decide +kernel
theorem dM_clash_273 : decode bM_clash 273 = .ok (.lconst 0, 1) := by decide +kernel
theorem dM_clash_274 : decode bM_clash 274 = .ok (.lcmp, 1) := by decide +kernel
theorem dM_clash_275 : decode bM_clash 275 = .ok (.ifCond .ge 9, 3) := by decide +kernel
theorem dM_clash_278 : decode bM_clash 278 = .ok (.lload 14, 2) := by decide +kernel
theorem dM_clash_280 : decode bM_clash 280 = .ok (.lneg, 1) := by decide +kernel
theorem dM_clash_281 : decode bM_clash 281 = .ok (.goto 5, 3) := by decide +kernel
theorem dM_clash_284 : decode bM_clash 284 = .ok (.lload 14, 2) := by decide +kernel
theorem dM_clash_286 : decode bM_clash 286 = .ok (.iload_n 3, 1) := by decide +kernel
theorem dM_clash_287 : decode bM_clash 287 = .ok (.i2l, 1) := by decide +kernel
theorem dM_clash_288 : decode bM_clash 288 = .ok (.aload_n 0, 1) := by decide +kernel
theorem dM_clash_289 : decode bM_clash 289 = .ok (.iload_n 1, 1) := by decide +kernel
theorem dM_clash_290 : decode bM_clash 290 = .ok (.iload_n 2, 1) := by decide +kernel
theorem dM_clash_291 : decode bM_clash 291 = .ok (.iload 13, 2) := by decide +kernel
theorem dM_clash_293 : decode bM_clash 293 = .ok (.invokevirtual 148, 3) := by decide +kernel
theorem dM_clash_296 : decode bM_clash 296 = .ok (.lmul, 1) := by decide +kernel
theorem dM_clash_297 : decode bM_clash 297 = .ok (.lcmp, 1) := by decide +kernel
theorem dM_clash_298 : decode bM_clash 298 = .ok (.ifCond .ge 5, 3) := by decide +kernel
theorem dM_clash_301 : decode bM_clash 301 = .ok (.iconst 1, 1) := by decide +kernel
theorem dM_clash_302 : decode bM_clash 302 = .ok (.ireturn, 1) := by decide +kernel
theorem dM_clash_303 : decode bM_clash 303 = .ok (.iinc 12 1, 3) := by decide +kernel
theorem dM_clash_306 : decode bM_clash 306 = .ok (.goto (-122), 3) := by decide +kernel
theorem dM_clash_309 : decode bM_clash 309 = .ok (.iinc 10 1, 3) := by decide +kernel
theorem dM_clash_312 : decode bM_clash 312 = .ok (.goto (-149), 3) := by decide +kernel
theorem dM_clash_315 : decode bM_clash 315 = .ok (.iload 8, 2) := by decide +kernel
theorem dM_clash_317 : decode bM_clash 317 = .ok (.ifCond .eq 12, 3) := by decide +kernel
theorem dM_clash_320 : decode bM_clash 320 = .ok (.iload 9, 2) := by decide +kernel
theorem dM_clash_322 : decode bM_clash 322 = .ok (.ifCond .eq 7, 3) := by decide +kernel
theorem dM_clash_325 : decode bM_clash 325 = .ok (.iconst 1, 1) := by decide +kernel
theorem dM_clash_326 : decode bM_clash 326 = .ok (.goto 4, 3) := by decide +kernel
theorem dM_clash_329 : decode bM_clash 329 = .ok (.iconst 0, 1) := by decide +kernel
theorem dM_clash_330 : decode bM_clash 330 = .ok (.ireturn, 1) := by decide +kernel
theorem dM_locked_0 : decode bM_locked 0 = .ok (.iload_n 1, 1) := by decide +kernel
theorem dM_locked_1 : decode bM_locked 1 = .ok (.iconst 0, 1) := by decide +kernel
theorem dM_locked_2 : decode bM_locked 2 = .ok (.aload_n 0, 1) := by decide +kernel
theorem dM_locked_3 : decode bM_locked 3 = .ok (.getfield 131, 3) := by decide +kernel
theorem dM_locked_6 : decode bM_locked 6 = .ok (.iconst 1, 1) := by decide +kernel
theorem dM_locked_7 : decode bM_locked 7 = .ok (.isub, 1) := by decide +kernel
theorem dM_locked_8 : decode bM_locked 8 = .ok (.invokestatic 63, 3) := by decide +kernel
theorem dM_locked_11 : decode bM_locked 11 = .ok (.ifCond .eq 12, 3) := by decide +kernel
theorem dM_locked_14 : decode bM_locked 14 = .ok (.aload_n 0, 1) := by decide +kernel
theorem dM_locked_15 : decode bM_locked 15 = .ok (.getfield 35, 3) := by decide +kernel
theorem dM_locked_18 : decode bM_locked 18 = .ok (.iload_n 1, 1) := by decide +kernel
theorem dM_locked_19 : decode bM_locked 19 = .ok (.iaload, 1) := by decide +kernel
theorem dM_locked_20 : decode bM_locked 20 = .ok (.goto 4, 3) := by decide +kernel
theorem dM_locked_23 : decode bM_locked 23 = .ok (.iconst (-1), 1) := by decide +kernel
theorem dM_locked_24 : decode bM_locked 24 = .ok (.ireturn, 1) := by decide +kernel
theorem dM_wanted_0 : decode bM_wanted 0 = .ok (.aload_n 0, 1) := by decide +kernel
theorem dM_wanted_1 : decode bM_wanted 1 = .ok (.iload_n 1, 1) := by decide +kernel
theorem dM_wanted_2 : decode bM_wanted 2 = .ok (.invokevirtual 67, 3) := by decide +kernel
theorem dM_wanted_5 : decode bM_wanted 5 = .ok (.ifCond .eq 32, 3) := by decide +kernel
theorem dM_wanted_8 : decode bM_wanted 8 = .ok (.aload_n 0, 1) := by decide +kernel
theorem dM_wanted_9 : decode bM_wanted 9 = .ok (.getfield 13, 3) := by decide +kernel
theorem dM_wanted_12 : decode bM_wanted 12 = .ok (.iload_n 1, 1) := by decide +kernel
theorem dM_wanted_13 : decode bM_wanted 13 = .ok (.iaload, 1) := by decide +kernel
theorem dM_wanted_14 : decode bM_wanted 14 = .ok (.iconst 2, 1) := by decide +kernel
theorem dM_wanted_15 : decode bM_wanted 15 = .ok (.if_icmp .lt 22, 3) := by decide +kernel
theorem dM_wanted_18 : decode bM_wanted 18 = .ok (.iload_n 2, 1) := by decide +kernel
theorem dM_wanted_19 : decode bM_wanted 19 = .ok (.iconst 1, 1) := by decide +kernel
theorem dM_wanted_20 : decode bM_wanted 20 = .ok (.iconst 3, 1) := by decide +kernel
theorem dM_wanted_21 : decode bM_wanted 21 = .ok (.invokestatic 63, 3) := by decide +kernel
theorem dM_wanted_24 : decode bM_wanted 24 = .ok (.ifCond .eq 13, 3) := by decide +kernel
theorem dM_wanted_27 : decode bM_wanted 27 = .ok (.iload_n 3, 1) := by decide +kernel
theorem dM_wanted_28 : decode bM_wanted 28 = .ok (.iconst 1, 1) := by decide +kernel
theorem dM_wanted_29 : decode bM_wanted 29 = .ok (.ldc 151, 2) := by decide +kernel
theorem dM_wanted_31 : decode bM_wanted 31 = .ok (.invokestatic 63, 3) := by decide +kernel
theorem dM_wanted_34 : decode bM_wanted 34 = .ok (.ifCond .ne 5, 3) := by decide +kernel
theorem dM_wanted_37 : decode bM_wanted 37 = .ok (.iconst (-1), 1) := by decide +kernel
theorem dM_wanted_38 : decode bM_wanted 38 = .ok (.ireturn, 1) := by decide +kernel
theorem dM_wanted_39 : decode bM_wanted 39 = .ok (.iconst 0, 1) := by decide +kernel
theorem dM_wanted_40 : decode bM_wanted 40 = .ok (.istore 5, 2) := by decide +kernel
theorem dM_wanted_42 : decode bM_wanted 42 = .ok (.iload 5, 2) := by decide +kernel
theorem dM_wanted_44 : decode bM_wanted 44 = .ok (.bipush 51, 2) := by decide +kernel
theorem dM_wanted_46 : decode bM_wanted 46 = .ok (.if_icmp .ge 90, 3) := by decide +kernel
theorem dM_wanted_49 : decode bM_wanted 49 = .ok (.aload_n 0, 1) := by decide +kernel
theorem dM_wanted_50 : decode bM_wanted 50 = .ok (.iload_n 1, 1) := by decide +kernel
theorem dM_wanted_51 : decode bM_wanted 51 = .ok (.iload_n 2, 1) := by decide +kernel
theorem dM_wanted_52 : decode bM_wanted 52 = .ok (.iload 5, 2) := by decide +kernel
theorem dM_wanted_54 : decode bM_wanted 54 = .ok (.i2l, 1) := by decide +kernel
theorem dM_wanted_55 : decode bM_wanted 55 = .ok (.iload_n 3, 1) := by decide +kernel
theorem dM_wanted_56 : decode bM_wanted 56 = .ok (.i2l, 1) := by decide +kernel
theorem dM_wanted_57 : decode bM_wanted 57 = .ok (.lmul, 1) := by decide +kernel
theorem dM_wanted_58 : decode bM_wanted 58 = .ok (.invokevirtual 115, 3) := by decide +kernel
theorem dM_wanted_61 : decode bM_wanted 61 = .ok (.aload_n 0, 1) := by decide +kernel
theorem dM_wanted_62 : decode bM_wanted 62 = .ok (.getfield 51, 3) := by decide +kernel
theorem dM_wanted_65 : decode bM_wanted 65 = .ok (.iconst 0, 1) := by decide +kernel
theorem dM_wanted_66 : decode bM_wanted 66 = .ok (.laload, 1) := by decide +kernel
theorem dM_wanted_67 : decode bM_wanted 67 = .ok (.lstore 6, 2) := by decide +kernel
theorem dM_wanted_69 : decode bM_wanted 69 = .ok (.iconst 1, 1) := by decide +kernel
theorem dM_wanted_70 : decode bM_wanted 70 = .ok (.istore 8, 2) := by decide +kernel
theorem dM_wanted_72 : decode bM_wanted 72 = .ok (.iload 8, 2) := by decide +kernel
theorem dM_wanted_74 : decode bM_wanted 74 = .ok (.aload_n 0, 1) := by decide +kernel
theorem dM_wanted_75 : decode bM_wanted 75 = .ok (.getfield 13, 3) := by decide +kernel
theorem dM_wanted_78 : decode bM_wanted 78 = .ok (.iload_n 1, 1) := by decide +kernel
theorem dM_wanted_79 : decode bM_wanted 79 = .ok (.iaload, 1) := by decide +kernel
theorem dM_wanted_80 : decode bM_wanted 80 = .ok (.if_icmp .ge 36, 3) := by decide +kernel
theorem dM_wanted_83 : decode bM_wanted 83 = .ok (.aload_n 0, 1) := by decide +kernel
theorem dM_wanted_84 : decode bM_wanted 84 = .ok (.getfield 51, 3) := by decide +kernel
theorem dM_wanted_87 : decode bM_wanted 87 = .ok (.iload 8, 2) := by decide +kernel
theorem dM_wanted_89 : decode bM_wanted 89 = .ok (.laload, 1) := by decide +kernel
theorem dM_wanted_90 : decode bM_wanted 90 = .ok (.lload 6, 2) := by decide +kernel
theorem dM_wanted_92 : decode bM_wanted 92 = .ok (.lcmp, 1) := by decide +kernel
theorem dM_wanted_93 : decode bM_wanted 93 = .ok (.ifCond .ge 13, 3) := by decide +kernel
theorem dM_wanted_96 : decode bM_wanted 96 = .ok (.aload_n 0, 1) := by decide +kernel
theorem dM_wanted_97 : decode bM_wanted 97 = .ok (.getfield 51, 3) := by decide +kernel
theorem dM_wanted_100 : decode bM_wanted 100 = .ok (.iload 8, 2) := by decide +kernel
theorem dM_wanted_102 : decode bM_wanted 102 = .ok (.laload, 1) := by decide +kernel
theorem dM_wanted_103 : decode bM_wanted 103 = .ok (.goto 5, 3) := by decide +kernel
theorem dM_wanted_106 : decode bM_wanted 106 = .ok (.lload 6, 2) := by decide +kernel
theorem dM_wanted_108 : decode bM_wanted 108 = .ok (.lstore 6, 2) := by decide +kernel
theorem dM_wanted_110 : decode bM_wanted 110 = .ok (.iinc 8 1, 3) := by decide +kernel
theorem dM_wanted_113 : decode bM_wanted 113 = .ok (.goto (-41), 3) := by decide +kernel
theorem dM_wanted_116 : decode bM_wanted 116 = .ok (.lload 6, 2) := by decide +kernel
theorem dM_wanted_118 : decode bM_wanted 118 = .ok (.iload 4, 2) := by decide +kernel
theorem dM_wanted_120 : decode bM_wanted 120 = .ok (.i2l, 1) := by decide +kernel
theorem dM_wanted_121 : decode bM_wanted 121 = .ok (.lcmp, 1) := by decide +kernel
theorem dM_wanted_122 : decode bM_wanted 122 = .ok (.ifCond .lt 8, 3) := by decide +kernel
theorem dM_wanted_125 : decode bM_wanted 125 = .ok (.iload 5, 2) := by decide +kernel
theorem dM_wanted_127 : decode bM_wanted 127 = .ok (.iload_n 3, 1) := by decide +kernel
theorem dM_wanted_128 : decode bM_wanted 128 = .ok (.imul, 1) := by decide +kernel
theorem dM_wanted_129 : decode bM_wanted 129 = .ok (.ireturn, 1) := by decide +kernel
theorem dM_wanted_130 : decode bM_wanted 130 = .ok (.iinc 5 1, 3) := by decide +kernel
theorem dM_wanted_133 : decode bM_wanted 133 = .ok (.goto (-91), 3) := by decide +kernel
theorem dM_wanted_136 : decode bM_wanted 136 = .ok (.iconst (-1), 1) := by decide +kernel
theorem dM_wanted_137 : decode bM_wanted 137 = .ok (.ireturn, 1) := by decide +kernel
theorem dM_count_0 : decode bM_count 0 = .ok (.iconst 0, 1) := by decide +kernel
theorem dM_count_1 : decode bM_count 1 = .ok (.istore_n 2, 1) := by decide +kernel
theorem dM_count_2 : decode bM_count 2 = .ok (.iconst 0, 1) := by decide +kernel
theorem dM_count_3 : decode bM_count 3 = .ok (.istore_n 3, 1) := by decide +kernel
theorem dM_count_4 : decode bM_count 4 = .ok (.iconst 0, 1) := by decide +kernel
theorem dM_count_5 : decode bM_count 5 = .ok (.istore 4, 2) := by decide +kernel
theorem dM_count_7 : decode bM_count 7 = .ok (.iload 4, 2) := by decide +kernel
theorem dM_count_9 : decode bM_count 9 = .ok (.aload_n 0, 1) := by decide +kernel
theorem dM_count_10 : decode bM_count 10 = .ok (.getfield 57, 3) := by decide +kernel
theorem dM_count_13 : decode bM_count 13 = .ok (.if_icmp .ge 38, 3) := by decide +kernel
theorem dM_count_16 : decode bM_count 16 = .ok (.aload_n 0, 1) := by decide +kernel
theorem dM_count_17 : decode bM_count 17 = .ok (.getfield 16, 3) := by decide +kernel
theorem dM_count_20 : decode bM_count 20 = .ok (.iload 4, 2) := by decide +kernel
theorem dM_count_22 : decode bM_count 22 = .ok (.iaload, 1) := by decide +kernel
theorem dM_count_23 : decode bM_count 23 = .ok (.iconst 1, 1) := by decide +kernel
theorem dM_count_24 : decode bM_count 24 = .ok (.if_icmp .ne 9, 3) := by decide +kernel
theorem dM_count_27 : decode bM_count 27 = .ok (.iload_n 2, 1) := by decide +kernel
theorem dM_count_28 : decode bM_count 28 = .ok (.iconst 1, 1) := by decide +kernel
theorem dM_count_29 : decode bM_count 29 = .ok (.iadd, 1) := by decide +kernel
theorem dM_count_30 : decode bM_count 30 = .ok (.goto 4, 3) := by decide +kernel
theorem dM_count_33 : decode bM_count 33 = .ok (.iload_n 2, 1) := by decide +kernel
theorem dM_count_34 : decode bM_count 34 = .ok (.istore_n 2, 1) := by decide +kernel
theorem dM_count_35 : decode bM_count 35 = .ok (.iload_n 3, 1) := by decide +kernel
theorem dM_count_36 : decode bM_count 36 = .ok (.aload_n 0, 1) := by decide +kernel
theorem dM_count_37 : decode bM_count 37 = .ok (.getfield 13, 3) := by decide +kernel
theorem dM_count_40 : decode bM_count 40 = .ok (.iload 4, 2) := by decide +kernel
theorem dM_count_42 : decode bM_count 42 = .ok (.iaload, 1) := by decide +kernel
theorem dM_count_43 : decode bM_count 43 = .ok (.iadd, 1) := by decide +kernel
theorem dM_count_44 : decode bM_count 44 = .ok (.istore_n 3, 1) := by decide +kernel
theorem dM_count_45 : decode bM_count 45 = .ok (.iinc 4 1, 3) := by decide +kernel
theorem dM_count_48 : decode bM_count 48 = .ok (.goto (-41), 3) := by decide +kernel
theorem dM_count_51 : decode bM_count 51 = .ok (.iload_n 1, 1) := by decide +kernel
theorem dM_count_52 : decode bM_count 52 = .ok (.ifCond .ne 8, 3) := by decide +kernel
theorem dM_count_55 : decode bM_count 55 = .ok (.aload_n 0, 1) := by decide +kernel
theorem dM_count_56 : decode bM_count 56 = .ok (.getfield 57, 3) := by decide +kernel
theorem dM_count_59 : decode bM_count 59 = .ok (.ireturn, 1) := by decide +kernel
theorem dM_count_60 : decode bM_count 60 = .ok (.iload_n 1, 1) := by decide +kernel
theorem dM_count_61 : decode bM_count 61 = .ok (.iconst 1, 1) := by decide +kernel
theorem dM_count_62 : decode bM_count 62 = .ok (.if_icmp .ne 8, 3) := by decide +kernel
theorem dM_count_65 : decode bM_count 65 = .ok (.aload_n 0, 1) := by decide +kernel
theorem dM_count_66 : decode bM_count 66 = .ok (.getfield 131, 3) := by decide +kernel
theorem dM_count_69 : decode bM_count 69 = .ok (.ireturn, 1) := by decide +kernel
theorem dM_count_70 : decode bM_count 70 = .ok (.iload_n 1, 1) := by decide +kernel
theorem dM_count_71 : decode bM_count 71 = .ok (.iconst 2, 1) := by decide +kernel
theorem dM_count_72 : decode bM_count 72 = .ok (.if_icmp .ne 5, 3) := by decide +kernel
theorem dM_count_75 : decode bM_count 75 = .ok (.iload_n 2, 1) := by decide +kernel
theorem dM_count_76 : decode bM_count 76 = .ok (.ireturn, 1) := by decide +kernel
theorem dM_count_77 : decode bM_count 77 = .ok (.iload_n 1, 1) := by decide +kernel
theorem dM_count_78 : decode bM_count 78 = .ok (.iconst 3, 1) := by decide +kernel
theorem dM_count_79 : decode bM_count 79 = .ok (.if_icmp .ne 10, 3) := by decide +kernel
theorem dM_count_82 : decode bM_count 82 = .ok (.aload_n 0, 1) := by decide +kernel
theorem dM_count_83 : decode bM_count 83 = .ok (.getfield 137, 3) := by decide +kernel
theorem dM_count_86 : decode bM_count 86 = .ok (.goto 13, 3) := by decide +kernel
theorem dM_count_89 : decode bM_count 89 = .ok (.iload_n 1, 1) := by decide +kernel
theorem dM_count_90 : decode bM_count 90 = .ok (.iconst 4, 1) := by decide +kernel
theorem dM_count_91 : decode bM_count 91 = .ok (.if_icmp .ne 7, 3) := by decide +kernel
theorem dM_count_94 : decode bM_count 94 = .ok (.iload_n 3, 1) := by decide +kernel
theorem dM_count_95 : decode bM_count 95 = .ok (.goto 4, 3) := by decide +kernel
theorem dM_count_98 : decode bM_count 98 = .ok (.iconst (-1), 1) := by decide +kernel
theorem dM_count_99 : decode bM_count 99 = .ok (.ireturn, 1) := by decide +kernel
end
section
/-! What the laid rows stand on: options taken apart, a name for the end, calls with the frame put back in one row. -/
theorem o_t {α : Type} {c : Prop} [Decidable c] {a b x : α} (h : (if c then a else b) = x) (hc : c) : a = x := (if_pos hc).symm.trans h
theorem o_f {α : Type} {c : Prop} [Decidable c] {a b x : α} (h : (if c then a else b) = x) (hc : ¬ c) : b = x := (if_neg hc).symm.trans h
theorem o_c {α : Type} {c : Prop} [Decidable c] {a : Option α} {x : α} (h : (if c then a else none) = some x) : c ∧ a = some x := by
  by_cases hc : c
  · exact ⟨hc, o_t h hc⟩
  · exact absurd (o_f h hc) (by intro z; cases z)
theorem o_b {α β : Type} {o : Option α} {f : α → Option β} {x : β} (h : o.bind f = some x) : ∃ r, o = some r ∧ f r = some x := by
  cases o with
  | none => cases h
  | some r => exact ⟨r, rfl, h⟩
theorem W.nameQ {p : Program} {l : Launch} {e : Env} {R : Room} {s : State} {m : MethodId} {args : Array Value} {below : List Frame} {meth : Method} {c : Code} {H : Heap} {locs : List Loc} {cells slots : Nat} {Q : State → Prop} {g : JFrame}
    (k : ∀ Q' : State → Prop, Q' = Q → W p l e R s m args below meth c H locs cells slots Q' g) : W p l e R s m args below meth c H locs cells slots Q g := k Q rfl
/-- what the tables say beyond the words that every method may have: the links of nest mates, the array class of tendons -/
abbrev kN (U : State) : Prop := va_Nw (.methodLinkNest "TendonLosses$Duct" 28 yL_isWithin "TendonLosses") U ∧ va_Nw (.methodLinkNest "TendonLosses$Duct" 47 yL_quotient "TendonLosses") U ∧ va_Nw (.methodLinkNest "TendonLosses$Tendon" 102 yL_quotient "TendonLosses") U ∧ va_AO "TendonLosses$Tendon" U
theorem kN_same {u U : State} (h : u.vm = U.vm) (n : kN u) : kN U := ⟨va_Nw.same rfl h n.1, va_Nw.same rfl h n.2.1, va_Nw.same rfl h n.2.2.1, va_AO.moved (by rw [h]; exact Vm.Alike.refl _) n.2.2.2⟩
theorem kN_warm {s U : State} (hW : s.WarmedH U.vm) (n : kN s) : kN U := ⟨va_Nw.warmM hW n.1, va_Nw.warmM hW n.2.1, va_Nw.warmM hW n.2.2.1, va_AO.moved hW.alike n.2.2.2⟩
abbrev kP (G : va_G) (T : List (ClassId × FieldType)) (av : List Value) (ws : va_W) (sz : Nat) : Array Value → State → Prop := va_Pc av (fun U => U.heap.size = sz ∧ va_P G vwCl ws U.heap ∧ va_K G vwCl T U ∧ va_D (fun _ => True) ws ∧ kN U)
abbrev kB (G : va_G) (T : List (ClassId × FieldType)) (A : Nat → Prop) (w : va_W) : Unit → State → Prop := fun _ t => va_P G vwCl w t.heap ∧ va_K G vwCl T t ∧ va_D A w
theorem kP_blind {G : va_G} {T : List (ClassId × FieldType)} {av : List Value} {ws : va_W} {sz : Nat} : FrameBlind (kP G T av ws sz) := fun a U g mk q => by
  obtain ⟨q0, q1, qP, qK, qD, qN⟩ := q
  exact ⟨q0, q1, qP, va_K.moved (u := U) (U := U.calling g mk a) (Vm.Alike.refl U.vm) qK, qD, kN_same rfl qN⟩
theorem kP_S {s : State} {H : Heap} {G : va_G} {T : List (ClassId × FieldType)} {As : List Value} {ws : va_W} {A : Nat → Prop} (hP : va_P G vwCl ws H) (hK : va_K G vwCl T s) (hD : va_D A ws) (hN : kN s) : PreS s H (kP G T As ws H.size) As :=
  ⟨kP_blind, fun U hU hW => ⟨rfl, by rw [hU], by rw [hU]; exact hP, va_K.moved hW.alike hK, hD.weaken (fun _ _ _ _ => trivial), kN_warm hW hN⟩⟩
theorem kP_V {s : State} {H : Heap} {G : va_G} {T : List (ClassId × FieldType)} {As : List Value} {ws : va_W} {A : Nat → Prop} {C : String} {b : Addr} (hP : va_P G vwCl ws H) (hK : va_K G vwCl T s) (hD : va_D A ws) (hN : kN s) (hr : ∃ cell : Cell, H[b]? = some cell ∧ cell.vm.isStatics = false ∧ s.vm.findClass C = some cell.cls) : PreV s H C b (kP G T (.ref b :: As) ws H.size) As :=
  ⟨kP_blind, hr, fun U hU hW => ⟨rfl, by rw [hU], by rw [hU]; exact hP, va_K.moved hW.alike hK, hD.weaken (fun _ _ _ _ => trivial), kN_warm hW hN⟩⟩
section KC
variable {p : Program} {l : Launch} {e : Env} {R : Room} {s : State} {m : MethodId} {args : Array Value} {below : List Frame} {meth : Method} {c : Code} {H H0 : Heap} {locs : List Loc} {cells slots mc ms pc : Nat} {Q : State → Prop} {ls : Array Slot} {rest st0 : List Value} {a : Array Value} {G : va_G} {T : List (ClassId × FieldType)} {A : Nat → Prop} {wc wr w1 ws ws' : va_W}
theorem kc_i {o : Int32} (hr : va_Run p l e R s m args below meth c H locs cells slots mc ms (F0 m pc ls st0) rest (va_Qi (fun (r : Int32) (_ : Unit) => r = o) (kB G T (va_A wc H.size) w1) (va_A wc H.size) a) (va_A wc H.size))
    (hP : va_P G vwCl ws H) (hD : va_D A ws) (hS : va_S A H0 H locs) (hA : ∀ q, H0.size ≤ q → A q) (isC isR is : List Nat) (hC : isC.map (fun i => ws[i]?) = wc.map some) (hR : isR.map (fun i => ws[i]?) = wr.map some) (hn : va_nd isR = true) (hdis : ∀ i ∈ isR, i ∉ isC) (h1 : is.filterMap (fun i => (wr ++ w1)[i]?) = ws') (h2 : va_nd is = true) (h3 : is.map (fun i => (wr ++ w1)[i]?) = ws'.map some)
    (kk : ∀ (H1 : Heap) (locs1 : List Loc), va_P G vwCl ws' H1 → va_D A ws' → va_S A H0 H1 locs1 → W p l e R s m args below meth c H1 locs1 (cells + mc) (slots + ms) Q (F0 m (pc + 3) ls (.int o :: rest))) : W p l e R s m args below meth c H locs cells slots Q (F0 m pc ls st0) := by
  have hFc := va_free (wc := wc) hD hS hA isC hC
  refine va_calli hr hS (fun q _ h => hFc q h) hFc (fun r u t H1 locs1 ht hvm hw hB hz1 hk1 hS1 => ?_)
  obtain ⟨hP1, hK1, hD1⟩ := hB
  rw [ht] at hP1
  obtain ⟨hP2, hD2⟩ := va_join (wr := wr) (w1 := w1) hP hD isC isR hC hR hn hdis hk1 hFc hP1 hD1
  rw [show r = o from hw]
  exact kk H1 locs1 (hP2.sub is h1) (hD2.sub is h2 h3) hS1
theorem kc_l {o : Int64} (hr : va_Run p l e R s m args below meth c H locs cells slots mc ms (F0 m pc ls st0) rest (va_Ql (fun (r : Int64) (_ : Unit) => r = o) (kB G T (va_A wc H.size) w1) (va_A wc H.size) a) (va_A wc H.size))
    (hP : va_P G vwCl ws H) (hD : va_D A ws) (hS : va_S A H0 H locs) (hA : ∀ q, H0.size ≤ q → A q) (isC isR is : List Nat) (hC : isC.map (fun i => ws[i]?) = wc.map some) (hR : isR.map (fun i => ws[i]?) = wr.map some) (hn : va_nd isR = true) (hdis : ∀ i ∈ isR, i ∉ isC) (h1 : is.filterMap (fun i => (wr ++ w1)[i]?) = ws') (h2 : va_nd is = true) (h3 : is.map (fun i => (wr ++ w1)[i]?) = ws'.map some)
    (kk : ∀ (H1 : Heap) (locs1 : List Loc), va_P G vwCl ws' H1 → va_D A ws' → va_S A H0 H1 locs1 → W p l e R s m args below meth c H1 locs1 (cells + mc) (slots + ms) Q (F0 m (pc + 3) ls (.long o :: rest))) : W p l e R s m args below meth c H locs cells slots Q (F0 m pc ls st0) := by
  have hFc := va_free (wc := wc) hD hS hA isC hC
  refine va_calll hr hS (fun q _ h => hFc q h) hFc (fun r u t H1 locs1 ht hvm hw hB hz1 hk1 hS1 => ?_)
  obtain ⟨hP1, hK1, hD1⟩ := hB
  rw [ht] at hP1
  obtain ⟨hP2, hD2⟩ := va_join (wr := wr) (w1 := w1) hP hD isC isR hC hR hn hdis hk1 hFc hP1 hD1
  rw [show r = o from hw]
  exact kk H1 locs1 (hP2.sub is h1) (hD2.sub is h2 h3) hS1
theorem kc_v (hr : va_Run p l e R s m args below meth c H locs cells slots mc ms (F0 m pc ls st0) rest (va_Qv (fun (_ : Unit) => True) (kB G T (va_A wc H.size) w1) (va_A wc H.size) a) (va_A wc H.size))
    (hP : va_P G vwCl ws H) (hD : va_D A ws) (hS : va_S A H0 H locs) (hA : ∀ q, H0.size ≤ q → A q) (isC isR is : List Nat) (hC : isC.map (fun i => ws[i]?) = wc.map some) (hR : isR.map (fun i => ws[i]?) = wr.map some) (hn : va_nd isR = true) (hdis : ∀ i ∈ isR, i ∉ isC) (h1 : is.filterMap (fun i => (wr ++ w1)[i]?) = ws') (h2 : va_nd is = true) (h3 : is.map (fun i => (wr ++ w1)[i]?) = ws'.map some)
    (kk : ∀ (H1 : Heap) (locs1 : List Loc), va_P G vwCl ws' H1 → va_D A ws' → va_S A H0 H1 locs1 → W p l e R s m args below meth c H1 locs1 (cells + mc) (slots + ms) Q (F0 m (pc + 3) ls rest)) : W p l e R s m args below meth c H locs cells slots Q (F0 m pc ls st0) := by
  have hFc := va_free (wc := wc) hD hS hA isC hC
  refine va_callv hr hS (fun q _ h => hFc q h) hFc (fun u t H1 locs1 ht hvm hw hB hz1 hk1 hS1 => ?_)
  obtain ⟨hP1, hK1, hD1⟩ := hB
  rw [ht] at hP1
  obtain ⟨hP2, hD2⟩ := va_join (wr := wr) (w1 := w1) hP hD isC isR hC hR hn hdis hk1 hFc hP1 hD1
  exact kk H1 locs1 (hP2.sub is h1) (hD2.sub is h2 h3) hS1
end KC
end
section
/-! Worlds as sets of cells: any order will do; the tendons as a pool that is opened at one of them and closed again. -/
theorem kq_P {G : va_G} {cl : List vw_C} {ws : va_W} {H : Heap} : va_P G cl ws H ↔ ∀ q ∈ ws, va_at G cl q H := by
  constructor
  · intro h q hq
    obtain ⟨k, hk⟩ := List.getElem?_of_mem hq
    exact h k q hk
  · intro h k q hk
    exact h q (List.mem_of_getElem? hk)
theorem kq_D {A : Nat → Prop} {ws : va_W} : va_D A ws ↔ (ws.map (fun q => q.1)).Nodup ∧ ∀ q ∈ ws, A q.1 := by
  constructor
  · intro h
    refine ⟨?_, ?_⟩
    · refine List.pairwise_iff_getElem.mpr ?_
      intro i j hi hj hij he
      rw [List.length_map] at hi hj
      rw [List.getElem_map, List.getElem_map] at he
      have := h.1 i j _ _ (List.getElem?_eq_getElem hi) (List.getElem?_eq_getElem hj) he
      omega
    · intro q hq
      obtain ⟨k, hk⟩ := List.getElem?_of_mem hq
      exact h.2 k q hk
  · intro h
    refine ⟨?_, fun k q hk => h.2 q (List.mem_of_getElem? hk)⟩
    intro i j p q hi hj he
    have h1 := List.pairwise_iff_getElem.mp h.1
    obtain ⟨li, ei⟩ := List.getElem?_eq_some_iff.mp hi
    obtain ⟨lj, ej⟩ := List.getElem?_eq_some_iff.mp hj
    rcases Nat.lt_trichotomy i j with c | c | c
    · exact absurd (by rw [List.getElem_map, List.getElem_map, ei, ej]; exact he) (h1 i j (by rw [List.length_map]; exact li) (by rw [List.length_map]; exact lj) c)
    · exact c
    · exact absurd (by rw [List.getElem_map, List.getElem_map, ei, ej]; exact he.symm) (h1 j i (by rw [List.length_map]; exact lj) (by rw [List.length_map]; exact li) c)
theorem kq_pP {G : va_G} {cl : List vw_C} {ws ws' : va_W} {H : Heap} (hp : ws.Perm ws') (h : va_P G cl ws H) : va_P G cl ws' H := kq_P.mpr (fun q hq => kq_P.mp h q (hp.mem_iff.mpr hq))
theorem kq_pD {A : Nat → Prop} {ws ws' : va_W} (hp : ws.Perm ws') (h : va_D A ws) : va_D A ws' := by
  have h1 := kq_D.mp h
  exact kq_D.mpr ⟨(hp.map (fun q => q.1)).nodup_iff.mp h1.1, fun q hq => h1.2 q (hp.mem_iff.mpr hq)⟩
/-- a tendon's numbers: area, state, pulled from, pulled with, size; xs, ys, lengths, slopes; forces, tried -/
abbrev kR : Type := Int32 × Int32 × Int32 × Int32 × Int32 × (Nat → Int32) × (Nat → Int32) × (Nat → Int32) × (Nat → Int32) × (Nat → Int64) × (Nat → Int64)
/-- its cells: tendon, duct, the duct's four arrays, forces, tried -/
def ktc (cI cL : ClassId) (a : Nat → Nat) (r : kR) : va_W :=
  [(a 0, .inr (2, [.ref (a 1), .int r.1, .ref (a 6), .ref (a 7), .int r.2.1, .int r.2.2.1, .int r.2.2.2.1])),
   (a 1, .inr (0, [.ref (a 2), .ref (a 3), .ref (a 4), .ref (a 5), .int r.2.2.2.2.1])),
   (a 2, .inl (cI, 10, .inl r.2.2.2.2.2.1)), (a 3, .inl (cI, 10, .inl r.2.2.2.2.2.2.1)), (a 4, .inl (cI, 10, .inl r.2.2.2.2.2.2.2.1)), (a 5, .inl (cI, 10, .inl r.2.2.2.2.2.2.2.2.1)),
   (a 6, .inl (cL, 10, .inr (.inl r.2.2.2.2.2.2.2.2.2.1))), (a 7, .inl (cL, 10, .inr (.inl r.2.2.2.2.2.2.2.2.2.2)))]
def kpl (cI cL : ClassId) (ad : Nat → Nat → Nat) (ks : List Nat) (R : Nat → kR) : va_W := ks.flatMap (fun k => ktc cI cL (ad k) (R k))
/-- the array of tendons -/
def kg (ad : Nat → Nat → Nat) (N : Nat) : Nat → Option Nat := fun i => if i < N then some (ad i 0) else none
theorem kpl_congr {cI cL : ClassId} {ad : Nat → Nat → Nat} {R R' : Nat → kR} : ∀ {ks : List Nat}, (∀ k ∈ ks, R k = R' k) → kpl cI cL ad ks R = kpl cI cL ad ks R'
  | [], _ => rfl
  | k :: ks, h => by
    show ktc cI cL (ad k) (R k) ++ kpl cI cL ad ks R = ktc cI cL (ad k) (R' k) ++ kpl cI cL ad ks R'
    rw [h k List.mem_cons_self, kpl_congr (fun j hj => h j (List.mem_cons_of_mem _ hj))]
theorem kpl_perm {cI cL : ClassId} {ad : Nat → Nat → Nat} {ks ks' : List Nat} {R : Nat → kR} (h : ks.Perm ks') : (kpl cI cL ad ks R).Perm (kpl cI cL ad ks' R) := h.flatMap_right _
theorem kp_perm {cI cL : ClassId} {ad : Nat → Nat → Nat} {ks : List Nat} {R : Nat → kR} {k : Nat} (h : k ∈ ks) (X : va_W) : (X ++ kpl cI cL ad ks R).Perm ((X ++ ktc cI cL (ad k) (R k)) ++ kpl cI cL ad (ks.erase k) R) := by
  rw [List.append_assoc]
  exact List.Perm.append_left X (kpl_perm (List.perm_cons_erase h))
theorem kp_open {cI cL : ClassId} {ad : Nat → Nat → Nat} {ks : List Nat} {R : Nat → kR} {k : Nat} {X : va_W} {G : va_G} {A : Nat → Prop} {H : Heap} (h : k ∈ ks) (hP : va_P G vwCl (X ++ kpl cI cL ad ks R) H) (hD : va_D A (X ++ kpl cI cL ad ks R)) :
    va_P G vwCl ((X ++ ktc cI cL (ad k) (R k)) ++ kpl cI cL ad (ks.erase k) R) H ∧ va_D A ((X ++ ktc cI cL (ad k) (R k)) ++ kpl cI cL ad (ks.erase k) R) := ⟨kq_pP (kp_perm h X) hP, kq_pD (kp_perm h X) hD⟩
theorem kp_close {cI cL : ClassId} {ad : Nat → Nat → Nat} {ks : List Nat} {R : Nat → kR} {k : Nat} {X : va_W} {G : va_G} {A : Nat → Prop} {H : Heap} (h : k ∈ ks) (nd : ks.Nodup) (r : kR) (hP : va_P G vwCl ((X ++ ktc cI cL (ad k) r) ++ kpl cI cL ad (ks.erase k) R) H) (hD : va_D A ((X ++ ktc cI cL (ad k) r) ++ kpl cI cL ad (ks.erase k) R)) :
    va_P G vwCl (X ++ kpl cI cL ad ks (va_up R k r)) H ∧ va_D A (X ++ kpl cI cL ad ks (va_up R k r)) := by
  have e : kpl cI cL ad (ks.erase k) R = kpl cI cL ad (ks.erase k) (va_up R k r) := kpl_congr (fun j hj => by
    have : j ≠ k := fun e => by subst e; exact (nd.not_mem_erase) hj
    simp [va_up, this])
  have e2 : ktc cI cL (ad k) r = ktc cI cL (ad k) (va_up R k r k) := by simp [va_up]
  rw [e, e2] at hP hD
  exact ⟨kq_pP (kp_perm h X).symm hP, kq_pD (kp_perm h X).symm hD⟩
theorem kp_close0 {cI cL : ClassId} {ad : Nat → Nat → Nat} {ks : List Nat} {R : Nat → kR} {k : Nat} {X : va_W} {G : va_G} {A : Nat → Prop} {H : Heap} (h : k ∈ ks) (hP : va_P G vwCl ((X ++ ktc cI cL (ad k) (R k)) ++ kpl cI cL ad (ks.erase k) R) H) (hD : va_D A ((X ++ ktc cI cL (ad k) (R k)) ++ kpl cI cL ad (ks.erase k) R)) :
    va_P G vwCl (X ++ kpl cI cL ad ks R) H ∧ va_D A (X ++ kpl cI cL ad ks R) := ⟨kq_pP (kp_perm h X).symm hP, kq_pD (kp_perm h X).symm hD⟩
theorem kp_nd {N : Nat} : (List.range N).Nodup := List.nodup_range
theorem kp_nd1 {N k : Nat} : ((List.range N).erase k).Nodup := List.nodup_range.erase k
section KCT
variable {p : Program} {l : Launch} {e : Env} {R : Room} {s : State} {m : MethodId} {args : Array Value} {below : List Frame} {meth : Method} {c : Code} {H H0 : Heap} {locs : List Loc} {cells slots mc ms pc : Nat} {Q : State → Prop} {ls : Array Slot} {rest st0 : List Value} {a : Array Value} {G : va_G} {T : List (ClassId × FieldType)} {A : Nat → Prop} {wc wr w1 X X' pl ws w : va_W}
theorem kt_P {is : List Nat} (hP : va_P G vwCl (X ++ pl) H) (hs : is.map (fun i => X[i]?) = wc.map some) : va_P G vwCl wc H := by
  have h := hP.part is hs
  exact kq_P.mpr (fun q hq => kq_P.mp h q (List.mem_append_left _ hq))
theorem kt_D {is : List Nat} (hD : va_D A (X ++ pl)) (hn : va_nd is = true) (hs : is.map (fun i => X[i]?) = wc.map some) : va_D A wc := by
  have h := kq_D.mp (hD.part is hn hs)
  rw [List.map_append] at h
  exact kq_D.mpr ⟨(List.nodup_append.mp h.1).1, fun q hq => h.2 q (List.mem_append_left _ hq)⟩
theorem kt_free {is : List Nat} (hD : va_D A (X ++ pl)) (hS : va_S A H0 H locs) (hA : ∀ q, H0.size ≤ q → A q) (hs : is.map (fun i => X[i]?) = wc.map some) : ∀ q, va_A wc H.size q → A q := by
  intro q hq
  rcases hq with ⟨k, e, h⟩ | h
  · obtain ⟨j, h5, h6⟩ := va_in_of is hs h
    have hj : j < X.length := (List.getElem?_eq_some_iff.mp h6).1
    exact hD.2 j (q, e) (by rw [List.getElem?_append_left hj]; exact h6)
  · exact hA q (Nat.le_trans hS.1 h)
theorem kt_i {o : Int32} (hr : va_Run p l e R s m args below meth c H locs cells slots mc ms (F0 m pc ls st0) rest (va_Qi (fun (r : Int32) (_ : Unit) => r = o) (kB G T (va_A wc H.size) w1) (va_A wc H.size) a) (va_A wc H.size))
    (hP : va_P G vwCl (X ++ pl) H) (hD : va_D A (X ++ pl)) (hS : va_S A H0 H locs) (hA : ∀ q, H0.size ≤ q → A q) (isC isR is : List Nat) (hC : isC.map (fun i => X[i]?) = wc.map some) (hR : isR.map (fun i => X[i]?) = wr.map some) (hn : va_nd isR = true) (hdis : ∀ i ∈ isR, i ∉ isC) (h2 : va_nd is = true) (h3 : is.map (fun i => (wr ++ w1)[i]?) = X'.map some)
    (kk : ∀ (H1 : Heap) (locs1 : List Loc), va_P G vwCl (X' ++ pl) H1 → va_D A (X' ++ pl) → va_S A H0 H1 locs1 → W p l e R s m args below meth c H1 locs1 (cells + mc) (slots + ms) Q (F0 m (pc + 3) ls (.int o :: rest))) : W p l e R s m args below meth c H locs cells slots Q (F0 m pc ls st0) := by
  have hFc := kt_free (wc := wc) hD hS hA hC
  refine va_calli hr hS (fun q _ h => hFc q h) hFc (fun r u t H1 locs1 ht hvm hw hB hz1 hk1 hS1 => ?_)
  obtain ⟨hP1, hK1, hD1⟩ := hB
  rw [ht] at hP1
  obtain ⟨hP2, hD2⟩ := va_joinQ (wr := wr) (w1 := w1) hP hD isC isR hC hR hn hdis hk1 hFc hP1 hD1
  rw [show r = o from hw]
  exact kk H1 locs1 (hP2.part is h3) (hD2.part is h2 h3) hS1
theorem kt_l {o : Int64} (hr : va_Run p l e R s m args below meth c H locs cells slots mc ms (F0 m pc ls st0) rest (va_Ql (fun (r : Int64) (_ : Unit) => r = o) (kB G T (va_A wc H.size) w1) (va_A wc H.size) a) (va_A wc H.size))
    (hP : va_P G vwCl (X ++ pl) H) (hD : va_D A (X ++ pl)) (hS : va_S A H0 H locs) (hA : ∀ q, H0.size ≤ q → A q) (isC isR is : List Nat) (hC : isC.map (fun i => X[i]?) = wc.map some) (hR : isR.map (fun i => X[i]?) = wr.map some) (hn : va_nd isR = true) (hdis : ∀ i ∈ isR, i ∉ isC) (h2 : va_nd is = true) (h3 : is.map (fun i => (wr ++ w1)[i]?) = X'.map some)
    (kk : ∀ (H1 : Heap) (locs1 : List Loc), va_P G vwCl (X' ++ pl) H1 → va_D A (X' ++ pl) → va_S A H0 H1 locs1 → W p l e R s m args below meth c H1 locs1 (cells + mc) (slots + ms) Q (F0 m (pc + 3) ls (.long o :: rest))) : W p l e R s m args below meth c H locs cells slots Q (F0 m pc ls st0) := by
  have hFc := kt_free (wc := wc) hD hS hA hC
  refine va_calll hr hS (fun q _ h => hFc q h) hFc (fun r u t H1 locs1 ht hvm hw hB hz1 hk1 hS1 => ?_)
  obtain ⟨hP1, hK1, hD1⟩ := hB
  rw [ht] at hP1
  obtain ⟨hP2, hD2⟩ := va_joinQ (wr := wr) (w1 := w1) hP hD isC isR hC hR hn hdis hk1 hFc hP1 hD1
  rw [show r = o from hw]
  exact kk H1 locs1 (hP2.part is h3) (hD2.part is h2 h3) hS1
theorem kt_v (hr : va_Run p l e R s m args below meth c H locs cells slots mc ms (F0 m pc ls st0) rest (va_Qv (fun (_ : Unit) => True) (kB G T (va_A wc H.size) w1) (va_A wc H.size) a) (va_A wc H.size))
    (hP : va_P G vwCl (X ++ pl) H) (hD : va_D A (X ++ pl)) (hS : va_S A H0 H locs) (hA : ∀ q, H0.size ≤ q → A q) (isC isR is : List Nat) (hC : isC.map (fun i => X[i]?) = wc.map some) (hR : isR.map (fun i => X[i]?) = wr.map some) (hn : va_nd isR = true) (hdis : ∀ i ∈ isR, i ∉ isC) (h2 : va_nd is = true) (h3 : is.map (fun i => (wr ++ w1)[i]?) = X'.map some)
    (kk : ∀ (H1 : Heap) (locs1 : List Loc), va_P G vwCl (X' ++ pl) H1 → va_D A (X' ++ pl) → va_S A H0 H1 locs1 → W p l e R s m args below meth c H1 locs1 (cells + mc) (slots + ms) Q (F0 m (pc + 3) ls rest)) : W p l e R s m args below meth c H locs cells slots Q (F0 m pc ls st0) := by
  have hFc := kt_free (wc := wc) hD hS hA hC
  refine va_callv hr hS (fun q _ h => hFc q h) hFc (fun u t H1 locs1 ht hvm hw hB hz1 hk1 hS1 => ?_)
  obtain ⟨hP1, hK1, hD1⟩ := hB
  rw [ht] at hP1
  obtain ⟨hP2, hD2⟩ := va_joinQ (wr := wr) (w1 := w1) hP hD isC isR hC hR hn hdis hk1 hFc hP1 hD1
  exact kk H1 locs1 (hP2.part is h3) (hD2.part is h2 h3) hS1
theorem kt_q {o : Option Nat} (hr : va_Run p l e R s m args below meth c H locs cells slots mc ms (F0 m pc ls st0) rest (va_Qq (fun (r : Option Nat) (_ : Unit) => r = o) (kB G T (va_A wc H.size) w1) (va_A wc H.size) a) (va_A wc H.size))
    (hP : va_P G vwCl (X ++ pl) H) (hD : va_D A (X ++ pl)) (hS : va_S A H0 H locs) (hA : ∀ q, H0.size ≤ q → A q) (isC isR is : List Nat) (hC : isC.map (fun i => X[i]?) = wc.map some) (hR : isR.map (fun i => X[i]?) = wr.map some) (hn : va_nd isR = true) (hdis : ∀ i ∈ isR, i ∉ isC) (h2 : va_nd is = true) (h3 : is.map (fun i => (wr ++ w1)[i]?) = X'.map some)
    (kk : ∀ (H1 : Heap) (locs1 : List Loc), va_P G vwCl (X' ++ pl) H1 → va_D A (X' ++ pl) → va_S A H0 H1 locs1 → W p l e R s m args below meth c H1 locs1 (cells + mc) (slots + ms) Q (F0 m (pc + 3) ls (va_rf o :: rest))) : W p l e R s m args below meth c H locs cells slots Q (F0 m pc ls st0) := by
  have hFc := kt_free (wc := wc) hD hS hA hC
  refine va_callq hr hS (fun q _ h => hFc q h) hFc (fun r u t H1 locs1 ht hvm hw hB hz1 hk1 hS1 => ?_)
  obtain ⟨hP1, hK1, hD1⟩ := hB
  rw [ht] at hP1
  obtain ⟨hP2, hD2⟩ := va_joinQ (wr := wr) (w1 := w1) hP hD isC isR hC hR hn hdis hk1 hFc hP1 hD1
  rw [show r = o from hw]
  exact kk H1 locs1 (hP2.part is h3) (hD2.part is h2 h3) hS1
theorem kw_free (hD : va_D A ws) (hS : va_S A H0 H locs) (hA : ∀ q, H0.size ≤ q → A q) : ∀ q, va_A ws H.size q → A q := by
  intro q hq
  rcases hq with ⟨k, e, h⟩ | h
  · exact hD.2 k (q, e) h
  · exact hA q (Nat.le_trans hS.1 h)
theorem kw_i {o : Int32} (hr : va_Run p l e R s m args below meth c H locs cells slots mc ms (F0 m pc ls st0) rest (va_Qi (fun (r : Int32) (_ : Unit) => r = o) (kB G T (va_A ws H.size) w) (va_A ws H.size) a) (va_A ws H.size))
    (hD : va_D A ws) (hS : va_S A H0 H locs) (hA : ∀ q, H0.size ≤ q → A q)
    (kk : ∀ (H1 : Heap) (locs1 : List Loc), va_P G vwCl w H1 → va_D A w → va_S A H0 H1 locs1 → W p l e R s m args below meth c H1 locs1 (cells + mc) (slots + ms) Q (F0 m (pc + 3) ls (.int o :: rest))) : W p l e R s m args below meth c H locs cells slots Q (F0 m pc ls st0) := by
  have hFc := kw_free hD hS hA
  refine va_calli hr hS (fun q _ h => hFc q h) hFc (fun r u t H1 locs1 ht hvm hw hB hz1 hk1 hS1 => ?_)
  obtain ⟨hP1, hK1, hD1⟩ := hB
  rw [ht] at hP1
  rw [show r = o from hw]
  exact kk H1 locs1 hP1 (hD1.weaken (fun k q _ h => hFc q.1 h)) hS1
theorem kw_v (hr : va_Run p l e R s m args below meth c H locs cells slots mc ms (F0 m pc ls st0) rest (va_Qv (fun (_ : Unit) => True) (kB G T (va_A ws H.size) w) (va_A ws H.size) a) (va_A ws H.size))
    (hD : va_D A ws) (hS : va_S A H0 H locs) (hA : ∀ q, H0.size ≤ q → A q)
    (kk : ∀ (H1 : Heap) (locs1 : List Loc), va_P G vwCl w H1 → va_D A w → va_S A H0 H1 locs1 → W p l e R s m args below meth c H1 locs1 (cells + mc) (slots + ms) Q (F0 m (pc + 3) ls rest)) : W p l e R s m args below meth c H locs cells slots Q (F0 m pc ls st0) := by
  have hFc := kw_free hD hS hA
  refine va_callv hr hS (fun q _ h => hFc q h) hFc (fun u t H1 locs1 ht hvm hw hB hz1 hk1 hS1 => ?_)
  obtain ⟨hP1, hK1, hD1⟩ := hB
  rw [ht] at hP1
  exact kk H1 locs1 hP1 (hD1.weaken (fun k q _ h => hFc q.1 h)) hS1
theorem kw_q {o : Option Nat} (hr : va_Run p l e R s m args below meth c H locs cells slots mc ms (F0 m pc ls st0) rest (va_Qq (fun (r : Option Nat) (_ : Unit) => r = o) (kB G T (va_A ws H.size) w) (va_A ws H.size) a) (va_A ws H.size))
    (hD : va_D A ws) (hS : va_S A H0 H locs) (hA : ∀ q, H0.size ≤ q → A q)
    (kk : ∀ (H1 : Heap) (locs1 : List Loc), va_P G vwCl w H1 → va_D A w → va_S A H0 H1 locs1 → W p l e R s m args below meth c H1 locs1 (cells + mc) (slots + ms) Q (F0 m (pc + 3) ls (va_rf o :: rest))) : W p l e R s m args below meth c H locs cells slots Q (F0 m pc ls st0) := by
  have hFc := kw_free hD hS hA
  refine va_callq hr hS (fun q _ h => hFc q h) hFc (fun r u t H1 locs1 ht hvm hw hB hz1 hk1 hS1 => ?_)
  obtain ⟨hP1, hK1, hD1⟩ := hB
  rw [ht] at hP1
  rw [show r = o from hw]
  exact kk H1 locs1 hP1 (hD1.weaken (fun k q _ h => hFc q.1 h)) hS1
end KCT
end
