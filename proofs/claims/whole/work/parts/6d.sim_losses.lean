theorem sim_losses {fu : Nat} (hfu : 2000 ≤ fu) {N : Nat} {lc : Int32} {dc : Int32} {sp : Int32} {sh : Int32} {fd : Int32} {lo : Nat → Int32} {rough : Int32} {mu : Int32} {Rs : Nat → kR} {thr : Int32} {ten : Int32} {loc : Int32} {rou : Int32} {mum : Int32} {sli : Int32} {sha : Int32} {fad : Int32} {day : Int32} {mar : Nat → Int32} {msi : Nat → Int32} {mst : Nat → Int32} {men : Nat → Int32} {mpu : Nat → Int32} {mxs : Nat → Int32} {mys : Nat → Int32} {mfo : Nat → Int64} {mor : Nat → Int32} {mo1 : Nat → Int64} {mo2 : Nat → Int64} (h : Rl N lc dc sp sh fd lo rough mu Rs thr ten loc rou mum sli sha fad day mar msi mst men mpu mxs mys mfo mor mo1 mo2) (p1 p2 p3 : Int32) : ∃ (r : Int32) (sp' : Int32) (sh' : Int32) (fd' : Int32) (sli' : Int32) (sha' : Int32) (fad' : Int32), fL_losses fu N lc dc sp sh fd lo rough mu Rs p1 p2 p3 = some (r, sp', sh', fd') ∧ fM_losses fu thr ten loc rou mum sli sha fad day mar msi mst men mpu mxs mys mfo mor mo1 mo2 p1 p2 p3 = some (r, sli', sha', fad') ∧ Rl N lc dc sp' sh' fd' lo rough mu Rs thr ten loc rou mum sli' sha' fad' day mar msi mst men mpu mxs mys mfo mor mo1 mo2 := by
  obtain ⟨h6, rfl, rfl, rfl, rfl, rfl, rfl, rfl, rfl, hb, hK, hT, hU⟩ := h
  by_cases c1 : 0 ≤ p1.toInt ∧ p1.toInt ≤ 20000
  · by_cases c2 : 0 ≤ p2.toInt ∧ p2.toInt ≤ 100
    · by_cases c3 : 0 ≤ p3.toInt ∧ p3.toInt ≤ 1000
      · refine ⟨1, p1, p2, p3, p1, p2, p3, ?_, ?_, h6, rfl, rfl, rfl, rfl, rfl, rfl, rfl, rfl, ⟨hb.1, hb.2.1, c1, c2, c3⟩, hK, hT, hU⟩
        · unfold fL_losses
          rw [iw_t (by exact c1), Option.bind_some, if_neg (by decide), iw_t (by exact c2), Option.bind_some, if_neg (by decide), iw_t (by exact c3), Option.bind_some, if_neg (by decide)]
        · unfold fM_losses
          rw [in_t (by exact c1), Option.bind_some, if_neg (by decide), in_t (by exact c2), Option.bind_some, if_neg (by decide), in_t (by exact c3), Option.bind_some, if_neg (by decide)]
      · refine ⟨0, _, _, _, _, _, _, ?_, ?_, h6, rfl, rfl, rfl, rfl, rfl, rfl, rfl, rfl, hb, hK, hT, hU⟩
        · unfold fL_losses
          rw [iw_t (by exact c1), Option.bind_some, if_neg (by decide), iw_t (by exact c2), Option.bind_some, if_neg (by decide), iw_f (by exact c3), Option.bind_some, if_pos rfl]
        · unfold fM_losses
          rw [in_t (by exact c1), Option.bind_some, if_neg (by decide), in_t (by exact c2), Option.bind_some, if_neg (by decide), in_f (by exact c3), Option.bind_some, if_pos rfl]
    · refine ⟨0, _, _, _, _, _, _, ?_, ?_, h6, rfl, rfl, rfl, rfl, rfl, rfl, rfl, rfl, hb, hK, hT, hU⟩
      · unfold fL_losses
        rw [iw_t (by exact c1), Option.bind_some, if_neg (by decide), iw_f (by exact c2), Option.bind_some, if_pos rfl]
      · unfold fM_losses
        rw [in_t (by exact c1), Option.bind_some, if_neg (by decide), in_f (by exact c2), Option.bind_some, if_pos rfl]
  · refine ⟨0, _, _, _, _, _, _, ?_, ?_, h6, rfl, rfl, rfl, rfl, rfl, rfl, rfl, rfl, hb, hK, hT, hU⟩
    · unfold fL_losses
      rw [iw_f (by exact c1), Option.bind_some, if_pos rfl]
    · unfold fM_losses
      rw [in_f (by exact c1), Option.bind_some, if_pos rfl]
