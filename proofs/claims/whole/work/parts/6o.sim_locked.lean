theorem sim_locked {fu : Nat} (hfu : 2000 ≤ fu) {N : Nat} {lc : Int32} {dc : Int32} {sp : Int32} {sh : Int32} {fd : Int32} {lo : Nat → Int32} {rough : Int32} {mu : Int32} {Rs : Nat → kR} {thr : Int32} {ten : Int32} {loc : Int32} {rou : Int32} {mum : Int32} {sli : Int32} {sha : Int32} {fad : Int32} {day : Int32} {mar : Nat → Int32} {msi : Nat → Int32} {mst : Nat → Int32} {men : Nat → Int32} {mpu : Nat → Int32} {mxs : Nat → Int32} {mys : Nat → Int32} {mfo : Nat → Int64} {mor : Nat → Int32} {mo1 : Nat → Int64} {mo2 : Nat → Int64} (h : Rl N lc dc sp sh fd lo rough mu Rs thr ten loc rou mum sli sha fad day mar msi mst men mpu mxs mys mfo mor mo1 mo2) (p1 : Int32) : ∃ (r : Int32), fL_locked fu N lc dc sp sh fd lo rough mu Rs p1 = some r ∧ fM_locked fu thr ten loc rou mum sli sha fad day mar msi mst men mpu mxs mys mfo mor mo1 mo2 p1 = some r ∧ Rl N lc dc sp sh fd lo rough mu Rs thr ten loc rou mum sli sha fad day mar msi mst men mpu mxs mys mfo mor mo1 mo2 := by
  obtain ⟨h6, rfl, rfl, rfl, rfl, rfl, rfl, rfl, rfl, hb, ⟨K, hK⟩, hT, hU⟩ := id h
  obtain ⟨rfl, k2, k3, k4⟩ := hK
  have kl : K.length ≤ 6 := Nat.le_trans (nd_len N K k2 (fun k hk => ((k3 k).mp hk).1)) h6
  rcases z_ix p1 (N := K.length) (by omega) with ⟨k, hk, rfl⟩ | c
  · obtain ⟨e1, e2⟩ := k4 k K[k] (List.getElem?_eq_getElem hk)
    refine ⟨nI K[k], ?_, ?_, h⟩
    · unfold fL_locked
      rw [iw_t (by rw [nI_m1 (by omega), nI_toInt (by omega), z0]; omega), Option.bind_some, if_neg (by decide), if_pos (z_ok (by omega) (by omega)), z_cl (by omega), e1]
    · unfold fM_locked
      rw [in_t (by rw [nI_m1 (by omega), nI_toInt (by omega), z0]; omega), Option.bind_some, if_neg (by decide), if_pos (z_ok (by omega) (by omega)), z_cl (by omega), e2]
  · rw [z_in] at c
    refine ⟨-1, ?_, ?_, h⟩
    · unfold fL_locked
      rw [iw_f (by rw [nI_m1 (by omega), z0]; omega), Option.bind_some, if_pos rfl]
    · unfold fM_locked
      rw [in_f (by rw [nI_m1 (by omega), z0]; omega), Option.bind_some, if_pos rfl]
