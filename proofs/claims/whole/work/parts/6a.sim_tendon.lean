theorem sim_tendon {fu : Nat} (hfu : 2000 ≤ fu) {N : Nat} {lc : Int32} {dc : Int32} {sp : Int32} {sh : Int32} {fd : Int32} {lo : Nat → Int32} {rough : Int32} {mu : Int32} {Rs : Nat → kR} {thr : Int32} {ten : Int32} {loc : Int32} {rou : Int32} {mum : Int32} {sli : Int32} {sha : Int32} {fad : Int32} {day : Int32} {mar : Nat → Int32} {msi : Nat → Int32} {mst : Nat → Int32} {men : Nat → Int32} {mpu : Nat → Int32} {mxs : Nat → Int32} {mys : Nat → Int32} {mfo : Nat → Int64} {mor : Nat → Int32} {mo1 : Nat → Int64} {mo2 : Nat → Int64} (h : Rl N lc dc sp sh fd lo rough mu Rs thr ten loc rou mum sli sha fad day mar msi mst men mpu mxs mys mfo mor mo1 mo2) (p1 : Int32) : ∃ (r : Int32) (N' : Nat) (Rs' : Nat → kR) (ten' : Int32) (mar' : Nat → Int32), fL_tendon fu N Rs p1 = some (r, N', Rs') ∧ fM_tendon fu thr ten loc rou mum sli sha fad day mar msi mst men mpu mxs mys mfo mor mo1 mo2 p1 = some (r, ten', mar') ∧ Rl N' lc dc sp sh fd lo rough mu Rs' thr ten' loc rou mum sli sha fad day mar' msi mst men mpu mxs mys mfo mor mo1 mo2 := by
  obtain ⟨h6, rfl, rfl, rfl, rfl, rfl, rfl, rfl, rfl, hb, ⟨K, hK⟩, hT, hU⟩ := id h
  by_cases c1 : 50 ≤ p1.toInt ∧ p1.toInt ≤ 10000
  · by_cases c2 : N < 6
    · have hne : ¬ nI N = (6 : Int32) := fun e => by
        have := congrArg Int32.toInt e
        rw [nI_toInt (by omega), show (6 : Int32).toInt = 6 from rfl] at this
        omega
      have hlt : nI N < (6 : Int32) := by rw [Int32.lt_iff_toInt_lt, nI_toInt (by omega), show (6 : Int32).toInt = 6 from rfl]; omega
      refine ⟨nI N, N + 1, va_up Rs N (p1, 0, 0, 0, 0, (fun _ => 0), (fun _ => 0), (fun _ => 0), (fun _ => 0), (fun _ => 0), (fun _ => 0)), nI (N + 1), upd mar N p1, ?_, ?_, by omega, rfl, rfl, rfl, rfl, rfl, rfl, rfl, rfl, hb, ⟨K, hK.1, hK.2.1, ?_, hK.2.2.2⟩, ?_, ?_⟩
      · unfold fL_tendon
        rw [iw_t (by exact c1), Option.bind_some, if_neg (by decide), if_pos hlt]
      · unfold fM_tendon
        rw [in_t (by exact c1), Option.bind_some, if_neg (by decide), if_neg hne, if_pos (z_ok c2 (by omega)), z_cl (by omega), show nI N + (1 : Int32) = nI (N + 1) from nI_1 N, nI_pred]
      · intro k
        rw [hK.2.2.1 k]
        by_cases e : k = N
        · subst e
          constructor
          · intro q; omega
          · intro q
            have q2 := q.2
            simp [va_up] at q2
        · simp [va_up, e]
          omega
      · intro k hk
        by_cases e : k = N
        · subst e
          have hu := hU k (Nat.le_refl _) c2
          rw [show va_up Rs k (p1, 0, 0, 0, 0, (fun _ => 0), (fun _ => 0), (fun _ => 0), (fun _ => 0), (fun _ => 0), (fun _ => 0)) k = ((p1, 0, 0, 0, 0, (fun _ => 0), (fun _ => 0), (fun _ => 0), (fun _ => 0), (fun _ => 0), (fun _ => 0)) : kR) by simp [va_up]]
          refine ⟨0, by omega, rfl, hu.1, by simp [upd], c1, hu.2.1, Or.inl rfl, fun q => absurd rfl q, fun i hi => absurd hi (Nat.not_lt_zero _), fun i hi => absurd hi (Nat.not_lt_zero _), fun i hi => ?_⟩
          have := hu.2.2 i hi
          rw [this]
          exact ⟨rfl, by decide, by decide⟩
        · have ht := hT k (by omega)
          rw [show va_up Rs N (p1, 0, 0, 0, 0, (fun _ => 0), (fun _ => 0), (fun _ => 0), (fun _ => 0), (fun _ => 0), (fun _ => 0)) k = Rs k by simp [va_up, e]]
          obtain ⟨n, a1, a2, a3, a4, a5⟩ := ht
          exact ⟨n, a1, a2, a3, by rw [← a4]; simp [upd, e], a5⟩
      · intro k hk hk6
        exact hU k (by omega) hk6
    · have e6 : N = 6 := by omega
      subst e6
      refine ⟨-1, 6, Rs, _, _, ?_, ?_, h⟩
      · unfold fL_tendon
        rw [iw_t (by exact c1), Option.bind_some, if_neg (by decide), if_neg (by decide)]
      · unfold fM_tendon
        rw [in_t (by exact c1), Option.bind_some, if_neg (by decide), if_pos (by decide)]
  · refine ⟨-1, N, Rs, _, _, ?_, ?_, h⟩
    · unfold fL_tendon
      rw [iw_f (by exact c1), Option.bind_some, if_pos rfl]
    · unfold fM_tendon
      rw [in_f (by exact c1), Option.bind_some, if_pos rfl]
