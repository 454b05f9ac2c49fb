/-! One more point. -/
theorem quo_ne {fu : Nat} {v d : Int64} (h : ¬ d = 0) : fL_quotient fu v d = some (v / d) := by
  unfold fL_quotient
  rw [if_neg h, if_pos h]
theorem i64_ne {d : Int32} (h : d.toInt ≠ 0) : ¬ d.toInt64 = 0 := fun e => h (by
  have := congrArg Int64.toInt e
  rw [Int32.toInt_toInt64] at this
  exact this)
theorem z_ok2 {k N : Nat} (h : k < N) (hN : N ≤ 60) : ¬ ((nI k) < 0 ∨ N ≤ k) := fun q => by
  rcases q with q | q
  · exact nI_pos (by omega) q
  · omega
section PT
variable {fu n : Nat} {xs ys ln sl : Nat → Int32} {a b : Int32}
theorem may_0 : fD_mayGoOnTo fu (nI 0) xs ys ln sl a b = some (if (-3000 ≤ b.toInt ∧ b.toInt ≤ 3000) ∧ (0 ≤ a.toInt ∧ a.toInt ≤ 100000) then 1 else 0) := by
  unfold fD_mayGoOnTo
  rw [if_neg (by decide)]
  by_cases c1 : -3000 ≤ b.toInt ∧ b.toInt ≤ 3000
  · rw [iw_t (by exact c1), Option.bind_some, if_neg (by decide), if_pos (show nI 0 = 0 from rfl), Option.bind_some]
    by_cases c2 : 0 ≤ a.toInt ∧ a.toInt ≤ 100000
    · rw [iw_t (by exact c2), Option.bind_some, if_pos (by decide), if_pos ⟨c1, c2⟩]
    · rw [iw_f (by exact c2), Option.bind_some, if_pos (by decide), if_neg (fun q => c2 q.2)]
  · rw [iw_f (by exact c1), Option.bind_some, if_pos rfl, if_neg (fun q => c1 q.1)]
theorem may_s (h1 : 1 ≤ n) (hn : n < 10) (hx : 0 ≤ (xs (n - 1)).toInt ∧ (xs (n - 1)).toInt ≤ 100000) : fD_mayGoOnTo fu (nI n) xs ys ln sl a b = some (if (-3000 ≤ b.toInt ∧ b.toInt ≤ 3000) ∧ ((xs (n - 1)).toInt + 100 ≤ a.toInt ∧ a.toInt ≤ 100000) then 1 else 0) := by
  have e : (xs (n - 1) + (100 : Int32)).toInt = (xs (n - 1)).toInt + 100 := by
    rw [i_add, show (100 : Int32).toInt = 100 from rfl] <;> rw [show (100 : Int32).toInt = 100 from rfl] <;> omega
  have hne : ¬ nI n = 0 := fun q => by have := (nI_eq (a := n) (b := 0) (by omega) (by omega)).mp q; omega
  have h10 : ¬ (10 : Int32) ≤ nI n := fun q => by have := (nI_leI (a := 10) (b := n) (by omega) (by omega)).mp q; omega
  unfold fD_mayGoOnTo
  rw [if_neg h10]
  by_cases c1 : -3000 ≤ b.toInt ∧ b.toInt ≤ 3000
  · rw [iw_t (by exact c1), Option.bind_some, if_neg (by decide), if_neg hne, show nI n - (1 : Int32) = nI (n - 1) from pk_sub (a := n) (b := 1) h1, if_pos (z_ok (by omega) (by omega)), z_cl (by omega), Option.bind_some]
    by_cases c2 : (xs (n - 1)).toInt + 100 ≤ a.toInt ∧ a.toInt ≤ 100000
    · rw [iw_t (by rw [e]; exact c2), Option.bind_some, if_pos (by decide), if_pos ⟨c1, c2⟩]
    · rw [iw_f (by rw [e]; exact c2), Option.bind_some, if_pos (by decide), if_neg (fun q => c2 q.2)]
  · rw [iw_f (by exact c1), Option.bind_some, if_pos rfl, if_neg (fun q => c1 q.1)]
theorem go_0 : fD_goOnTo fu (nI 0) xs ys ln sl a b = some (nI 1, upd xs 0 a, upd ys 0 b, ln, sl) := by
  unfold fD_goOnTo
  rw [if_pos (by decide), if_pos (by decide), if_pos (by decide), if_pos (by decide)]
  rfl
theorem upd_at {f : Nat → Int32} {k : Nat} {v : Int32} : upd f k v k = v := by simp [upd]
theorem upd_ne {f : Nat → Int32} {k j : Nat} {v : Int32} (h : j ≠ k) : upd f k v j = f j := by simp [upd, h]
theorem go_s (hf : 100 ≤ fu) (h1 : 1 ≤ n) (hn : n < 10) (hd : (a - xs (n - 1)).toInt ≠ 0) : fD_goOnTo fu (nI n) xs ys ln sl a b = some (nI (n + 1), upd xs n a, upd ys n b,
    upd ln (n - 1) (rt ((a - xs (n - 1)).toInt64 * (a - xs (n - 1)).toInt64 + (b - ys (n - 1)).toInt64 * (b - ys (n - 1)).toInt64)).toInt32, upd sl (n - 1) ((1000 : Int64) * (b - ys (n - 1)).toInt64 / (a - xs (n - 1)).toInt64).toInt32) := by
  have hlt : nI n < (10 : Int32) := (nI_ltI (a := n) (b := 10) (by omega) (by omega)).mpr hn
  have hgt : ¬ nI (n + 1) ≤ (1 : Int32) := fun q => by have := (nI_leI (a := n + 1) (b := 1) (by omega) (by omega)).mp q; omega
  unfold fD_goOnTo
  rw [if_pos hlt, if_pos (z_ok hn (by omega)), if_pos (z_ok hn (by omega)), nI_1, if_neg hgt, show nI (n + 1) - (2 : Int32) = nI (n - 1) from pk_sub (a := n + 1) (b := 2) (by omega), z_cl (by omega)]
  unfold fD_measurePiece fD_widthOf
  rw [show nI (n - 1) + (1 : Int32) = nI n by rw [nI_1]; congr 1; omega, if_pos (z_ok hn (by omega)), if_pos (z_ok (by omega) (by omega)), Option.bind_some, if_pos (z_ok hn (by omega)), if_pos (z_ok (by omega) (by omega)), z_cl (by omega), z_cl (by omega), upd_at, upd_at, upd_ne (by omega), upd_ne (by omega), rt_D hf, Option.bind_some, if_pos (z_ok2 (by omega) (by omega)), quo_ne (i64_ne hd), Option.bind_some, if_pos (z_ok2 (by omega) (by omega)), Option.bind_some]
end PT
