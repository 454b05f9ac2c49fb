theorem updL_self {f : Nat → Int64} {p : Nat} : vp_updL f p (f p) = f := by
  funext j
  unfold vp_updL
  by_cases h : j = p
  · rw [if_pos h, h]
  · rw [if_neg h]
theorem updL_twice {f : Nat → Int64} {p : Nat} {x y : Int64} : vp_updL (vp_updL f p x) p y = vp_updL f p y := by
  funext j
  unfold vp_updL
  by_cases h : j = p
  · rw [if_pos h, if_pos h]
  · rw [if_neg h, if_neg h, if_neg h]
theorem updL_at {f : Nat → Int64} {p : Nat} {x : Int64} : vp_updL f p x p = x := by simp [vp_updL]
