/-! What the class's numbers and the reference's have to do with each other. -/
/-- the root, as the reference has it with fuel enough -/
def rt (v : Int64) : Int64 := (fM_root 2000 v).getD 0
def lnO (xs ys : Nat → Int32) (p : Nat) : Int64 := rt ((xs (p + 1) - xs p).toInt64 * (xs (p + 1) - xs p).toInt64 + (ys (p + 1) - ys p).toInt64 * (ys (p + 1) - ys p).toInt64)
def slO (xs ys : Nat → Int32) (p : Nat) : Int32 := (1000 : Int32) * (ys (p + 1) - ys p) / (xs (p + 1) - xs p)
/-- one tendon of the class beside its rows of the reference -/
def RlT (k : Nat) (r : kR) (mar msi mst men mpu mxs mys : Nat → Int32) (mfo : Nat → Int64) : Prop :=
  ∃ n : Nat, n ≤ 10 ∧ r.2.2.2.2.1 = nI n ∧ msi k = nI n ∧ mar k = r.1 ∧ (50 ≤ r.1.toInt ∧ r.1.toInt ≤ 10000) ∧ mst k = r.2.1 ∧ (r.2.1 = 0 ∨ r.2.1 = 1 ∨ r.2.1 = 2) ∧
    (¬ r.2.1 = 0 → 2 ≤ n ∧ men k = r.2.2.1 ∧ mpu k = r.2.2.2.1 ∧ (r.2.2.1 = 1 ∨ r.2.2.1 = 2 ∨ r.2.2.1 = 3) ∧ 1 ≤ r.2.2.2.1.toInt ∧ r.2.2.2.1.toInt ≤ 10000000) ∧
    (∀ i, i < n → r.2.2.2.2.2.1 i = mxs (10 * k + i) ∧ r.2.2.2.2.2.2.1 i = mys (10 * k + i) ∧ (0 ≤ (mxs (10 * k + i)).toInt ∧ (mxs (10 * k + i)).toInt ≤ 100000) ∧ (-3000 ≤ (mys (10 * k + i)).toInt ∧ (mys (10 * k + i)).toInt ≤ 3000)) ∧
    (∀ i, i + 1 < n → (mxs (10 * k + i)).toInt + 100 ≤ (mxs (10 * k + i + 1)).toInt ∧ r.2.2.2.2.2.2.2.1 i = (lnO mxs mys (10 * k + i)).toInt32 ∧ r.2.2.2.2.2.2.2.2.1 i = slO mxs mys (10 * k + i)) ∧
    (∀ i, i < 10 → r.2.2.2.2.2.2.2.2.2.1 i = mfo (10 * k + i) ∧ 0 ≤ (mfo (10 * k + i)).toInt ∧ (mfo (10 * k + i)).toInt ≤ 10000000)
/-- the tendons that are locked, in their order -/
def RlK (N : Nat) (lc : Int32) (lo mor : Nat → Int32) (Rs : Nat → kR) (K : List Nat) : Prop :=
  lc = nI K.length ∧ K.Nodup ∧ (∀ k, k ∈ K ↔ k < N ∧ (Rs k).2.1 = 2) ∧ ∀ i k, K[i]? = some k → lo i = nI k ∧ mor i = nI k
def Rl (N : Nat) (lc dc sp sh fd : Int32) (lo : Nat → Int32) (rough mu : Int32) (Rs : Nat → kR) (_thr ten loc rou mum sli sha fad day : Int32) (mar msi mst men mpu mxs mys : Nat → Int32) (mfo : Nat → Int64) (mor : Nat → Int32) (_mo1 _mo2 : Nat → Int64) : Prop :=
  N ≤ 6 ∧ ten = nI N ∧ loc = lc ∧ day = dc ∧ sli = sp ∧ sha = sh ∧ fad = fd ∧ rou = rough ∧ mum = mu ∧
  ((0 ≤ rough.toInt ∧ rough.toInt ≤ 1000) ∧ (0 ≤ mu.toInt ∧ mu.toInt ≤ 500) ∧ (0 ≤ sp.toInt ∧ sp.toInt ≤ 20000) ∧ (0 ≤ sh.toInt ∧ sh.toInt ≤ 100) ∧ (0 ≤ fd.toInt ∧ fd.toInt ≤ 1000)) ∧
  (∃ K : List Nat, RlK N lc lo mor Rs K) ∧
  (∀ k, k < N → RlT k (Rs k) mar msi mst men mpu mxs mys mfo) ∧
  (∀ k, N ≤ k → k < 6 → msi k = 0 ∧ mst k = 0 ∧ ∀ i, i < 10 → mfo (10 * k + i) = 0)
theorem Rl_N {N : Nat} {lc dc sp sh fd : Int32} {lo : Nat → Int32} {rough mu : Int32} {Rs : Nat → kR} {thr ten loc rou mum sli sha fad day : Int32} {mar msi mst men mpu mxs mys : Nat → Int32} {mfo : Nat → Int64} {mor : Nat → Int32} {mo1 mo2 : Nat → Int64} (h : Rl N lc dc sp sh fd lo rough mu Rs thr ten loc rou mum sli sha fad day mar msi mst men mpu mxs mys mfo mor mo1 mo2) : N ≤ 6 := h.1
def Rs0 : Nat → kR := fun _ => (0, 0, 0, 0, 0, (fun _ => 0), (fun _ => 0), (fun _ => 0), (fun _ => 0), (fun _ => 0), (fun _ => 0))
theorem Rl_init : Rl 0 0 0 0 10 3 (fun _ => 0) 5 200 Rs0 0 0 0 5 200 0 10 3 0 (fun _ => 0) (fun _ => 0) (fun _ => 0) (fun _ => 0) (fun _ => 0) (fun _ => 0) (fun _ => 0) (fun _ => 0) (fun _ => 0) (fun _ => 0) (fun _ => 0) := by
  refine ⟨Nat.zero_le _, rfl, rfl, rfl, rfl, rfl, rfl, rfl, rfl, by decide, ⟨[], rfl, List.nodup_nil, fun k => ⟨fun h => absurd h List.not_mem_nil, fun h => absurd h.1 (Nat.not_lt_zero _)⟩, fun i k h => by simp at h⟩, fun k h => absurd h (Nat.not_lt_zero _), fun k _ _ => ⟨rfl, rfl, fun _ _ => rfl⟩⟩
