theorem nd_len : ∀ (N : Nat) (K : List Nat), K.Nodup → (∀ k ∈ K, k < N) → K.length ≤ N
  | 0, K, _, h => by
    cases K with
    | nil => exact Nat.le_refl _
    | cons a l => exact absurd (h a List.mem_cons_self) (Nat.not_lt_zero _)
  | N + 1, K, nd, h => by
    by_cases c : N ∈ K
    · have h1 := nd_len N (K.erase N) (nd.erase N) (fun k hk => by
        have h2 := h k (List.mem_of_mem_erase hk)
        have h3 : k ≠ N := fun e => by subst e; exact nd.not_mem_erase hk
        omega)
      have h4 := List.length_erase_of_mem c
      omega
    · have h1 := nd_len N K nd (fun k hk => by
        have h2 := h k hk
        have h3 : k ≠ N := fun e => c (e ▸ hk)
        omega)
      omega
