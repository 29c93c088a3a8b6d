theorem clm_lt0 {n : Nat} {V B N : Nat → Int} : ∀ f a, a < n → (clm V B N n f a).1 < n := by
  intro f
  induction f with
  | zero => intro a ha; exact ha
  | succ f ih =>
    intro a ha
    cases h : topR V B N n a with
    | true => rw [clm_y h]; exact ha
    | false =>
      have hr := latU_r V B (N a) n
      by_cases h0 : latU V B (N a) n = -1
      · simp [topR, h0] at h
      · have e : latU V B (N a) n = ((latU V B (N a) n).toNat : Nat) := by omega
        rw [clm_n h e]
        exact ih _ (by omega)
theorem clm_lt {n : Nat} {V B N : Nat → Int} {a : Nat} (ha : a < n) : (clm V B N n 10 a).1 < n := clm_lt0 10 a ha
