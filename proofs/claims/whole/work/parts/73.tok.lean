/-- the reference's tokens: what reading changes -/
def fnT (σ s' : St) : Prop := ∀ q k, ¬ (q = 95 ∧ (k = 15 ∨ k = 16)) → s' q k = σ q k
theorem fnT.rf (σ : St) : fnT σ σ := fun _ _ _ => rfl
theorem fnT.u {σ s' : St} (h : fnT σ s') {k : Nat} (hk : k = 15 ∨ k = 16) (v : Int) : fnT σ (uS s' 95 k v) := fun q j hq => by
  rw [uS_ne _ _ (by omega)]; exact h q j hq
theorem fnT.tr {σ s1 s2 : St} (h : fnT σ s1) (g : fnT s1 s2) : fnT σ s2 := fun q j hq => (g q j hq).trans (h q j hq)
def rtU (s : St) (f : Nat → Int) (l p : Nat) : Prop := s 95 15 = (tkS f l p : Int) ∧ s 95 16 = (tkE f l (tkS f l p) : Int)
/-- what reading clauses changes -/
def fmT (σ s' : St) : Prop := ∀ q k, ¬ (q = 95 ∧ 15 ≤ k ∧ k ≤ 20) → s' q k = σ q k
theorem fmT.rf (σ : St) : fmT σ σ := fun _ _ _ => rfl
theorem fmT.u {σ s' : St} (h : fmT σ s') {k : Nat} (hk : 15 ≤ k ∧ k ≤ 20) (v : Int) : fmT σ (uS s' 95 k v) := fun q j hq => by
  rw [uS_ne _ _ (by omega)]; exact h q j hq
theorem fmT.tr {σ s1 s2 : St} (h : fmT σ s1) (g : fmT s1 s2) : fmT σ s2 := fun q j hq => (g q j hq).trans (h q j hq)
theorem fnT.fm {σ s' : St} (h : fnT σ s') : fmT σ s' := fun q k hq => h q k (by omega)
/-- rows of numbers: all else stays -/
def fa105 (α a' : St) : Prop := ∀ q, q ≠ 105 → a' q = α q
theorem fa105.rf (α : St) : fa105 α α := fun _ _ => rfl
theorem fa105.tr {α a1 a2 : St} (h : fa105 α a1) (g : fa105 a1 a2) : fa105 α a2 := fun q hq => (g q hq).trans (h q hq)
