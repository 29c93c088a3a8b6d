/-- the reference holds a plan -/
def rlU (σ α : St) (P : pnT) : Prop := σ 95 1 = (pnN P : Int) ∧ (σ 95 5 = pnA P ∧ σ 95 6 = pnB P ∧ σ 95 7 = pnC P) ∧ (∀ i, i < 10 → α 97 i = pnV P i ∧ α 98 i = pnK P i ∧ α 99 i = pnJ P i) ∧ ∀ k, k < 29 → α 96 k = pnR P k
/-- what doing a clause changes -/
def frD (σ α s' a' : St) : Prop := (∀ q k, ¬ (q = 95 ∧ (k = 1 ∨ k = 5 ∨ k = 6 ∨ k = 7)) → s' q k = σ q k) ∧ (∀ q, q ≠ 96 → q ≠ 97 → q ≠ 98 → q ≠ 99 → a' q = α q) ∧ ∀ i, 29 ≤ i → a' 96 i = α 96 i
/-- what reading and doing clauses changes -/
def fdU (σ α s' a' : St) : Prop := (∀ q k, ¬ (q = 95 ∧ (k = 1 ∨ k = 5 ∨ k = 6 ∨ k = 7 ∨ (15 ≤ k ∧ k ≤ 20))) → s' q k = σ q k) ∧ (∀ q, q ≠ 96 → q ≠ 97 → q ≠ 98 → q ≠ 99 → q ≠ 105 → a' q = α q) ∧ ∀ i, 29 ≤ i → a' 96 i = α 96 i
theorem fdU.rf (σ α : St) : fdU σ α σ α := ⟨fun _ _ _ => rfl, fun _ _ _ _ _ _ => rfl, fun _ _ => rfl⟩
theorem fdU.tr {σ α s1 a1 s2 a2 : St} (h : fdU σ α s1 a1) (g : fdU s1 a1 s2 a2) : fdU σ α s2 a2 := ⟨fun q k hq => (g.1 q k hq).trans (h.1 q k hq), fun q h1 h2 h3 h4 h5 => (g.2.1 q h1 h2 h3 h4 h5).trans (h.2.1 q h1 h2 h3 h4 h5), fun i hi => (g.2.2 i hi).trans (h.2.2 i hi)⟩
theorem fdU.ofm {σ α s' a' : St} (h : fmT σ s') (g : fa105 α a') : fdU σ α s' a' := ⟨fun q k hq => h q k (by omega), fun q _ _ _ _ h5 => g q h5, fun i _ => by rw [g 96 (by decide)]⟩
theorem fdU.ofd {σ α s' a' : St} (h : frD σ α s' a') : fdU σ α s' a' := ⟨fun q k hq => h.1 q k (by omega), fun q h1 h2 h3 h4 _ => h.2.1 q h1 h2 h3 h4, h.2.2⟩
theorem rlU.go {σ α s' a' : St} {P : pnT} (h : rlU σ α P) (h1 : fmT σ s') (h2 : fa105 α a') : rlU s' a' P := by
  obtain ⟨g1, g2, g3, g4⟩ := h
  rw [rlU, h1 95 1 (by omega), h1 95 5 (by omega), h1 95 6 (by omega), h1 95 7 (by omega), h2 96 (by decide), h2 97 (by decide), h2 98 (by decide), h2 99 (by decide)]
  exact ⟨g1, g2, g3, g4⟩
theorem doU_n {w : Int} (hw : 0 ≤ w ∧ w ≤ 5) (x y z : Int) (P : pnT) : pnN (doU w x y z P) = if w = 0 then 0 else if w = 1 then pnN P + 1 else pnN P := by
  rcases (show w = 0 ∨ w = 1 ∨ w = 2 ∨ w = 3 ∨ w = 4 ∨ w = 5 by omega) with rfl | rfl | rfl | rfl | rfl | rfl
  · rw [doU_0]; rfl
  · rw [doU_1]; rfl
  · rw [doU_2]; rfl
  · rw [doU_3]; rfl
  · rw [doU_4]; rfl
  · rw [doU_5]; rfl
theorem doU_r {w : Int} (hw : 0 ≤ w ∧ w ≤ 5) (x y z : Int) {P : pnT} (h : 0 ≤ pnR P 0) : pnR (doU w x y z P) 0 = if w = 0 then 0 else if w = 3 then pnR P 0 + 1 else pnR P 0 := by
  rcases (show w = 0 ∨ w = 1 ∨ w = 2 ∨ w = 3 ∨ w = 4 ∨ w = 5 by omega) with rfl | rfl | rfl | rfl | rfl | rfl
  · rw [doU_0]; show anR (pnR P) 10 0 = _; simp [anR]
  · rw [doU_1]; rfl
  · rw [doU_2]; rfl
  · rw [doU_3]; show arR (pnR P) (pnR P 0).toNat x y z 0 = pnR P 0 + 1; unfold arR; rw [uF_eq]; omega
  · rw [doU_4]; show uF (pnR P) (19 + x.toNat) y 0 = pnR P 0; rw [uF_ne _ _ (by omega)]
  · rw [doU_5]; rfl
theorem rdU_t {f : Nat → Int} {l k p : Nat} {P : pnT} (h : (clU f l (pnN P) (pnR P 0) p).1 = true) : rdU f l (k + 1) p P = rrU f l k (rdU f l k) (clU f l (pnN P) (pnR P 0) p).2.1 (dpU f l p P) := by
  show (if (clU f l (pnN P) (pnR P 0) p).1 = true then _ else _) = _
  rw [if_pos h]
theorem rdU_f {f : Nat → Int} {l k p : Nat} {P : pnT} (h : (clU f l (pnN P) (pnR P 0) p).1 = false) : rdU f l (k + 1) p P = (false, (clU f l (pnN P) (pnR P 0) p).2.1, 0, P) := by
  show (if (clU f l (pnN P) (pnR P 0) p).1 = true then rrU f l k (rdU f l k) (clU f l (pnN P) (pnR P 0) p).2.1 (dpU f l p P) else (false, (clU f l (pnN P) (pnR P 0) p).2.1, 0, P)) = _
  rw [if_neg (by rw [h]; decide)]
theorem rrU_e {f : Nat → Int} {l k p : Nat} {g : Nat → pnT → rdT} {P : pnT} (h : ¬ tkS f l p < l) : rrU f l k g p P = (true, tkS f l p, 24 - k, P) := by unfold rrU; rw [if_neg h]
theorem rrU_b {f : Nat → Int} {l k p : Nat} {g : Nat → pnT → rdT} {P : pnT} (h : tkS f l p < l) (h2 : ¬ (f (tkS f l p) = 59 ∧ k ≠ 0)) : rrU f l k g p P = (false, tkS f l p, 0, P) := by unfold rrU; rw [if_pos h, if_neg h2]
theorem rrU_g {f : Nat → Int} {l k p : Nat} {g : Nat → pnT → rdT} {P : pnT} (h : tkS f l p < l) (h2 : f (tkS f l p) = 59) (h3 : k ≠ 0) : rrU f l k g p P = g (tkE f l (tkS f l p)) P := by unfold rrU; rw [if_pos h, if_pos ⟨h2, h3⟩]
