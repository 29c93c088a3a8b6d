/-- what holds between the class and the reference -/
def ivT (σ α : St) (l : Nat) : Prop := (σ 1 1 = (l : Int) ∧ σ 95 11 = (l : Int)) ∧ α 2 = α 101 ∧ txU (α 101) l ∧ ∀ k, k < 42 → α 106 k = wrd k
def ivP (σ α : St) (P : pnT) : Prop := wfP P ∧ pcU σ α 3 P ∧ (σ 95 1 = (pnN P : Int) ∧ σ 95 5 = pnA P ∧ σ 95 6 = pnB P ∧ σ 95 7 = pnC P) ∧ (∀ i, i < 10 → α 97 i = pnV P i ∧ α 98 i = pnK P i ∧ α 99 i = pnJ P i) ∧ ∀ k, k < 29 → α 96 (319 + k) = pnR P k
def ivN (σ α : St) (n : Nat) : Prop := wfR n (α 96) ∧ ftU σ α 22 (α 96)
def ivU (σ α : St) (n x u : Nat) : Prop := (σ 27 1 = (x : Int) ∧ x < 8) ∧ (σ 27 2 = (u : Int) ∧ σ 95 8 = (u : Int) ∧ u ≤ 8) ∧ ∀ j, j < u → wfR n (fun k => α 96 (29 + 29 * j + k)) ∧ ftU σ α (29 + 5 * ((x + 8 - u + j) % 8)) (fun k => α 96 (29 + 29 * j + k))
def ivK (σ α : St) (n : Nat) : Prop := ∀ k, k < 2 → (α 70 k = 0 ∧ α 100 k = 0) ∨ (α 70 k = 1 ∧ α 100 k = 1 ∧ wfR n (fun i => α 96 (261 + 29 * k + i)) ∧ ftU σ α (79 + 5 * k) (fun i => α 96 (261 + 29 * k + i)))
def ivB (σ α : St) : Prop := ∀ t, t < 3 → ∃ z kd f, BK σ α (89 + 2 * t) z kd f ∧ RB α t z kd f
def ivA (σ α : St) : Prop := ∃ (P : pnT) (l x u : Nat), ivT σ α l ∧ ivP σ α P ∧ ivN σ α (pnN P) ∧ ivU σ α (pnN P) x u ∧ ivK σ α (pnN P) ∧ ivB σ α
theorem wfR.cg {n : Nat} {R R' : Nat → Int} (h : wfR n R) (hR : ∀ k, k < 29 → R' k = R k) : wfR n R' := by
  obtain ⟨h1, h2, h3⟩ := h
  refine ⟨by rw [hR 0 (by decide)]; exact h1, fun r hr => ?_, fun i hi => by rw [hR _ (by omega)]; exact h3 i hi⟩
  rw [hR 0 (by decide)] at hr
  rw [hR _ (by omega), hR _ (by omega), hR _ (by omega)]
  exact h2 r hr
theorem ivT.go {σ α s' a' : St} {l : Nat} (h : ivT σ α l) (h1 : s' 1 1 = σ 1 1) (h2 : s' 95 11 = σ 95 11) (h3 : a' 2 = α 2) (h4 : a' 101 = α 101) (h5 : a' 106 = α 106) : ivT s' a' l := by
  rw [ivT, h1, h2, h3, h4, h5]; exact h
theorem ivP.go {σ α s' a' : St} {P : pnT} (h : ivP σ α P) (hs : ∀ q k, q = 3 ∨ q = 7 → s' q k = σ q k) (h1 : s' 95 1 = σ 95 1) (h5 : s' 95 5 = σ 95 5) (h6 : s' 95 6 = σ 95 6) (h7 : s' 95 7 = σ 95 7) (ha : ∀ q, 4 ≤ q → q ≤ 11 → a' q = α q) (a7 : a' 97 = α 97) (a8 : a' 98 = α 98) (a9 : a' 99 = α 99) (a6 : ∀ k, k < 29 → a' 96 (319 + k) = α 96 (319 + k)) : ivP s' a' P := by
  obtain ⟨g1, g2, g3, g4, g5⟩ := h
  rw [ivP, h1, h5, h6, h7, a7, a8, a9]
  exact ⟨g1, g2.go hs ha, g3, g4, fun k hk => by rw [a6 k hk]; exact g5 k hk⟩
theorem ivN.go {σ α s' a' : St} {n : Nat} (h : ivN σ α n) (hs : s' 22 4 = σ 22 4) (ha : ∀ q, 23 ≤ q → q ≤ 26 → a' q = α q) (a6 : ∀ k, k < 29 → a' 96 k = α 96 k) : ivN s' a' n := by
  obtain ⟨g1, g2⟩ := h
  exact ⟨g1.cg a6, (g2.go (s' := s') (a' := a') hs (ha 23 (by decide) (by decide)) (ha 24 (by decide) (by decide)) (ha 25 (by decide) (by decide)) (ha 26 (by decide) (by decide))).cg (fun k hk => (a6 k hk).symm)⟩
theorem ivU.go {σ α s' a' : St} {n x u : Nat} (h : ivU σ α n x u) (h1 : s' 27 1 = σ 27 1) (h2 : s' 27 2 = σ 27 2) (h8 : s' 95 8 = σ 95 8) (hs : ∀ y, y < 8 → s' (29 + 5 * y) 4 = σ (29 + 5 * y) 4) (ha : ∀ q, 29 ≤ q → q ≤ 68 → a' q = α q) (a6 : ∀ k, 29 ≤ k → k < 261 → a' 96 k = α 96 k) : ivU s' a' n x u := by
  obtain ⟨g1, g2, g3⟩ := h
  rw [ivU, h1, h2, h8]
  refine ⟨g1, g2, fun j hj => ?_⟩
  obtain ⟨k1, k2⟩ := g3 j hj
  have hy : (x + 8 - u + j) % 8 < 8 := Nat.mod_lt _ (by decide)
  generalize (x + 8 - u + j) % 8 = y at k2 hy ⊢
  refine ⟨k1.cg (fun k hk => a6 _ (by omega) (by omega)), (k2.go (s' := s') (a' := a') (hs y hy) (ha _ (by omega) (by omega)) (ha _ (by omega) (by omega)) (ha _ (by omega) (by omega)) (ha _ (by omega) (by omega))).cg (fun k hk => (a6 _ (by omega) (by omega)).symm)⟩
theorem ivK.go {σ α s' a' : St} {n : Nat} (h : ivK σ α n) (h7 : a' 70 = α 70) (h1 : a' 100 = α 100) (hs : ∀ k, k < 2 → s' (79 + 5 * k) 4 = σ (79 + 5 * k) 4) (ha : ∀ q, 79 ≤ q → q ≤ 88 → a' q = α q) (a6 : ∀ k, 261 ≤ k → k < 319 → a' 96 k = α 96 k) : ivK s' a' n := by
  intro k hk
  rw [h7, h1]
  rcases h k hk with h | ⟨g1, g2, g3, g4⟩
  · exact Or.inl h
  · exact Or.inr ⟨g1, g2, g3.cg (fun i hi => a6 _ (by omega) (by omega)), (g4.go (s' := s') (a' := a') (hs k hk) (ha _ (by omega) (by omega)) (ha _ (by omega) (by omega)) (ha _ (by omega) (by omega)) (ha _ (by omega) (by omega))).cg (fun i hi => (a6 _ (by omega) (by omega)).symm)⟩
theorem BK.go {σ α s' a' : St} {p : Nat} {z kd : Int} {f : Nat → Int} (h : BK σ α p z kd f) (hs : s' p = σ p) (ha : a' (p + 1) = α (p + 1)) : BK s' a' p z kd f := by rw [BK, hs, ha]; exact h
theorem RB.go {α a' : St} {t : Nat} {z kd : Int} {f : Nat → Int} (h : RB α t z kd f) (h2 : a' 102 t = α 102 t) (h3 : a' 103 t = α 103 t) (h4 : ∀ j, j < 8 → a' 104 (8 * t + j) = α 104 (8 * t + j)) : RB a' t z kd f := by
  obtain ⟨g1, g2, g3, g4, g5⟩ := h
  exact ⟨by rw [h2]; exact g1, g2, by rw [h3]; exact g3, g4, fun j hj => by rw [h4 j hj]; exact g5 j hj⟩
theorem ivB.go {σ α s' a' : St} (h : ivB σ α) (hs : ∀ q, 89 ≤ q → q ≤ 93 → s' q = σ q) (ha : ∀ q, 90 ≤ q → q ≤ 94 → a' q = α q) (h2 : a' 102 = α 102) (h3 : a' 103 = α 103) (h4 : a' 104 = α 104) : ivB s' a' := by
  intro t ht
  obtain ⟨z, kd, f, g1, g2⟩ := h t ht
  exact ⟨z, kd, f, g1.go (hs _ (by omega) (by omega)) (ha _ (by omega) (by omega)), g2.go (by rw [h2]) (by rw [h3]) (fun j _ => by rw [h4])⟩
/-- what questions change -/
def fqI (σ α s' a' : St) : Prop := (∀ q k, ¬ (q = 71 ∧ k = 8) → ¬ (q = 95 ∧ k = 23) → ¬ (q = 95 ∧ 15 ≤ k ∧ k ≤ 20) → q ≠ 21 → q ≠ 12 → q ≠ 16 → s' q k = σ q k) ∧ ∀ q, ¬ (72 ≤ q ∧ q ≤ 77) → q ≠ 105 → q ≠ 107 → ¬ (13 ≤ q ∧ q ≤ 20) → a' q = α q
theorem fqI.rf (σ α : St) : fqI σ α σ α := ⟨fun _ _ _ _ _ _ _ _ => rfl, fun _ _ _ _ _ => rfl⟩
theorem fqI.s {σ α s' a' : St} (h : fqI σ α s' a') {q k : Nat} (hq : (¬ (q = 71 ∧ k = 8) ∧ ¬ (q = 95 ∧ k = 23) ∧ ¬ (q = 95 ∧ 15 ≤ k ∧ k ≤ 20) ∧ q ≠ 21 ∧ q ≠ 12 ∧ q ≠ 16)) : s' q k = σ q k := h.1 q k hq.1 hq.2.1 hq.2.2.1 hq.2.2.2.1 hq.2.2.2.2.1 hq.2.2.2.2.2
theorem fqI.a {σ α s' a' : St} (h : fqI σ α s' a') {q : Nat} (hq : ¬ (72 ≤ q ∧ q ≤ 77) ∧ q ≠ 105 ∧ q ≠ 107 ∧ ¬ (13 ≤ q ∧ q ≤ 20)) : a' q = α q := h.2 q hq.1 hq.2.1 hq.2.2.1 hq.2.2.2
theorem ivT.q {σ α s' a' : St} {l : Nat} (h : ivT σ α l) (hq : fqI σ α s' a') : ivT s' a' l := h.go (hq.s (by omega)) (hq.s (by omega)) (hq.a (by omega)) (hq.a (by omega)) (hq.a (by omega))
theorem ivP.q {σ α s' a' : St} {P : pnT} (h : ivP σ α P) (hq : fqI σ α s' a') : ivP s' a' P := h.go (fun q k h => hq.s (by omega)) (hq.s (by omega)) (hq.s (by omega)) (hq.s (by omega)) (hq.s (by omega)) (fun q h1 h2 => hq.a (by omega)) (hq.a (by omega)) (hq.a (by omega)) (hq.a (by omega)) (fun k _ => by rw [hq.a (q := 96) (by omega)])
theorem ivN.q {σ α s' a' : St} {n : Nat} (h : ivN σ α n) (hq : fqI σ α s' a') : ivN s' a' n := h.go (hq.s (by omega)) (fun q h1 h2 => hq.a (by omega)) (fun k _ => by rw [hq.a (q := 96) (by omega)])
theorem ivU.q {σ α s' a' : St} {n x u : Nat} (h : ivU σ α n x u) (hq : fqI σ α s' a') : ivU s' a' n x u := h.go (hq.s (by omega)) (hq.s (by omega)) (hq.s (by omega)) (fun y hy => hq.s (by omega)) (fun q h1 h2 => hq.a (by omega)) (fun k _ _ => by rw [hq.a (q := 96) (by omega)])
theorem ivK.q {σ α s' a' : St} {n : Nat} (h : ivK σ α n) (hq : fqI σ α s' a') : ivK s' a' n := h.go (hq.a (by omega)) (hq.a (by omega)) (fun y hy => hq.s (by omega)) (fun q h1 h2 => hq.a (by omega)) (fun k _ _ => by rw [hq.a (q := 96) (by omega)])
theorem ivB.q {σ α s' a' : St} (h : ivB σ α) (hq : fqI σ α s' a') : ivB s' a' := h.go (fun q h1 h2 => funext fun k => hq.s (by omega)) (fun q h1 h2 => hq.a (by omega)) (hq.a (by omega)) (hq.a (by omega)) (hq.a (by omega))
theorem ivA.q {σ α s' a' : St} (h : ivA σ α) (hq : fqI σ α s' a') : ivA s' a' := by
  obtain ⟨P, l, x, u, g1, g2, g3, g4, g5, g6⟩ := h
  exact ⟨P, l, x, u, g1.q hq, g2.q hq, g3.q hq, g4.q hq, g5.q hq, g6.q hq⟩
theorem Cq.fq {σ α s' a' : St} (h : Cq σ α s' a') : fqI σ α s' a' := by
  obtain ⟨⟨x, rfl⟩, h2⟩ := h
  exact ⟨fun q k h1 _ _ _ _ _ => uS_ne _ _ h1, fun q hq _ _ _ => h2 q (by omega)⟩
theorem ScHd.fq {σ α s' a' : St} (h : Sc σ s') (h2 : Hd α a') : fqI σ α s' a' := by
  obtain ⟨x, rfl⟩ := h
  obtain ⟨f, rfl⟩ := h2
  exact ⟨fun q k _ h1 _ _ _ _ => uS_ne _ _ h1, fun q _ _ h7 _ => uA_ne _ _ h7⟩
theorem Sc.fq {σ s' : St} (h : Sc σ s') (α : St) : fqI σ α s' α := by
  obtain ⟨x, rfl⟩ := h
  exact ⟨fun q k _ h1 _ _ _ _ => uS_ne _ _ h1, fun q _ _ h7 _ => rfl⟩
theorem fmT.fq {σ α s' a' : St} (h : fmT σ s') (g : fa105 α a') : fqI σ α s' a' := ⟨fun q k _ _ h3 _ _ _ => h q k h3, fun q _ h5 _ _ => g q h5⟩
theorem fcR.fq {σ α s' a' : St} (h : fcR σ α s' a') : fqI σ α s' a' := ⟨fun q k _ _ _ h4 h5 h6 => h.1 q k h5 h6 (by omega), fun q _ _ _ h4 => h.2 q h4⟩
/-- the class and the reference answer alike -/
def agU (Mx Mm : Mi) (As : List AV) : Prop := ∀ σ α, ivA σ α → ∃ (r : Int) (dx dm : Nat) (Q1 : St → St → Prop), dx ≤ 11 ∧ dm ≤ 11 ∧ CG dx Mx (vR 0 :: As) σ α (fun r' s' a' => r' = some (vI r) ∧ Q1 s' a') ∧ ∀ s1 a1, Q1 s1 a1 → CG dm Mm (vR 95 :: As) s1 a1 (fun r' s' a' => r' = some (vI r) ∧ ivA s' a')
/-- both leave all as it is -/
theorem agU.no {Mx Mm : Mi} {As : List AV} {σ α : St} (hI : ivA σ α) {r : Int} {dx dm : Nat} (h1 : dx ≤ 11) (h2 : dm ≤ 11) (hx : CF dx Mx (vR 0 :: As) σ α (some (vI r)) σ α) (hm : CF dm Mm (vR 95 :: As) σ α (some (vI r)) σ α) : ∃ (r : Int) (dx dm : Nat) (Q1 : St → St → Prop), dx ≤ 11 ∧ dm ≤ 11 ∧ CG dx Mx (vR 0 :: As) σ α (fun r' s' a' => r' = some (vI r) ∧ Q1 s' a') ∧ ∀ s1 a1, Q1 s1 a1 → CG dm Mm (vR 95 :: As) s1 a1 (fun r' s' a' => r' = some (vI r) ∧ ivA s' a') := by
  refine ⟨r, dx, dm, fun s' a' => s' = σ ∧ a' = α, h1, h2, hx, ?_⟩
  rintro s1 a1 ⟨rfl, rfl⟩
  exact hm.mono (fun r s a h => ⟨h.1, by rw [h.2.1, h.2.2]; exact hI⟩)
/-- the sight of the plan that questions take -/
def ivC (P : pnT) (α : St) : Nat → Int := fun i => pnK P i + 10 * α 96 (19 + i)
theorem ivP.wf {σ α : St} {P : pnT} (h : ivP σ α P) (hN : ivN σ α (pnN P)) : WF (pnN P) (pnV P) (ivC P α) (pnJ P) := by
  obtain ⟨⟨w1, w2, w3, w4, w5⟩, -⟩ := h
  refine ⟨w1, fun i hi => ?_⟩
  obtain ⟨v1, v2, v3, v4⟩ := w2 i hi
  have hc := hN.1.2.2 i (by omega)
  exact ⟨v1, by unfold ivC; omega, v3, v4⟩
theorem ivP.pv {σ α : St} {P : pnT} (h : ivP σ α P) (hN : ivN σ α (pnN P)) : PV σ α (pnN P) (pnV P) (ivC P α) (pnJ P) (pnC P) := by
  obtain ⟨w, g, -⟩ := h
  refine ⟨g.1, g.2.1.2.2, w.2.2.2.2.2.2, fun i hi => ?_⟩
  have := w.1
  exact ⟨(g.2.2.1 i (by omega)).1, by rw [show α 5 i = pnK P i from (g.2.2.1 i (by omega)).2, show α 23 i = α 96 (19 + i) from hN.2.2.2 i (by omega)]; rfl, g.2.2.2.1 i hi⟩
theorem ivP.rv {σ α : St} {P : pnT} (h : ivP σ α P) : RV σ α (pnN P) (pnV P) (ivC P α) (pnJ P) := by
  obtain ⟨w, -, g, g2, -⟩ := h
  refine ⟨g.1, fun i hi => ?_⟩
  have := w.1
  obtain ⟨v1, v2, v3⟩ := g2 i (by omega)
  exact ⟨v1, by rw [v2]; rfl, v3⟩
theorem ivP.ru {σ α : St} {P : pnT} (h : ivP σ α P) : RU σ (pnA P) (pnB P) (pnC P) := ⟨h.2.2.1.2.1, h.2.2.1.2.2.1, h.2.2.1.2.2.2, h.1.2.2.2.2.1, h.1.2.2.2.2.2.1, h.1.2.2.2.2.2.2⟩
theorem ivP.rp {σ α : St} {P : pnT} (h : ivP σ α P) : RP σ (pnA P) (pnB P) := ⟨h.2.1.2.1.1, h.2.1.2.1.2.1, h.1.2.2.2.2.1, h.1.2.2.2.2.2.1⟩
theorem ivN.rr {σ α : St} {n : Nat} (h : ivN σ α n) : RR α n (α 96 0).toNat := by
  obtain ⟨⟨h1, h2, h3⟩, -⟩ := h
  exact ⟨by omega, by omega, fun r hr => h2 r (by omega)⟩
theorem ivN.rk {σ α : St} {n : Nat} (h : ivN σ α n) : RK σ α n (α 96 0).toNat := by
  obtain ⟨⟨h1, h2, h3⟩, g1, g2, g3⟩ := h
  refine ⟨by rw [g1]; omega, by omega, fun r hr => ?_⟩
  obtain ⟨k1, k2, k3⟩ := g2 r (by omega)
  rw [show α 24 r = _ from k1, show α 25 r = _ from k2, show α 26 r = _ from k3]
  exact h2 r (by omega)
theorem ivN.on {σ α : St} {n : Nat} (h : ivN σ α n) : ∀ r, r < (α 96 0).toNat → (0 ≤ α 24 r ∧ α 24 r < n) ∧ α 24 r = α 96 (1 + r) ∧ α 25 r = α 96 (7 + r) ∧ α 26 r = α 96 (13 + r) := by
  intro r hr
  obtain ⟨⟨h1, h2, h3⟩, g1, g2, g3⟩ := h
  obtain ⟨k1, k2, k3⟩ := g2 r (by omega)
  exact ⟨by rw [show α 24 r = _ from k1]; exact (h2 r (by omega)).1, k1, k2, k3⟩
theorem ivC_q {P : pnT} {α a' : St} (h : a' 96 = α 96) : ivC P a' = ivC P α := by unfold ivC; rw [h]
/-- questions: each side leaves what the other one reads -/
theorem agU.qq {Mx Mm : Mi} {As : List AV} {σ α : St} (hI : ivA σ α) {r : Int} {dx dm : Nat} (h1 : dx ≤ 11) (h2 : dm ≤ 11) {Q1 : St → St → Prop} (hx : CG dx Mx (vR 0 :: As) σ α (fun r' s' a' => r' = some (vI r) ∧ Q1 s' a')) (hq1 : ∀ s a, Q1 s a → fqI σ α s a) (hm : ∀ s1 a1, fqI σ α s1 a1 → ∃ Q2 : St → St → Prop, CG dm Mm (vR 95 :: As) s1 a1 (fun r' s' a' => r' = some (vI r) ∧ Q2 s' a') ∧ ∀ s a, Q2 s a → fqI s1 a1 s a) : ∃ (r : Int) (dx dm : Nat) (Q1 : St → St → Prop), dx ≤ 11 ∧ dm ≤ 11 ∧ CG dx Mx (vR 0 :: As) σ α (fun r' s' a' => r' = some (vI r) ∧ Q1 s' a') ∧ ∀ s1 a1, Q1 s1 a1 → CG dm Mm (vR 95 :: As) s1 a1 (fun r' s' a' => r' = some (vI r) ∧ ivA s' a') := by
  refine ⟨r, dx, dm, Q1, h1, h2, hx, fun s1 a1 hQ => ?_⟩
  obtain ⟨Q2, g1, g2⟩ := hm s1 a1 (hq1 _ _ hQ)
  exact g1.mono (fun r s a h => ⟨h.1, (hI.q (hq1 _ _ hQ)).q (g2 _ _ h.2)⟩)
