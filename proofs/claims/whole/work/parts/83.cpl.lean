/-- the class's reader: what reading changes -/
def fcT (σ s' : St) : Prop := ∀ q k, ¬ (q = 21 ∧ 2 ≤ k ∧ k ≤ 5) → s' q k = σ q k
theorem fcT.rf (σ : St) : fcT σ σ := fun _ _ _ => rfl
theorem fcT.u {σ s' : St} (h : fcT σ s') {k : Nat} (hk : 2 ≤ k ∧ k ≤ 5) (v : Int) : fcT σ (uS s' 21 k v) := fun q j hq => by
  rw [uS_ne _ _ (by omega)]; exact h q j hq
theorem fcT.tr {σ s1 s2 : St} (h : fcT σ s1) (g : fcT s1 s2) : fcT σ s2 := fun q j hq => (g q j hq).trans (h q j hq)
def knU (f : Nat → Int) (l s : Nat) : Int := if s < l then kdU (f s) else 0
theorem knU_r (f : Nat → Int) (l s : Nat) : 0 ≤ knU f l s ∧ knU f l s ≤ 3 := by
  have := kdU_r (f s)
  unfold knU
  split <;> omega
theorem knU_in {f : Nat → Int} {l s : Nat} (h : s < l) : knU f l s = kdU (f s) := by unfold knU; rw [if_pos h]
theorem knU_out {f : Nat → Int} {l s : Nat} (h : ¬ s < l) : knU f l s = 0 := by unfold knU; rw [if_neg h]
def ctU (s : St) (f : Nat → Int) (l p : Nat) : Prop := s 21 3 = (tkS f l p : Int) ∧ s 21 4 = (tkE f l (tkS f l p) : Int) ∧ s 21 2 = knU f l (tkS f l p)
/-- what reading and doing changes in the class -/
def fcD (σ α s' a' : St) : Prop := (∀ q k, ¬ (q = 21 ∧ 2 ≤ k ∧ k ≤ 5) → q ≠ 12 → q ≠ 16 → s' q k = σ q k) ∧ ∀ q, ¬ (13 ≤ q ∧ q ≤ 20) → a' q = α q
theorem fcD.rf (σ α : St) : fcD σ α σ α := ⟨fun _ _ _ _ _ => rfl, fun _ _ => rfl⟩
theorem fcD.tr {σ α s1 a1 s2 a2 : St} (h : fcD σ α s1 a1) (g : fcD s1 a1 s2 a2) : fcD σ α s2 a2 := ⟨fun q k hq h1 h2 => (g.1 q k hq h1 h2).trans (h.1 q k hq h1 h2), fun q hq => (g.2 q hq).trans (h.2 q hq)⟩
theorem fcT.d {σ s' : St} (h : fcT σ s') (α : St) : fcD σ α s' α := ⟨fun q k hq _ _ => h q k hq, fun _ _ => rfl⟩
theorem fcD.s2 {σ α s' a' : St} (h : fcD σ α s' a') (k : Nat) (v : Int) : fcD σ α (uS s' 12 k v) a' := ⟨fun q j hq h1 h2 => by rw [uS_ne _ _ (by omega)]; exact h.1 q j hq h1 h2, h.2⟩
theorem fcD.s6 {σ α s' a' : St} (h : fcD σ α s' a') (k : Nat) (v : Int) : fcD σ α (uS s' 16 k v) a' := ⟨fun q j hq h1 h2 => by rw [uS_ne _ _ (by omega)]; exact h.1 q j hq h1 h2, h.2⟩
theorem fcD.a {σ α s' a' : St} (h : fcD σ α s' a') {q : Nat} (hq : 13 ≤ q ∧ q ≤ 20) (f : Nat → Int) : fcD σ α s' (uA a' q f) := ⟨h.1, fun j hj => by rw [uA_ne _ _ (by omega)]; exact h.2 j hj⟩
theorem nmB_bu (f : Nat → Int) (l p : Nat) (hi x : Int) : nmB f l p 0 hi x = (nmB f l p 0 hi (-1) && decide (nmV f l p ≠ x)) := by
  cases hb : nmB f l p 0 hi x with
  | true =>
    simp only [nmB, decide_eq_true_eq] at hb
    symm
    rw [Bool.and_eq_true]
    refine ⟨?_, decide_eq_true hb.2.2⟩
    simp only [nmB, decide_eq_true_eq]
    exact ⟨hb.1, hb.2.1, by omega⟩
  | false =>
    symm
    rw [Bool.and_eq_false_iff]
    by_cases hx : nmV f l p ≠ x
    · left
      cases hc : nmB f l p 0 hi (-1) with
      | false => rfl
      | true =>
        simp only [nmB, decide_eq_true_eq] at hc
        have : nmB f l p 0 hi x = true := by
          simp only [nmB, decide_eq_true_eq]
          exact ⟨hc.1, hc.2.1, hx⟩
        rw [this] at hb; cases hb
    · right; exact decide_eq_false hx
/-- a fit of the class, as the reference's row tells it -/
def ftU (σ α : St) (p : Nat) (R : Nat → Int) : Prop := σ p 4 = R 0 ∧ (∀ i, i < 6 → α (p + 2) i = R (1 + i) ∧ α (p + 3) i = R (7 + i) ∧ α (p + 4) i = R (13 + i)) ∧ ∀ i, i < 10 → α (p + 1) i = R (19 + i)
theorem ftU.go {σ α s' a' : St} {p : Nat} {R : Nat → Int} (h : ftU σ α p R) (h0 : s' p 4 = σ p 4) (h1 : a' (p + 1) = α (p + 1)) (h2 : a' (p + 2) = α (p + 2)) (h3 : a' (p + 3) = α (p + 3)) (h4 : a' (p + 4) = α (p + 4)) : ftU s' a' p R := by
  rw [ftU, h0, h1, h2, h3, h4]; exact h
theorem ftU.cg {σ α : St} {p : Nat} {R R' : Nat → Int} (h : ftU σ α p R) (hR : ∀ k, k < 29 → R k = R' k) : ftU σ α p R' := by
  obtain ⟨g1, g2, g3⟩ := h
  refine ⟨by rw [← hR 0 (by decide)]; exact g1, fun i hi => ?_, fun i hi => by rw [← hR _ (by omega)]; exact g3 i hi⟩
  rw [← hR _ (by omega), ← hR _ (by omega), ← hR _ (by omega)]; exact g2 i hi
theorem ftU.copy {σ α : St} {p q : Nat} {R : Nat → Int} (h : ftU σ α q R) (hpq : p + 5 ≤ q ∨ q + 5 ≤ p) : ftU (fcS σ p q) (fcA α p q) p R := by
  obtain ⟨g1, g2, g3⟩ := h
  refine ⟨by unfold fcS; rw [uS_eq]; exact g1, fun i hi => ⟨?_, ?_, ?_⟩, fun i hi => ?_⟩
  · unfold fcA; rw [uA_ne _ _ (by omega), uA_ne _ _ (by omega), uA_eq, cpA, if_pos hi]; exact (g2 i hi).1
  · unfold fcA; rw [uA_ne _ _ (by omega), uA_eq, cpA, if_pos hi]; exact (g2 i hi).2.1
  · unfold fcA; rw [uA_eq, cpA, if_pos hi]; exact (g2 i hi).2.2
  · unfold fcA; rw [uA_ne _ _ (by omega), uA_ne _ _ (by omega), uA_ne _ _ (by omega), uA_eq, cpA, if_pos hi]; exact g3 i hi
theorem fcA_o (α : St) {p q r : Nat} (h : r ≤ p ∨ p + 5 ≤ r) : fcA α p q r = α r := by unfold fcA; rw [uA_ne _ _ (by omega), uA_ne _ _ (by omega), uA_ne _ _ (by omega), uA_ne _ _ (by omega)]
theorem fcS_o (σ : St) {p q r k : Nat} (h : ¬ (r = p ∧ k = 4)) : fcS σ p q r k = σ r k := by unfold fcS; rw [uS_ne _ _ h]
/-- a plan of the class -/
def pcU (σ α : St) (p : Nat) (P : pnT) : Prop := σ p 4 = (pnN P : Int) ∧ (σ p 5 = pnA P ∧ σ p 6 = pnB P ∧ σ p 7 = pnC P) ∧ (∀ i, i < 10 → α (p + 1) i = pnV P i ∧ α (p + 2) i = pnK P i) ∧ (∀ i, i < pnN P → α (p + 3) i = pnJ P i) ∧ ftU σ α (p + 4) (pnR P)
theorem pcU.go {σ α s' a' : St} {p : Nat} {P : pnT} (h : pcU σ α p P) (hs : ∀ q k, q = p ∨ q = p + 4 → s' q k = σ q k) (ha : ∀ q, p + 1 ≤ q → q ≤ p + 8 → a' q = α q) : pcU s' a' p P := by
  obtain ⟨g1, g2, g3, g4, g5⟩ := h
  refine ⟨by rw [hs p 4 (Or.inl rfl)]; exact g1, ⟨by rw [hs p 5 (Or.inl rfl)]; exact g2.1, by rw [hs p 6 (Or.inl rfl)]; exact g2.2.1, by rw [hs p 7 (Or.inl rfl)]; exact g2.2.2⟩, fun i hi => by rw [ha (p + 1) (by omega) (by omega), ha (p + 2) (by omega) (by omega)]; exact g3 i hi, fun i hi => by rw [ha (p + 3) (by omega) (by omega)]; exact g4 i hi, ?_⟩
  exact g5.go (hs _ _ (Or.inr rfl)) (ha _ (by omega) (by omega)) (ha _ (by omega) (by omega)) (ha _ (by omega) (by omega)) (ha _ (by omega) (by omega))
theorem pcU.copy {σ α : St} {p q : Nat} {P : pnT} (h : pcU σ α q P) (hn : pnN P ≤ 10) (hpq : p + 9 ≤ q ∨ q + 9 ≤ p) : pcU (pcS σ p q) (pcA α p q) p P := by
  obtain ⟨g1, g2, g3, g4, g5⟩ := h
  refine ⟨?_, ⟨?_, ?_, ?_⟩, fun i hi => ⟨?_, ?_⟩, fun i hi => ?_, ?_⟩
  · unfold pcS; rw [uS_ne _ _ (by omega), uS_ne _ _ (by omega), uS_ne _ _ (by omega), uS_eq]; exact g1
  · unfold pcS; rw [uS_ne _ _ (by omega), uS_ne _ _ (by omega), uS_eq]; exact g2.1
  · unfold pcS; rw [uS_ne _ _ (by omega), uS_eq]; exact g2.2.1
  · unfold pcS; rw [uS_eq]; exact g2.2.2
  · unfold pcA; rw [fcA_o _ (by omega), uA_ne _ _ (by omega), uA_ne _ _ (by omega), uA_eq, cpA, if_pos hi]; exact (g3 i hi).1
  · unfold pcA; rw [fcA_o _ (by omega), uA_ne _ _ (by omega), uA_eq, cpA, if_pos hi]; exact (g3 i hi).2
  · unfold pcA; rw [fcA_o _ (by omega), uA_eq, cpA, if_pos (by omega)]; exact g4 i hi
  · have hc : ftU (fcS σ (p + 4) (q + 4)) (fcA (uA (uA (uA α (p + 1) (cpA (α (q + 1)) (α (p + 1)) 10)) (p + 2) (cpA (α (q + 2)) (α (p + 2)) 10)) (p + 3) (cpA (α (q + 3)) (α (p + 3)) 10)) (p + 4) (q + 4)) (p + 4) (pnR P) := by
      refine ftU.copy (g5.go rfl ?_ ?_ ?_ ?_) (by omega)
      · rw [uA_ne _ _ (by omega), uA_ne _ _ (by omega), uA_ne _ _ (by omega)]
      · rw [uA_ne _ _ (by omega), uA_ne _ _ (by omega), uA_ne _ _ (by omega)]
      · rw [uA_ne _ _ (by omega), uA_ne _ _ (by omega), uA_ne _ _ (by omega)]
      · rw [uA_ne _ _ (by omega), uA_ne _ _ (by omega), uA_ne _ _ (by omega)]
    unfold pcA pcS
    refine hc.go ?_ rfl rfl rfl rfl
    rw [uS_ne _ _ (by omega), uS_ne _ _ (by omega), uS_ne _ _ (by omega), uS_ne _ _ (by omega)]
theorem pcA_o (α : St) {p q r : Nat} (h : r ≤ p ∨ p + 9 ≤ r) : pcA α p q r = α r := by unfold pcA; rw [fcA_o _ (by omega), uA_ne _ _ (by omega), uA_ne _ _ (by omega), uA_ne _ _ (by omega)]
theorem pcS_o (σ : St) {p q r k : Nat} (h : r ≠ p) (h2 : r ≠ p + 4) : pcS σ p q r k = σ r k := by unfold pcS; rw [uS_ne _ _ (by omega), uS_ne _ _ (by omega), uS_ne _ _ (by omega), uS_ne _ _ (by omega), fcS_o _ (by omega)]
/-- the clauses done on the trial plan -/
theorem pc_0 {σ α : St} {P : pnT} (h : pcU σ α 12 P) (x y z : Int) : pcU (uS (uS (uS (uS (uS σ 12 4 0) 16 4 0) 12 5 6) 12 6 5) 12 7 50) (uA α 17 (cpA (fun _ => 0) (α 17) 10)) 12 (doU 0 x y z P) := by
  obtain ⟨g1, g2, g3, g4, g5, g6, g7⟩ := h
  rw [doU_0]
  refine ⟨by simp [uS]; rfl, ⟨by simp [uS]; rfl, by simp [uS]; rfl, by simp [uS]; rfl⟩, fun i hi => ?_, fun i hi => absurd hi (by show ¬ i < 0; omega), ?_, fun i hi => ?_, fun i hi => ?_⟩
  · rw [uA_ne _ _ (by omega), uA_ne _ _ (by omega)]; exact g3 i hi
  · simp [uS]; show (0 : Int) = anR (pnR P) 10 0; simp [anR]
  · rw [uA_ne _ _ (by omega), uA_ne _ _ (by omega), uA_ne _ _ (by omega)]
    show α 18 i = anR (pnR P) 10 (1 + i) ∧ α 19 i = anR (pnR P) 10 (7 + i) ∧ α 20 i = anR (pnR P) 10 (13 + i)
    unfold anR
    rw [if_neg (by omega), if_neg (by omega), if_neg (by omega)]
    exact g6 i hi
  · rw [uA_eq, cpA, if_pos hi]; show (0 : Int) = anR (pnR P) 10 (19 + i); unfold anR; rw [if_pos (by omega)]
theorem pc_1 {σ α : St} {P : pnT} (h : pcU σ α 12 P) (hj : pnJ P (pnN P) = 0) (hn : pnN P < 10) (x y z : Int) : pcU (uS σ 12 4 ((pnN P : Int) + 1)) (uA (uA (uA α 13 (uF (α 13) (pnN P) x)) 14 (uF (α 14) (pnN P) y)) 15 (uF (α 15) (pnN P) 0)) 12 (doU 1 x y z P) := by
  obtain ⟨g1, g2, g3, g4, g5⟩ := h
  rw [doU_1]
  refine ⟨by rw [uS_eq]; show (pnN P : Int) + 1 = ((pnN P + 1 : Nat) : Int); omega, ⟨by rw [uS_ne _ _ (by omega)]; exact g2.1, by rw [uS_ne _ _ (by omega)]; exact g2.2.1, by rw [uS_ne _ _ (by omega)]; exact g2.2.2⟩, fun i hi => ⟨?_, ?_⟩, fun i hi => ?_, ?_⟩
  · rw [uA_ne _ _ (by omega), uA_ne _ _ (by omega), uA_eq]
    show uF (α 13) (pnN P) x i = uF (pnV P) (pnN P) x i
    unfold uF; split; rfl; exact (g3 i hi).1
  · rw [uA_ne _ _ (by omega), uA_eq]
    show uF (α 14) (pnN P) y i = uF (pnK P) (pnN P) y i
    unfold uF; split; rfl; exact (g3 i hi).2
  · rw [uA_eq]
    have hi : i < pnN P + 1 := hi
    show uF (α 15) (pnN P) 0 i = pnJ P i
    unfold uF; split
    · rename_i h; rw [h, hj]
    · exact g4 i (by omega)
  · refine g5.go (by rw [uS_ne _ _ (by omega)]) ?_ ?_ ?_ ?_
    · rw [uA_ne _ _ (by omega), uA_ne _ _ (by omega), uA_ne _ _ (by omega)]
    · rw [uA_ne _ _ (by omega), uA_ne _ _ (by omega), uA_ne _ _ (by omega)]
    · rw [uA_ne _ _ (by omega), uA_ne _ _ (by omega), uA_ne _ _ (by omega)]
    · rw [uA_ne _ _ (by omega), uA_ne _ _ (by omega), uA_ne _ _ (by omega)]
theorem pc_2 {σ α : St} {P : pnT} (h : pcU σ α 12 P) {i j : Nat} (hi : i < pnN P) (hj : j < pnN P) (z : Int) : pcU σ (uA α 15 (uF (uF (α 15) i (((α 15 i).toNat ||| 2 ^ j : Nat) : Int)) j (((α 15 j).toNat ||| 2 ^ i : Nat) : Int))) 12 (doU 2 (i : Int) (j : Int) z P) := by
  obtain ⟨g1, g2, g3, g4, g5⟩ := h
  rw [doU_2]
  refine ⟨g1, g2, fun k hk => by rw [uA_ne _ _ (by omega), uA_ne _ _ (by omega)]; exact g3 k hk, fun k hk => ?_, ?_⟩
  · rw [uA_eq, Int.toNat_natCast, Int.toNat_natCast]
    show uF (uF (α 15) i (((α 15 i).toNat ||| 2 ^ j : Nat) : Int)) j (((α 15 j).toNat ||| 2 ^ i : Nat) : Int) k = jnF (pnJ P) i j k
    rw [g4 i hi, g4 j hj]
    unfold jnF uF
    split; rfl
    split; rfl
    exact g4 k hk
  · refine g5.go rfl ?_ ?_ ?_ ?_
    · rw [uA_ne _ _ (by omega)]
    · rw [uA_ne _ _ (by omega)]
    · rw [uA_ne _ _ (by omega)]
    · rw [uA_ne _ _ (by omega)]
theorem ft_ar {σ α : St} {p : Nat} {R : Nat → Int} (h : ftU σ α p R) {m : Nat} (hm : R 0 = m) (hm6 : m < 6) (x y z : Int) : ftU (uS σ p 4 ((m : Int) + 1)) (uA (uA (uA α (p + 2) (uF (α (p + 2)) m x)) (p + 3) (uF (α (p + 3)) m y)) (p + 4) (uF (α (p + 4)) m z)) p (arR R m x y z) := by
  obtain ⟨g1, g2, g3⟩ := h
  refine ⟨by rw [uS_eq]; unfold arR; rw [uF_eq], fun i hi => ⟨?_, ?_, ?_⟩, fun i hi => ?_⟩
  · rw [uA_ne _ _ (by omega), uA_ne _ _ (by omega), uA_eq]
    unfold arR uF
    by_cases h : i = m
    · rw [if_pos h, if_neg (by omega), if_neg (by omega), if_neg (by omega), if_pos (by omega)]
    · rw [if_neg h, if_neg (by omega), if_neg (by omega), if_neg (by omega), if_neg (by omega)]; exact (g2 i hi).1
  · rw [uA_ne _ _ (by omega), uA_eq]
    unfold arR uF
    by_cases h : i = m
    · rw [if_pos h, if_neg (by omega), if_neg (by omega), if_pos (by omega)]
    · rw [if_neg h, if_neg (by omega), if_neg (by omega), if_neg (by omega), if_neg (by omega)]; exact (g2 i hi).2.1
  · rw [uA_eq]
    unfold arR uF
    by_cases h : i = m
    · rw [if_pos h, if_neg (by omega), if_pos (by omega)]
    · rw [if_neg h, if_neg (by omega), if_neg (by omega), if_neg (by omega), if_neg (by omega)]; exact (g2 i hi).2.2
  · rw [uA_ne _ _ (by omega), uA_ne _ _ (by omega), uA_ne _ _ (by omega)]
    unfold arR
    rw [uF_ne _ _ (by omega), uF_ne _ _ (by omega), uF_ne _ _ (by omega), uF_ne _ _ (by omega)]; exact g3 i hi
theorem pc_3 {σ α : St} {P : pnT} (h : pcU σ α 12 P) {m : Nat} (hm : pnR P 0 = m) (hm6 : m < 6) (x y z : Int) : pcU (uS σ 16 4 ((m : Int) + 1)) (uA (uA (uA α 18 (uF (α 18) m x)) 19 (uF (α 19) m y)) 20 (uF (α 20) m z)) 12 (doU 3 x y z P) := by
  obtain ⟨g1, g2, g3, g4, g5⟩ := h
  rw [doU_3, hm, Int.toNat_natCast]
  refine ⟨by rw [uS_ne _ _ (by omega)]; exact g1, ⟨by rw [uS_ne _ _ (by omega)]; exact g2.1, by rw [uS_ne _ _ (by omega)]; exact g2.2.1, by rw [uS_ne _ _ (by omega)]; exact g2.2.2⟩, fun i hi => ?_, fun i hi => ?_, ft_ar g5 hm hm6 x y z⟩
  · rw [uA_ne _ _ (by omega), uA_ne _ _ (by omega), uA_ne _ _ (by omega), uA_ne _ _ (by omega), uA_ne _ _ (by omega), uA_ne _ _ (by omega)]; exact g3 i hi
  · rw [uA_ne _ _ (by omega), uA_ne _ _ (by omega), uA_ne _ _ (by omega)]; exact g4 i hi
theorem ft_ch {σ α : St} {p : Nat} {R : Nat → Int} (h : ftU σ α p R) {i : Nat} (hi : i < 10) (y : Int) : ftU σ (uA α (p + 1) (uF (α (p + 1)) i y)) p (uF R (19 + i) y) := by
  obtain ⟨g1, g2, g3⟩ := h
  refine ⟨by rw [uF_ne _ _ (by omega)]; exact g1, fun j hj => ?_, fun j hj => ?_⟩
  · rw [uA_ne _ _ (by omega), uA_ne _ _ (by omega), uA_ne _ _ (by omega), uF_ne _ _ (by omega), uF_ne _ _ (by omega), uF_ne _ _ (by omega)]; exact g2 j hj
  · rw [uA_eq]
    by_cases h : j = i
    · subst h; rw [uF_eq, uF_eq]
    · rw [uF_ne _ _ h, uF_ne _ _ (by omega)]; exact g3 j hj
theorem pc_4 {σ α : St} {P : pnT} (h : pcU σ α 12 P) {i : Nat} (hi : i < 10) (y z : Int) : pcU σ (uA α 17 (uF (α 17) i y)) 12 (doU 4 (i : Int) y z P) := by
  obtain ⟨g1, g2, g3, g4, g5⟩ := h
  rw [doU_4, Int.toNat_natCast]
  refine ⟨g1, g2, fun k hk => by rw [uA_ne _ _ (by omega), uA_ne _ _ (by omega)]; exact g3 k hk, fun k hk => by rw [uA_ne _ _ (by omega)]; exact g4 k hk, ft_ch g5 hi y⟩
theorem pc_5 {σ α : St} {P : pnT} (h : pcU σ α 12 P) (x y z : Int) : pcU (uS (uS (uS σ 12 5 x) 12 6 y) 12 7 z) α 12 (doU 5 x y z P) := by
  obtain ⟨g1, g2, g3, g4, g5⟩ := h
  rw [doU_5]
  exact ⟨by rw [uS_ne _ _ (by omega), uS_ne _ _ (by omega), uS_ne _ _ (by omega)]; exact g1, ⟨by rw [uS_ne _ _ (by omega), uS_ne _ _ (by omega), uS_eq]; rfl, by rw [uS_ne _ _ (by omega), uS_eq]; rfl, by rw [uS_eq]; rfl⟩, g3, g4, g5.go (by rw [uS_ne _ _ (by omega), uS_ne _ _ (by omega), uS_ne _ _ (by omega)]) rfl rfl rfl rfl⟩
