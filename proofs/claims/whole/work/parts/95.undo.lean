theorem ag_undo : agU mX7_undo mX8_undo [] := by
  intro σ α hI
  obtain ⟨P, l, x, u, hT, hP, hN, hU, hK, hB⟩ := id hI
  have hx8 := hU.1.2
  have hu8 := hU.2.1.2.2
  by_cases hu : u = 0
  · subst hu
    exact agU.no hI (by decide) (by decide) (qX7_undo_o σ α hU.2.1.1) (qX8_undo_o σ α hU.2.1.2.1)
  · obtain ⟨w, rfl⟩ : ∃ w, u = w + 1 := ⟨u - 1, by omega⟩
    have hx := qX7_undo σ α x ((x + 7) % 8) (w + 1) hU.1.1 hx8 (by omega) hU.2.1.1 (by omega)
    rw [show (((w + 1 : Nat) : Int) - 1) = (w : Int) by omega] at hx
    refine ⟨_, 4, 1, fun s' a' => s' = fcS (uS (uS σ 27 1 (((x + 7) % 8 : Nat) : Int)) 27 2 (w : Int)) 22 (29 + 5 * ((x + 7) % 8)) ∧ a' = fcA α 22 (29 + 5 * ((x + 7) % 8)), by decide, by decide, hx, ?_⟩
    rintro s1 a1 ⟨rfl, rfl⟩
    obtain ⟨y, hy⟩ : ∃ y, y = (x + 7) % 8 := ⟨_, rfl⟩
    rw [← hy]
    have hy8 : y < 8 := by omega
    have e6 : fcA α 22 (29 + 5 * y) 96 = α 96 := fcA_o _ (by omega)
    have hmm := qX8_undo (fcS (uS (uS σ 27 1 (y : Int)) 27 2 (w : Int)) 22 (29 + 5 * y)) (fcA α 22 (29 + 5 * y)) (u := w) (by rw [fcS_o _ (by omega), uS_ne _ _ (by omega), uS_ne _ _ (by omega)]; exact hU.2.1.2.1) (by omega)
    rw [e6] at hmm
    refine hmm.mono (fun r s a h => ⟨h.1, ?_⟩)
    rw [h.2.1, h.2.2]
    obtain ⟨k1, k2⟩ := hU.2.2 w (by omega)
    rw [show (x + 8 - (w + 1) + w) % 8 = y by omega] at k2
    have hs : ∀ q k, ¬ (q = 22 ∧ k = 4) → q ≠ 27 → ¬ (q = 95 ∧ k = 8) → uS (fcS (uS (uS σ 27 1 (y : Int)) 27 2 (w : Int)) 22 (29 + 5 * y)) 95 8 (w : Int) q k = σ q k := fun q k g1 g2 g3 => by rw [uS_ne _ _ g3, fcS_o _ g1, uS_ne _ _ (by omega), uS_ne _ _ (by omega)]
    have ha : ∀ q, ¬ (23 ≤ q ∧ q ≤ 26) → q ≠ 96 → uA (fcA α 22 (29 + 5 * y)) 96 (cpR (α 96) (29 + 29 * w) 0 29) q = α q := fun q g1 g2 => by rw [uA_ne _ _ g2, fcA_o _ (by omega)]
    have a6 : ∀ k, 29 ≤ k → uA (fcA α 22 (29 + 5 * y)) 96 (cpR (α 96) (29 + 29 * w) 0 29) 96 k = α 96 k := fun k hk => by rw [uA_eq, cpR_out _ (by omega)]
    have b6 : ∀ k, k < 29 → uA (fcA α 22 (29 + 5 * y)) 96 (cpR (α 96) (29 + 29 * w) 0 29) 96 k = α 96 (29 + 29 * w + k) := fun k hk => by
      have e := cpR_in (α 96) (a := 29 + 29 * w) (b := 0) (n := 29) hk
      rw [Nat.zero_add] at e
      rw [uA_eq, e]
    have hc := k2.copy (p := 22) (by omega)
    refine ⟨P, l, y, w, hT.go (hs _ _ (by omega) (by omega) (by omega)) (hs _ _ (by omega) (by omega) (by omega)) (ha _ (by omega) (by omega)) (ha _ (by omega) (by omega)) (ha _ (by omega) (by omega)),
      hP.go (fun q k h => hs _ _ (by omega) (by omega) (by omega)) (hs _ _ (by omega) (by omega) (by omega)) (hs _ _ (by omega) (by omega) (by omega)) (hs _ _ (by omega) (by omega) (by omega)) (hs _ _ (by omega) (by omega) (by omega)) (fun q h1 h2 => ha _ (by omega) (by omega)) (ha _ (by omega) (by omega)) (ha _ (by omega) (by omega)) (ha _ (by omega) (by omega)) (fun k _ => a6 _ (by omega)),
      ⟨k1.cg b6, (hc.go (s' := uS (fcS (uS (uS σ 27 1 (y : Int)) 27 2 (w : Int)) 22 (29 + 5 * y)) 95 8 (w : Int)) (a' := uA (fcA α 22 (29 + 5 * y)) 96 (cpR (α 96) (29 + 29 * w) 0 29)) ?_ ?_ ?_ ?_ ?_).cg (fun k hk => (b6 k hk).symm)⟩,
      ⟨⟨?_, hy8⟩, ⟨?_, ?_, by omega⟩, fun j hj => ?_⟩,
      hK.go (ha _ (by omega) (by omega)) (ha _ (by omega) (by omega)) (fun k hk => hs _ _ (by omega) (by omega) (by omega)) (fun q h1 h2 => ha _ (by omega) (by omega)) (fun k h1 _ => a6 _ (by omega)),
      hB.go (fun q h1 h2 => funext fun k => hs _ _ (by omega) (by omega) (by omega)) (fun q h1 h2 => ha _ (by omega) (by omega)) (ha _ (by omega) (by omega)) (ha _ (by omega) (by omega)) (ha _ (by omega) (by omega))⟩
    · rw [uS_ne _ _ (by omega)]; unfold fcS; rw [uS_eq, uS_eq, uS_ne _ _ (by omega), uS_ne _ _ (by omega)]
    · rw [uA_ne _ _ (by omega)]
    · rw [uA_ne _ _ (by omega)]
    · rw [uA_ne _ _ (by omega)]
    · rw [uA_ne _ _ (by omega)]
    · rw [uS_ne _ _ (by omega), fcS_o _ (by omega), uS_ne _ _ (by omega), uS_eq]
    · rw [uS_ne _ _ (by omega), fcS_o _ (by omega), uS_eq]
    · rw [uS_eq]
    · obtain ⟨j1, j2⟩ := hU.2.2 j (by omega)
      rw [show (x + 8 - (w + 1) + j) % 8 = (y + 8 - w + j) % 8 by omega] at j2
      have hz : (y + 8 - w + j) % 8 < 8 := Nat.mod_lt _ (by decide)
      generalize (y + 8 - w + j) % 8 = z at j2 hz ⊢
      refine ⟨j1.cg (fun k hk => a6 _ (by omega)), (j2.go (s' := uS (fcS (uS (uS σ 27 1 (y : Int)) 27 2 (w : Int)) 22 (29 + 5 * y)) 95 8 (w : Int)) (a' := uA (fcA α 22 (29 + 5 * y)) 96 (cpR (α 96) (29 + 29 * w) 0 29)) (hs _ _ (by omega) (by omega) (by omega)) (ha _ (by omega) (by omega)) (ha _ (by omega) (by omega)) (ha _ (by omega) (by omega)) (ha _ (by omega) (by omega))).cg (fun k hk => (a6 _ (by omega)).symm)⟩
theorem ag_keep (i : Int) (hi : InR i) : agU mX7_keep mX8_keep [vI i] := by
  intro σ α hI
  obtain ⟨P, l, x, u, hT, hP, hN, hU, hK, hB⟩ := id hI
  have hx8 := hU.1.2
  have hu8 := hU.2.1.2.2
  have h06 := hN.1.1
  obtain ⟨m, hm⟩ : ∃ m : Nat, α 96 0 = m := ⟨_, (Int.toNat_of_nonneg h06.1).symm⟩
  have hm22 : σ 22 4 = (m : Int) := hN.2.1.trans hm
  by_cases hs0 : 0 ≤ i ∧ i < 2
  · obtain ⟨k, rfl⟩ := Int.eq_ofNat_of_zero_le hs0.1
    have hk2 : k < 2 := by omega
    have hx := qX7_keep σ α k hk2 hm22 (by omega)
    refine ⟨_, 3, 1, fun s' a' => s' = fcS σ (79 + 5 * k) 22 ∧ a' = uA (fcA α (79 + 5 * k) 22) 70 (uF (α 70) k 1), by decide, by decide, hx, ?_⟩
    rintro s1 a1 ⟨rfl, rfl⟩
    have e6 : uA (fcA α (79 + 5 * k) 22) 70 (uF (α 70) k 1) 96 = α 96 := by rw [uA_ne _ _ (by decide), fcA_o _ (by omega)]
    have e1 : uA (fcA α (79 + 5 * k) 22) 70 (uF (α 70) k 1) 100 = α 100 := by rw [uA_ne _ _ (by decide), fcA_o _ (by omega)]
    have hmm := qX8_keep (fcS σ (79 + 5 * k) 22) (uA (fcA α (79 + 5 * k) 22) 70 (uF (α 70) k 1)) k hk2
    rw [e6, e1, hm] at hmm
    refine hmm.mono (fun r s a h => ⟨h.1, ?_⟩)
    rw [h.2.1, h.2.2]
    generalize hA : uA (uA (uA (fcA α (79 + 5 * k) 22) 70 (uF (α 70) k 1)) 96 (cpR (α 96) 0 (261 + 29 * k) 29)) 100 (uF (α 100) k 1) = a'
    have hs : ∀ q j, ¬ (q = 79 + 5 * k ∧ j = 4) → fcS σ (79 + 5 * k) 22 q j = σ q j := fun q j g1 => fcS_o _ g1
    have ha : ∀ q, ¬ (79 ≤ q ∧ q ≤ 88) → q ≠ 70 → q ≠ 96 → q ≠ 100 → a' q = α q := fun q g1 g2 g3 g4 => by rw [← hA, uA_ne _ _ g4, uA_ne _ _ g3, uA_ne _ _ g2, fcA_o _ (by omega)]
    have a6 : ∀ j, ¬ (261 + 29 * k ≤ j ∧ j < 261 + 29 * k + 29) → a' 96 j = α 96 j := fun j hj => by rw [← hA, uA_ne _ _ (by decide), uA_eq, cpR_out _ (by omega)]
    have b6 : ∀ j, j < 29 → a' 96 (261 + 29 * k + j) = α 96 j := fun j hj => by rw [← hA, uA_ne _ _ (by decide), uA_eq, cpR_in _ hj, Nat.zero_add]
    have a7 : a' 70 = uF (α 70) k 1 := by rw [← hA, uA_ne _ _ (by decide), uA_ne _ _ (by decide), uA_eq]
    have a1 : a' 100 = uF (α 100) k 1 := by rw [← hA, uA_eq]
    have af : ∀ q, 79 ≤ q → q ≤ 88 → a' q = fcA α (79 + 5 * k) 22 q := fun q g1 g2 => by rw [← hA, uA_ne _ _ (by omega), uA_ne _ _ (by omega), uA_ne _ _ (by omega)]
    refine ⟨P, l, x, u, hT.go (hs _ _ (by omega)) (hs _ _ (by omega)) (ha _ (by omega) (by omega) (by omega) (by omega)) (ha _ (by omega) (by omega) (by omega) (by omega)) (ha _ (by omega) (by omega) (by omega) (by omega)),
      hP.go (fun q k h => hs _ _ (by omega)) (hs _ _ (by omega)) (hs _ _ (by omega)) (hs _ _ (by omega)) (hs _ _ (by omega)) (fun q h1 h2 => ha _ (by omega) (by omega) (by omega) (by omega)) (ha _ (by omega) (by omega) (by omega) (by omega)) (ha _ (by omega) (by omega) (by omega) (by omega)) (ha _ (by omega) (by omega) (by omega) (by omega)) (fun k _ => a6 _ (by omega)),
      hN.go (hs _ _ (by omega)) (fun q h1 h2 => ha _ (by omega) (by omega) (by omega) (by omega)) (fun k _ => a6 _ (by omega)),
      hU.go (hs _ _ (by omega)) (hs _ _ (by omega)) (hs _ _ (by omega)) (fun y hy => hs _ _ (by omega)) (fun q h1 h2 => ha _ (by omega) (by omega) (by omega) (by omega)) (fun k _ _ => a6 _ (by omega)), fun t ht => ?_,
      hB.go (fun q h1 h2 => funext fun k => hs _ _ (by omega)) (fun q h1 h2 => ha _ (by omega) (by omega) (by omega) (by omega)) (ha _ (by omega) (by omega) (by omega) (by omega)) (ha _ (by omega) (by omega) (by omega) (by omega)) (ha _ (by omega) (by omega) (by omega) (by omega))⟩
    rw [a7, a1]
    by_cases htk : t = k
    · subst htk
      rw [uF_eq, uF_eq]
      have hc := hN.2.copy (p := 79 + 5 * t) (by omega)
      exact Or.inr ⟨rfl, rfl, hN.1.cg b6, (hc.go (s' := fcS σ (79 + 5 * t) 22) (a' := a') rfl (af _ (by omega) (by omega)) (af _ (by omega) (by omega)) (af _ (by omega) (by omega)) (af _ (by omega) (by omega))).cg (fun j hj => (b6 j hj).symm)⟩
    · rw [uF_ne _ _ htk, uF_ne _ _ htk]
      rcases hK t ht with h | ⟨g1, g2, g3, g4⟩
      · exact Or.inl h
      · refine Or.inr ⟨g1, g2, g3.cg (fun j hj => a6 _ (by omega)), (g4.go (s' := fcS σ (79 + 5 * k) 22) (a' := a') (hs _ _ (by omega)) ?_ ?_ ?_ ?_).cg (fun j hj => (a6 _ (by omega)).symm)⟩
        · rw [af _ (by omega) (by omega)]; exact fcA_o _ (by omega)
        · rw [af _ (by omega) (by omega)]; exact fcA_o _ (by omega)
        · rw [af _ (by omega) (by omega)]; exact fcA_o _ (by omega)
        · rw [af _ (by omega) (by omega)]; exact fcA_o _ (by omega)
  · exact agU.no hI (by decide) (by decide) (qX7_keep_o σ α i hi (by omega)) (qX8_keep_o σ α i hi (by omega))
theorem ag_back (i : Int) (hi : InR i) : agU mX7_back mX8_back [vI i] := by
  intro σ α hI
  obtain ⟨P, l, x, u, hT, hP, hN, hU, hK, hB⟩ := id hI
  have hx8 := hU.1.2
  by_cases hs0 : 0 ≤ i ∧ i < 2
  · obtain ⟨k, rfl⟩ := Int.eq_ofNat_of_zero_le hs0.1
    have hk2 : k < 2 := by omega
    rcases hK k hk2 with ⟨g1, g2⟩ | ⟨g1, g2, g3, g4⟩
    · exact agU.no hI (by decide) (by decide) (qX7_back_n σ α k hk2 g1) (qX8_back_n σ α k hk2 g2)
    · have hx := qX7_back σ α k hk2 g1
      rw [show σ (79 + 5 * k) 4 = α 96 (261 + 29 * k) from g4.1] at hx
      refine ⟨_, 3, 1, fun s' a' => s' = uS (fcS σ 22 (79 + 5 * k)) 27 2 0 ∧ a' = fcA α 22 (79 + 5 * k), by decide, by decide, hx, ?_⟩
      rintro s1 a1 ⟨rfl, rfl⟩
      have e6 : fcA α 22 (79 + 5 * k) 96 = α 96 := fcA_o _ (by omega)
      have hmm := qX8_back (uS (fcS σ 22 (79 + 5 * k)) 27 2 0) (fcA α 22 (79 + 5 * k)) k hk2 (by rw [fcA_o _ (by omega)]; exact g2)
      rw [e6] at hmm
      refine hmm.mono (fun r s a h => ⟨h.1, ?_⟩)
      rw [h.2.1, h.2.2]
      have hs : ∀ q j, ¬ (q = 22 ∧ j = 4) → ¬ (q = 27 ∧ j = 2) → ¬ (q = 95 ∧ j = 8) → uS (uS (fcS σ 22 (79 + 5 * k)) 27 2 0) 95 8 0 q j = σ q j := fun q j h1 h2 h3 => by rw [uS_ne _ _ h3, uS_ne _ _ h2, fcS_o _ h1]
      have ha : ∀ q, ¬ (23 ≤ q ∧ q ≤ 26) → q ≠ 96 → uA (fcA α 22 (79 + 5 * k)) 96 (cpR (α 96) (261 + 29 * k) 0 29) q = α q := fun q h1 h2 => by rw [uA_ne _ _ h2, fcA_o _ (by omega)]
      have a6 : ∀ j, 29 ≤ j → uA (fcA α 22 (79 + 5 * k)) 96 (cpR (α 96) (261 + 29 * k) 0 29) 96 j = α 96 j := fun j hj => by rw [uA_eq, cpR_out _ (by omega)]
      have b6 : ∀ j, j < 29 → uA (fcA α 22 (79 + 5 * k)) 96 (cpR (α 96) (261 + 29 * k) 0 29) 96 j = α 96 (261 + 29 * k + j) := fun j hj => by
        have e := cpR_in (α 96) (a := 261 + 29 * k) (b := 0) (n := 29) hj
        rw [Nat.zero_add] at e
        rw [uA_eq, e]
      have hc := g4.copy (p := 22) (by omega)
      refine ⟨P, l, x, 0, hT.go (hs _ _ (by omega) (by omega) (by omega)) (hs _ _ (by omega) (by omega) (by omega)) (ha _ (by omega) (by omega)) (ha _ (by omega) (by omega)) (ha _ (by omega) (by omega)),
        hP.go (fun q k h => hs _ _ (by omega) (by omega) (by omega)) (hs _ _ (by omega) (by omega) (by omega)) (hs _ _ (by omega) (by omega) (by omega)) (hs _ _ (by omega) (by omega) (by omega)) (hs _ _ (by omega) (by omega) (by omega)) (fun q h1 h2 => ha _ (by omega) (by omega)) (ha _ (by omega) (by omega)) (ha _ (by omega) (by omega)) (ha _ (by omega) (by omega)) (fun k _ => a6 _ (by omega)),
        ⟨g3.cg b6, (hc.go (s' := uS (uS (fcS σ 22 (79 + 5 * k)) 27 2 0) 95 8 0) (a' := uA (fcA α 22 (79 + 5 * k)) 96 (cpR (α 96) (261 + 29 * k) 0 29)) ?_ ?_ ?_ ?_ ?_).cg (fun j hj => (b6 j hj).symm)⟩,
        ⟨⟨(hs _ _ (by omega) (by omega) (by omega)).trans hU.1.1, hx8⟩, ⟨by rw [uS_ne _ _ (by omega), uS_eq]; rfl, by rw [uS_eq]; rfl, by decide⟩, fun j hj => absurd hj (by omega)⟩,
        hK.go (ha _ (by omega) (by omega)) (ha _ (by omega) (by omega)) (fun k hk => hs _ _ (by omega) (by omega) (by omega)) (fun q h1 h2 => ha _ (by omega) (by omega)) (fun k h1 _ => a6 _ (by omega)),
        hB.go (fun q h1 h2 => funext fun k => hs _ _ (by omega) (by omega) (by omega)) (fun q h1 h2 => ha _ (by omega) (by omega)) (ha _ (by omega) (by omega)) (ha _ (by omega) (by omega)) (ha _ (by omega) (by omega))⟩
      · rw [uS_ne _ _ (by omega), uS_ne _ _ (by omega)]
      · rw [uA_ne _ _ (by omega)]
      · rw [uA_ne _ _ (by omega)]
      · rw [uA_ne _ _ (by omega)]
      · rw [uA_ne _ _ (by omega)]
  · exact agU.no hI (by decide) (by decide) (qX7_back_o σ α i hi (by omega)) (qX8_back_o σ α i hi (by omega))
theorem ag_casting : agU mX7_casting mX8_casting [] := by
  intro σ α hI
  obtain ⟨P, l, x, u, hT, hP, hN, hU, hK, hB⟩ := id hI
  have hl0 := rdU_l0 (α 101) (l := l) 24 0 P (Nat.zero_le _) hP.1
  have hx := qX7_casting σ α (α 101) hT.2.1 l hT.1.1 hT.2.2.1 P hP.2.1 hP.1 (fun h => (hl0.2 h).1)
  cases hR : (rdU (α 101) l 24 0 P).1 with
  | false =>
    refine ⟨_, 7, 8, _, by decide, by decide, hx, fun s1 a1 hQ => ?_⟩
    have hq := (hQ.1 hR).fq
    have hT1 := hT.q hq
    have hP1 := hP.q hq
    refine (qX8_casting s1 a1 (α 101) (hq.a (by omega)) l hT1.1.2 hT.2.2.1 hT1.2.2.2 P hP.1 hP1.2.2.1.1 hP1.2.2.1.2 hP1.2.2.2.1 hP1.2.2.2.2).mono (fun r s a h => ⟨h.1, ?_⟩)
    have h2 := h.2.1 hR
    exact (hI.q hq).q (fmT.fq h2.1 h2.2)
  | true =>
    refine ⟨_, 7, 8, _, by decide, by decide, hx, fun s1 a1 hQ => ?_⟩
    obtain ⟨c1, c2, c3, c4, c5, c6, c7, c8, c9⟩ := hQ.2 hR
    have e101 : a1 101 = α 101 := c9 101 (by omega)
    refine (qX8_casting s1 a1 (α 101) e101 l ((c8 11).trans hT.1.2) hT.2.2.1 (fun k hk => by rw [c9 106 (by omega)]; exact hT.2.2.2 k hk) P hP.1 ((c8 1).trans hP.2.2.1.1) ⟨(c8 5).trans hP.2.2.1.2.1, (c8 6).trans hP.2.2.1.2.2.1, (c8 7).trans hP.2.2.1.2.2.2⟩ (fun i hi => by rw [c9 97 (by omega), c9 98 (by omega), c9 99 (by omega)]; exact hP.2.2.2.1 i hi) (fun k hk => by rw [c9 96 (by omega)]; exact hP.2.2.2.2 k hk)).mono (fun r s a h => ⟨h.1, ?_⟩)
    obtain ⟨d1, d2, d3, d4, d5, d6, d7, d8⟩ := h.2.2 hR
    have hwf := hl0.2 hR
    generalize (rdU (α 101) l 24 0 P).2.2.2 = P' at c1 c2 d1 d2 hwf
    have r6 : ∀ k, k < 29 → a 96 k = pnR P' k := d1.2.2.2
    refine ⟨P', 0, x, 0, ⟨⟨by rw [d7 1 1 (by decide)]; exact c3, d3⟩, ?_, ⟨by decide, fun i hi => absurd hi (by omega)⟩, fun k hk => ?_⟩, ⟨hwf, c1.go (fun q k hq => d7 q k (by omega)) (fun q g1 g2 => d8 q (by omega)), ⟨d1.1, d1.2.1⟩, d1.2.2.1, d2⟩, ⟨hwf.2.2.2.1.cg r6, (c2.go (s' := s) (a' := a) (d7 _ _ (by decide)) (d8 _ (by omega)) (d8 _ (by omega)) (d8 _ (by omega)) (d8 _ (by omega))).cg (fun k hk => (r6 k hk).symm)⟩, ⟨⟨by rw [d7 27 1 (by decide), c7]; exact hU.1.1, hU.1.2⟩, ⟨by rw [d7 27 2 (by decide)]; exact c4, d4, by decide⟩, fun j hj => absurd hj (by omega)⟩, fun k hk => Or.inl ?_, fun t ht => ?_⟩
    · rw [d8 2 (by omega), d8 101 (by omega), e101, c9 2 (by omega)]; exact hT.2.1
    · rw [d8 106 (by omega), c9 106 (by omega)]; exact hT.2.2.2 k hk
    · rw [d8 70 (by omega)]
      rcases (show k = 0 ∨ k = 1 by omega) with rfl | rfl
      · exact ⟨c5.1, d5.1⟩
      · exact ⟨c5.2, d5.2⟩
    · obtain ⟨z, kd, f, b1, b2⟩ := hB t ht
      obtain ⟨t1, t2, t3⟩ := c6 t ht
      refine ⟨-1, kd, f, ⟨Or.inl ⟨?_, rfl, ?_⟩, ?_, b1.2.2.1, fun j hj => ?_⟩, ⟨d6 t ht, by omega, ?_, b2.2.2.2.1, fun j hj => ?_⟩⟩
      · rw [d7 _ _ (by omega)]; exact t1
      · rw [d7 _ _ (by omega)]; exact t2
      · rw [d7 _ _ (by omega), t3]; exact b1.2.1
      · rw [d8 _ (by omega), c9 _ (by omega)]; exact b1.2.2.2 j hj
      · rw [d8 103 (by omega), c9 103 (by omega)]; exact b2.2.2.1
      · rw [d8 104 (by omega), c9 104 (by omega)]; exact b2.2.2.2.2 j hj
