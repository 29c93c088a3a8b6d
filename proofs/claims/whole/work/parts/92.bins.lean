theorem ivA.t {σ α s' a' : St} (h : ivA σ α) {l' : Nat} (hs : ∀ q k, ¬ (q = 1 ∧ k = 1) → ¬ (q = 95 ∧ k = 11) → s' q k = σ q k) (ha : ∀ q, q ≠ 2 → q ≠ 101 → a' q = α q) (hT : ivT s' a' l') : ivA s' a' := by
  obtain ⟨P, l, x, u, g1, g2, g3, g4, g5, g6⟩ := h
  have e6 : a' 96 = α 96 := ha 96 (by decide) (by decide)
  exact ⟨P, l', x, u, hT, g2.go (fun q k h => hs _ _ (by omega) (by omega)) (hs _ _ (by omega) (by omega)) (hs _ _ (by omega) (by omega)) (hs _ _ (by omega) (by omega)) (hs _ _ (by omega) (by omega)) (fun q h1 h2 => ha _ (by omega) (by omega)) (ha _ (by omega) (by omega)) (ha _ (by omega) (by omega)) (ha _ (by omega) (by omega)) (fun k _ => by rw [e6]),
    g3.go (hs _ _ (by omega) (by omega)) (fun q h1 h2 => ha _ (by omega) (by omega)) (fun k _ => by rw [e6]),
    g4.go (hs _ _ (by omega) (by omega)) (hs _ _ (by omega) (by omega)) (hs _ _ (by omega) (by omega)) (fun y hy => hs _ _ (by omega) (by omega)) (fun q h1 h2 => ha _ (by omega) (by omega)) (fun k _ _ => by rw [e6]),
    g5.go (ha _ (by omega) (by omega)) (ha _ (by omega) (by omega)) (fun y hy => hs _ _ (by omega) (by omega)) (fun q h1 h2 => ha _ (by omega) (by omega)) (fun k _ _ => by rw [e6]),
    g6.go (fun q h1 h2 => funext fun k => hs _ _ (by omega) (by omega)) (fun q h1 h2 => ha _ (by omega) (by omega)) (ha _ (by omega) (by omega)) (ha _ (by omega) (by omega)) (ha _ (by omega) (by omega))⟩
theorem ag_write (c : Int) (hc : InR c) : agU mX7_write mX8_write [vI c] := by
  intro σ α hI
  obtain ⟨P, l, x, u, hT, hP, hN, hU, hK, hB⟩ := id hI
  have hl := hT.2.2.1.1
  have hx := qX7_write σ α l hT.1.1 hl c hc
  by_cases hc2 : (0 ≤ c ∧ c ≤ 255) ∧ l ≠ 200
  · rw [if_pos hc2, if_pos hc2] at hx
    refine ⟨_, 0, 1, fun s' a' => s' = uS σ 1 1 ((l : Int) + 1) ∧ a' = uA α 2 (uF (α 2) l c), by decide, by decide, hx, ?_⟩
    rintro s1 a1 ⟨rfl, rfl⟩
    have hm := qX8_write (uS σ 1 1 ((l : Int) + 1)) (uA α 2 (uF (α 2) l c)) l (by rw [uS_ne _ _ (by omega)]; exact hT.1.2) hl c hc
    rw [if_pos hc2, if_pos hc2] at hm
    refine hm.mono (fun r s a h => ⟨h.1, ?_⟩)
    rw [h.2.1, h.2.2]
    refine hI.t (l' := l + 1) (fun q k h1 h2 => by rw [uS_ne _ _ h2, uS_ne _ _ h1]) (fun q h1 h2 => by rw [uA_ne _ _ h2, uA_ne _ _ h1]) ⟨⟨?_, ?_⟩, ?_, ⟨by omega, fun i hi => ?_⟩, fun k hk => ?_⟩
    · rw [uS_ne _ _ (by omega), uS_eq]; omega
    · rw [uS_eq]; omega
    · rw [uA_ne _ _ (by decide), uA_eq, uA_eq, uA_ne _ _ (by decide), hT.2.1]
    · rw [uA_eq, uA_ne _ _ (by decide)]
      unfold uF
      split
      · exact hc2.1
      · exact hT.2.2.1.2 i (by omega)
    · rw [uA_ne _ _ (by decide), uA_ne _ _ (by decide)]; exact hT.2.2.2 k hk
  · rw [if_neg hc2, if_neg hc2] at hx
    have hm := qX8_write σ α l hT.1.2 hl c hc
    rw [if_neg hc2, if_neg hc2] at hm
    exact agU.no hI (by decide) (by decide) hx hm
theorem ag_erase : agU mX7_erase mX8_erase [] := by
  intro σ α hI
  obtain ⟨P, l, x, u, hT, hP, hN, hU, hK, hB⟩ := id hI
  have hx := qX7_erase σ α
  rw [hT.1.1] at hx
  refine ⟨_, 0, 0, fun s' a' => s' = uS σ 1 1 0 ∧ a' = α, by decide, by decide, hx, ?_⟩
  rintro s1 a1 ⟨rfl, rfl⟩
  have hm := qX8_erase (uS σ 1 1 0) a1
  rw [uS_ne _ _ (by omega), hT.1.2] at hm
  refine hm.mono (fun r s a h => ⟨h.1, ?_⟩)
  rw [h.2.1, h.2.2]
  exact hI.t (l' := 0) (fun q k h1 h2 => by rw [uS_ne _ _ h2, uS_ne _ _ h1]) (fun q h1 h2 => rfl) ⟨⟨by rw [uS_ne _ _ (by omega), uS_eq]; rfl, by rw [uS_eq]; rfl⟩, hT.2.1, ⟨by decide, fun i hi => absurd hi (by omega)⟩, hT.2.2.2⟩
/-- one bin changes alike on both sides -/
theorem ivA.b {σ α s' a' : St} (h : ivA σ α) {k : Nat} (hk : k < 3) {z kd : Int} {f : Nat → Int} (hs : ∀ q, q ≠ 89 + 2 * k → s' q = σ q) (ha : ∀ q, q ≠ 89 + 2 * k + 1 → q ≠ 102 → q ≠ 103 → q ≠ 104 → a' q = α q) (hr : ∀ t, t < 3 → t ≠ k → a' 102 t = α 102 t ∧ a' 103 t = α 103 t ∧ ∀ j, j < 8 → a' 104 (8 * t + j) = α 104 (8 * t + j)) (h1 : BK s' a' (89 + 2 * k) z kd f) (h2 : RB a' k z kd f) : ivA s' a' := by
  obtain ⟨P, l, x, u, g1, g2, g3, g4, g5, g6⟩ := h
  have e6 : a' 96 = α 96 := ha 96 (by omega) (by omega) (by omega) (by omega)
  have hs2 : ∀ q j, q ≠ 89 + 2 * k → s' q j = σ q j := fun q j hq => by rw [hs q hq]
  refine ⟨P, l, x, u, g1.go (hs2 _ _ (by omega)) (hs2 _ _ (by omega)) (ha _ (by omega) (by omega) (by omega) (by omega)) (ha _ (by omega) (by omega) (by omega) (by omega)) (ha _ (by omega) (by omega) (by omega) (by omega)),
    g2.go (fun q k h => hs2 _ _ (by omega)) (hs2 _ _ (by omega)) (hs2 _ _ (by omega)) (hs2 _ _ (by omega)) (hs2 _ _ (by omega)) (fun q h1 h2 => ha _ (by omega) (by omega) (by omega) (by omega)) (ha _ (by omega) (by omega) (by omega) (by omega)) (ha _ (by omega) (by omega) (by omega) (by omega)) (ha _ (by omega) (by omega) (by omega) (by omega)) (fun k _ => by rw [e6]),
    g3.go (hs2 _ _ (by omega)) (fun q h1 h2 => ha _ (by omega) (by omega) (by omega) (by omega)) (fun k _ => by rw [e6]),
    g4.go (hs2 _ _ (by omega)) (hs2 _ _ (by omega)) (hs2 _ _ (by omega)) (fun y hy => hs2 _ _ (by omega)) (fun q h1 h2 => ha _ (by omega) (by omega) (by omega) (by omega)) (fun k _ _ => by rw [e6]),
    g5.go (ha _ (by omega) (by omega) (by omega) (by omega)) (ha _ (by omega) (by omega) (by omega) (by omega)) (fun y hy => hs2 _ _ (by omega)) (fun q h1 h2 => ha _ (by omega) (by omega) (by omega) (by omega)) (fun k _ _ => by rw [e6]), fun t ht => ?_⟩
  by_cases htk : t = k
  · subst htk; exact ⟨z, kd, f, h1, h2⟩
  · obtain ⟨z1, kd1, f1, b1, b2⟩ := g6 t ht
    obtain ⟨r1, r2, r3⟩ := hr t ht htk
    exact ⟨z1, kd1, f1, b1.go (hs _ (by omega)) (ha _ (by omega) (by omega) (by omega) (by omega)), b2.go r1 r2 r3⟩
theorem agU.bin {Mx Mm : Mi} {As : List AV} {σ α : St} (hI : ivA σ α) {k : Nat} (hk : k < 3) {z kd z' kd' : Int} {f f' : Nat → Int} (hR : RB α k z kd f) {r : Int} {dx dm : Nat} (h1 : dx ≤ 11) (h2 : dm ≤ 11) (hx : CG dx Mx (vR 0 :: As) σ α (fun r' s' a' => r' = some (vI r) ∧ BK s' a' (89 + 2 * k) z' kd' f' ∧ FrB (89 + 2 * k) σ α s' a')) (hm : ∀ s1 a1, (∀ t, t < 3 → a1 102 t = α 102 t ∧ a1 103 t = α 103 t ∧ ∀ j, j < 8 → a1 104 (8 * t + j) = α 104 (8 * t + j)) → RB a1 k z kd f → CG dm Mm (vR 95 :: As) s1 a1 (fun r' s' a' => r' = some (vI r) ∧ s' = s1 ∧ RB a' k z' kd' f' ∧ FrR k a1 a')) : ∃ (r : Int) (dx dm : Nat) (Q1 : St → St → Prop), dx ≤ 11 ∧ dm ≤ 11 ∧ CG dx Mx (vR 0 :: As) σ α (fun r' s' a' => r' = some (vI r) ∧ Q1 s' a') ∧ ∀ s1 a1, Q1 s1 a1 → CG dm Mm (vR 95 :: As) s1 a1 (fun r' s' a' => r' = some (vI r) ∧ ivA s' a') := by
  refine ⟨r, dx, dm, _, h1, h2, hx, fun s1 a1 hQ => ?_⟩
  obtain ⟨b1, f1, f2⟩ := hQ
  have e2 := f2 102 (by omega)
  have e3 := f2 103 (by omega)
  have e4 := f2 104 (by omega)
  refine (hm s1 a1 (fun t _ => ⟨by rw [e2], by rw [e3], fun j _ => by rw [e4]⟩) (hR.go (by rw [e2]) (by rw [e3]) (fun j _ => by rw [e4]))).mono (fun r s a h => ⟨h.1, ?_⟩)
  obtain ⟨-, rfl, b2, g1, g2⟩ := h
  refine hI.b hk (fun q hq => f1 q hq) (fun q h1 h2 h3 h4 => (g1 q h2 h3 h4).trans (f2 q h1)) (fun t ht hne => ?_) (b1.go rfl (g1 _ (by omega) (by omega) (by omega))) b2
  obtain ⟨k1, k2, k3⟩ := g2 t ht hne
  exact ⟨k1.trans (by rw [e2]), k2.trans (by rw [e3]), fun j hj => (k3 j hj).trans (by rw [e4])⟩
theorem ag_bin (t k : Int) (ht : InR t) (hk : InR k) : agU mX7_bin mX8_bin [vI t, vI k] := by
  intro σ α hI
  obtain ⟨P, l, x, u, hT, hP, hN, hU, hK, hB⟩ := id hI
  by_cases hs : 0 ≤ t ∧ t < 3
  · obtain ⟨j, rfl⟩ := Int.eq_ofNat_of_zero_le hs.1
    obtain ⟨z, kd, f, b1, b2⟩ := hB j (by omega)
    exact agU.bin hI (show j < 3 by omega) b2 (by decide) (show 2 ≤ 11 by decide) (qX7_bin σ α j (by omega) b1 k hk) (fun s1 a1 _ hr => qX8_bin s1 a1 j (by omega) hr k hk)
  · exact agU.no hI (by decide) (by decide) (qX7_bin_o σ α t ht (by omega) k) (qX8_bin_o σ α t ht (by omega) k)
theorem ag_addWhole (t v : Int) (ht : InR t) (hv : InR v) : agU mX7_addWhole mX8_addWhole [vI t, vI v] := by
  intro σ α hI
  obtain ⟨P, l, x, u, hT, hP, hN, hU, hK, hB⟩ := id hI
  by_cases hs : 0 ≤ t ∧ t < 3
  · obtain ⟨j, rfl⟩ := Int.eq_ofNat_of_zero_le hs.1
    obtain ⟨z, kd, f, b1, b2⟩ := hB j (by omega)
    exact agU.bin hI (show j < 3 by omega) b2 (by decide) (show 2 ≤ 11 by decide) (qX7_addWhole σ α j (by omega) b1 v hv) (fun s1 a1 _ hr => qX8_addWhole s1 a1 j (by omega) hr v hv)
  · exact agU.no hI (by decide) (by decide) (qX7_addWhole_o σ α t ht (by omega) v) (qX8_addWhole_o σ α t ht (by omega) v)
theorem ag_addPair (t a b : Int) (ht : InR t) (ha : InR a) (hb : InR b) : agU mX7_addPair mX8_addPair [vI t, vI a, vI b] := by
  intro σ α hI
  obtain ⟨P, l, x, u, hT, hP, hN, hU, hK, hB⟩ := id hI
  by_cases hs : 0 ≤ t ∧ t < 3
  · obtain ⟨j, rfl⟩ := Int.eq_ofNat_of_zero_le hs.1
    obtain ⟨z, kd, f, b1, b2⟩ := hB j (by omega)
    exact agU.bin hI (show j < 3 by omega) b2 (by decide) (show 2 ≤ 11 by decide) (qX7_addPair σ α j (by omega) b1 a b ha hb) (fun s1 a1 _ hr => qX8_addPair s1 a1 j (by omega) hr a b ha hb)
  · exact agU.no hI (by decide) (by decide) (qX7_addPair_o σ α t ht (by omega) a b) (qX8_addPair_o σ α t ht (by omega) a b)
theorem ag_find (t v : Int) (ht : InR t) (hv : InR v) : agU mX7_find mX8_find [vI t, vI v] := by
  intro σ α hI
  obtain ⟨P, l, x, u, hT, hP, hN, hU, hK, hB⟩ := id hI
  by_cases hs : 0 ≤ t ∧ t < 3
  · obtain ⟨j, rfl⟩ := Int.eq_ofNat_of_zero_le hs.1
    obtain ⟨z, kd, f, b1, b2⟩ := hB j (by omega)
    exact agU.bin hI (show j < 3 by omega) b2 (by decide) (show 2 ≤ 11 by decide) (qX7_find σ α j (by omega) b1 v hv) (fun s1 a1 _ hr => qX8_find s1 a1 j (by omega) hr v hv)
  · exact agU.no hI (by decide) (by decide) (qX7_find_o σ α t ht (by omega) v) (qX8_find_o σ α t ht (by omega) v)
theorem ag_pop (t : Int) (ht : InR t) : agU mX7_pop mX8_pop [vI t] := by
  intro σ α hI
  obtain ⟨P, l, x, u, hT, hP, hN, hU, hK, hB⟩ := id hI
  by_cases hs : 0 ≤ t ∧ t < 3
  · obtain ⟨j, rfl⟩ := Int.eq_ofNat_of_zero_le hs.1
    obtain ⟨z, kd, f, b1, b2⟩ := hB j (by omega)
    exact agU.bin hI (show j < 3 by omega) b2 (by decide) (show 2 ≤ 11 by decide) (qX7_pop σ α j (by omega) b1) (fun s1 a1 _ hr => qX8_pop s1 a1 j (by omega) hr)
  · exact agU.no hI (by decide) (by decide) (qX7_pop_o σ α t ht (by omega)) (qX8_pop_o σ α t ht (by omega))
theorem ag_sort (t : Int) (ht : InR t) : agU mX7_sort mX8_sort [vI t] := by
  intro σ α hI
  obtain ⟨P, l, x, u, hT, hP, hN, hU, hK, hB⟩ := id hI
  by_cases hs : 0 ≤ t ∧ t < 3
  · obtain ⟨j, rfl⟩ := Int.eq_ofNat_of_zero_le hs.1
    obtain ⟨z, kd, f, b1, b2⟩ := hB j (by omega)
    exact agU.bin hI (show j < 3 by omega) b2 (by decide) (show 2 ≤ 11 by decide) (qX7_sort σ α j (by omega) b1) (fun s1 a1 _ hr => qX8_sort s1 a1 j (by omega) hr)
  · exact agU.no hI (by decide) (by decide) (qX7_sort_o σ α t ht (by omega)) (qX8_sort_o σ α t ht (by omega))
theorem ag_sum (t : Int) (ht : InR t) : agU mX7_sum mX8_sum [vI t] := by
  intro σ α hI
  obtain ⟨P, l, x, u, hT, hP, hN, hU, hK, hB⟩ := id hI
  by_cases hs : 0 ≤ t ∧ t < 3
  · obtain ⟨j, rfl⟩ := Int.eq_ofNat_of_zero_le hs.1
    obtain ⟨z, kd, f, b1, b2⟩ := hB j (by omega)
    exact agU.bin hI (show j < 3 by omega) b2 (by decide) (show 2 ≤ 11 by decide) (qX7_sum σ α j (by omega) b1) (fun s1 a1 _ hr => qX8_sum s1 a1 j (by omega) hr)
  · exact agU.no hI (by decide) (by decide) (qX7_sum_o σ α t ht (by omega)) (qX8_sum_o σ α t ht (by omega))
theorem ag_drop (t : Int) (ht : InR t) : agU mX7_drop mX8_drop [vI t] := by
  intro σ α hI
  obtain ⟨P, l, x, u, hT, hP, hN, hU, hK, hB⟩ := id hI
  by_cases hs : 0 ≤ t ∧ t < 3
  · obtain ⟨j, rfl⟩ := Int.eq_ofNat_of_zero_le hs.1
    obtain ⟨z, kd, f, b1, b2⟩ := hB j (by omega)
    exact agU.bin hI (show j < 3 by omega) b2 (by decide) (show 2 ≤ 11 by decide) (qX7_drop σ α j (by omega) b1) (fun s1 a1 _ hr => qX8_drop s1 a1 j (by omega) hr)
  · exact agU.no hI (by decide) (by decide) (qX7_drop_o σ α t ht (by omega)) (qX8_drop_o σ α t ht (by omega))
theorem ag_pour (i j : Int) (hi : InR i) (hj : InR j) : agU mX7_pour mX8_pour [vI i, vI j] := by
  intro σ α hI
  obtain ⟨P, l, x, u, hT, hP, hN, hU, hK, hB⟩ := id hI
  by_cases hs : (0 ≤ i ∧ i < 3) ∧ (0 ≤ j ∧ j < 3) ∧ i ≠ j
  · obtain ⟨a, rfl⟩ := Int.eq_ofNat_of_zero_le hs.1.1
    obtain ⟨b, rfl⟩ := Int.eq_ofNat_of_zero_le hs.2.1.1
    obtain ⟨z1, k1, f1, b1, r1⟩ := hB a (by omega)
    obtain ⟨z2, k2, f2, b2, r2⟩ := hB b (by omega)
    exact agU.bin hI (show b < 3 by omega) r2 (by decide) (show 2 ≤ 11 by decide) (qX7_pour σ α a b (by omega) (by omega) (by omega) b1 b2) (fun s1 a1 he hr => qX8_pour s1 a1 a b (by omega) (by omega) (by omega) (r1.go (he a (by omega)).1 (he a (by omega)).2.1 (he a (by omega)).2.2) hr)
  · exact agU.no hI (by decide) (by decide) (qX7_pour_o σ α i j hi hj hs) (qX8_pour_o σ α i j hi hj hs)
