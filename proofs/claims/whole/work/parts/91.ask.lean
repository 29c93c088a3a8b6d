theorem ag_section (i f : Int) (hi : InR i) (hf : InR f) : agU mX7_section mX8_section [vI i, vI f] := by
  intro σ α hI
  obtain ⟨P, l, x, u, hT, hP, hN, hU, hK, hB⟩ := id hI
  have hn10 := hP.1.1
  by_cases hs : 0 ≤ i ∧ i < (pnN P : Int)
  · obtain ⟨j, rfl⟩ := Int.eq_ofNat_of_zero_le hs.1
    have hx := qX7_section σ α (hP.pv hN) (hP.wf hN) j (by omega) f hf
    rw [show α 5 j = pnK P j from (hP.2.1.2.2.1 j (by omega)).2, show α 23 j = α 96 (19 + j) from hN.2.2.2 j (by omega)] at hx
    refine agU.qq (dm := 5) hI (by decide) (by decide) hx (fun _ _ h => h.fq) (fun s1 a1 hq => ?_)
    have e := hq.a (q := 96) (by omega)
    have hm := qX8_section s1 a1 (hP.q hq).rv ((hP.q hq).wf (hN.q hq)) j (by omega) f hf
    rw [ivC_q e, e, show a1 98 j = pnK P j from ((hP.q hq).2.2.2.1 j (by omega)).2.1] at hm
    exact ⟨_, hm, fun s a h => by rw [h.2]; exact h.1.fq _⟩
  · exact agU.no hI (by decide) (by decide) (qX7_section_o σ α hP.2.1.1 hn10 i hi (by omega) f) (qX8_section_o σ α hP.2.2.1.1 hn10 i hi (by omega) f)
theorem ag_order (k : Int) (hk : InR k) : agU mX7_order mX8_order [vI k] := by
  intro σ α hI
  obtain ⟨P, l, x, u, hT, hP, hN, hU, hK, hB⟩ := id hI
  refine agU.qq (dm := 2) hI (by decide) (by decide) (qX7_order σ α (hP.pv hN) (hP.wf hN) k hk) (fun _ _ h => h.fq) (fun s1 a1 hq => ?_)
  have e := hq.a (q := 96) (by omega)
  have hm := qX8_order s1 a1 (hP.q hq).rv ((hP.q hq).wf (hN.q hq)) k hk
  rw [ivC_q e] at hm
  exact ⟨fun s a => s = s1 ∧ a = a1, hm, fun s a h => by rw [h.1, h.2]; exact fqI.rf _ _⟩
theorem ag_pass (i j : Int) (hi : InR i) (hj : InR j) : agU mX7_pass mX8_pass [vI i, vI j] := by
  intro σ α hI
  obtain ⟨P, l, x, u, hT, hP, hN, hU, hK, hB⟩ := id hI
  have hn10 := hP.1.1
  by_cases hs : (0 ≤ i ∧ i < (pnN P : Int)) ∧ (0 ≤ j ∧ j < (pnN P : Int)) ∧ i ≠ j
  · obtain ⟨a, rfl⟩ := Int.eq_ofNat_of_zero_le hs.1.1
    obtain ⟨b, rfl⟩ := Int.eq_ofNat_of_zero_le hs.2.1.1
    refine agU.qq (dm := 7) hI (by decide) (by decide) (qX7_pass σ α (hP.pv hN) (hP.wf hN) a b (by omega) (by omega) (by omega)) (fun _ _ h => h.fq) (fun s1 a1 hq => ?_)
    have e := hq.a (q := 96) (by omega)
    have hm := qX8_pass s1 a1 (hP.q hq).rv ((hP.q hq).wf (hN.q hq)) a b (by omega) (by omega) (by omega)
    rw [ivC_q e] at hm
    exact ⟨_, hm, fun s a h => by rw [h.2]; exact h.1.fq _⟩
  · exact agU.no hI (by decide) (by decide) (qX7_pass_o σ α hP.2.1.1 hn10 i j hi hj hs) (qX8_pass_o σ α hP.2.2.1.1 hn10 i j hi hj (by omega))
theorem ag_need (i k : Int) (hi : InR i) (hk : InR k) : agU mX7_need mX8_need [vI i, vI k] := by
  intro σ α hI
  obtain ⟨P, l, x, u, hT, hP, hN, hU, hK, hB⟩ := id hI
  have hn10 := hP.1.1
  by_cases hs : 0 ≤ i ∧ i < (pnN P : Int)
  · obtain ⟨j, rfl⟩ := Int.eq_ofNat_of_zero_le hs.1
    refine agU.qq (dm := 4) hI (by decide) (by decide) (qX7_need σ α (hP.pv hN) (hP.wf hN) hP.rp j (by omega) k hk) (fun _ _ h => h.fq) (fun s1 a1 hq => ?_)
    have e := hq.a (q := 96) (by omega)
    have hm := qX8_need s1 a1 (hP.q hq).rv ((hP.q hq).wf (hN.q hq)) (hP.q hq).ru j (by omega) k hk
    rw [ivC_q e] at hm
    exact ⟨fun s a => s = s1 ∧ a = a1, hm, fun s a h => by rw [h.1, h.2]; exact fqI.rf _ _⟩
  · exact agU.no hI (by decide) (by decide) (qX7_need_o σ α hP.2.1.1 hn10 i hi (by omega) k) (qX8_need_o σ α hP.2.2.1.1 hn10 i hi (by omega) k)
theorem ag_best (c f : Int) (hc : InR c) (hf : InR f) : agU mX7_best mX8_best [vI c, vI f] := by
  intro σ α hI
  obtain ⟨P, l, x, u, hT, hP, hN, hU, hK, hB⟩ := id hI
  have hn10 := hP.1.1
  have hKC : ∀ i, i < pnN P → α 5 i = pnK P i ∧ α 23 i = (fun j => α 96 (19 + j)) i ∧ (1 ≤ pnK P i ∧ pnK P i ≤ 99) ∧ (0 ≤ (fun j => α 96 (19 + j)) i ∧ (fun j => α 96 (19 + j)) i ≤ 9) ∧ ivC P α i = pnK P i + 10 * (fun j => α 96 (19 + j)) i := fun i hi => ⟨(hP.2.1.2.2.1 i (by omega)).2, hN.2.2.2 i (by omega), (hP.1.2.1 i hi).2.1, hN.1.2.2 i (by omega), rfl⟩
  refine agU.qq (dm := 5) hI (by decide) (by decide) (qX7_best σ α (hP.pv hN) (hP.wf hN) hKC c f hc hf) (fun _ _ h => h.fq) (fun s1 a1 hq => ?_)
  have e := hq.a (q := 96) (by omega)
  have hm := qX8_best s1 a1 (hP.q hq).rv ((hP.q hq).wf (hN.q hq)) (K := pnK P) (C := fun j => α 96 (19 + j)) (fun i hi => ⟨((hP.q hq).2.2.2.1 i (by omega)).2.1, by rw [e], (hP.1.2.1 i hi).2.1, hN.1.2.2 i (by omega), by rw [ivC_q e]; rfl⟩) c f hc hf
  rw [ivC_q e] at hm
  exact ⟨fun s a => s = s1 ∧ a = a1, hm, fun s a h => by rw [h.1, h.2]; exact fqI.rf _ _⟩
theorem ivN.fed {σ α : St} {n : Nat} (h : ivN σ α n) (a b c : Int) (V B N : Nat → Int) (s : Int) : fedR a b V B N n (fun i => (hds c V B N n i : Int)) (α 24) (α 25) (α 26) (α 96 0).toNat s = fdS a b c V B N n (α 96) (α 96 0).toNat s := fedR_hd (fun _ _ => rfl) h.on
theorem ag_top (i f : Int) (hi : InR i) (hf : InR f) : agU mX7_top mX8_top [vI i, vI f] := by
  intro σ α hI
  obtain ⟨P, l, x, u, hT, hP, hN, hU, hK, hB⟩ := id hI
  have hn10 := hP.1.1
  by_cases hs : 0 ≤ i ∧ i < (pnN P : Int)
  · obtain ⟨j, rfl⟩ := Int.eq_ofNat_of_zero_le hs.1
    have hx := qX7_top σ α (hP.pv hN) (hP.wf hN) hP.rp hN.rk j (by omega) f hf
    rw [fdrR_hd (on2 := fun r => α 96 (1 + r)) (vo2 := fun r => α 96 (7 + r)) (sk2 := fun r => α 96 (13 + r)) (fun _ _ => rfl) hN.on (show j < pnN P by omega)] at hx
    refine agU.qq (dm := 10) hI (by decide) (by decide) hx (fun _ _ h => h.fq) (fun s1 a1 hq => ?_)
    have e := hq.a (q := 96) (by omega)
    have hm := qX8_top s1 a1 (hP.q hq).rv ((hP.q hq).wf (hN.q hq)) (hP.q hq).ru (hN.q hq).rr j (by omega) f hf
    rw [ivC_q e, e] at hm
    exact ⟨_, hm, fun s a h => ScHd.fq h.1 h.2⟩
  · exact agU.no hI (by decide) (by decide) (qX7_top_o σ α hP.2.1.1 hn10 i hi (by omega) f) (qX8_top_o σ α hP.2.2.1.1 hn10 i hi (by omega) f)
theorem ag_riser (i f : Int) (hi : InR i) (hf : InR f) : agU mX7_riser mX8_riser [vI i, vI f] := by
  intro σ α hI
  obtain ⟨P, l, x, u, hT, hP, hN, hU, hK, hB⟩ := id hI
  have hrk := hN.rk
  have hrr := hN.rr
  by_cases hs : 0 ≤ i ∧ i < ((α 96 0).toNat : Int)
  · obtain ⟨j, rfl⟩ := Int.eq_ofNat_of_zero_le hs.1
    have hx := qX7_riser σ α (hP.pv hN) (hP.wf hN) hP.rp hrk j (by omega) f hf
    obtain ⟨-, o1, o2, o3⟩ := hN.on j (by omega)
    rw [hN.fed, hN.fed, o1, o2, o3] at hx
    refine agU.qq (dm := 11) hI (by decide) (by decide) hx (fun _ _ h => h.fq) (fun s1 a1 hq => ?_)
    have e := hq.a (q := 96) (by omega)
    have hrr1 := (hN.q hq).rr
    rw [e] at hrr1
    have hm := qX8_riser s1 a1 (hP.q hq).rv ((hP.q hq).wf (hN.q hq)) (hP.q hq).ru hrr1 j (by omega) f hf
    rw [ivC_q e, e] at hm
    exact ⟨_, hm, fun s a h => ScHd.fq h.1 h.2⟩
  · exact agU.no hI (by decide) (by decide) (qX7_riser_o σ α hrk.1 hrk.2.1 i hi (by omega) f) (qX8_riser_o σ α hrr i hi (by omega) f)
theorem ag_least (f : Int) (hf : InR f) : agU mX7_least mX8_least [vI f] := by
  intro σ α hI
  obtain ⟨P, l, x, u, hT, hP, hN, hU, hK, hB⟩ := id hI
  refine agU.qq (dm := 11) hI (by decide) (by decide) (qX7_least σ α (hP.pv hN) (hP.wf hN) hP.rp hN.rk (fun s => fdS (pnA P) (pnB P) (pnC P) (pnV P) (ivC P α) (pnJ P) (pnN P) (α 96) (α 96 0).toNat (s : Int)) (fun s => hN.fed _ _ _ _ _ _ _) f hf) (fun _ _ h => h.fq) (fun s1 a1 hq => ?_)
  have e := hq.a (q := 96) (by omega)
  have hrr1 := (hN.q hq).rr
  rw [e] at hrr1
  have hm := qX8_least s1 a1 (hP.q hq).rv ((hP.q hq).wf (hN.q hq)) (hP.q hq).ru hrr1 (fun s => fdS (pnA P) (pnB P) (pnC P) (pnV P) (ivC P α) (pnJ P) (pnN P) (α 96) (α 96 0).toNat (s : Int)) (fun s => by rw [ivC_q e, e]) f hf
  exact ⟨_, hm, fun s a h => ScHd.fq h.1 h.2⟩
theorem sumO_c {N N' : Nat → Int} : ∀ {k : Nat}, (∀ j, j < k → N j = N' j) → sumO N k = sumO N' k
  | 0, _ => rfl
  | k + 1, h => by unfold sumO; rw [sumO_c (fun j hj => h j (by omega)), h k (by omega)]
theorem ag_count (f : Int) (hf : InR f) : agU mX7_count mX8_count [vI f] := by
  intro σ α hI
  obtain ⟨P, l, x, u, hT, hP, hN, hU, hK, hB⟩ := id hI
  have hn10 := hP.1.1
  have hS : ∀ t, t < 3 → (-1 ≤ α 102 t ∧ α 102 t ≤ 8) ∧ ((α 102 t < 0 ∧ σ (89 + 2 * t) 3 = 0) ∨ (0 ≤ α 102 t ∧ σ (89 + 2 * t) 3 = α 102 t)) := by
    intro t ht
    obtain ⟨z, kd, g, g1, g2⟩ := hB t ht
    have e1 := g2.1
    have e2 := g2.2.1
    rw [e1]
    rcases g1.1 with h | h
    · exact ⟨e2, Or.inl ⟨by omega, h.2.2⟩⟩
    · exact ⟨e2, Or.inr ⟨by omega, h.2.1.symm⟩⟩
  have hx := qX7_count σ α (hP.pv hN) (hP.wf hN) hP.rp hN.rk (S := α 102) (fun t ht => by have := (hS t ht).1; omega) (fun t ht => (hS t ht).2) f hf
  rw [hN.fed, sumO_c (N' := pnJ P) (fun j hj => hP.2.1.2.2.2.1 j hj), hT.1.1, hU.2.1.1] at hx
  refine agU.qq (dm := 11) hI (by decide) (by decide) hx (fun _ _ h => h.fq) (fun s1 a1 hq => ?_)
  have e := hq.a (q := 96) (by omega)
  have e2 := hq.a (q := 102) (by omega)
  have hrr1 := (hN.q hq).rr
  rw [e] at hrr1
  have hm := qX8_count s1 a1 (hP.q hq).rv ((hP.q hq).wf (hN.q hq)) (hP.q hq).ru hrr1 (fun t ht => by rw [e2]; have := (hS t ht).1; omega) (fun t ht => by rw [e2]; exact (hS t ht).1.1) f hf
  rw [ivC_q e, e, e2, sumO_c (N' := pnJ P) (fun j hj => ((hP.q hq).2.2.2.1 j (by omega)).2.2), (hT.q hq).1.2, (hU.q hq).2.1.2.1] at hm
  exact ⟨_, hm, fun s a h => ScHd.fq h.1 h.2⟩
theorem ag_fault : agU mX7_fault mX8_fault [] := by
  intro σ α hI
  obtain ⟨P, l, x, u, hT, hP, hN, hU, hK, hB⟩ := id hI
  refine agU.qq (dm := 8) hI (by decide) (by decide) (qX7_fault σ α (α 101) hT.2.1 l hT.1.1 hT.2.2.1 P hP.2.1 hP.1) (fun _ _ h => h.fq) (fun s1 a1 hq => ?_)
  have hT1 := hT.q hq
  have hP1 := hP.q hq
  exact ⟨_, qX8_fault s1 a1 (α 101) (hq.a (by omega)) l hT1.1.2 hT.2.2.1 hT1.2.2.2 P hP.1 hP1.2.2.1.1 (hP1.2.2.2.2 0 (by decide)), fun s a h => fmT.fq h.1 h.2⟩
