set_option maxHeartbeats 4000000 in
set_option maxRecDepth 100000 in
theorem qX0_begin (σ α : St) (p : Nat) (hp : isBinO p) (kd : Int) : CF 0 mX0_begin [vR p, vI kd] σ α (none) (uS (uS (uS σ p 1 0) p 2 kd) p 3 0) (α) := by
  obtain ⟨p0, p1⟩ := hp
  refine CG.of [some (vR p), some (vI kd)] (by decide) (by simp [lvA]) rfl ?_
  refine v_aload_n iX0_begin_0 rfl ?_
  refine v_iconst iX0_begin_1 ?_
  refine v_put iX0_begin_2 pX0_15 (by assumption) rfl (fun _ => by omega) ?_
  refine v_aload_n iX0_begin_5 rfl ?_
  refine v_iload_n iX0_begin_6 rfl ?_
  refine v_put iX0_begin_7 pX0_19 (by assumption) rfl (by intro h; cases h) ?_
  refine v_aload_n iX0_begin_10 rfl ?_
  refine v_iconst iX0_begin_11 ?_
  refine v_put iX0_begin_12 pX0_23 (by assumption) rfl (by intro h; cases h) ?_
  exact r_v iX0_begin_15 rfl (⟨rfl, rfl, rfl⟩)

set_option maxHeartbeats 4000000 in
set_option maxRecDepth 100000 in
theorem qX0_vanish (σ α : St) (p : Nat) (hp : isBinO p) : CF 0 mX0_vanish [vR p] σ α (none) (uS (uS σ p 1 1) p 3 0) (α) := by
  obtain ⟨p0, p1⟩ := hp
  refine CG.of [some (vR p)] (by decide) (by simp [lvA]) rfl ?_
  refine v_aload_n iX0_vanish_0 rfl ?_
  refine v_iconst iX0_vanish_1 ?_
  refine v_put iX0_vanish_2 pX0_15 (by assumption) rfl (fun _ => by omega) ?_
  refine v_aload_n iX0_vanish_5 rfl ?_
  refine v_iconst iX0_vanish_6 ?_
  refine v_put iX0_vanish_7 pX0_23 (by assumption) rfl (by intro h; cases h) ?_
  exact r_v iX0_vanish_10 rfl (⟨rfl, rfl, rfl⟩)

set_option maxHeartbeats 4000000 in
set_option maxRecDepth 100000 in
theorem qX0_addThing (σ α : St) (p : Nat) (hp : isBinO p) (ms kd z : Int) (h1 : σ p 1 = ms) (h2 : σ p 2 = kd) (h3 : σ p 3 = z) (hms : ms = 0 ∨ ms = 1) (hkd : kd = 0 ∨ kd = 1) (hz : 0 ≤ z ∧ z ≤ 8) (kk x : Int) (hkk : kk = 0 ∨ kk = 1) : CF 0 mX0_addThing [vR p, vI kk, vI x] σ α (some (vI (adR ms kd kk z))) (adS σ p ms kd kk z) (adA α p ms kd kk z x) := by
  obtain ⟨p0, p1⟩ := hp
  refine CG.of [some (vR p), some (vI kk), some (vI x)] (by decide) (by simp [lvA]) rfl ?_
  refine v_aload_n iX0_addThing_0 rfl ?_
  refine v_getI iX0_addThing_1 fX0_15 (by assumption) rfl (by exact h1) ?_
  refine v_if_eq (tgt := 10) iX0_addThing_4 (by decide) (by omega) (fun h4 => ?_) (fun h4 => ?_)
  · refine v_aload_n iX0_addThing_10 rfl ?_
    refine v_getI iX0_addThing_11 fX0_19 (by assumption) rfl (by exact h2) ?_
    refine v_iload_n iX0_addThing_14 rfl ?_
    refine v_icmp_eq (tgt := 21) iX0_addThing_15 (by decide) (by omega) (fun h15 => ?_) (fun h15 => ?_)
    · refine v_aload_n iX0_addThing_21 rfl ?_
      refine v_getI iX0_addThing_22 fX0_23 (by assumption) rfl (by exact h3) ?_
      refine v_bipush iX0_addThing_25 (by decide) ?_
      refine v_icmp_lt (tgt := 33) iX0_addThing_27 (by decide) (by omega) (fun h27 => ?_) (fun h27 => ?_)
      · refine v_aload_n iX0_addThing_33 rfl ?_
        refine v_getR iX0_addThing_34 fX0_9 (by assumption) rfl ?_
        refine v_aload_n iX0_addThing_37 rfl ?_
        refine v_getI iX0_addThing_38 fX0_23 (by assumption) rfl (by exact h3) ?_
        refine v_iload_n iX0_addThing_41 rfl ?_
        refine v_iastore iX0_addThing_42 (by assumption) (by omega) ?_
        refine v_aload_n iX0_addThing_43 rfl ?_
        refine v_dup iX0_addThing_44 (by intro z h; cases h) ?_
        refine v_getI iX0_addThing_45 fX0_23 (by assumption) rfl (by exact h3) ?_
        refine v_iconst iX0_addThing_48 ?_
        refine v_iadd iX0_addThing_49 ?_
        refine v_put iX0_addThing_50 pX0_23 (by assumption) rfl (by intro h; cases h) ?_
        refine v_aload_n iX0_addThing_53 rfl ?_
        refine v_getI iX0_addThing_54 fX0_23 (by assumption) rfl (by exact uS_eq _ _ _ _) ?_
        exact r_i iX0_addThing_57 rfl (⟨cf_i (by simp [adR, h4, h15, h27]), by simp [adS, h4, h15, h27], by simp [adA, h4, h15, h27]⟩)
      · refine v_bipush iX0_addThing_30 (by decide) ?_
        exact r_i iX0_addThing_32 rfl (⟨cf_i (by simp [adR, h4, h15, h27]), by simp [adS, h27], by simp [adA, h27]⟩)
    · refine v_bipush iX0_addThing_18 (by decide) ?_
      exact r_i iX0_addThing_20 rfl (⟨cf_i (by simp [adR, h4, h15]), by simp [adS, h15], by simp [adA, h15]⟩)
  · refine v_bipush iX0_addThing_7 (by decide) ?_
    exact r_i iX0_addThing_9 rfl (⟨cf_i (by simp [adR, h4]), by simp [adS, h4], by simp [adA, h4]⟩)

set_option maxHeartbeats 4000000 in
set_option maxRecDepth 100000 in
theorem qX0_addAll (σ α : St) (p q : Nat) (hp : isBinO p) (hq : isBinO q) (hpq : p + 2 ≤ q ∨ q + 2 ≤ p) (m1 k1 z1 : Int) (h1 : σ p 1 = m1) (h2 : σ p 2 = k1) (h3 : σ p 3 = z1) (hm1 : m1 = 0 ∨ m1 = 1) (hk1 : k1 = 0 ∨ k1 = 1) (hz1 : 0 ≤ z1 ∧ z1 ≤ 8) (m2 k2 z2 : Int) (g1 : σ q 1 = m2) (g2 : σ q 2 = k2) (g3 : σ q 3 = z2) (hm2 : m2 = 0 ∨ m2 = 1) (hk2 : k2 = 0 ∨ k2 = 1) (hz2 : 0 ≤ z2 ∧ z2 ≤ 8) : CF 2 mX0_addAll [vR p, vR q] σ α (some (vI (alR m1 m2 k1 k2 z1 z2))) (alS σ p m1 m2 k1 k2 z1 z2) (alA α p q m1 m2 k1 k2 z1 z2) := by
  obtain ⟨p0, p1⟩ := hp
  obtain ⟨q0, q1⟩ := hq
  refine CG.of [some (vR p), some (vR q)] (by decide) (by simp [lvA]) rfl ?_
  refine v_aload_n iX0_addAll_0 rfl ?_
  refine v_getI iX0_addAll_1 fX0_15 (by assumption) rfl (by exact h1) ?_
  refine v_if_ne (tgt := 14) iX0_addAll_4 (by decide) (by omega) (fun h4 => ?_) (fun h4 => ?_)
  · refine v_bipush iX0_addAll_14 (by decide) ?_
    exact r_i iX0_addAll_16 rfl (⟨cf_i (by first | (simp [alR, h11]; done) | (simp [alR, h4]; done)), by first | (simp [alS, h11]; done) | (simp [alS, h4]; done), by first | (simp [alA, h11]; done) | (simp [alA, h4]; done)⟩)
  · refine v_aload_n iX0_addAll_7 rfl ?_
    refine v_getI iX0_addAll_8 fX0_15 (by assumption) rfl (by exact g1) ?_
    refine v_if_eq (tgt := 17) iX0_addAll_11 (by decide) (by omega) (fun h11 => ?_) (fun h11 => ?_)
    · refine v_aload_n iX0_addAll_17 rfl ?_
      refine v_getI iX0_addAll_18 fX0_19 (by assumption) rfl (by exact h2) ?_
      refine v_aload_n iX0_addAll_21 rfl ?_
      refine v_getI iX0_addAll_22 fX0_19 (by assumption) rfl (by exact g2) ?_
      refine v_icmp_eq (tgt := 31) iX0_addAll_25 (by decide) (by omega) (fun h25 => ?_) (fun h25 => ?_)
      · refine v_aload_n iX0_addAll_31 rfl ?_
        refine v_getI iX0_addAll_32 fX0_23 (by assumption) rfl (by exact h3) ?_
        refine v_aload_n iX0_addAll_35 rfl ?_
        refine v_getI iX0_addAll_36 fX0_23 (by assumption) rfl (by exact g3) ?_
        refine v_iadd iX0_addAll_39 ?_
        refine v_bipush iX0_addAll_40 (by decide) ?_
        refine v_icmp_le (tgt := 48) iX0_addAll_42 (by decide) (by omega) (fun h42 => ?_) (fun h42 => ?_)
        · refine v_aload_n iX0_addAll_48 rfl ?_
          refine v_getR iX0_addAll_49 fX0_9 (by assumption) rfl ?_
          refine v_iconst iX0_addAll_52 ?_
          refine v_aload_n iX0_addAll_53 rfl ?_
          refine v_getR iX0_addAll_54 fX0_9 (by assumption) rfl ?_
          refine v_aload_n iX0_addAll_57 rfl ?_
          refine v_getI iX0_addAll_58 fX0_23 (by assumption) rfl (by exact h3) ?_
          refine v_aload_n iX0_addAll_61 rfl ?_
          refine v_getI iX0_addAll_62 fX0_23 (by assumption) rfl (by exact g3) ?_
          refine v_copy (f := α (q + 1)) (g := α (p + 1)) iX0_addAll_65 (gw_t 724 (by decide +kernel) rfl) (by assumption) (by assumption) (by omega) (by decide) (Nat.le_of_ble_eq_true rfl) rfl rfl ?_
          refine v_aload_n iX0_addAll_68 rfl ?_
          refine v_dup iX0_addAll_69 (by intro z h; cases h) ?_
          refine v_getI iX0_addAll_70 fX0_23 (by assumption) rfl (by exact h3) ?_
          refine v_aload_n iX0_addAll_73 rfl ?_
          refine v_getI iX0_addAll_74 fX0_23 (by assumption) rfl (by exact g3) ?_
          refine v_iadd iX0_addAll_77 ?_
          refine v_put iX0_addAll_78 pX0_23 (by assumption) rfl (by intro h; cases h) ?_
          refine v_aload_n iX0_addAll_81 rfl ?_
          refine v_getI iX0_addAll_82 fX0_23 (by assumption) rfl (by exact uS_eq _ _ _ _) ?_
          exact r_i iX0_addAll_85 rfl (⟨cf_i (by simp [alR, h4, h11, h25, h42]), by simp [alS, h4, h11, h25, h42], by simp [alA, h4, h11, h25, h42]⟩)
        · refine v_bipush iX0_addAll_45 (by decide) ?_
          exact r_i iX0_addAll_47 rfl (⟨cf_i (by simp [alR, h4, h11, h25, h42]), by simp [alS, h42], by simp [alA, h42]⟩)
      · refine v_bipush iX0_addAll_28 (by decide) ?_
        exact r_i iX0_addAll_30 rfl (⟨cf_i (by simp [alR, h4, h11, h25]), by simp [alS, h25], by simp [alA, h25]⟩)
    · refine v_bipush iX0_addAll_14 (by decide) ?_
      exact r_i iX0_addAll_16 rfl (⟨cf_i (by first | (simp [alR, h11]; done) | (simp [alR, h4]; done)), by first | (simp [alS, h11]; done) | (simp [alS, h4]; done), by first | (simp [alA, h11]; done) | (simp [alA, h4]; done)⟩)

set_option maxHeartbeats 4000000 in
set_option maxRecDepth 100000 in
theorem qX0_greatest (σ α : St) (p : Nat) (hp : isBinO p) (z : Nat) (h3 : σ p 3 = z) (hz : 1 ≤ z ∧ z ≤ 8) (hf : ∀ j, j < 8 → 0 ≤ α (p + 1) j ∧ α (p + 1) j ≤ 30000) : CF 1 mX0_greatest [vR p] σ α (some (vI (maxU (α (p + 1)) (z - 1)))) (σ) (α) := by
  obtain ⟨p0, p1⟩ := hp
  refine CG.of [some (vR p), none, none] (by decide) (by simp [lvA]) rfl ?_
  refine v_aload_n iX0_greatest_0 rfl ?_
  refine v_getR iX0_greatest_1 fX0_9 (by assumption) rfl ?_
  refine v_iconst iX0_greatest_4 ?_
  refine v_iaload iX0_greatest_5 (by assumption) (by omega) rfl ?_
  refine v_is1 iX0_greatest_6 ⟨rfl, rfl⟩ ?_
  refine v_iconst iX0_greatest_7 ?_
  refine v_is2 iX0_greatest_8 ⟨rfl, rfl⟩ ?_
  have key := ind_up (P := fun k => VV 1 mX0_greatest [vR p] (fun r' s' a' => r' = some (vI (maxU (α (p + 1)) (z - 1))) ∧ s' = σ ∧ a' = α) σ α 9 [some (vR p), some (vI (maxU (α (p + 1)) k)), some (vI ((k + 1 : Nat) : Int))] []) (z - 1) ?_ 0 (by omega)
  · exact key
  intro k hk ih
  refine v_iload_n iX0_greatest_9 rfl ?_
  refine v_aload_n iX0_greatest_10 rfl ?_
  refine v_getI iX0_greatest_11 fX0_23 (by assumption) rfl (by exact h3) ?_
  refine v_icmp_ge (tgt := 34) iX0_greatest_14 (by decide) (by omega) (fun h14 => ?_) (fun h14 => ?_)
  · have hkz : z - 1 = k := by omega
    subst hkz
    refine v_iload_n iX0_greatest_34 rfl ?_
    exact r_i iX0_greatest_35 rfl (⟨cf_i (by rfl), rfl, rfl⟩)
  · have hr := maxU_r (α (p + 1)) hf k (by omega)
    have hf1 := hf (k + 1) (by omega)
    refine v_iload_n iX0_greatest_17 rfl ?_
    refine v_aload_n iX0_greatest_18 rfl ?_
    refine v_getR iX0_greatest_19 fX0_9 (by assumption) rfl ?_
    refine v_iload_n iX0_greatest_22 rfl ?_
    refine v_iaload iX0_greatest_23 (by assumption) (by omega) (by exact (show _ = α (p + 1) (k + 1) by rw [show (((k + 1 : Nat) : Int)).toNat = k + 1 by omega])) ?_
    refine v_max iX0_greatest_24 (gw_t 696 (by decide +kernel) rfl) (by decide) (Nat.le_of_ble_eq_true rfl) (by omega) ?_
    refine v_is1 iX0_greatest_27 ⟨rfl, rfl⟩ ?_
    refine v_in2 iX0_greatest_28 ⟨rfl, rfl⟩ ?_
    refine v_goto (tgt := 9) iX0_greatest_31 (by decide) ?_
    exact (ih (by omega)).as rfl rfl (by simp only [maxU]; rfl) rfl

set_option maxHeartbeats 4000000 in
set_option maxRecDepth 100000 in
theorem qX0_smallest (σ α : St) (p : Nat) (hp : isBinO p) (z : Nat) (h3 : σ p 3 = z) (hz : 1 ≤ z ∧ z ≤ 8) (hf : ∀ j, j < 8 → 0 ≤ α (p + 1) j ∧ α (p + 1) j ≤ 30000) : CF 1 mX0_smallest [vR p] σ α (some (vI (minU (α (p + 1)) (z - 1)))) (σ) (α) := by
  obtain ⟨p0, p1⟩ := hp
  refine CG.of [some (vR p), none, none] (by decide) (by simp [lvA]) rfl ?_
  refine v_aload_n iX0_smallest_0 rfl ?_
  refine v_getR iX0_smallest_1 fX0_9 (by assumption) rfl ?_
  refine v_iconst iX0_smallest_4 ?_
  refine v_iaload iX0_smallest_5 (by assumption) (by omega) rfl ?_
  refine v_is1 iX0_smallest_6 ⟨rfl, rfl⟩ ?_
  refine v_iconst iX0_smallest_7 ?_
  refine v_is2 iX0_smallest_8 ⟨rfl, rfl⟩ ?_
  have key := ind_up (P := fun k => VV 1 mX0_smallest [vR p] (fun r' s' a' => r' = some (vI (minU (α (p + 1)) (z - 1))) ∧ s' = σ ∧ a' = α) σ α 9 [some (vR p), some (vI (minU (α (p + 1)) k)), some (vI ((k + 1 : Nat) : Int))] []) (z - 1) ?_ 0 (by omega)
  · exact key
  intro k hk ih
  refine v_iload_n iX0_smallest_9 rfl ?_
  refine v_aload_n iX0_smallest_10 rfl ?_
  refine v_getI iX0_smallest_11 fX0_23 (by assumption) rfl (by exact h3) ?_
  refine v_icmp_ge (tgt := 34) iX0_smallest_14 (by decide) (by omega) (fun h14 => ?_) (fun h14 => ?_)
  · have hkz : z - 1 = k := by omega
    subst hkz
    refine v_iload_n iX0_smallest_34 rfl ?_
    exact r_i iX0_smallest_35 rfl (⟨cf_i (by rfl), rfl, rfl⟩)
  · have hr := minU_r (α (p + 1)) hf k (by omega)
    have hf1 := hf (k + 1) (by omega)
    refine v_iload_n iX0_smallest_17 rfl ?_
    refine v_aload_n iX0_smallest_18 rfl ?_
    refine v_getR iX0_smallest_19 fX0_9 (by assumption) rfl ?_
    refine v_iload_n iX0_smallest_22 rfl ?_
    refine v_iaload iX0_smallest_23 (by assumption) (by omega) (by exact (show _ = α (p + 1) (k + 1) by rw [show (((k + 1 : Nat) : Int)).toNat = k + 1 by omega])) ?_
    refine v_min iX0_smallest_24 (gw_t 703 (by decide +kernel) rfl) (by decide) (Nat.le_of_ble_eq_true rfl) (by omega) ?_
    refine v_is1 iX0_smallest_27 ⟨rfl, rfl⟩ ?_
    refine v_in2 iX0_smallest_28 ⟨rfl, rfl⟩ ?_
    refine v_goto (tgt := 9) iX0_smallest_31 (by decide) ?_
    exact (ih (by omega)).as rfl rfl (by simp only [minU]; rfl) rfl

set_option maxHeartbeats 4000000 in
set_option maxRecDepth 100000 in
theorem qX0_together (σ α : St) (p : Nat) (hp : isBinO p) (z : Nat) (h3 : σ p 3 = z) (hz : z ≤ 8) : CF 0 mX0_together [vR p] σ α (some (vI (sumU (α (p + 1)) z))) (σ) (α) := by
  obtain ⟨p0, p1⟩ := hp
  refine CG.of [some (vR p), none, none] (by decide) (by simp [lvA]) rfl ?_
  refine v_iconst iX0_together_0 ?_
  refine v_is1 iX0_together_1 ⟨rfl, rfl⟩ ?_
  refine v_iconst iX0_together_2 ?_
  refine v_is2 iX0_together_3 ⟨rfl, rfl⟩ ?_
  refine ind_up (P := fun k => VV 0 mX0_together [vR p] (fun r' s' a' => r' = some (vI (sumU (α (p + 1)) z)) ∧ s' = σ ∧ a' = α) σ α 4 [some (vR p), some (vI (sumU (α (p + 1)) k)), some (vI (k : Int))] []) z ?_ 0 (by omega)
  intro k hk ih
  refine v_iload_n iX0_together_4 rfl ?_
  refine v_aload_n iX0_together_5 rfl ?_
  refine v_getI iX0_together_6 fX0_23 (by assumption) rfl (by exact h3) ?_
  refine v_icmp_ge (tgt := 27) iX0_together_9 (by decide) (by omega) (fun h9 => ?_) (fun h9 => ?_)
  · have hkz : z = k := by omega
    subst hkz
    refine v_iload_n iX0_together_27 rfl ?_
    exact r_i iX0_together_28 rfl (⟨cf_i (by rfl), rfl, rfl⟩)
  · refine v_iload_n iX0_together_12 rfl ?_
    refine v_aload_n iX0_together_13 rfl ?_
    refine v_getR iX0_together_14 fX0_9 (by assumption) rfl ?_
    refine v_iload_n iX0_together_17 rfl ?_
    refine v_iaload iX0_together_18 (by assumption) (by omega) (by exact congrArg (α (p + 1)) (Int.toNat_natCast k)) ?_
    refine v_iadd iX0_together_19 ?_
    refine v_is1 iX0_together_20 ⟨rfl, rfl⟩ ?_
    refine v_in2 iX0_together_21 ⟨rfl, rfl⟩ ?_
    refine v_goto (tgt := 4) iX0_together_24 (by decide) ?_
    exact (ih (by omega)).as rfl rfl rfl rfl

set_option maxHeartbeats 4000000 in
set_option maxRecDepth 100000 in
theorem qX0_arrange (σ α : St) (p : Nat) (hp : isBinO p) (z : Nat) (h3 : σ p 3 = z) (hz : z ≤ 8) (hf : ∀ j, j < 8 → 0 ≤ α (p + 1) j ∧ α (p + 1) j ≤ 30000) : CF 0 mX0_arrange [vR p] σ α (none) (σ) (uA α (p + 1) (srtU (α (p + 1)) (z - 1))) := by
  obtain ⟨p0, p1⟩ := hp
  refine CG.of [some (vR p), none, none, none] (by decide) (by simp [lvA]) rfl ?_
  refine v_iconst iX0_arrange_0 ?_
  refine v_is1 iX0_arrange_1 ⟨rfl, rfl⟩ ?_
  have key := ind_up (P := fun k => VV 0 mX0_arrange [vR p] (fun r' s' a' => r' = none ∧ s' = σ ∧ a' = uA α (p + 1) (srtU (α (p + 1)) (z - 1))) σ (uA α (p + 1) (srtU (α (p + 1)) k)) 2 [some (vR p), some (vI ((k + 1 : Nat) : Int)), none, none] []) (z - 1) ?_ 0 (by omega)
  · exact key.as rfl (by rw [srtU, uA_id]) rfl rfl
  intro k hk ih
  refine v_iload_n iX0_arrange_2 rfl ?_
  refine v_aload_n iX0_arrange_3 rfl ?_
  refine v_getI iX0_arrange_4 fX0_23 (by assumption) rfl (by exact h3) ?_
  refine v_icmp_ge (tgt := 68) iX0_arrange_7 (by decide) (by omega) (fun h7 => ?_) (fun h7 => ?_)
  · have hkz : z - 1 = k := by omega
    subst hkz
    exact r_v iX0_arrange_68 rfl (⟨rfl, rfl, rfl⟩)
  · have hsr := srtU_r (α (p + 1)) hf k (by omega)
    have hsv := hsr (k + 1) (by omega)
    refine v_aload_n iX0_arrange_10 rfl ?_
    refine v_getR iX0_arrange_11 fX0_9 (by assumption) rfl ?_
    refine v_iload_n iX0_arrange_14 rfl ?_
    refine v_iaload iX0_arrange_15 (by assumption) (by omega) (by exact (show _ = srtU (α (p + 1)) k (k + 1) by rw [uA_eq, show (((k + 1 : Nat) : Int)).toNat = k + 1 by omega])) ?_
    refine v_is2 iX0_arrange_16 ⟨rfl, rfl⟩ ?_
    refine v_iload_n iX0_arrange_17 rfl ?_
    refine v_is3 iX0_arrange_18 ⟨rfl, rfl⟩ ?_
    have keyj : ∀ (j : Nat) (g : Nat → Int), (∀ i, i < 8 → 0 ≤ g i ∧ g i ≤ 30000) → j < 8 → insU (srtU (α (p + 1)) k (k + 1)) (k + 1) (srtU (α (p + 1)) k) = insU (srtU (α (p + 1)) k (k + 1)) j g → VV 0 mX0_arrange [vR p] (fun r' s' a' => r' = none ∧ s' = σ ∧ a' = uA α (p + 1) (srtU (α (p + 1)) (z - 1))) σ (uA α (p + 1) g) 19 [some (vR p), some (vI ((k + 1 : Nat) : Int)), some (vI (srtU (α (p + 1)) k (k + 1))), some (vI (j : Int))] [] := by
      intro j
      induction j with
      | zero =>
        intro g hg hj e1
        refine v_iload_n iX0_arrange_19 rfl ?_
        refine v_if_le (tgt := 55) iX0_arrange_20 (by decide) (by decide) (fun h20 => ?_) (fun h20 => absurd (by decide) h20)
        refine v_aload_n iX0_arrange_55 rfl ?_
        refine v_getR iX0_arrange_56 fX0_9 (by assumption) rfl ?_
        refine v_iload_n iX0_arrange_59 rfl ?_
        refine v_iload_n iX0_arrange_60 rfl ?_
        refine v_iastore iX0_arrange_61 (by assumption) (by omega) ?_
        refine v_in1 iX0_arrange_62 ⟨rfl, rfl⟩ ?_
        refine v_goto (tgt := 2) iX0_arrange_65 (by decide) ?_
        exact (ih (by omega)).asw rfl (by rw [uA_eq, uA_uA, srtU, e1]; rfl) ⟨rfl, rfl, trivial⟩ rfl
      | succ j ihj =>
        intro g hg hj e1
        refine v_iload_n iX0_arrange_19 rfl ?_
        refine v_if_le (tgt := 55) iX0_arrange_20 (by decide) (by omega) (fun h20 => ?_) (fun h20 => ?_)
        · refine v_aload_n iX0_arrange_55 rfl ?_
          refine v_getR iX0_arrange_56 fX0_9 (by assumption) rfl ?_
          refine v_iload_n iX0_arrange_59 rfl ?_
          refine v_iload_n iX0_arrange_60 rfl ?_
          refine v_iastore iX0_arrange_61 (by assumption) (by omega) ?_
          refine v_in1 iX0_arrange_62 ⟨rfl, rfl⟩ ?_
          refine v_goto (tgt := 2) iX0_arrange_65 (by decide) ?_
          exact (ih (by omega)).asw rfl (by rw [uA_eq, uA_uA, Int.toNat_natCast, srtU, e1, insU, if_neg (by omega)]) ⟨rfl, rfl, trivial⟩ rfl
        · have hgj := hg j (by omega)
          refine v_aload_n iX0_arrange_23 rfl ?_
          refine v_getR iX0_arrange_24 fX0_9 (by assumption) rfl ?_
          refine v_iload_n iX0_arrange_27 rfl ?_
          refine v_iconst iX0_arrange_28 ?_
          refine v_isub iX0_arrange_29 ?_
          refine v_iaload iX0_arrange_30 (by assumption) (by omega) (by exact (show _ = g j by rw [uA_eq, show (((j + 1 : Nat) : Int) - 1).toNat = j by omega])) ?_
          refine v_iload_n iX0_arrange_31 rfl ?_
          refine v_icmp_le (tgt := 55) iX0_arrange_32 (by decide) (by omega) (fun h32 => ?_) (fun h32 => ?_)
          · refine v_aload_n iX0_arrange_55 rfl ?_
            refine v_getR iX0_arrange_56 fX0_9 (by assumption) rfl ?_
            refine v_iload_n iX0_arrange_59 rfl ?_
            refine v_iload_n iX0_arrange_60 rfl ?_
            refine v_iastore iX0_arrange_61 (by assumption) (by omega) ?_
            refine v_in1 iX0_arrange_62 ⟨rfl, rfl⟩ ?_
            refine v_goto (tgt := 2) iX0_arrange_65 (by decide) ?_
            exact (ih (by omega)).asw rfl (by rw [uA_eq, uA_uA, Int.toNat_natCast, srtU, e1, insU, if_neg (by omega)]) ⟨rfl, rfl, trivial⟩ rfl
          · refine v_aload_n iX0_arrange_35 rfl ?_
            refine v_getR iX0_arrange_36 fX0_9 (by assumption) rfl ?_
            refine v_iload_n iX0_arrange_39 rfl ?_
            refine v_aload_n iX0_arrange_40 rfl ?_
            refine v_getR iX0_arrange_41 fX0_9 (by assumption) rfl ?_
            refine v_iload_n iX0_arrange_44 rfl ?_
            refine v_iconst iX0_arrange_45 ?_
            refine v_isub iX0_arrange_46 ?_
            refine v_iaload iX0_arrange_47 (by assumption) (by omega) (by exact (show _ = g j by rw [uA_eq, show (((j + 1 : Nat) : Int) - 1).toNat = j by omega])) ?_
            refine v_iastore iX0_arrange_48 (by assumption) (by omega) ?_
            refine v_in3 iX0_arrange_49 ⟨rfl, rfl⟩ ?_
            refine v_goto (tgt := 19) iX0_arrange_52 (by decide) ?_
            exact (ihj (uF g (j + 1) (g j)) (by
              intro i hi
              unfold uF
              split
              · exact hgj
              · exact hg i hi) (by omega) (by rw [e1, insU, if_pos (by omega)])).as rfl (by rw [uA_eq, uA_uA, Int.toNat_natCast]) (by simp; omega) rfl
    exact (keyj (k + 1) _ hsr (by omega) rfl).as rfl rfl rfl rfl

set_option maxHeartbeats 4000000 in
set_option maxRecDepth 100000 in
theorem qX7_isBin (σ α : St) (t : Int) (ht : InR t) : CF 0 mX7_isBin [vI t] σ α (some (vI (b2i (decide (0 ≤ t ∧ t < 3))))) (σ) (α) := by
  refine CG.of [some (vI t)] (by decide) (by simp [lvA]) rfl ?_
  refine v_iload_n iX7_isBin_0 rfl ?_
  refine v_if_lt (tgt := 13) iX7_isBin_1 (by decide) (by omega) (fun h1 => ?_) (fun h1 => ?_)
  · refine v_iconst iX7_isBin_13 ?_
    exact r_b iX7_isBin_14 rfl (by first | exact b2i_01 _ | decide | omega) (⟨cf_i (by first | exact (b2i_pos (by omega)).symm | exact (b2i_neg (by omega)).symm), rfl, rfl⟩)
  · refine v_iload_n iX7_isBin_4 rfl ?_
    refine v_iconst iX7_isBin_5 ?_
    refine v_icmp_ge (tgt := 13) iX7_isBin_6 (by decide) (by omega) (fun h6 => ?_) (fun h6 => ?_)
    · refine v_iconst iX7_isBin_13 ?_
      exact r_b iX7_isBin_14 rfl (by first | exact b2i_01 _ | decide | omega) (⟨cf_i (by first | exact (b2i_pos (by omega)).symm | exact (b2i_neg (by omega)).symm), rfl, rfl⟩)
    · refine v_iconst iX7_isBin_9 ?_
      refine v_goto (tgt := 14) iX7_isBin_10 (by decide) ?_
      exact r_b iX7_isBin_14 rfl (by first | exact b2i_01 _ | decide | omega) (⟨cf_i (by first | exact (b2i_pos (by omega)).symm | exact (b2i_neg (by omega)).symm), rfl, rfl⟩)

set_option maxHeartbeats 4000000 in
set_option maxRecDepth 100000 in
theorem qX7_isPairPart (σ α : St) (t : Int) (ht : InR t) : CF 0 mX7_isPairPart [vI t] σ α (some (vI (b2i (decide (0 ≤ t ∧ t ≤ 99))))) (σ) (α) := by
  refine CG.of [some (vI t)] (by decide) (by simp [lvA]) rfl ?_
  refine v_iload_n iX7_isPairPart_0 rfl ?_
  refine v_if_lt (tgt := 14) iX7_isPairPart_1 (by decide) (by omega) (fun h1 => ?_) (fun h1 => ?_)
  · refine v_iconst iX7_isPairPart_14 ?_
    exact r_b iX7_isPairPart_15 rfl (by first | exact b2i_01 _ | decide | omega) (⟨cf_i (by first | exact (b2i_pos (by omega)).symm | exact (b2i_neg (by omega)).symm), rfl, rfl⟩)
  · refine v_iload_n iX7_isPairPart_4 rfl ?_
    refine v_bipush iX7_isPairPart_5 (by decide) ?_
    refine v_icmp_gt (tgt := 14) iX7_isPairPart_7 (by decide) (by omega) (fun h7 => ?_) (fun h7 => ?_)
    · refine v_iconst iX7_isPairPart_14 ?_
      exact r_b iX7_isPairPart_15 rfl (by first | exact b2i_01 _ | decide | omega) (⟨cf_i (by first | exact (b2i_pos (by omega)).symm | exact (b2i_neg (by omega)).symm), rfl, rfl⟩)
    · refine v_iconst iX7_isPairPart_10 ?_
      refine v_goto (tgt := 15) iX7_isPairPart_11 (by decide) ?_
      exact r_b iX7_isPairPart_15 rfl (by first | exact b2i_01 _ | decide | omega) (⟨cf_i (by first | exact (b2i_pos (by omega)).symm | exact (b2i_neg (by omega)).symm), rfl, rfl⟩)
