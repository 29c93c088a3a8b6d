set_option maxHeartbeats 4000000 in
set_option maxRecDepth 100000 in
theorem qX8_topOf (σ α : St) {n : Nat} {V B N : Nat → Int} (hR : RV σ α n V B N) (hW : WF n V B N) (i : Int) (hi : 0 ≤ i ∧ i < n) : CF 4 mX8_topOf [vR 95, vI i] σ α (some (vI ((clm V B N n 10 i.toNat).1 : Int))) (uS σ 95 23 ((clm V B N n 10 i.toNat).2 : Int)) (α) := by
  have h10 := hW.1
  refine CG.of [some (vR 95), some (vI i), none] (by decide) (by simp [lvA]) rfl ?_
  refine v_iload_n iX8_topOf_0 rfl ?_
  refine v_is2 iX8_topOf_1 ⟨rfl, rfl⟩ ?_
  refine v_aload_n iX8_topOf_2 rfl ?_
  refine v_iconst iX8_topOf_3 ?_
  refine v_put iX8_topOf_4 pX8_163 rfl rfl (by intro h; cases h) ?_
  have key : ∀ (f a : Nat) (s0 : Int), a < n → rnk V B n a < f → (clm V B N n 10 i.toNat).1 = (clm V B N n f a).1 → ((clm V B N n 10 i.toNat).2 : Int) = s0 + (clm V B N n f a).2 → VV 4 mX8_topOf [vR 95, vI i] (fun r' s' a' => r' = some (vI ((clm V B N n 10 i.toNat).1 : Int)) ∧ s' = uS σ 95 23 ((clm V B N n 10 i.toNat).2 : Int) ∧ a' = α) (uS σ 95 23 s0) α 7 [some (vR 95), some (vI i), some (vI (a : Int))] [] := by
    intro f
    induction f with
    | zero => intro a s0 _ h; exact absurd h (by omega)
    | succ f ih =>
      intro a s0 ha hf e1 e2
      have hR' := hR.sc ⟨s0, rfl⟩
      refine v_aload_n iX8_topOf_7 rfl ?_
      refine v_iload_n iX8_topOf_8 rfl ?_
      refine c_V1 (Mc := mX8_isTop) iX8_topOf_9 lX8_160 kX8_isTop (qX8_isTop _ _ hR' hW a (by omega)) (by decide) rfl rfl rfl rfl (Nat.le_of_ble_eq_true rfl) ?_
      try simp only [Int.toNat_natCast]
      refine v_bif_ne (tgt := 39) iX8_topOf_12 (by decide) (fun h12 => ?_) (fun h12 => ?_)
      · try simp only [Int.toNat_natCast] at h12
        refine v_iload_n iX8_topOf_39 rfl ?_
        exact r_i iX8_topOf_40 rfl ((by rw [clm_y h12] at e1 e2; exact ⟨cf_i (by omega), by rw [e2]; simp, rfl⟩))
      · try simp only [Int.toNat_natCast] at h12
        obtain ⟨b, hb, e, hl⟩ := topR_no hW ha h12
        have hwa := hW.2 a ha
        rw [clm_n h12 e] at e1 e2
        refine v_aload_n iX8_topOf_15 rfl ?_
        refine v_aload_n iX8_topOf_16 rfl ?_
        refine v_getR iX8_topOf_17 fX8_19 rfl rfl ?_
        refine v_iload_n iX8_topOf_20 rfl ?_
        refine v_iaload iX8_topOf_21 rfl (by omega) (by exact (hR.2 a ha).2.2) ?_
        refine c_V1 (Mc := mX8_latest) iX8_topOf_22 lX8_157 kX8_latest (qX8_latest _ _ hR' hW _ (by omega)) (by decide) rfl rfl rfl rfl (Nat.le_of_ble_eq_true rfl) ?_
        try simp only [Int.toNat_natCast]
        rw [e]
        refine v_is2 iX8_topOf_25 ⟨rfl, rfl⟩ ?_
        refine v_aload_n iX8_topOf_26 rfl ?_
        refine v_dup iX8_topOf_27 (by intro z h; cases h) ?_
        refine v_getI iX8_topOf_28 fX8_163 rfl rfl (by exact uS_eq _ _ _ _) ?_
        refine v_iconst iX8_topOf_31 ?_
        refine v_iadd iX8_topOf_32 ?_
        refine v_put iX8_topOf_33 pX8_163 rfl rfl (by intro h; cases h) ?_
        refine v_goto (tgt := 7) iX8_topOf_36 (by decide) ?_
        exact (ih b (s0 + 1) hb (by have := rnk_lt hW ha hb hl; omega) e1 (by rw [e2]; omega)).as (uS_uS _ _ _ _ _) rfl rfl rfl
  exact (key 10 i.toNat 0 (by omega) (rnk_n hW (by omega)) rfl (by omega)).as rfl rfl (by simp; omega) rfl

set_option maxHeartbeats 4000000 in
set_option maxRecDepth 100000 in
theorem qX8_basin (σ α : St) {n : Nat} {V B N : Nat → Int} (hR : RV σ α n V B N) (hW : WF n V B N) (t : Int) (ht : InR t) : CG 5 mX8_basin [vR 95, vI t] σ α (fun r' s' a' => r' = some (vI ((msk (fun j => decide (((clm V B N n 10 j).1 : Int) = t)) n : Nat) : Int)) ∧ Sc σ s' ∧ a' = α) := by
  have h10 := hW.1
  refine CG.of [some (vR 95), some (vI t), none, none] (by decide) (by simp [lvA]) rfl ?_
  refine v_iconst iX8_basin_0 ?_
  refine v_is2 iX8_basin_1 ⟨rfl, rfl⟩ ?_
  refine v_iconst iX8_basin_2 ?_
  refine v_is3 iX8_basin_3 ⟨rfl, rfl⟩ ?_
  have key := ind_up (P := fun k => ∀ σ1, Sc σ σ1 → VV 5 mX8_basin [vR 95, vI t] (fun r' s' a' => r' = some (vI ((msk (fun j => decide (((clm V B N n 10 j).1 : Int) = t)) n : Nat) : Int)) ∧ Sc σ s' ∧ a' = α) σ1 α 4 [some (vR 95), some (vI t), some (vI ((msk (fun j => decide (((clm V B N n 10 j).1 : Int) = t)) k : Nat) : Int)), some (vI (k : Int))] []) n ?_ 0 (by omega)
  · exact key σ (Sc.rf σ)
  intro k hk ih σ1 hs
  refine v_iload_n iX8_basin_4 rfl ?_
  refine v_aload_n iX8_basin_5 rfl ?_
  refine v_getI iX8_basin_6 fX8_57 rfl rfl (by exact (hR.sc hs).1) ?_
  refine v_icmp_ge (tgt := 37) iX8_basin_9 (by decide) (by omega) (fun h9 => ?_) (fun h9 => ?_)
  · have hkn : k = n := by omega
    subst hkn
    refine v_iload_n iX8_basin_37 rfl ?_
    exact r_i iX8_basin_38 rfl (⟨rfl, hs, rfl⟩)
  · refine v_iload_n iX8_basin_12 rfl ?_
    refine v_aload_n iX8_basin_13 rfl ?_
    refine v_iload_n iX8_basin_14 rfl ?_
    refine c_V1 (Mc := mX8_topOf) iX8_basin_15 lX8_166 kX8_topOf (qX8_topOf σ1 α (hR.sc hs) hW k (by omega)) (by decide) rfl rfl rfl rfl (Nat.le_of_ble_eq_true rfl) ?_
    try simp only [Int.toNat_natCast]
    refine v_iload_n iX8_basin_18 rfl ?_
    refine v_icmp_ne (tgt := 28) iX8_basin_19 (by decide) (by exact ⟨⟨by omega, by have := clm_in hW 10 k (by omega); omega⟩, ht⟩) (fun h19 => ?_) (fun h19 => ?_)
    · refine v_iconst iX8_basin_28 ?_
      refine v_ior iX8_basin_29 (by refine ⟨?_, ?_⟩ <;> first | exact Int.natCast_nonneg _ | omega) ?_
      refine v_is2 iX8_basin_30 ⟨rfl, rfl⟩ ?_
      refine v_in3 iX8_basin_31 ⟨rfl, rfl⟩ ?_
      refine v_goto (tgt := 4) iX8_basin_34 (by decide) ?_
      refine (ih (by omega) _ (hs.put _)).as rfl rfl ?_ rfl
      simp only [msk, h19, decide_true, decide_false, Bool.false_eq_true, if_true, if_false, Int.toNat_natCast]; rfl
    · refine v_iconst iX8_basin_22 ?_
      refine v_iload_n iX8_basin_23 rfl ?_
      refine v_ishl1 iX8_basin_24 (by omega) ?_
      refine v_goto (tgt := 29) iX8_basin_25 (by decide) ?_
      refine v_ior iX8_basin_29 (by refine ⟨?_, ?_⟩ <;> first | exact Int.natCast_nonneg _ | omega) ?_
      refine v_is2 iX8_basin_30 ⟨rfl, rfl⟩ ?_
      refine v_in3 iX8_basin_31 ⟨rfl, rfl⟩ ?_
      refine v_goto (tgt := 4) iX8_basin_34 (by decide) ?_
      refine (ih (by omega) _ (hs.put _)).as rfl rfl ?_ rfl
      simp only [msk, h19, decide_true, decide_false, Bool.false_eq_true, if_true, if_false, Int.toNat_natCast]; rfl

set_option maxHeartbeats 4000000 in
set_option maxRecDepth 100000 in
theorem qX8_passOf (σ α : St) {n : Nat} {V B N : Nat → Int} (hR : RV σ α n V B N) (hW : WF n V B N) (one other : Int) (h1 : InR one) (h2 : InR other) : CG 6 mX8_passOf [vR 95, vI one, vI other] σ α (fun r' s' a' => r' = some (vI (passR V B N n one other)) ∧ Sc σ s' ∧ a' = α) := by
  have h10 := hW.1
  have m1 := pow10 h10 (msk_lt (fun j => decide (((clm V B N n 10 j).1 : Int) = one)) n)
  have m2 := pow10 h10 (msk_lt (fun j => decide (((clm V B N n 10 j).1 : Int) = other)) n)
  refine CG.of [some (vR 95), some (vI one), some (vI other), none, none, none, none, none] (by decide) (by simp [lvA]) rfl ?_
  refine v_aload_n iX8_passOf_0 rfl ?_
  refine v_iload_n iX8_passOf_1 rfl ?_
  refine c_VQ (Mc := mX8_basin) iX8_passOf_2 lX8_169 kX8_basin (qX8_basin σ α hR hW one h1) (by decide) rfl rfl rfl rfl (Nat.le_of_ble_eq_true rfl) ?_
  rintro σ1 a1 ⟨hs1, ha1⟩
  rw [ha1]
  try simp only [Int.toNat_natCast]
  refine v_is3 iX8_passOf_5 ⟨rfl, rfl⟩ ?_
  refine v_aload_n iX8_passOf_6 rfl ?_
  refine v_iload_n iX8_passOf_7 rfl ?_
  refine c_VQ (Mc := mX8_basin) iX8_passOf_8 lX8_169 kX8_basin (qX8_basin σ1 α (hR.sc hs1) hW other h2) (by decide) rfl rfl rfl rfl (Nat.le_of_ble_eq_true rfl) ?_
  rintro σ2 a2 ⟨hs2, ha2⟩
  rw [ha2]
  try simp only [Int.toNat_natCast]
  refine v_is4 iX8_passOf_11 ⟨rfl, rfl⟩ ?_
  refine v_iconst iX8_passOf_13 ?_
  refine v_is5 iX8_passOf_14 ⟨rfl, rfl⟩ ?_
  refine v_iconst iX8_passOf_16 ?_
  refine v_is6 iX8_passOf_17 ⟨rfl, rfl⟩ ?_
  have hs2 := hs1.tr hs2
  have hR2 := hR.sc hs2
  refine ind_up (P := fun k => VV 6 mX8_passOf [vR 95, vI one, vI other] (fun r' s' a' => r' = some (vI (passR V B N n one other)) ∧ Sc σ s' ∧ a' = α) σ2 α 19 [some (vR 95), some (vI one), some (vI other), some (vI ((msk (fun j => decide (((clm V B N n 10 j).1 : Int) = one)) n : Nat) : Int)), some (vI ((msk (fun j => decide (((clm V B N n 10 j).1 : Int) = other)) n : Nat) : Int)), some (vI ((acc1 (pasC V B N n one other) (sooE V B) n k : Nat) : Int)), some (vI (k : Int)), none] []) n ?_ 0 (by omega)
  intro k hk ih
  refine v_iload iX8_passOf_19 rfl ?_
  refine v_aload_n iX8_passOf_21 rfl ?_
  refine v_getI iX8_passOf_22 fX8_57 rfl rfl (by exact hR2.1) ?_
  refine v_icmp_ge (tgt := 111) iX8_passOf_25 (by decide) (by omega) (fun h25 => ?_) (fun h25 => ?_)
  · have hkn : n = k := by omega
    subst hkn
    refine v_aload_n iX8_passOf_111 rfl ?_
    refine v_iload iX8_passOf_112 rfl ?_
    refine c_V1 (Mc := mX8_latest) iX8_passOf_114 lX8_157 kX8_latest (qX8_latest σ2 α hR2 hW _ (by have := pow10 hW.1 (acc1_lt (c := pasC V B N n one other) (sooE_in V B) n (Nat.le_refl _)); omega)) (by decide) rfl rfl rfl rfl (Nat.le_of_ble_eq_true rfl) ?_
    try simp only [Int.toNat_natCast]
    exact r_i iX8_passOf_117 rfl (⟨rfl, hs2, rfl⟩)
  · have hkn : k < n := by omega
    refine v_iconst iX8_passOf_28 ?_
    refine v_is7 iX8_passOf_29 ⟨rfl, rfl⟩ ?_
    refine ind_up (P := fun j => VV 6 mX8_passOf [vR 95, vI one, vI other] (fun r' s' a' => r' = some (vI (passR V B N n one other)) ∧ Sc σ s' ∧ a' = α) σ2 α 31 [some (vR 95), some (vI one), some (vI other), some (vI ((msk (fun j => decide (((clm V B N n 10 j).1 : Int) = one)) n : Nat) : Int)), some (vI ((msk (fun j => decide (((clm V B N n 10 j).1 : Int) = other)) n : Nat) : Int)), some (vI ((acc2 (pasC V B N n one other) (sooE V B) k (acc1 (pasC V B N n one other) (sooE V B) n k) j : Nat) : Int)), some (vI (k : Int)), some (vI (j : Int))] []) n ?_ 0 (by omega)
    intro j hj ihj
    refine v_iload iX8_passOf_31 rfl ?_
    refine v_aload_n iX8_passOf_33 rfl ?_
    refine v_getI iX8_passOf_34 fX8_57 rfl rfl (by exact hR2.1) ?_
    refine v_icmp_ge (tgt := 105) iX8_passOf_37 (by decide) (by omega) (fun h37 => ?_) (fun h37 => ?_)
    · have hjn : n = j := by omega
      subst hjn
      refine v_in6 iX8_passOf_105 ⟨rfl, rfl⟩ ?_
      refine v_goto (tgt := 19) iX8_passOf_108 (by decide) ?_
      exact (ih (by omega)).asw rfl rfl ⟨rfl, rfl, rfl, rfl, rfl, rfl, rfl, trivial⟩ rfl
    · have hjn : j < n := by omega
      have hkn : k < n := by omega
      have hwk := hW.2 k hkn
      refine v_iload_n iX8_passOf_40 rfl ?_
      refine v_iload iX8_passOf_41 rfl ?_
      refine c_S1 (Mc := mX8_has) iX8_passOf_43 lX8_151 kX8_has (qX8_has _ _ _ k (by omega) (by omega)) (by decide) rfl rfl (Nat.le_of_ble_eq_true rfl) ?_
      try simp only [Int.toNat_natCast]
      refine v_bif_eq (tgt := 99) iX8_passOf_46 (by decide) (fun h46 => ?_) (fun h46 => ?_)
      · try simp only [Int.toNat_natCast] at h46
        (try rw [hasB_msk hkn] at h46)
        (try rw [hasB_msk hjn] at h56)
        refine v_in7 iX8_passOf_99 ⟨rfl, rfl⟩ ?_
        refine v_goto (tgt := 31) iX8_passOf_102 (by decide) ?_
        refine (ihj (by omega)).as rfl rfl ?_ rfl
        first
          | (have e1 : pasC V B N n one other k j = true := by simp [pasC, *]
             simp only [acc2, e1, if_true, sooE, h85, Bool.false_eq_true, if_false, Int.toNat_natCast]; rfl)
          | (have e1 : pasC V B N n one other k j = false := by simp [pasC, *]
             simp only [acc2, e1, Bool.false_eq_true, if_false, Int.toNat_natCast]; rfl)
      · try simp only [Int.toNat_natCast] at h46
        rw [hasB_msk hkn] at h46
        refine v_iload iX8_passOf_49 rfl ?_
        refine v_iload iX8_passOf_51 rfl ?_
        refine c_S1 (Mc := mX8_has) iX8_passOf_53 lX8_151 kX8_has (qX8_has _ _ _ j (by omega) (by omega)) (by decide) rfl rfl (Nat.le_of_ble_eq_true rfl) ?_
        try simp only [Int.toNat_natCast]
        refine v_bif_eq (tgt := 99) iX8_passOf_56 (by decide) (fun h56 => ?_) (fun h56 => ?_)
        · try simp only [Int.toNat_natCast] at h56
          (try rw [hasB_msk hkn] at h46)
          (try rw [hasB_msk hjn] at h56)
          refine v_in7 iX8_passOf_99 ⟨rfl, rfl⟩ ?_
          refine v_goto (tgt := 31) iX8_passOf_102 (by decide) ?_
          refine (ihj (by omega)).as rfl rfl ?_ rfl
          first
            | (have e1 : pasC V B N n one other k j = true := by simp [pasC, *]
               simp only [acc2, e1, if_true, sooE, h85, Bool.false_eq_true, if_false, Int.toNat_natCast]; rfl)
            | (have e1 : pasC V B N n one other k j = false := by simp [pasC, *]
               simp only [acc2, e1, Bool.false_eq_true, if_false, Int.toNat_natCast]; rfl)
        · try simp only [Int.toNat_natCast] at h56
          rw [hasB_msk hjn] at h56
          refine v_aload_n iX8_passOf_59 rfl ?_
          refine v_getR iX8_passOf_60 fX8_19 rfl rfl ?_
          refine v_iload iX8_passOf_63 rfl ?_
          refine v_iaload iX8_passOf_65 rfl (by omega) (by exact (hR.2 k (by omega)).2.2) ?_
          refine v_iload iX8_passOf_66 rfl ?_
          refine c_S1 (Mc := mX8_has) iX8_passOf_68 lX8_151 kX8_has (qX8_has _ _ _ j (by omega) (by omega)) (by decide) rfl rfl (Nat.le_of_ble_eq_true rfl) ?_
          try simp only [Int.toNat_natCast]
          refine v_bif_eq (tgt := 99) iX8_passOf_71 (by decide) (fun h71 => ?_) (fun h71 => ?_)
          · try simp only [Int.toNat_natCast] at h71
            (try rw [hasB_msk hkn] at h46)
            (try rw [hasB_msk hjn] at h56)
            refine v_in7 iX8_passOf_99 ⟨rfl, rfl⟩ ?_
            refine v_goto (tgt := 31) iX8_passOf_102 (by decide) ?_
            refine (ihj (by omega)).as rfl rfl ?_ rfl
            first
              | (have e1 : pasC V B N n one other k j = true := by simp [pasC, *]
                 simp only [acc2, e1, if_true, sooE, h85, Bool.false_eq_true, if_false, Int.toNat_natCast]; rfl)
              | (have e1 : pasC V B N n one other k j = false := by simp [pasC, *]
                 simp only [acc2, e1, Bool.false_eq_true, if_false, Int.toNat_natCast]; rfl)
          · try simp only [Int.toNat_natCast] at h71
            refine v_iload iX8_passOf_74 rfl ?_
            refine v_iconst iX8_passOf_76 ?_
            refine v_aload_n iX8_passOf_77 rfl ?_
            refine v_iload iX8_passOf_78 rfl ?_
            refine v_iload iX8_passOf_80 rfl ?_
            refine c_V1 (Mc := mX8_isLater) iX8_passOf_82 lX8_154 kX8_isLater (qX8_isLater σ2 α hR2 hW k j (by omega) (by omega)) (by decide) rfl rfl rfl rfl (Nat.le_of_ble_eq_true rfl) ?_
            try simp only [Int.toNat_natCast]
            refine v_bif_eq (tgt := 93) iX8_passOf_85 (by decide) (fun h85 => ?_) (fun h85 => ?_)
            · try simp only [Int.toNat_natCast] at h85
              refine v_iload iX8_passOf_93 rfl ?_
              refine v_ishl1 iX8_passOf_95 (by omega) ?_
              refine v_ior iX8_passOf_96 (by refine ⟨?_, ?_⟩ <;> first | exact Int.natCast_nonneg _ | omega) ?_
              refine v_is5 iX8_passOf_97 ⟨rfl, rfl⟩ ?_
              (try rw [hasB_msk hkn] at h46)
              (try rw [hasB_msk hjn] at h56)
              refine v_in7 iX8_passOf_99 ⟨rfl, rfl⟩ ?_
              refine v_goto (tgt := 31) iX8_passOf_102 (by decide) ?_
              refine (ihj (by omega)).as rfl rfl ?_ rfl
              first
                | (have e1 : pasC V B N n one other k j = true := by simp [pasC, *]
                   simp only [acc2, e1, if_true, sooE, h85, Bool.false_eq_true, if_false, Int.toNat_natCast]; rfl)
                | (have e1 : pasC V B N n one other k j = false := by simp [pasC, *]
                   simp only [acc2, e1, Bool.false_eq_true, if_false, Int.toNat_natCast]; rfl)
            · try simp only [Int.toNat_natCast] at h85
              refine v_iload iX8_passOf_88 rfl ?_
              refine v_goto (tgt := 95) iX8_passOf_90 (by decide) ?_
              refine v_ishl1 iX8_passOf_95 (by omega) ?_
              refine v_ior iX8_passOf_96 (by refine ⟨?_, ?_⟩ <;> first | exact Int.natCast_nonneg _ | omega) ?_
              refine v_is5 iX8_passOf_97 ⟨rfl, rfl⟩ ?_
              (try rw [hasB_msk hkn] at h46)
              (try rw [hasB_msk hjn] at h56)
              refine v_in7 iX8_passOf_99 ⟨rfl, rfl⟩ ?_
              refine v_goto (tgt := 31) iX8_passOf_102 (by decide) ?_
              refine (ihj (by omega)).as rfl rfl ?_ rfl
              first
                | (have e1 : pasC V B N n one other k j = true := by simp [pasC, *]
                   simp only [acc2, e1, if_true, sooE, h85, Bool.false_eq_true, if_false, Int.toNat_natCast]; rfl)
                | (have e1 : pasC V B N n one other k j = false := by simp [pasC, *]
                   simp only [acc2, e1, Bool.false_eq_true, if_false, Int.toNat_natCast]; rfl)

set_option maxHeartbeats 4000000 in
set_option maxRecDepth 100000 in
theorem qX8_isHigh (σ α : St) {n : Nat} {V B N : Nat → Int} (hR : RV σ α n V B N) (hW : WF n V B N) (c : Int) (hc : σ 95 7 = c) (hc2 : 0 ≤ c ∧ c ≤ 100) (i t : Int) (hi : 0 ≤ i ∧ i < n) (ht : 0 ≤ t ∧ t < n) : CF 1 mX8_isHigh [vR 95, vI i, vI t] σ α (some (vI (b2i (high c V B i.toNat t.toNat)))) (σ) (α) := by
  have h10 := hW.1
  have hwi := hW.2 i.toNat (by omega)
  have hwt := hW.2 t.toNat (by omega)
  have b1 := prod_b (x := V i.toNat * 100) (y := B t.toNat) (a := 9900) (b := 189) (by omega) (by omega)
  have b0 := prod_b (x := c) (y := V t.toNat) (a := 100) (b := 99) (by omega) (by omega)
  have b2 := prod_b (x := c * V t.toNat) (y := B i.toNat) (a := 9900) (b := 189) (by omega) (by omega)
  refine CG.of [some (vR 95), some (vI i), some (vI t)] (by decide) (by simp [lvA]) rfl ?_
  refine v_aload_n iX8_isHigh_0 rfl ?_
  refine v_getR iX8_isHigh_1 fX8_13 rfl rfl ?_
  refine v_iload_n iX8_isHigh_4 rfl ?_
  refine v_iaload iX8_isHigh_5 rfl (by omega) (by exact (hR.2 i.toNat (by omega)).1) ?_
  refine v_bipush iX8_isHigh_6 (by decide) ?_
  refine v_imul iX8_isHigh_8 ?_
  refine v_aload_n iX8_isHigh_9 rfl ?_
  refine v_iload_n iX8_isHigh_10 rfl ?_
  refine c_V1 (Mc := mX8_skinOf) iX8_isHigh_11 lX8_147 kX8_skinOf (hR.sk h10 t ht) (by decide) rfl rfl rfl rfl (Nat.le_of_ble_eq_true rfl) ?_
  try simp only [Int.toNat_natCast]
  refine v_imul iX8_isHigh_14 ?_
  refine v_aload_n iX8_isHigh_15 rfl ?_
  refine v_getI iX8_isHigh_16 fX8_29 rfl rfl (by exact hc) ?_
  refine v_aload_n iX8_isHigh_19 rfl ?_
  refine v_getR iX8_isHigh_20 fX8_13 rfl rfl ?_
  refine v_iload_n iX8_isHigh_23 rfl ?_
  refine v_iaload iX8_isHigh_24 rfl (by omega) (by exact (hR.2 t.toNat (by omega)).1) ?_
  refine v_imul iX8_isHigh_25 ?_
  refine v_aload_n iX8_isHigh_26 rfl ?_
  refine v_iload_n iX8_isHigh_27 rfl ?_
  refine c_V1 (Mc := mX8_skinOf) iX8_isHigh_28 lX8_147 kX8_skinOf (hR.sk h10 i hi) (by decide) rfl rfl rfl rfl (Nat.le_of_ble_eq_true rfl) ?_
  try simp only [Int.toNat_natCast]
  refine v_imul iX8_isHigh_31 ?_
  refine v_icmp_lt (tgt := 39) iX8_isHigh_32 (by decide) (by omega) (fun h32 => ?_) (fun h32 => ?_)
  · refine v_iconst iX8_isHigh_39 ?_
    exact r_b iX8_isHigh_40 rfl (by first | exact b2i_01 _ | decide | omega) (⟨cf_i (by unfold high; first | exact (b2i_pos (by omega)).symm | exact (b2i_neg (by omega)).symm), rfl, rfl⟩)
  · refine v_iconst iX8_isHigh_35 ?_
    refine v_goto (tgt := 40) iX8_isHigh_36 (by decide) ?_
    exact r_b iX8_isHigh_40 rfl (by first | exact b2i_01 _ | decide | omega) (⟨cf_i (by unfold high; first | exact (b2i_pos (by omega)).symm | exact (b2i_neg (by omega)).symm), rfl, rfl⟩)

set_option maxHeartbeats 4000000 in
set_option maxRecDepth 100000 in
theorem qX8_outlasts (σ α : St) {n : Nat} {V B N : Nat → Int} (hR : RV σ α n V B N) (hW : WF n V B N) (a b : Int) (ha : σ 95 5 = a) (ha2 : 1 ≤ a ∧ a ≤ 99) (hb : σ 95 6 = b) (hb2 : 1 ≤ b ∧ b ≤ 99) (vol skin t : Int) (hv : 0 ≤ vol ∧ vol ≤ 999) (hs : 0 ≤ skin ∧ skin ≤ 99) (ht : 0 ≤ t ∧ t < n) : CF 1 mX8_outlasts [vR 95, vI vol, vI skin, vI t] σ α (some (vI (b2i (outl a b V B vol skin t.toNat)))) (σ) (α) := by
  have h10 := hW.1
  have hwt := hW.2 t.toNat (by omega)
  have b0 := prod_b (x := vol) (y := b) (a := 999) (b := 99) (by omega) (by omega)
  have b1 := prod_b (x := vol * b) (y := B t.toNat) (a := 98901) (b := 189) (by omega) (by omega)
  have b2 := prod_b (x := V t.toNat) (y := a) (a := 99) (b := 99) (by omega) (by omega)
  have b3 := prod_b (x := V t.toNat * a) (y := skin) (a := 9801) (b := 99) (by omega) (by omega)
  refine CG.of [some (vR 95), some (vI vol), some (vI skin), some (vI t)] (by decide) (by simp [lvA]) rfl ?_
  refine v_iload_n iX8_outlasts_0 rfl ?_
  refine v_aload_n iX8_outlasts_1 rfl ?_
  refine v_getI iX8_outlasts_2 fX8_26 rfl rfl (by exact hb) ?_
  refine v_imul iX8_outlasts_5 ?_
  refine v_aload_n iX8_outlasts_6 rfl ?_
  refine v_iload_n iX8_outlasts_7 rfl ?_
  refine c_V1 (Mc := mX8_skinOf) iX8_outlasts_8 lX8_147 kX8_skinOf (hR.sk h10 t ht) (by decide) rfl rfl rfl rfl (Nat.le_of_ble_eq_true rfl) ?_
  try simp only [Int.toNat_natCast]
  refine v_imul iX8_outlasts_11 ?_
  refine v_aload_n iX8_outlasts_12 rfl ?_
  refine v_getR iX8_outlasts_13 fX8_13 rfl rfl ?_
  refine v_iload_n iX8_outlasts_16 rfl ?_
  refine v_iaload iX8_outlasts_17 rfl (by omega) (by exact (hR.2 t.toNat (by omega)).1) ?_
  refine v_aload_n iX8_outlasts_18 rfl ?_
  refine v_getI iX8_outlasts_19 fX8_22 rfl rfl (by exact ha) ?_
  refine v_imul iX8_outlasts_22 ?_
  refine v_iload_n iX8_outlasts_23 rfl ?_
  refine v_imul iX8_outlasts_24 ?_
  refine v_icmp_lt (tgt := 32) iX8_outlasts_25 (by decide) (by omega) (fun h25 => ?_) (fun h25 => ?_)
  · refine v_iconst iX8_outlasts_32 ?_
    exact r_b iX8_outlasts_33 rfl (by first | exact b2i_01 _ | decide | omega) (⟨cf_i (by unfold outl; first | exact (b2i_pos (by omega)).symm | exact (b2i_neg (by omega)).symm), rfl, rfl⟩)
  · refine v_iconst iX8_outlasts_28 ?_
    refine v_goto (tgt := 33) iX8_outlasts_29 (by decide) ?_
    exact r_b iX8_outlasts_33 rfl (by first | exact b2i_01 _ | decide | omega) (⟨cf_i (by unfold outl; first | exact (b2i_pos (by omega)).symm | exact (b2i_neg (by omega)).symm), rfl, rfl⟩)
