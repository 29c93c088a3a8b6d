set_option maxHeartbeats 4000000 in
set_option maxRecDepth 100000 in
theorem qX7_count (σ α : St) {n : Nat} {V B N : Nat → Int} {c : Int} (hP : PV σ α n V B N c) (hW : WF n V B N) {a b : Int} (hU : RP σ a b) {m : Nat} (hM : RK σ α n m) {S : Nat → Int} (hS : ∀ t, t < 3 → S t ≤ 1000) (hB : ∀ t, t < 3 → (S t < 0 ∧ σ (89 + 2 * t) 3 = 0) ∨ (0 ≤ S t ∧ σ (89 + 2 * t) 3 = S t)) (f : Int) (hf : InR f) : CG 7 mX7_count [vR 0, vI f] σ α (fun r' s' a' => r' = some (vI (cntU n (sumO (α 6) n / 2) m ((msk (topR V B N n) n : Nat) : Int) ((msk (fun i => decide (dIn c V B N n i ≠ -1)) n : Nat) : Int) ((fedR a b V B N n (fun i => (hds c V B N n i : Int)) (α 24) (α 25) (α 26) m (2 ^ m - 1 : Nat) : Nat) : Int) a b c (atU S 3) (σ 27 2) (σ 1 1) f)) ∧ Cq σ α s' a') := by
  have hn10 := hW.1
  have hN : ∀ i, i < n → 0 ≤ α (3 + 3) i ∧ α (3 + 3) i < 1024 := fun i hi => by rw [show 3 + 3 = 6 from rfl, (hP.2.2.2 i hi).2.2]; exact (hW.2 i hi).2.2.1
  refine CG.of [some (vR 0), some (vI f)] (by decide) (by simp [lvA]) rfl ?_
  refine v_iload_n iX7_count_0 rfl ?_
  refine v_if_lt (tgt := 10) iX7_count_1 (by decide) (by omega) (fun h1 => ?_) (fun h1 => ?_)
  · refine v_bipush iX7_count_10 (by decide) ?_
    exact r_i iX7_count_12 rfl (⟨cf_i (cntU_o (by omega)).symm, ⟨⟨σ 71 8, (uS_id σ 71 8).symm⟩, Agm.rf α⟩⟩)
  · refine v_iload_n iX7_count_4 rfl ?_
    refine v_bipush iX7_count_5 (by decide) ?_
    refine v_icmp_le (tgt := 13) iX7_count_7 (by decide) (by omega) (fun h7 => ?_) (fun h7 => ?_)
    · refine v_iload_n iX7_count_13 rfl ?_
      rcases (show f = 0 ∨ f = 1 ∨ f = 2 ∨ f = 3 ∨ f = 4 ∨ f = 5 ∨ f = 6 ∨ f = 7 ∨ f = 8 ∨ f = 9 ∨ f = 10 ∨ f = 11 ∨ (f < 0 ∨ 11 < f) by omega) with rfl | rfl | rfl | rfl | rfl | rfl | rfl | rfl | rfl | rfl | rfl | rfl | hsw
      · refine v_tabIn (tgt := 76) iX7_count_14 (by decide) (by decide) rfl (by decide) ?_
        refine v_aload_n iX7_count_76 rfl ?_
        refine v_getR iX7_count_77 fX7_19 rfl rfl ?_
        refine v_getI iX7_count_80 fX7_265 rfl rfl (by exact hP.1) ?_
        exact r_i iX7_count_83 rfl (⟨rfl, ⟨⟨σ 71 8, (uS_id σ 71 8).symm⟩, Agm.rf α⟩⟩)
      · refine v_tabIn (tgt := 84) iX7_count_14 (by decide) (by decide) rfl (by decide) ?_
        refine v_aload_n iX7_count_84 rfl ?_
        refine v_getR iX7_count_85 fX7_19 rfl rfl ?_
        refine c_V1 (Mc := mX4_joints) iX7_count_88 lX7_268 kX4_joints (qX4_joints σ α 3 isPlan_told n hP.1 hn10 hN) (by decide) rfl rfl rfl rfl (Nat.le_of_ble_eq_true rfl) ?_
        try simp only [Int.toNat_natCast]
        exact r_i iX7_count_91 rfl (⟨rfl, ⟨⟨σ 71 8, (uS_id σ 71 8).symm⟩, Agm.rf α⟩⟩)
      · refine v_tabIn (tgt := 92) iX7_count_14 (by decide) (by decide) rfl (by decide) ?_
        refine v_aload_n iX7_count_92 rfl ?_
        refine v_getR iX7_count_93 fX7_38 rfl rfl ?_
        refine v_getI iX7_count_96 fX7_174 rfl rfl (by exact hM.1) ?_
        exact r_i iX7_count_99 rfl (⟨rfl, ⟨⟨σ 71 8, (uS_id σ 71 8).symm⟩, Agm.rf α⟩⟩)
      · refine v_tabIn (tgt := 100) iX7_count_14 (by decide) (by decide) rfl (by decide) ?_
        refine v_aload_n iX7_count_100 rfl ?_
        refine v_iload_n iX7_count_101 rfl ?_
        refine c_VQ (Mc := mX7_countOfTops) iX7_count_102 lX7_271 kX7_countOfTops (qX7_countOfTops σ α hP hW hU hM _ (by decide)) (by decide) rfl rfl rfl rfl (Nat.le_of_ble_eq_true rfl) ?_
        rintro σ1 a1 hq
        try simp only [Int.toNat_natCast]
        exact r_i iX7_count_105 rfl (⟨rfl, hq⟩)
      · refine v_tabIn (tgt := 100) iX7_count_14 (by decide) (by decide) rfl (by decide) ?_
        refine v_aload_n iX7_count_100 rfl ?_
        refine v_iload_n iX7_count_101 rfl ?_
        refine c_VQ (Mc := mX7_countOfTops) iX7_count_102 lX7_271 kX7_countOfTops (qX7_countOfTops σ α hP hW hU hM _ (by decide)) (by decide) rfl rfl rfl rfl (Nat.le_of_ble_eq_true rfl) ?_
        rintro σ1 a1 hq
        try simp only [Int.toNat_natCast]
        exact r_i iX7_count_105 rfl (⟨rfl, hq⟩)
      · refine v_tabIn (tgt := 100) iX7_count_14 (by decide) (by decide) rfl (by decide) ?_
        refine v_aload_n iX7_count_100 rfl ?_
        refine v_iload_n iX7_count_101 rfl ?_
        refine c_VQ (Mc := mX7_countOfTops) iX7_count_102 lX7_271 kX7_countOfTops (qX7_countOfTops σ α hP hW hU hM _ (by decide)) (by decide) rfl rfl rfl rfl (Nat.le_of_ble_eq_true rfl) ?_
        rintro σ1 a1 hq
        try simp only [Int.toNat_natCast]
        exact r_i iX7_count_105 rfl (⟨rfl, hq⟩)
      · refine v_tabIn (tgt := 100) iX7_count_14 (by decide) (by decide) rfl (by decide) ?_
        refine v_aload_n iX7_count_100 rfl ?_
        refine v_iload_n iX7_count_101 rfl ?_
        refine c_VQ (Mc := mX7_countOfTops) iX7_count_102 lX7_271 kX7_countOfTops (qX7_countOfTops σ α hP hW hU hM _ (by decide)) (by decide) rfl rfl rfl rfl (Nat.le_of_ble_eq_true rfl) ?_
        rintro σ1 a1 hq
        try simp only [Int.toNat_natCast]
        exact r_i iX7_count_105 rfl (⟨rfl, hq⟩)
      · refine v_tabIn (tgt := 106) iX7_count_14 (by decide) (by decide) rfl (by decide) ?_
        refine v_aload_n iX7_count_106 rfl ?_
        refine v_getR iX7_count_107 fX7_19 rfl rfl ?_
        refine v_getI iX7_count_110 fX7_274 rfl rfl (by exact hU.1) ?_
        exact r_i iX7_count_113 rfl (⟨rfl, ⟨⟨σ 71 8, (uS_id σ 71 8).symm⟩, Agm.rf α⟩⟩)
      · refine v_tabIn (tgt := 114) iX7_count_14 (by decide) (by decide) rfl (by decide) ?_
        refine v_aload_n iX7_count_114 rfl ?_
        refine v_getR iX7_count_115 fX7_19 rfl rfl ?_
        refine v_getI iX7_count_118 fX7_277 rfl rfl (by exact hU.2.1) ?_
        exact r_i iX7_count_121 rfl (⟨rfl, ⟨⟨σ 71 8, (uS_id σ 71 8).symm⟩, Agm.rf α⟩⟩)
      · refine v_tabIn (tgt := 122) iX7_count_14 (by decide) (by decide) rfl (by decide) ?_
        refine v_aload_n iX7_count_122 rfl ?_
        refine v_getR iX7_count_123 fX7_19 rfl rfl ?_
        refine v_getI iX7_count_126 fX7_280 rfl rfl (by exact hP.2.1) ?_
        exact r_i iX7_count_129 rfl (⟨rfl, ⟨⟨σ 71 8, (uS_id σ 71 8).symm⟩, Agm.rf α⟩⟩)
      · refine v_tabIn (tgt := 130) iX7_count_14 (by decide) (by decide) rfl (by decide) ?_
        refine v_aload_n iX7_count_130 rfl ?_
        refine c_V1 (Mc := mX7_thingsOfAllBins) iX7_count_131 lX7_283 kX7_thingsOfAllBins (qX7_thingsOfAllBins σ α hS hB) (by decide) rfl rfl rfl rfl (Nat.le_of_ble_eq_true rfl) ?_
        try simp only [Int.toNat_natCast]
        exact r_i iX7_count_134 rfl (⟨rfl, ⟨⟨σ 71 8, (uS_id σ 71 8).symm⟩, Agm.rf α⟩⟩)
      · refine v_tabIn (tgt := 135) iX7_count_14 (by decide) (by decide) rfl (by decide) ?_
        refine v_aload_n iX7_count_135 rfl ?_
        refine v_getR iX7_count_136 fX7_45 rfl rfl ?_
        refine v_getI iX7_count_139 fX7_199 rfl rfl rfl ?_
        exact r_i iX7_count_142 rfl (⟨rfl, ⟨⟨σ 71 8, (uS_id σ 71 8).symm⟩, Agm.rf α⟩⟩)
      · refine v_tabOut (tgt := 143) iX7_count_14 (by omega) hsw (by decide) ?_
        refine v_aload_n iX7_count_143 rfl ?_
        refine v_getR iX7_count_144 fX7_10 rfl rfl ?_
        refine v_getI iX7_count_147 fX7_73 rfl rfl rfl ?_
        exact r_i iX7_count_150 rfl (⟨cf_i (by rw [show f = 12 by omega]; rfl), ⟨⟨σ 71 8, (uS_id σ 71 8).symm⟩, Agm.rf α⟩⟩)
    · refine v_bipush iX7_count_10 (by decide) ?_
      exact r_i iX7_count_12 rfl (⟨cf_i (cntU_o (by omega)).symm, ⟨⟨σ 71 8, (uS_id σ 71 8).symm⟩, Agm.rf α⟩⟩)

set_option maxHeartbeats 4000000 in
set_option maxRecDepth 100000 in
theorem qX7_forgetAll (σ α : St) : CF 1 mX7_forgetAll [vR 0] σ α (none) (vnS (uS σ 27 2 0) 3) (uA α 70 (cpA (fun _ => 0) (α 70) 2)) := by
  refine CG.of [some (vR 0), none] (by decide) (by simp [lvA]) rfl ?_
  refine v_aload_n iX7_forgetAll_0 rfl ?_
  refine v_getR iX7_forgetAll_1 fX7_45 rfl rfl ?_
  refine v_iconst iX7_forgetAll_4 ?_
  refine v_put iX7_forgetAll_5 pX7_199 rfl rfl (by intro h; cases h) ?_
  refine v_iconst iX7_forgetAll_8 ?_
  refine v_is1 iX7_forgetAll_9 ⟨rfl, rfl⟩ ?_
  have key := ind_up (P := fun k => VV 1 mX7_forgetAll [vR 0] (fun r' s' a' => r' = none ∧ s' = vnS (uS σ 27 2 0) 3 ∧ a' = uA α 70 (cpA (fun _ => 0) (α 70) 2)) (uS σ 27 2 0) (uA α 70 (cpA (fun _ => 0) (α 70) k)) 10 [some (vR 0), some (vI (k : Int))] []) 2 ?_ 0 (by omega)
  · exact key.as rfl (by rw [zp_0, uA_id]) rfl rfl
  intro k hk ih
  refine v_iload_n iX7_forgetAll_10 rfl ?_
  refine v_iconst iX7_forgetAll_11 ?_
  refine v_icmp_ge (tgt := 28) iX7_forgetAll_12 (by decide) (by omega) (fun h12 => ?_) (fun h12 => ?_)
  · refine v_iconst iX7_forgetAll_28 ?_
    refine v_is1 iX7_forgetAll_29 ⟨rfl, rfl⟩ ?_
    clear ih
    have hkn : k = 2 := by omega
    subst hkn
    refine ind_up (P := fun k => VV 1 mX7_forgetAll [vR 0] (fun r' s' a' => r' = none ∧ s' = vnS (uS σ 27 2 0) 3 ∧ a' = uA α 70 (cpA (fun _ => 0) (α 70) 2)) (vnS (uS σ 27 2 0) k) (uA α 70 (cpA (fun _ => 0) (α 70) 2)) 30 [some (vR 0), some (vI (k : Int))] []) 3 ?_ 0 (by omega)
    intro k hk ih
    refine v_iload_n iX7_forgetAll_30 rfl ?_
    refine v_iconst iX7_forgetAll_31 ?_
    refine v_icmp_ge (tgt := 50) iX7_forgetAll_32 (by decide) (by omega) (fun h32 => ?_) (fun h32 => ?_)
    · have hkn : k = 3 := by omega
      subst hkn
      exact r_v iX7_forgetAll_50 rfl (⟨rfl, rfl, rfl⟩)
    · refine v_aload_n iX7_forgetAll_35 rfl ?_
      refine v_getR iX7_forgetAll_36 fX7_68 (by first | rfl | exact (isBin_at k (by omega)).1) rfl ?_
      refine v_iload_n iX7_forgetAll_39 rfl ?_
      refine v_aaload iX7_forgetAll_40 rfl (by decide) (by simp only [List.length_cons, List.length_nil]; omega) (bins_at k (by omega)) ?_
      refine c_V0 (Mc := mX0_vanish) iX7_forgetAll_41 lX7_262 kX0_vanish (qX0_vanish _ _ (89 + 2 * k) (isBin_at k (by omega))) (by decide) rfl (by first | rfl | exact (isBin_at k (by omega)).1) rfl rfl (Nat.le_of_ble_eq_true rfl) ?_
      try simp only [Int.toNat_natCast]
      refine v_in1 iX7_forgetAll_44 ⟨rfl, rfl⟩ ?_
      refine v_goto (tgt := 30) iX7_forgetAll_47 (by decide) ?_
      exact (ih (by omega)).as rfl rfl rfl rfl
  · refine v_aload_n iX7_forgetAll_15 rfl ?_
    refine v_getR iX7_forgetAll_16 fX7_53 rfl rfl ?_
    refine v_iload_n iX7_forgetAll_19 rfl ?_
    refine v_iconst iX7_forgetAll_20 ?_
    refine v_bastore iX7_forgetAll_21 rfl (by omega) (by omega) ?_
    refine v_in1 iX7_forgetAll_22 ⟨rfl, rfl⟩ ?_
    refine v_goto (tgt := 10) iX7_forgetAll_25 (by decide) ?_
    exact (ih (by omega)).as rfl (by rw [uA_eq, uA_uA, Int.toNat_natCast, zp_s]) rfl rfl

set_option maxHeartbeats 4000000 in
set_option maxRecDepth 100000 in
theorem qX8_anew (σ α : St) : CF 0 mX8_anew [vR 95] σ α (none) ((uS (uS (uS (uS σ 95 1 0) 95 5 6) 95 6 5) 95 7 50)) (uA (uA α 96 (anR (α 96) 10)) 99 (cpA (fun _ => 0) (α 99) 10)) := by
  refine CG.of [some (vR 95), none] (by decide) (by simp [lvA]) rfl ?_
  refine v_aload_n iX8_anew_0 rfl ?_
  refine v_iconst iX8_anew_1 ?_
  refine v_put iX8_anew_2 pX8_57 rfl rfl (by intro h; cases h) ?_
  refine v_aload_n iX8_anew_5 rfl ?_
  refine v_bipush iX8_anew_6 (by decide) ?_
  refine v_put iX8_anew_8 pX8_22 rfl rfl (by intro h; cases h) ?_
  refine v_aload_n iX8_anew_11 rfl ?_
  refine v_iconst iX8_anew_12 ?_
  refine v_put iX8_anew_13 pX8_26 rfl rfl (by intro h; cases h) ?_
  refine v_aload_n iX8_anew_16 rfl ?_
  refine v_bipush iX8_anew_17 (by decide) ?_
  refine v_put iX8_anew_19 pX8_29 rfl rfl (by intro h; cases h) ?_
  refine v_aload_n iX8_anew_22 rfl ?_
  refine v_getR iX8_anew_23 fX8_7 rfl rfl ?_
  refine v_iconst iX8_anew_26 ?_
  refine v_iconst iX8_anew_27 ?_
  refine v_iastore iX8_anew_28 rfl (by omega) ?_
  refine v_iconst iX8_anew_29 ?_
  refine v_is1 iX8_anew_30 ⟨rfl, rfl⟩ ?_
  have key := ind_up (P := fun k => VV 0 mX8_anew [vR 95] (fun r' s' a' => r' = none ∧ s' = (uS (uS (uS (uS σ 95 1 0) 95 5 6) 95 6 5) 95 7 50) ∧ a' = uA (uA α 96 (anR (α 96) 10)) 99 (cpA (fun _ => 0) (α 99) 10)) (uS (uS (uS (uS σ 95 1 0) 95 5 6) 95 6 5) 95 7 50) (uA (uA α 96 (anR (α 96) k)) 99 (cpA (fun _ => 0) (α 99) k)) 31 [some (vR 95), some (vI (k : Int))] []) 10 ?_ 0 (by omega)
  · exact key.as rfl (by rw [zp_0, ← anR_0]; funext r i; by_cases h : r = 99; · subst h; rw [uA_eq, uA_ne _ _ (by decide)]
                         · rw [uA_ne _ _ h]; rfl) rfl rfl
  intro k hk ih
  refine v_iload_n iX8_anew_31 rfl ?_
  refine v_bipush iX8_anew_32 (by decide) ?_
  refine v_icmp_ge (tgt := 60) iX8_anew_34 (by decide) (by omega) (fun h34 => ?_) (fun h34 => ?_)
  · have hkn : k = 10 := by omega
    subst hkn
    exact r_v iX8_anew_60 rfl (⟨rfl, rfl, rfl⟩)
  · refine v_aload_n iX8_anew_37 rfl ?_
    refine v_getR iX8_anew_38 fX8_7 rfl rfl ?_
    refine v_bipush iX8_anew_41 (by decide) ?_
    refine v_iload_n iX8_anew_43 rfl ?_
    refine v_iadd iX8_anew_44 ?_
    refine v_iconst iX8_anew_45 ?_
    refine v_iastore iX8_anew_46 rfl (by omega) ?_
    refine v_aload_n iX8_anew_47 rfl ?_
    refine v_getR iX8_anew_48 fX8_19 rfl rfl ?_
    refine v_iload_n iX8_anew_51 rfl ?_
    refine v_iconst iX8_anew_52 ?_
    refine v_iastore iX8_anew_53 rfl (by omega) ?_
    refine v_in1 iX8_anew_54 ⟨rfl, rfl⟩ ?_
    refine v_goto (tgt := 31) iX8_anew_57 (by decide) ?_
    exact (ih (by omega)).as rfl (by
      rw [uA_ne _ _ (show (96 : Nat) ≠ 99 by decide), uA_eq, show ((19 : Int) + (k : Int)).toNat = 19 + k by omega, anR_s, Int.toNat_natCast, uA_ne _ _ (show (99 : Nat) ≠ 96 by decide), uA_eq, zp_s, uA_cm _ _ _ (show (99 : Nat) ≠ 96 by decide), uA_uA, uA_uA]) rfl rfl
