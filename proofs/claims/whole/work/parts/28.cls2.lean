set_option maxHeartbeats 4000000 in
set_option maxRecDepth 100000 in
theorem qX3_settle (σ α : St) {n : Nat} {V B N : Nat → Int} {c : Int} (hPl : PV σ α n V B N c) (hW : WF n V B N) : CG 5 mX3_settle [vR 71] σ α (fun r' s' a' => r' = none ∧ s' = uS σ 71 8 n ∧ Agm α a' ∧ KS s' a' n V B N c) := by
  have h10 := hW.1
  have hn1 : uS σ 71 8 n 71 8 = (n : Int) := uS_eq _ _ _ _
  refine CG.of [some (vR 71), none] (by decide) (by simp [lvA]) rfl ?_
  refine v_aload_n iX3_settle_0 rfl ?_
  refine v_aload_n iX3_settle_1 rfl ?_
  refine v_getR iX3_settle_2 fX3_30 rfl rfl ?_
  refine v_getI iX3_settle_5 fX3_38 rfl rfl (by exact hPl.1) ?_
  refine v_put iX3_settle_8 pX3_44 rfl rfl (by intro h; cases h) ?_
  refine v_iconst iX3_settle_11 ?_
  refine v_is1 iX3_settle_12 ⟨rfl, rfl⟩ ?_
  have key := ind_up (P := fun k => ∀ α1, Agm α α1 → (∀ i, i < k → α1 72 i = V i ∧ α1 73 i = B i) → VV 5 mX3_settle [vR 71] (fun r' s' a' => r' = none ∧ s' = uS σ 71 8 n ∧ Agm α a' ∧ KS s' a' n V B N c) (uS σ 71 8 n) α1 13 [some (vR 71), some (vI (k : Int))] []) n ?_ 0 (by omega)
  · exact (key α (Agm.rf α) (fun i hi => by omega)).as rfl rfl rfl rfl
  intro k hk ih α1 hA hI
  refine v_iload_n iX3_settle_13 rfl ?_
  refine v_aload_n iX3_settle_14 rfl ?_
  refine v_getI iX3_settle_15 fX3_44 rfl rfl (by exact hn1) ?_
  refine v_icmp_ge (tgt := 62) iX3_settle_18 (by decide) (by omega) (fun h18 => ?_) (fun h18 => ?_)
  · have hkn : n = k := by omega
    subst hkn
    refine v_iconst iX3_settle_62 ?_
    refine v_is1 iX3_settle_63 ⟨rfl, rfl⟩ ?_
    have key2 := ind_up (P := fun k => ∀ α1, Agm α α1 → KV (uS σ 71 8 n) α1 n V B N → (∀ i, i < k → α1 74 i = ((clm V B N n 10 i).1 : Int) ∧ α1 75 i = ((clm V B N n 10 i).2 : Int)) → VV 5 mX3_settle [vR 71] (fun r' s' a' => r' = none ∧ s' = uS σ 71 8 n ∧ Agm α a' ∧ KS s' a' n V B N c) (uS σ 71 8 n) α1 64 [some (vR 71), some (vI (k : Int))] []) n ?_ 0 (by omega)
    · exact (key2 α1 hA ⟨hn1, fun i hi => ⟨(hI i hi).1, (hI i hi).2, (congrFun (hA 6 (by omega)) i).trans (hPl.2.2.2 i hi).2.2⟩⟩ (fun i hi => by omega)).as rfl rfl rfl rfl
    intro k hk ih2 α1 hA hK1 hI2
    refine v_iload_n iX3_settle_64 rfl ?_
    refine v_aload_n iX3_settle_65 rfl ?_
    refine v_getI iX3_settle_66 fX3_44 rfl rfl (by exact hn1) ?_
    refine v_icmp_ge (tgt := 83) iX3_settle_69 (by decide) (by omega) (fun h69 => ?_) (fun h69 => ?_)
    · have hkn : n = k := by omega
      subst hkn
      refine v_iconst iX3_settle_83 ?_
      refine v_is1 iX3_settle_84 ⟨rfl, rfl⟩ ?_
      have key3 := ind_up (P := fun k => ∀ α1, Agm α α1 → KV (uS σ 71 8 n) α1 n V B N → (∀ i, i < n → α1 74 i = ((clm V B N n 10 i).1 : Int) ∧ α1 75 i = ((clm V B N n 10 i).2 : Int)) → (∀ i, i < k → α1 76 i = dIn c V B N n i) → VV 5 mX3_settle [vR 71] (fun r' s' a' => r' = none ∧ s' = uS σ 71 8 n ∧ Agm α a' ∧ KS s' a' n V B N c) (uS σ 71 8 n) α1 85 [some (vR 71), some (vI (k : Int))] []) n ?_ 0 (by omega)
      · exact (key3 α1 hA hK1 hI2 (fun i hi => by omega)).as rfl rfl rfl rfl
      intro k hk ih3 α1 hA hK1 hF3 hI3
      refine v_iload_n iX3_settle_85 rfl ?_
      refine v_aload_n iX3_settle_86 rfl ?_
      refine v_getI iX3_settle_87 fX3_44 rfl rfl (by exact hn1) ?_
      refine v_icmp_ge (tgt := 122) iX3_settle_90 (by decide) (by omega) (fun h90 => ?_) (fun h90 => ?_)
      · have hkn : n = k := by omega
        subst hkn
        refine v_iconst iX3_settle_122 ?_
        refine v_is1 iX3_settle_123 ⟨rfl, rfl⟩ ?_
        have key4 := ind_up (P := fun k => ∀ α1, Agm α α1 → KV (uS σ 71 8 n) α1 n V B N → (∀ i, i < n → α1 74 i = ((clm V B N n 10 i).1 : Int) ∧ α1 75 i = ((clm V B N n 10 i).2 : Int) ∧ α1 76 i = dIn c V B N n i) → (∀ i, i < k → α1 77 i = (hdC c V B N n 10 i : Int)) → VV 5 mX3_settle [vR 71] (fun r' s' a' => r' = none ∧ s' = uS σ 71 8 n ∧ Agm α a' ∧ KS s' a' n V B N c) (uS σ 71 8 n) α1 124 [some (vR 71), some (vI (k : Int))] []) n ?_ 0 (by omega)
        · exact (key4 α1 hA hK1 (fun i hi => ⟨(hF3 i hi).1, (hF3 i hi).2, hI3 i hi⟩) (fun i hi => by omega)).as rfl rfl rfl rfl
        intro k hk ih4 α1 hA hK1 hF hI4
        refine v_iload_n iX3_settle_124 rfl ?_
        refine v_aload_n iX3_settle_125 rfl ?_
        refine v_getI iX3_settle_126 fX3_44 rfl rfl (by exact hn1) ?_
        refine v_icmp_ge (tgt := 149) iX3_settle_129 (by decide) (by omega) (fun h129 => ?_) (fun h129 => ?_)
        · have hkn : n = k := by omega
          subst hkn
          exact r_v iX3_settle_149 rfl (⟨rfl, rfl, hA, hK1, fun i hi => ⟨(hF i hi).1, (hF i hi).2.1, (hF i hi).2.2, hI4 i hi⟩⟩)
        · refine v_aload_n iX3_settle_132 rfl ?_
          refine v_getR iX3_settle_133 fX3_27 rfl rfl ?_
          refine v_iload_n iX3_settle_136 rfl ?_
          refine v_aload_n iX3_settle_137 rfl ?_
          refine v_iload_n iX3_settle_138 rfl ?_
          refine c_V1 (Mc := mX3_headOf) iX3_settle_139 lX3_69 kX3_headOf (qX3_headOf _ α1 hK1 hW c (fun i hi => (hF i hi).2.2) k (by omega)) (by decide) rfl rfl rfl rfl (Nat.le_of_ble_eq_true rfl) ?_
          try simp only [Int.toNat_natCast]
          refine v_iastore iX3_settle_142 rfl (by omega) ?_
          refine v_in1 iX3_settle_143 ⟨rfl, rfl⟩ ?_
          refine v_goto (tgt := 124) iX3_settle_146 (by decide) ?_
          exact (ih4 (by omega) _ (hA.put (by omega) _) (by exact hK1) (by exact fun i hi => hF i hi) (by
            intro i hi
            by_cases hik : i = k
            · subst hik; simp [uA, uF, *]
            · have := hI4 i (by omega); simp [uA, uF, hik, this])).as rfl rfl rfl rfl
      · refine v_aload_n iX3_settle_93 rfl ?_
        refine v_getR iX3_settle_94 fX3_24 rfl rfl ?_
        refine v_iload_n iX3_settle_97 rfl ?_
        refine v_aload_n iX3_settle_98 rfl ?_
        refine v_iload_n iX3_settle_99 rfl ?_
        refine c_V1 (Mc := mX3_isTop) iX3_settle_100 lX3_61 kX3_isTop (qX3_isTop _ α1 hK1 hW k (by omega)) (by decide) rfl rfl rfl rfl (Nat.le_of_ble_eq_true rfl) ?_
        try simp only [Int.toNat_natCast]
        refine v_bif_eq (tgt := 114) iX3_settle_103 (by decide) (fun h103 => ?_) (fun h103 => ?_)
        · try simp only [Int.toNat_natCast] at h103
          refine v_iconst iX3_settle_114 ?_
          refine v_iastore iX3_settle_115 rfl (by omega) ?_
          refine v_in1 iX3_settle_116 ⟨rfl, rfl⟩ ?_
          refine v_goto (tgt := 85) iX3_settle_119 (by decide) ?_
          exact (ih3 (by omega) _ (hA.put (by omega) _) (by exact hK1) (by exact fun i hi => hF3 i hi) (by
            intro i hi
            by_cases hik : i = k
            · subst hik; simp [uA, uF, dIn, h103]
            · have := hI3 i (by omega); simp [uA, uF, hik, this])).as rfl rfl rfl rfl
        · try simp only [Int.toNat_natCast] at h103
          refine v_aload_n iX3_settle_106 rfl ?_
          refine v_iload_n iX3_settle_107 rfl ?_
          refine c_V1 (Mc := mX3_drowner) iX3_settle_108 lX3_65 kX3_drowner (qX3_drowner _ α1 hK1 hW (fun i hi => (hF3 i hi).1) c hPl.2.1 hPl.2.2.1 k (by omega)) (by decide) rfl rfl rfl rfl (Nat.le_of_ble_eq_true rfl) ?_
          try simp only [Int.toNat_natCast]
          refine v_goto (tgt := 115) iX3_settle_111 (by decide) ?_
          refine v_iastore iX3_settle_115 rfl (by omega) ?_
          refine v_in1 iX3_settle_116 ⟨rfl, rfl⟩ ?_
          refine v_goto (tgt := 85) iX3_settle_119 (by decide) ?_
          exact (ih3 (by omega) _ (hA.put (by omega) _) (by exact hK1) (by exact fun i hi => hF3 i hi) (by
            intro i hi
            by_cases hik : i = k
            · subst hik; simp [uA, uF, dIn, h103]
            · have := hI3 i (by omega); simp [uA, uF, hik, this])).as rfl rfl rfl rfl
    · refine v_aload_n iX3_settle_72 rfl ?_
      refine v_iload_n iX3_settle_73 rfl ?_
      refine c_V0 (Mc := mX3_climb) iX3_settle_74 lX3_57 kX3_climb (qX3_climb _ α1 hK1 hW k (by omega)) (by decide) rfl rfl rfl rfl (Nat.le_of_ble_eq_true rfl) ?_
      try simp only [Int.toNat_natCast]
      refine v_in1 iX3_settle_77 ⟨rfl, rfl⟩ ?_
      refine v_goto (tgt := 64) iX3_settle_80 (by decide) ?_
      exact (ih2 (by omega) _ ((hA.put (by omega) _).put (by omega) _) (by exact hK1) (by
        intro i hi
        by_cases hik : i = k
        · subst hik; simp [uA, uF]
        · have := hI2 i (by omega); simp [uA, uF, hik, this])).as rfl rfl rfl rfl
  · have hkn : k < n := by omega
    refine v_aload_n iX3_settle_21 rfl ?_
    refine v_getR iX3_settle_22 fX3_9 rfl rfl ?_
    refine v_iload_n iX3_settle_25 rfl ?_
    refine v_aload_n iX3_settle_26 rfl ?_
    refine v_getR iX3_settle_27 fX3_30 rfl rfl ?_
    refine v_getR iX3_settle_30 fX3_45 rfl rfl ?_
    refine v_iload_n iX3_settle_33 rfl ?_
    refine v_iaload iX3_settle_34 rfl (by omega) (by exact (congrFun (hA 4 (by omega)) k).trans (hPl.2.2.2 k hkn).1) ?_
    refine v_iastore iX3_settle_35 rfl (by omega) ?_
    refine v_aload_n iX3_settle_36 rfl ?_
    refine v_getR iX3_settle_37 fX3_15 rfl rfl ?_
    refine v_iload_n iX3_settle_40 rfl ?_
    refine v_aload_n iX3_settle_41 rfl ?_
    refine v_iload_n iX3_settle_42 rfl ?_
    refine v_aload_n iX3_settle_43 rfl ?_
    refine v_getR iX3_settle_44 fX3_34 rfl rfl ?_
    refine v_getR iX3_settle_47 fX3_48 rfl rfl ?_
    refine v_iload_n iX3_settle_50 rfl ?_
    refine v_iaload iX3_settle_51 rfl (by omega) (by exact congrFun ((uA_ne _ _ (by decide)).trans (hA 23 (by omega))) k) ?_
    refine c_V1 (Mc := mX3_belowWith) iX3_settle_52 lX3_53 kX3_belowWith (qX3_belowWith _ _ k _ (by omega)) (by decide) rfl rfl rfl rfl (Nat.le_of_ble_eq_true rfl) ?_
    try simp only [Int.toNat_natCast]
    rw [show ∀ f, uA α1 72 f 5 k = α 5 k from fun f => congrFun ((uA_ne _ _ (by decide)).trans (hA 5 (by omega))) k, (hPl.2.2.2 k hkn).2.1]
    refine v_iastore iX3_settle_55 rfl (by omega) ?_
    refine v_in1 iX3_settle_56 ⟨rfl, rfl⟩ ?_
    refine v_goto (tgt := 13) iX3_settle_59 (by decide) ?_
    exact (ih (by omega) _ ((hA.put (by omega) _).put (by omega) _) (by
      intro i hi
      by_cases hik : i = k
      · subst hik; simp [uA, uF]
      · have := hI i (by omega); simp [uA, uF, hik, this])).as rfl rfl rfl rfl

set_option maxHeartbeats 4000000 in
set_option maxRecDepth 100000 in
theorem qX3_tops (σ α : St) {n : Nat} {V B N : Nat → Int} (hK : KV σ α n V B N) (hW : WF n V B N) : CF 2 mX3_tops [vR 71] σ α (some (vI ((msk (topR V B N n) n : Nat) : Int))) (σ) (α) := by
  have h10 := hW.1
  refine CG.of [some (vR 71), none, none] (by decide) (by simp [lvA]) rfl ?_
  refine v_iconst iX3_tops_0 ?_
  refine v_is1 iX3_tops_1 ⟨rfl, rfl⟩ ?_
  refine v_iconst iX3_tops_2 ?_
  refine v_is2 iX3_tops_3 ⟨rfl, rfl⟩ ?_
  refine ind_up (P := fun k => VV 2 mX3_tops [vR 71] (fun r' s' a' => r' = some (vI ((msk (topR V B N n) n : Nat) : Int)) ∧ s' = σ ∧ a' = α) σ α 4 [some (vR 71), some (vI ((msk (topR V B N n) k : Nat) : Int)), some (vI (k : Int))] []) n ?_ 0 (by omega)
  intro k hk ih
  refine v_iload_n iX3_tops_4 rfl ?_
  refine v_aload_n iX3_tops_5 rfl ?_
  refine v_getI iX3_tops_6 fX3_44 rfl rfl (by exact hK.1) ?_
  refine v_icmp_ge (tgt := 32) iX3_tops_9 (by decide) (by omega) (fun h9 => ?_) (fun h9 => ?_)
  · have hkn : n = k := by omega
    subst hkn
    refine v_iload_n iX3_tops_32 rfl ?_
    exact r_i iX3_tops_33 rfl (⟨cf_i (by rfl), rfl, rfl⟩)
  · refine v_aload_n iX3_tops_12 rfl ?_
    refine v_iload_n iX3_tops_13 rfl ?_
    refine c_V1 (Mc := mX3_isTop) iX3_tops_14 lX3_61 kX3_isTop (qX3_isTop σ α hK hW k (by omega)) (by decide) rfl rfl rfl rfl (Nat.le_of_ble_eq_true rfl) ?_
    try simp only [Int.toNat_natCast]
    refine v_bif_eq (tgt := 26) iX3_tops_17 (by decide) (fun h17 => ?_) (fun h17 => ?_)
    · try simp only [Int.toNat_natCast] at h17
      refine v_in2 iX3_tops_26 ⟨rfl, rfl⟩ ?_
      refine v_goto (tgt := 4) iX3_tops_29 (by decide) ?_
      refine (ih (by omega)).as rfl rfl ?_ rfl
      simp only [msk, h17, Bool.false_eq_true, if_true, if_false, Int.toNat_natCast, Nat.or_zero]; rfl
    · try simp only [Int.toNat_natCast] at h17
      refine v_iload_n iX3_tops_20 rfl ?_
      refine v_iconst iX3_tops_21 ?_
      refine v_iload_n iX3_tops_22 rfl ?_
      refine v_ishl1 iX3_tops_23 (by omega) ?_
      refine v_ior iX3_tops_24 (by refine ⟨?_, ?_⟩ <;> first | exact Int.natCast_nonneg _ | omega) ?_
      refine v_is1 iX3_tops_25 ⟨rfl, rfl⟩ ?_
      refine v_in2 iX3_tops_26 ⟨rfl, rfl⟩ ?_
      refine v_goto (tgt := 4) iX3_tops_29 (by decide) ?_
      refine (ih (by omega)).as rfl rfl ?_ rfl
      simp only [msk, h17, Bool.false_eq_true, if_true, if_false, Int.toNat_natCast, Nat.or_zero]; rfl

set_option maxHeartbeats 4000000 in
set_option maxRecDepth 100000 in
theorem qX3_drownedTops (σ α : St) {n : Nat} {V B N : Nat → Int} (hK : KV σ α n V B N) (hW : WF n V B N) (c : Int) (hDI : ∀ i, i < n → α 76 i = dIn c V B N n i) : CF 0 mX3_drownedTops [vR 71] σ α (some (vI ((msk (fun i => decide (dIn c V B N n i ≠ -1)) n : Nat) : Int))) (σ) (α) := by
  have h10 := hW.1
  refine CG.of [some (vR 71), none, none] (by decide) (by simp [lvA]) rfl ?_
  refine v_iconst iX3_drownedTops_0 ?_
  refine v_is1 iX3_drownedTops_1 ⟨rfl, rfl⟩ ?_
  refine v_iconst iX3_drownedTops_2 ?_
  refine v_is2 iX3_drownedTops_3 ⟨rfl, rfl⟩ ?_
  refine ind_up (P := fun k => VV 0 mX3_drownedTops [vR 71] (fun r' s' a' => r' = some (vI ((msk (fun i => decide (dIn c V B N n i ≠ -1)) n : Nat) : Int)) ∧ s' = σ ∧ a' = α) σ α 4 [some (vR 71), some (vI ((msk (fun i => decide (dIn c V B N n i ≠ -1)) k : Nat) : Int)), some (vI (k : Int))] []) n ?_ 0 (by omega)
  intro k hk ih
  refine v_iload_n iX3_drownedTops_4 rfl ?_
  refine v_aload_n iX3_drownedTops_5 rfl ?_
  refine v_getI iX3_drownedTops_6 fX3_44 rfl rfl (by exact hK.1) ?_
  refine v_icmp_ge (tgt := 34) iX3_drownedTops_9 (by decide) (by omega) (fun h9 => ?_) (fun h9 => ?_)
  · have hkn : n = k := by omega
    subst hkn
    refine v_iload_n iX3_drownedTops_34 rfl ?_
    exact r_i iX3_drownedTops_35 rfl (⟨cf_i (by rfl), rfl, rfl⟩)
  · have hdr := dIn_r c V B N n k
    refine v_aload_n iX3_drownedTops_12 rfl ?_
    refine v_getR iX3_drownedTops_13 fX3_24 rfl rfl ?_
    refine v_iload_n iX3_drownedTops_16 rfl ?_
    refine v_iaload iX3_drownedTops_17 rfl (by omega) (by exact hDI k (by omega)) ?_
    refine v_iconst iX3_drownedTops_18 ?_
    refine v_icmp_eq (tgt := 28) iX3_drownedTops_19 (by decide) (by omega) (fun h19 => ?_) (fun h19 => ?_)
    · refine v_in2 iX3_drownedTops_28 ⟨rfl, rfl⟩ ?_
      refine v_goto (tgt := 4) iX3_drownedTops_31 (by decide) ?_
      refine (ih (by omega)).as rfl rfl ?_ rfl
      simp only [msk, h19, ne_eq, not_true_eq_false, not_false_eq_true, decide_true, decide_false, Bool.false_eq_true, if_true, if_false, Int.toNat_natCast, Nat.or_zero]; rfl
    · refine v_iload_n iX3_drownedTops_22 rfl ?_
      refine v_iconst iX3_drownedTops_23 ?_
      refine v_iload_n iX3_drownedTops_24 rfl ?_
      refine v_ishl1 iX3_drownedTops_25 (by omega) ?_
      refine v_ior iX3_drownedTops_26 (by refine ⟨?_, ?_⟩ <;> first | exact Int.natCast_nonneg _ | omega) ?_
      refine v_is1 iX3_drownedTops_27 ⟨rfl, rfl⟩ ?_
      refine v_in2 iX3_drownedTops_28 ⟨rfl, rfl⟩ ?_
      refine v_goto (tgt := 4) iX3_drownedTops_31 (by decide) ?_
      refine (ih (by omega)).as rfl rfl ?_ rfl
      simp only [msk, h19, ne_eq, not_true_eq_false, not_false_eq_true, decide_true, decide_false, Bool.false_eq_true, if_true, if_false, Int.toNat_natCast, Nat.or_zero]; rfl

set_option maxHeartbeats 4000000 in
set_option maxRecDepth 100000 in
theorem qX3_allRisers (σ α : St) {n m : Nat} (hM : RK σ α n m) : CF 0 mX3_allRisers [vR 71] σ α (some (vI ((2 ^ m : Nat) - 1 : Int))) (σ) (α) := by
  have hm6 := hM.2.1
  refine CG.of [some (vR 71)] (by decide) (by simp [lvA]) rfl ?_
  refine v_iconst iX3_allRisers_0 ?_
  refine v_aload_n iX3_allRisers_1 rfl ?_
  refine v_getR iX3_allRisers_2 fX3_34 rfl rfl ?_
  refine v_getI iX3_allRisers_5 fX3_103 rfl rfl (by exact hM.1) ?_
  refine v_ishl1 iX3_allRisers_8 (by omega) ?_
  refine v_iconst iX3_allRisers_9 ?_
  refine v_isub iX3_allRisers_10 ?_
  exact r_i iX3_allRisers_11 rfl (⟨cf_i (by rfl), rfl, rfl⟩)

set_option maxHeartbeats 4000000 in
set_option maxRecDepth 100000 in
theorem qX3_outlasts (σ α : St) {n : Nat} {V B N : Nat → Int} (hK : KV σ α n V B N) (hW : WF n V B N) {a b : Int} (hU : RP σ a b) (vol skin t : Int) (hv : 0 ≤ vol ∧ vol ≤ 999) (hs : 0 ≤ skin ∧ skin ≤ 99) (ht : 0 ≤ t ∧ t < n) : CF 0 mX3_outlasts [vR 71, vI vol, vI skin, vI t] σ α (some (vI (b2i (outl a b V B vol skin t.toNat)))) (σ) (α) := by
  have h10 := hW.1
  have hwt := hW.2 t.toNat (by omega)
  obtain ⟨ha, hb, ha2, hb2⟩ := hU
  have b0 := prod_b (x := vol) (y := b) (a := 999) (b := 99) (by omega) (by omega)
  have b1 := prod_b (x := vol * b) (y := B t.toNat) (a := 98901) (b := 189) (by omega) (by omega)
  have b2 := prod_b (x := V t.toNat) (y := a) (a := 99) (b := 99) (by omega) (by omega)
  have b3 := prod_b (x := V t.toNat * a) (y := skin) (a := 9801) (b := 99) (by omega) (by omega)
  refine CG.of [some (vR 71), some (vI vol), some (vI skin), some (vI t)] (by decide) (by simp [lvA]) rfl ?_
  refine v_iload_n iX3_outlasts_0 rfl ?_
  refine v_aload_n iX3_outlasts_1 rfl ?_
  refine v_getR iX3_outlasts_2 fX3_30 rfl rfl ?_
  refine v_getI iX3_outlasts_5 fX3_106 rfl rfl (by exact hb) ?_
  refine v_imul iX3_outlasts_8 ?_
  refine v_aload_n iX3_outlasts_9 rfl ?_
  refine v_getR iX3_outlasts_10 fX3_15 rfl rfl ?_
  refine v_iload_n iX3_outlasts_13 rfl ?_
  refine v_iaload iX3_outlasts_14 rfl (by omega) (by exact (hK.2 t.toNat (by omega)).2.1) ?_
  refine v_imul iX3_outlasts_15 ?_
  refine v_aload_n iX3_outlasts_16 rfl ?_
  refine v_getR iX3_outlasts_17 fX3_9 rfl rfl ?_
  refine v_iload_n iX3_outlasts_20 rfl ?_
  refine v_iaload iX3_outlasts_21 rfl (by omega) (by exact (hK.2 t.toNat (by omega)).1) ?_
  refine v_aload_n iX3_outlasts_22 rfl ?_
  refine v_getR iX3_outlasts_23 fX3_30 rfl rfl ?_
  refine v_getI iX3_outlasts_26 fX3_109 rfl rfl (by exact ha) ?_
  refine v_imul iX3_outlasts_29 ?_
  refine v_iload_n iX3_outlasts_30 rfl ?_
  refine v_imul iX3_outlasts_31 ?_
  refine v_icmp_lt (tgt := 39) iX3_outlasts_32 (by decide) (by omega) (fun h32 => ?_) (fun h32 => ?_)
  · refine v_iconst iX3_outlasts_39 ?_
    exact r_b iX3_outlasts_40 rfl (by first | exact b2i_01 _ | decide | omega) (⟨cf_i (by unfold outl; first | exact (b2i_pos (by omega)).symm | exact (b2i_neg (by omega)).symm), rfl, rfl⟩)
  · refine v_iconst iX3_outlasts_35 ?_
    refine v_goto (tgt := 40) iX3_outlasts_36 (by decide) ?_
    exact r_b iX3_outlasts_40 rfl (by first | exact b2i_01 _ | decide | omega) (⟨cf_i (by unfold outl; first | exact (b2i_pos (by omega)).symm | exact (b2i_neg (by omega)).symm), rfl, rfl⟩)

set_option maxHeartbeats 4000000 in
set_option maxRecDepth 100000 in
theorem qX3_feeder (σ α : St) {n : Nat} {V B N : Nat → Int} {c : Int} (hS : KS σ α n V B N c) (hW : WF n V B N) {a b : Int} (hU : RP σ a b) {m : Nat} (hM : RK σ α n m) (t : Nat) (ht : t < n) (htop : topR V B N n t = true) (set : Int) (hs : 0 ≤ set ∧ set ≤ 2147483647) : CF 1 mX3_feeder [vR 71, vI (t : Int), vI set] σ α (some (vI (fdrR a b V B (fun i => (hds c V B N n i : Int)) (α 24) (α 25) (α 26) m set t))) (σ) (α) := by
  have h10 := hW.1
  have hm6 := hM.2.1
  refine CG.of [some (vR 71), some (vI (t : Int)), some (vI set), none] (by decide) (by simp [lvA]) rfl ?_
  refine v_iconst iX3_feeder_0 ?_
  refine v_is3 iX3_feeder_1 ⟨rfl, rfl⟩ ?_
  have key := ind_up (P := fun k => fdrR a b V B (fun i => (hds c V B N n i : Int)) (α 24) (α 25) (α 26) m set t = fst1 (fdrP a b V B (fun i => (hds c V B N n i : Int)) (α 24) (α 25) (α 26) set t) (m - k) k → VV 1 mX3_feeder [vR 71, vI (t : Int), vI set] (fun r' s' a' => r' = some (vI (fdrR a b V B (fun i => (hds c V B N n i : Int)) (α 24) (α 25) (α 26) m set t)) ∧ s' = σ ∧ a' = α) σ α 2 [some (vR 71), some (vI (t : Int)), some (vI set), some (vI (k : Int))] []) m ?_ 0 (by omega)
  · exact key rfl
  intro k hk ih e1
  refine v_iload_n iX3_feeder_2 rfl ?_
  refine v_aload_n iX3_feeder_3 rfl ?_
  refine v_getR iX3_feeder_4 fX3_34 rfl rfl ?_
  refine v_getI iX3_feeder_7 fX3_103 rfl rfl (by exact hM.1) ?_
  refine v_icmp_ge (tgt := 83) iX3_feeder_10 (by decide) (by omega) (fun h10 => ?_) (fun h10 => ?_)
  · rw [show m - k = 0 by omega] at e1
    refine v_iconst iX3_feeder_83 ?_
    exact r_i iX3_feeder_84 rfl (⟨cf_i (by simp only [fst1] at e1; exact e1.symm), rfl, rfl⟩)
  · have hkm : k < m := by omega
    have hr := hM.2.2 k hkm
    have hpl : (α 24 k).toNat < n := by omega
    rw [show m - k = (m - (k + 1)) + 1 by omega] at e1
    refine v_iload_n iX3_feeder_13 rfl ?_
    refine v_iload_n iX3_feeder_14 rfl ?_
    refine v_ishr iX3_feeder_15 (by omega) (by omega) ?_
    refine v_iconst iX3_feeder_16 ?_
    refine v_iand1 iX3_feeder_17 (by exact div_pow_nn (by omega) _) ?_
    refine v_if_eq (tgt := 77) iX3_feeder_18 (by decide) (by omega) (fun h18 => ?_) (fun h18 => ?_)
    · (try have hb18 : hasB set k = false := (hasB_0 _ _).mpr h18)
      refine v_in3 iX3_feeder_77 ⟨rfl, rfl⟩ ?_
      refine v_goto (tgt := 2) iX3_feeder_80 (by decide) ?_
      have e2 : fdrP a b V B (fun i => (hds c V B N n i : Int)) (α 24) (α 25) (α 26) set t k = false := by first | (simp only [fdrP, hb18, Bool.false_and]; done) | (simp only [fdrP, h46, decide_false, Bool.false_and, Bool.and_false]; done) | (simp only [fdrP, h72, Bool.and_false]; done)
      exact (ih (by omega) (by rw [e1, fst1_n e2])).as rfl rfl rfl rfl
    · have hb18 : hasB set k = true := (hasB_iff _ _).mpr (by omega)
      refine v_aload_n iX3_feeder_21 rfl ?_
      refine v_getR iX3_feeder_22 fX3_27 rfl rfl ?_
      refine v_aload_n iX3_feeder_25 rfl ?_
      refine v_getR iX3_feeder_26 fX3_18 rfl rfl ?_
      refine v_aload_n iX3_feeder_29 rfl ?_
      refine v_getR iX3_feeder_30 fX3_34 rfl rfl ?_
      refine v_getR iX3_feeder_33 fX3_112 rfl rfl ?_
      refine v_iload_n iX3_feeder_36 rfl ?_
      refine v_iaload iX3_feeder_37 rfl (by omega) (by exact congrArg (α 24) (Int.toNat_natCast k)) ?_
      refine v_iaload iX3_feeder_38 rfl (by have := hr.1; omega) (by exact (hS.2 (α 24 k).toNat hpl).1) ?_
      refine v_iaload iX3_feeder_39 rfl (by have := clm_in hW 10 _ hpl; omega) (by exact (hS.2 _ (clm_in hW 10 _ hpl)).2.2.2) ?_
      refine v_aload_n iX3_feeder_40 rfl ?_
      refine v_getR iX3_feeder_41 fX3_27 rfl rfl ?_
      refine v_iload_n iX3_feeder_44 rfl ?_
      refine v_iaload iX3_feeder_45 rfl (by omega) (by exact (hS.2 t ht).2.2.2) ?_
      rw [hdC_top hW 10 _ (clm_top hW 10 _ hpl (rnk_n hW hpl)), hdC_top hW 10 t htop, ← hds_top htop, show hdF c V B N n 10 (clm V B N n 10 (α 24 k).toNat).1 = hds c V B N n (α 24 k).toNat from rfl]
      refine v_icmp_ne (tgt := 77) iX3_feeder_46 (by decide) (by have := hdF_in (c := c) hW 10 _ (clm_in hW 10 _ hpl); have := hdF_in (c := c) hW 10 _ (clm_in hW 10 t ht); unfold hds; omega) (fun h46 => ?_) (fun h46 => ?_)
      · (try have hb18 : hasB set k = false := (hasB_0 _ _).mpr h18)
        refine v_in3 iX3_feeder_77 ⟨rfl, rfl⟩ ?_
        refine v_goto (tgt := 2) iX3_feeder_80 (by decide) ?_
        have e2 : fdrP a b V B (fun i => (hds c V B N n i : Int)) (α 24) (α 25) (α 26) set t k = false := by first | (simp only [fdrP, hb18, Bool.false_and]; done) | (simp only [fdrP, h46, decide_false, Bool.false_and, Bool.and_false]; done) | (simp only [fdrP, h72, Bool.and_false]; done)
        exact (ih (by omega) (by rw [e1, fst1_n e2])).as rfl rfl rfl rfl
      · refine v_aload_n iX3_feeder_49 rfl ?_
        refine v_aload_n iX3_feeder_50 rfl ?_
        refine v_getR iX3_feeder_51 fX3_34 rfl rfl ?_
        refine v_getR iX3_feeder_54 fX3_115 rfl rfl ?_
        refine v_iload_n iX3_feeder_57 rfl ?_
        refine v_iaload iX3_feeder_58 rfl (by omega) (by exact congrArg (α 25) (Int.toNat_natCast k)) ?_
        refine v_aload_n iX3_feeder_59 rfl ?_
        refine v_getR iX3_feeder_60 fX3_34 rfl rfl ?_
        refine v_getR iX3_feeder_63 fX3_116 rfl rfl ?_
        refine v_iload_n iX3_feeder_66 rfl ?_
        refine v_iaload iX3_feeder_67 rfl (by omega) (by exact congrArg (α 26) (Int.toNat_natCast k)) ?_
        refine v_iload_n iX3_feeder_68 rfl ?_
        refine c_V1 (Mc := mX3_outlasts) iX3_feeder_69 lX3_117 kX3_outlasts (qX3_outlasts σ α hS.1 hW hU _ _ t (by omega) (by omega) (by omega)) (by decide) rfl rfl rfl rfl (Nat.le_of_ble_eq_true rfl) ?_
        try simp only [Int.toNat_natCast]
        refine v_bif_eq (tgt := 77) iX3_feeder_72 (by decide) (fun h72 => ?_) (fun h72 => ?_)
        · try simp only [Int.toNat_natCast] at h72
          (try have hb18 : hasB set k = false := (hasB_0 _ _).mpr h18)
          refine v_in3 iX3_feeder_77 ⟨rfl, rfl⟩ ?_
          refine v_goto (tgt := 2) iX3_feeder_80 (by decide) ?_
          have e2 : fdrP a b V B (fun i => (hds c V B N n i : Int)) (α 24) (α 25) (α 26) set t k = false := by first | (simp only [fdrP, hb18, Bool.false_and]; done) | (simp only [fdrP, h46, decide_false, Bool.false_and, Bool.and_false]; done) | (simp only [fdrP, h72, Bool.and_false]; done)
          exact (ih (by omega) (by rw [e1, fst1_n e2])).as rfl rfl rfl rfl
        · try simp only [Int.toNat_natCast] at h72
          refine v_iload_n iX3_feeder_75 rfl ?_
          exact r_i iX3_feeder_76 rfl (⟨cf_i (by have e2 : fdrP a b V B (fun i => (hds c V B N n i : Int)) (α 24) (α 25) (α 26) set t k = true := (by simp only [fdrP, hb18, h46, h72, decide_true, Bool.and_true]); rw [fst1_y e2] at e1; exact e1.symm), rfl, rfl⟩)

set_option maxHeartbeats 4000000 in
set_option maxRecDepth 100000 in
theorem qX3_fedTops (σ α : St) {n : Nat} {V B N : Nat → Int} {c : Int} (hS : KS σ α n V B N c) (hW : WF n V B N) {a b : Int} (hU : RP σ a b) {m : Nat} (hM : RK σ α n m) (set : Int) (hs : 0 ≤ set ∧ set ≤ 2147483647) : CF 2 mX3_fedTops [vR 71, vI set] σ α (some (vI ((fedR a b V B N n (fun i => (hds c V B N n i : Int)) (α 24) (α 25) (α 26) m set : Nat) : Int))) (σ) (α) := by
  have h10 := hW.1
  have hm6 := hM.2.1
  refine CG.of [some (vR 71), some (vI set), none, none] (by decide) (by simp [lvA]) rfl ?_
  refine v_iconst iX3_fedTops_0 ?_
  refine v_is2 iX3_fedTops_1 ⟨rfl, rfl⟩ ?_
  refine v_iconst iX3_fedTops_2 ?_
  refine v_is3 iX3_fedTops_3 ⟨rfl, rfl⟩ ?_
  refine ind_up (P := fun k => VV 2 mX3_fedTops [vR 71, vI set] (fun r' s' a' => r' = some (vI ((fedR a b V B N n (fun i => (hds c V B N n i : Int)) (α 24) (α 25) (α 26) m set : Nat) : Int)) ∧ s' = σ ∧ a' = α) σ α 4 [some (vR 71), some (vI set), some (vI ((msk (fun i => topR V B N n i && decide (fdrR a b V B (fun i => (hds c V B N n i : Int)) (α 24) (α 25) (α 26) m set i ≠ -1)) k : Nat) : Int)), some (vI (k : Int))] []) n ?_ 0 (by omega)
  intro k hk ih
  refine v_iload_n iX3_fedTops_4 rfl ?_
  refine v_aload_n iX3_fedTops_5 rfl ?_
  refine v_getI iX3_fedTops_6 fX3_44 rfl rfl (by exact hS.1.1) ?_
  refine v_icmp_ge (tgt := 42) iX3_fedTops_9 (by decide) (by omega) (fun h9 => ?_) (fun h9 => ?_)
  · have hkn : n = k := by omega
    subst hkn
    refine v_iload_n iX3_fedTops_42 rfl ?_
    exact r_i iX3_fedTops_43 rfl (⟨cf_i (by rfl), rfl, rfl⟩)
  · refine v_aload_n iX3_fedTops_12 rfl ?_
    refine v_iload_n iX3_fedTops_13 rfl ?_
    refine c_V1 (Mc := mX3_isTop) iX3_fedTops_14 lX3_61 kX3_isTop (qX3_isTop σ α hS.1 hW k (by omega)) (by decide) rfl rfl rfl rfl (Nat.le_of_ble_eq_true rfl) ?_
    try simp only [Int.toNat_natCast]
    refine v_bif_eq (tgt := 36) iX3_fedTops_17 (by decide) (fun h17 => ?_) (fun h17 => ?_)
    · try simp only [Int.toNat_natCast] at h17
      refine v_in3 iX3_fedTops_36 ⟨rfl, rfl⟩ ?_
      refine v_goto (tgt := 4) iX3_fedTops_39 (by decide) ?_
      refine (ih (by omega)).as rfl rfl ?_ rfl
      first
        | simp only [msk, h17, h27, ne_eq, not_true_eq_false, not_false_eq_true, decide_true, decide_false, Bool.and_true, Bool.and_false, Bool.false_eq_true, if_true, if_false, Int.toNat_natCast, Nat.or_zero]
        | simp only [msk, h17, Bool.false_and, Bool.false_eq_true, if_false, Int.toNat_natCast, Nat.or_zero]
      rfl
    · try simp only [Int.toNat_natCast] at h17
      have hfr := fdrR_r a b V B (fun i => (hds c V B N n i : Int)) (α 24) (α 25) (α 26) m set k
      refine v_aload_n iX3_fedTops_20 rfl ?_
      refine v_iload_n iX3_fedTops_21 rfl ?_
      refine v_iload_n iX3_fedTops_22 rfl ?_
      refine c_V1 (Mc := mX3_feeder) iX3_fedTops_23 lX3_121 kX3_feeder (qX3_feeder σ α hS hW hU hM k (by omega) h17 set hs) (by decide) rfl rfl rfl rfl (Nat.le_of_ble_eq_true rfl) ?_
      try simp only [Int.toNat_natCast]
      refine v_iconst iX3_fedTops_26 ?_
      refine v_icmp_eq (tgt := 36) iX3_fedTops_27 (by decide) (by omega) (fun h27 => ?_) (fun h27 => ?_)
      · refine v_in3 iX3_fedTops_36 ⟨rfl, rfl⟩ ?_
        refine v_goto (tgt := 4) iX3_fedTops_39 (by decide) ?_
        refine (ih (by omega)).as rfl rfl ?_ rfl
        first
          | simp only [msk, h17, h27, ne_eq, not_true_eq_false, not_false_eq_true, decide_true, decide_false, Bool.and_true, Bool.and_false, Bool.false_eq_true, if_true, if_false, Int.toNat_natCast, Nat.or_zero]
          | simp only [msk, h17, Bool.false_and, Bool.false_eq_true, if_false, Int.toNat_natCast, Nat.or_zero]
        rfl
      · refine v_iload_n iX3_fedTops_30 rfl ?_
        refine v_iconst iX3_fedTops_31 ?_
        refine v_iload_n iX3_fedTops_32 rfl ?_
        refine v_ishl1 iX3_fedTops_33 (by omega) ?_
        refine v_ior iX3_fedTops_34 (by refine ⟨?_, ?_⟩ <;> first | exact Int.natCast_nonneg _ | omega) ?_
        refine v_is2 iX3_fedTops_35 ⟨rfl, rfl⟩ ?_
        refine v_in3 iX3_fedTops_36 ⟨rfl, rfl⟩ ?_
        refine v_goto (tgt := 4) iX3_fedTops_39 (by decide) ?_
        refine (ih (by omega)).as rfl rfl ?_ rfl
        first
          | simp only [msk, h17, h27, ne_eq, not_true_eq_false, not_false_eq_true, decide_true, decide_false, Bool.and_true, Bool.and_false, Bool.false_eq_true, if_true, if_false, Int.toNat_natCast, Nat.or_zero]
          | simp only [msk, h17, Bool.false_and, Bool.false_eq_true, if_false, Int.toNat_natCast, Nat.or_zero]
        rfl

theorem pw6 {m : Nat} (h : m ≤ 6) : 1 ≤ 2 ^ m ∧ 2 ^ m ≤ 64 := ⟨Nat.two_pow_pos m, Nat.pow_le_pow_right (by decide) h⟩

set_option maxHeartbeats 4000000 in
set_option maxRecDepth 100000 in
theorem qX3_starvedBy (σ α : St) {n : Nat} {V B N : Nat → Int} {c : Int} (hS : KS σ α n V B N c) (hW : WF n V B N) {a b : Int} (hU : RP σ a b) {m : Nat} (hM : RK σ α n m) (r : Int) (hr : 0 ≤ r ∧ r < m) : CF 3 mX3_starvedBy [vR 71, vI r] σ α (some (vI ((((fedR a b V B N n (fun i => (hds c V B N n i : Int)) (α 24) (α 25) (α 26) m (2 ^ m - 1 : Nat) : Nat)) ^^^ ((fedR a b V B N n (fun i => (hds c V B N n i : Int)) (α 24) (α 25) (α 26) m (2 ^ m - 1 : Nat) : Nat) &&& (fedR a b V B N n (fun i => (hds c V B N n i : Int)) (α 24) (α 25) (α 26) m (((2 ^ m - 1) ^^^ ((2 ^ m - 1) &&& 2 ^ r.toNat) : Nat)) : Nat)) : Nat) : Int))) (σ) (α) := by
  have h10 := hW.1
  have hm6 := hM.2.1
  have hp := pw6 hm6
  have hx : ((2 ^ m - 1) ^^^ ((2 ^ m - 1) &&& 2 ^ r.toNat) : Nat) < 2 ^ 6 := by
    have h1 : 2 ^ m - 1 < 2 ^ 6 := by omega
    exact Nat.xor_lt_two_pow h1 (Nat.lt_of_le_of_lt Nat.and_le_left h1)
  refine CG.of [some (vR 71), some (vI r), none] (by decide) (by simp [lvA]) rfl ?_
  refine v_aload_n iX3_starvedBy_0 rfl ?_
  refine c_V1 (Mc := mX3_allRisers) iX3_starvedBy_1 lX3_124 kX3_allRisers (qX3_allRisers σ α hM) (by decide) rfl rfl rfl rfl (Nat.le_of_ble_eq_true rfl) ?_
  try simp only [Int.toNat_natCast]
  rw [show ((2 ^ m : Nat) - 1 : Int) = ((2 ^ m - 1 : Nat) : Int) by omega]
  refine v_is2 iX3_starvedBy_4 ⟨rfl, rfl⟩ ?_
  refine v_aload_n iX3_starvedBy_5 rfl ?_
  refine v_iload_n iX3_starvedBy_6 rfl ?_
  refine c_V1 (Mc := mX3_fedTops) iX3_starvedBy_7 lX3_128 kX3_fedTops (qX3_fedTops σ α hS hW hU hM _ (by omega)) (by decide) rfl rfl rfl rfl (Nat.le_of_ble_eq_true rfl) ?_
  try simp only [Int.toNat_natCast]
  refine v_aload_n iX3_starvedBy_10 rfl ?_
  refine v_iload_n iX3_starvedBy_11 rfl ?_
  refine v_iconst iX3_starvedBy_12 ?_
  refine v_iload_n iX3_starvedBy_13 rfl ?_
  refine v_ishl1 iX3_starvedBy_14 (by omega) ?_
  refine v_iconst iX3_starvedBy_15 ?_
  refine v_inot iX3_starvedBy_16 (by exact Int.natCast_nonneg _) ?_
  refine v_iandn iX3_starvedBy_17 (by refine ⟨?_, ?_⟩ <;> first | exact Int.natCast_nonneg _ | omega) ?_
  simp only [Int.toNat_natCast]
  refine c_V1 (Mc := mX3_fedTops) iX3_starvedBy_18 lX3_128 kX3_fedTops (qX3_fedTops σ α hS hW hU hM _ (by omega)) (by decide) rfl rfl rfl rfl (Nat.le_of_ble_eq_true rfl) ?_
  try simp only [Int.toNat_natCast]
  refine v_iconst iX3_starvedBy_21 ?_
  refine v_inot iX3_starvedBy_22 (by exact Int.natCast_nonneg _) ?_
  refine v_iandn iX3_starvedBy_23 (by refine ⟨?_, ?_⟩ <;> first | exact Int.natCast_nonneg _ | omega) ?_
  simp only [Int.toNat_natCast]
  exact r_i iX3_starvedBy_24 rfl (⟨cf_i (by rfl), rfl, rfl⟩)

set_option maxHeartbeats 4000000 in
set_option maxRecDepth 100000 in
theorem qJ6_bitCount_0f7a4 (σ α : St) (x : Nat) (hx : x < 1024) : CF 0 mJ6_bitCount_0f7a4 [vI (x : Int)] σ α (some (vI (onesU x 10))) (σ) (α) := by
  have hb := bc_all x hx
  simp only [bcr, Bool.and_eq_true, decide_eq_true_eq] at hb
  obtain ⟨⟨⟨⟨⟨q1, q2⟩, q3⟩, q4⟩, q5⟩, q6⟩ := hb
  refine CG.of [some (vI (x : Int))] (by decide) (by simp [lvA]) rfl ?_
  refine v_iload_n iJ6_bitCount_0f7a4_0 rfl ?_
  refine v_iload_n iJ6_bitCount_0f7a4_1 rfl ?_
  refine v_iconst iJ6_bitCount_0f7a4_2 ?_
  refine v_iushr iJ6_bitCount_0f7a4_3 (by omega) (by omega) ?_
  refine v_ldcw iJ6_bitCount_0f7a4_4 gJ6_265 ?_
  refine v_iand iJ6_bitCount_0f7a4_7 (by exact ⟨div_pow_nn (by omega) _, by decide⟩) ?_
  refine v_isub iJ6_bitCount_0f7a4_8 ?_
  refine V.as (st' := [vI (bc1 x)]) ?_ rfl rfl rfl rfl
  refine v_is0 iJ6_bitCount_0f7a4_9 ⟨rfl, rfl⟩ ?_
  refine v_iload_n iJ6_bitCount_0f7a4_10 rfl ?_
  refine v_ldcw iJ6_bitCount_0f7a4_11 gJ6_266 ?_
  refine v_iand iJ6_bitCount_0f7a4_14 (by exact ⟨by omega, by decide⟩) ?_
  refine v_iload_n iJ6_bitCount_0f7a4_15 rfl ?_
  refine v_iconst iJ6_bitCount_0f7a4_16 ?_
  refine v_iushr iJ6_bitCount_0f7a4_17 (by omega) (by omega) ?_
  refine v_ldcw iJ6_bitCount_0f7a4_18 gJ6_266 ?_
  refine v_iand iJ6_bitCount_0f7a4_21 (by exact ⟨div_pow_nn (by omega) _, by decide⟩) ?_
  refine v_iadd iJ6_bitCount_0f7a4_22 ?_
  refine V.as (st' := [vI (bc2 (bc1 x))]) ?_ rfl rfl rfl rfl
  refine v_is0 iJ6_bitCount_0f7a4_23 ⟨rfl, rfl⟩ ?_
  refine v_iload_n iJ6_bitCount_0f7a4_24 rfl ?_
  refine v_iload_n iJ6_bitCount_0f7a4_25 rfl ?_
  refine v_iconst iJ6_bitCount_0f7a4_26 ?_
  refine v_iushr iJ6_bitCount_0f7a4_27 (by omega) (by omega) ?_
  refine v_iadd iJ6_bitCount_0f7a4_28 ?_
  refine v_ldcw iJ6_bitCount_0f7a4_29 gJ6_267 ?_
  refine v_iand iJ6_bitCount_0f7a4_32 (by exact ⟨Int.add_nonneg (by omega) (div_pow_nn (by omega) _), by decide⟩) ?_
  refine V.as (st' := [vI (bc3 (bc2 (bc1 x)))]) ?_ rfl rfl rfl rfl
  refine v_is0 iJ6_bitCount_0f7a4_33 ⟨rfl, rfl⟩ ?_
  refine v_iload_n iJ6_bitCount_0f7a4_34 rfl ?_
  refine v_iload_n iJ6_bitCount_0f7a4_35 rfl ?_
  refine v_bipush iJ6_bitCount_0f7a4_36 (by decide) ?_
  refine v_iushr iJ6_bitCount_0f7a4_38 (by omega) (by omega) ?_
  refine v_iadd iJ6_bitCount_0f7a4_39 ?_
  refine V.as (st' := [vI (bc4 (bc3 (bc2 (bc1 x))))]) ?_ rfl rfl rfl rfl
  refine v_is0 iJ6_bitCount_0f7a4_40 ⟨rfl, rfl⟩ ?_
  refine v_iload_n iJ6_bitCount_0f7a4_41 rfl ?_
  refine v_iload_n iJ6_bitCount_0f7a4_42 rfl ?_
  refine v_bipush iJ6_bitCount_0f7a4_43 (by decide) ?_
  refine v_iushr iJ6_bitCount_0f7a4_45 (by omega) (by omega) ?_
  refine v_iadd iJ6_bitCount_0f7a4_46 ?_
  refine V.as (st' := [vI (bc5 (bc4 (bc3 (bc2 (bc1 x)))))]) ?_ rfl rfl rfl rfl
  refine v_is0 iJ6_bitCount_0f7a4_47 ⟨rfl, rfl⟩ ?_
  refine v_iload_n iJ6_bitCount_0f7a4_48 rfl ?_
  refine v_bipush iJ6_bitCount_0f7a4_49 (by decide) ?_
  refine v_iand iJ6_bitCount_0f7a4_51 (by exact ⟨by omega, by decide⟩) ?_
  exact r_i iJ6_bitCount_0f7a4_52 rfl (⟨cf_i (by exact q6), rfl, rfl⟩)

section Mmin
variable {d : Nat} {M : Mi} {X : Cx} {σ α : St} {pc nx : Nat} {lv : List (Option AV)} {st : List AV}
theorem v_min {x y : Int} {idx : Nat} (hd : At M.2.1 pc (.invokestatic idx) 3 nx) (hlk : Cond.methodLink M.1.cls idx yJ9_min_7cf53 ∈ GW) (hd2 : 1 ≤ d) (hr : (st.map catA).sum ≤ 8) (hxy : InR x ∧ InR y) (kk : V d M X 0 0 LA σ α nx lv (vI (if y < x then y else x) :: st)) : V d M X 0 0 LA σ α pc lv (vI y :: vI x :: st) := by
  obtain ⟨hd, rfl⟩ := hd
  intro E ad0 ad p e s m below meth c H locs ls C h1 h2 hP hD hS hl
  have hk := kJ9_min_7cf53
  have e1 : (if i32 y < i32 x then i32 y else i32 x) = i32 (if y < x then y else x) := by
    by_cases h : y < x
    · rw [if_pos ((i32_lt ⟨hxy.2, hxy.1⟩).mpr h), if_pos h]
    · rw [if_neg (fun q => h ((i32_lt ⟨hxy.2, hxy.1⟩).mp q)), if_neg h]
  refine va_mmin (x := i32 x) (y := i32 y) C.1 C.2.1 (C.ml.trans hl.1.symm) C.own (C.gw hlk) (C.gw hk.2) (C.gw hk.1.2.1) (C.gw hk.1.1) (show 1 ≤ d from hd2) ?_ (Nat.zero_le _) (Nat.zero_le _) hd ?_
  · rw [catA_sum]; show _ ≤ 40 * d; omega
  · rw [e1]
    exact kk E ad0 ad p e s m below meth c H locs ls C h1 h2 hP hD hS hl
end Mmin

section Mmax
variable {d : Nat} {M : Mi} {X : Cx} {σ α : St} {pc nx : Nat} {lv : List (Option AV)} {st : List AV}
theorem v_max {x y : Int} {idx : Nat} (hd : At M.2.1 pc (.invokestatic idx) 3 nx) (hlk : Cond.methodLink M.1.cls idx yJ9_max_7cf53 ∈ GW) (hd2 : 1 ≤ d) (hr : (st.map catA).sum ≤ 8) (hxy : InR x ∧ InR y) (kk : V d M X 0 0 LA σ α nx lv (vI (if x < y then y else x) :: st)) : V d M X 0 0 LA σ α pc lv (vI y :: vI x :: st) := by
  obtain ⟨hd, rfl⟩ := hd
  intro E ad0 ad p e s m below meth c H locs ls C h1 h2 hP hD hS hl
  have hk := kJ9_max_7cf53
  have e1 : (if i32 x < i32 y then i32 y else i32 x) = i32 (if x < y then y else x) := by
    by_cases h : x < y
    · rw [if_pos ((i32_lt hxy).mpr h), if_pos h]
    · rw [if_neg (fun q => h ((i32_lt hxy).mp q)), if_neg h]
  refine va_mmax (x := i32 x) (y := i32 y) C.1 C.2.1 (C.ml.trans hl.1.symm) C.own (C.gw hlk) (C.gw hk.2) (C.gw hk.1.2.1) (C.gw hk.1.1) (show 1 ≤ d from hd2) ?_ (Nat.zero_le _) (Nat.zero_le _) hd ?_
  · rw [catA_sum]; show _ ≤ 40 * d; omega
  · rw [e1]
    exact kk E ad0 ad p e s m below meth c H locs ls C h1 h2 hP hD hS hl
end Mmax
