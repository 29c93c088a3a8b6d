set_option maxHeartbeats 4000000 in
set_option maxRecDepth 100000 in
theorem qX8_drowned (σ α : St) {n : Nat} {V B N : Nat → Int} (hR : RV σ α n V B N) (hW : WF n V B N) {a b c : Int} (hU : RU σ a b c) : CG 8 mX8_drowned [vR 95] σ α (fun r' s' a' => r' = some (vI ((msk (fun i => decide (dIn c V B N n i ≠ -1)) n : Nat) : Int)) ∧ Sc σ s' ∧ a' = α) := by
  have hn10 := hW.1
  have mt := pow10 hn10 (msk_lt (topR V B N n) n)
  refine CG.of [some (vR 95), none, none, none] (by decide) (by simp [lvA]) rfl ?_
  refine v_aload_n iX8_drowned_0 rfl ?_
  refine c_V1 (Mc := mX8_tops) iX8_drowned_1 lX8_172 kX8_tops (qX8_tops σ α hR hW) (by decide) rfl rfl rfl rfl (Nat.le_of_ble_eq_true rfl) ?_
  try simp only [Int.toNat_natCast]
  refine v_is1 iX8_drowned_4 ⟨rfl, rfl⟩ ?_
  refine v_iconst iX8_drowned_5 ?_
  refine v_is2 iX8_drowned_6 ⟨rfl, rfl⟩ ?_
  refine v_iconst iX8_drowned_7 ?_
  refine v_is3 iX8_drowned_8 ⟨rfl, rfl⟩ ?_
  have key := ind_up (P := fun k => ∀ σ1, Sc σ σ1 → VV 8 mX8_drowned [vR 95] (fun r' s' a' => r' = some (vI ((msk (fun i => decide (dIn c V B N n i ≠ -1)) n : Nat) : Int)) ∧ Sc σ s' ∧ a' = α) σ1 α 9 [some (vR 95), some (vI ((msk (topR V B N n) n : Nat) : Int)), some (vI ((msk (fun i => decide (dIn c V B N n i ≠ -1)) k : Nat) : Int)), some (vI (k : Int))] []) n ?_ 0 (by omega)
  · exact key σ (Sc.rf σ)
  intro k hk ih σ1 hs
  refine v_iload_n iX8_drowned_9 rfl ?_
  refine v_aload_n iX8_drowned_10 rfl ?_
  refine v_getI iX8_drowned_11 fX8_57 rfl rfl (by exact (hR.sc hs).1) ?_
  refine v_icmp_ge (tgt := 50) iX8_drowned_14 (by decide) (by omega) (fun h14 => ?_) (fun h14 => ?_)
  · have hkn : n = k := by omega
    subst hkn
    refine v_iload_n iX8_drowned_50 rfl ?_
    exact r_i iX8_drowned_51 rfl (⟨rfl, hs, rfl⟩)
  · have hkn : k < n := by omega
    refine v_iload_n iX8_drowned_17 rfl ?_
    refine v_iload_n iX8_drowned_18 rfl ?_
    refine v_iload_n iX8_drowned_19 rfl ?_
    refine c_S1 (Mc := mX8_has) iX8_drowned_20 lX8_151 kX8_has (qX8_has _ _ _ k (by omega) (by omega)) (by decide) rfl rfl (Nat.le_of_ble_eq_true rfl) ?_
    try simp only [Int.toNat_natCast]
    refine v_bif_eq (tgt := 41) iX8_drowned_23 (by decide) (fun h23 => ?_) (fun h23 => ?_)
    · try simp only [Int.toNat_natCast] at h23
      refine v_iconst iX8_drowned_41 ?_
      refine v_ior iX8_drowned_42 (by refine ⟨?_, ?_⟩ <;> first | exact Int.natCast_nonneg _ | omega) ?_
      refine v_is2 iX8_drowned_43 ⟨rfl, rfl⟩ ?_
      refine v_in3 iX8_drowned_44 ⟨rfl, rfl⟩ ?_
      refine v_goto (tgt := 9) iX8_drowned_47 (by decide) ?_
      refine (ih (by omega) _ (by assumption)).asw rfl rfl ⟨rfl, rfl, cf_i ?_, rfl, trivial⟩ rfl
      first
        | (rw [msk, dIn, if_pos h23, decide_eq_true h32]; simp only [Int.toNat_natCast, if_true]; done)
        | (rw [msk, dIn, if_pos h23, decide_eq_false (by rw [h32]; decide)]; simp; done)
        | (rw [hasB_msk hkn] at h23; rw [msk, if_neg (by simp [dIn, h23])]; simp; done)
    · try simp only [Int.toNat_natCast] at h23
      rw [hasB_msk hkn] at h23
      refine v_aload_n iX8_drowned_26 rfl ?_
      refine v_iload_n iX8_drowned_27 rfl ?_
      refine c_VQ (Mc := mX8_drownedIn) iX8_drowned_28 lX8_182 kX8_drownedIn (qX8_drownedIn σ1 α (hR.sc hs) hW (hU.sc hs) k (by omega)) (by decide) rfl rfl rfl rfl (Nat.le_of_ble_eq_true rfl) ?_
      rintro σ2 a2 ⟨hs2, ha2⟩
      rw [ha2]
      replace hs2 := hs.tr hs2
      have hdr := drwR_r c V B N n k
      try simp only [Int.toNat_natCast]
      refine v_iconst iX8_drowned_31 ?_
      refine v_icmp_eq (tgt := 41) iX8_drowned_32 (by decide) (by omega) (fun h32 => ?_) (fun h32 => ?_)
      · refine v_iconst iX8_drowned_41 ?_
        refine v_ior iX8_drowned_42 (by refine ⟨?_, ?_⟩ <;> first | exact Int.natCast_nonneg _ | omega) ?_
        refine v_is2 iX8_drowned_43 ⟨rfl, rfl⟩ ?_
        refine v_in3 iX8_drowned_44 ⟨rfl, rfl⟩ ?_
        refine v_goto (tgt := 9) iX8_drowned_47 (by decide) ?_
        refine (ih (by omega) _ (by assumption)).asw rfl rfl ⟨rfl, rfl, cf_i ?_, rfl, trivial⟩ rfl
        first
          | (rw [msk, dIn, if_pos h23, decide_eq_true h32]; simp only [Int.toNat_natCast, if_true]; done)
          | (rw [msk, dIn, if_pos h23, decide_eq_false (by rw [h32]; decide)]; simp; done)
          | (rw [hasB_msk hkn] at h23; rw [msk, if_neg (by simp [dIn, h23])]; simp; done)
      · refine v_iconst iX8_drowned_35 ?_
        refine v_iload_n iX8_drowned_36 rfl ?_
        refine v_ishl1 iX8_drowned_37 (by omega) ?_
        refine v_goto (tgt := 42) iX8_drowned_38 (by decide) ?_
        refine v_ior iX8_drowned_42 (by refine ⟨?_, ?_⟩ <;> first | exact Int.natCast_nonneg _ | omega) ?_
        refine v_is2 iX8_drowned_43 ⟨rfl, rfl⟩ ?_
        refine v_in3 iX8_drowned_44 ⟨rfl, rfl⟩ ?_
        refine v_goto (tgt := 9) iX8_drowned_47 (by decide) ?_
        refine (ih (by omega) _ (by assumption)).asw rfl rfl ⟨rfl, rfl, cf_i ?_, rfl, trivial⟩ rfl
        first
          | (rw [msk, dIn, if_pos h23, decide_eq_true h32]; simp only [Int.toNat_natCast, if_true]; done)
          | (rw [msk, dIn, if_pos h23, decide_eq_false (by rw [h32]; decide)]; simp; done)
          | (rw [hasB_msk hkn] at h23; rw [msk, if_neg (by simp [dIn, h23])]; simp; done)

set_option maxHeartbeats 4000000 in
set_option maxRecDepth 100000 in
theorem qX8_allThings (σ α : St) (hS : ∀ t, t < 3 → α 102 t ≤ 1000) (hS0 : ∀ t, t < 3 → -1 ≤ α 102 t) : CF 0 mX8_allThings [vR 95] σ α (some (vI (atU (α 102) 3))) (σ) (α) := by
  refine CG.of [some (vR 95), none, none] (by decide) (by simp [lvA]) rfl ?_
  refine v_iconst iX8_allThings_0 ?_
  refine v_is1 iX8_allThings_1 ⟨rfl, rfl⟩ ?_
  refine v_iconst iX8_allThings_2 ?_
  refine v_is2 iX8_allThings_3 ⟨rfl, rfl⟩ ?_
  refine ind_up (P := fun k => VV 0 mX8_allThings [vR 95] (fun r' s' a' => r' = some (vI (atU (α 102) 3)) ∧ s' = σ ∧ a' = α) σ α 4 [some (vR 95), some (vI (atU (α 102) k)), some (vI (k : Int))] []) 3 ?_ 0 (by omega)
  intro k hk ih
  refine v_iload_n iX8_allThings_4 rfl ?_
  refine v_iconst iX8_allThings_5 ?_
  refine v_icmp_ge (tgt := 37) iX8_allThings_6 (by decide) (by omega) (fun h6 => ?_) (fun h6 => ?_)
  · have hkn : k = 3 := by omega
    subst hkn
    refine v_iload_n iX8_allThings_37 rfl ?_
    exact r_i iX8_allThings_38 rfl (⟨cf_i (by rfl), rfl, rfl⟩)
  · have hak := atU_r hS k (by omega)
    have hsk := hS k (by omega)
    have hsl := hS0 k (by omega)
    refine v_iload_n iX8_allThings_9 rfl ?_
    refine v_aload_n iX8_allThings_10 rfl ?_
    refine v_getR iX8_allThings_11 fX8_39 rfl rfl ?_
    refine v_iload_n iX8_allThings_14 rfl ?_
    refine v_iaload iX8_allThings_15 rfl (by omega) (by exact (show _ = α 102 k by rw [Int.toNat_natCast])) ?_
    refine v_if_ge (tgt := 23) iX8_allThings_16 (by decide) (by omega) (fun h16 => ?_) (fun h16 => ?_)
    · refine v_aload_n iX8_allThings_23 rfl ?_
      refine v_getR iX8_allThings_24 fX8_39 rfl rfl ?_
      refine v_iload_n iX8_allThings_27 rfl ?_
      refine v_iaload iX8_allThings_28 rfl (by omega) (by exact (show _ = α 102 k by rw [Int.toNat_natCast])) ?_
      refine v_iadd iX8_allThings_29 ?_
      refine v_is1 iX8_allThings_30 ⟨rfl, rfl⟩ ?_
      refine v_in2 iX8_allThings_31 ⟨rfl, rfl⟩ ?_
      refine v_goto (tgt := 4) iX8_allThings_34 (by decide) ?_
      refine (ih (by omega)).asw rfl rfl ⟨rfl, cf_i ?_, rfl, trivial⟩ rfl
      first
        | (rw [atU, if_neg (by omega)]; done)
        | (rw [atU, if_pos (by omega)]; done)
    · refine v_iconst iX8_allThings_19 ?_
      refine v_goto (tgt := 29) iX8_allThings_20 (by decide) ?_
      refine v_iadd iX8_allThings_29 ?_
      refine v_is1 iX8_allThings_30 ⟨rfl, rfl⟩ ?_
      refine v_in2 iX8_allThings_31 ⟨rfl, rfl⟩ ?_
      refine v_goto (tgt := 4) iX8_allThings_34 (by decide) ?_
      refine (ih (by omega)).asw rfl rfl ⟨rfl, cf_i ?_, rfl, trivial⟩ rfl
      first
        | (rw [atU, if_neg (by omega)]; done)
        | (rw [atU, if_pos (by omega)]; done)

set_option maxHeartbeats 4000000 in
set_option maxRecDepth 100000 in
theorem qX8_section (σ α : St) {n : Nat} {V B N : Nat → Int} (hR : RV σ α n V B N) (hW : WF n V B N) (i : Nat) (hi : i < n) (f : Int) (hf : InR f) : CG 5 mX8_section [vR 95, vI (i : Int), vI f] σ α (fun r' s' a' => r' = some (vI (secU (V i) (α 98 i) (α 96 (19 + i)) (N i) (B i) (topR V B N n i) (clm V B N n 10 i).1 (clm V B N n 10 i).2 f)) ∧ Sc σ s' ∧ a' = α) := by
  have hn10 := hW.1
  have hwi := hW.2 i hi
  have hri := hR.2 i hi
  have hg := gcd_le (x := V i) (y := B i) (by omega)
  refine CG.of [some (vR 95), some (vI (i : Int)), some (vI f)] (by decide) (by simp [lvA]) rfl ?_
  refine v_aload_n iX8_section_0 rfl ?_
  refine v_iload_n iX8_section_1 rfl ?_
  refine c_V1 (Mc := mX8_isSection) iX8_section_2 lX8_204 kX8_isSection (qX8_isSection σ α n i (by omega) hR.1 hn10) (by decide) rfl rfl rfl rfl (Nat.le_of_ble_eq_true rfl) ?_
  try simp only [Int.toNat_natCast]
  refine v_bif_ne (tgt := 11) iX8_section_5 (by decide) (fun h5 => ?_) (fun h5 => (by exfalso; simp at h5; omega))
  refine v_iload_n iX8_section_11 rfl ?_
  rcases (show f = 0 ∨ f = 1 ∨ f = 2 ∨ f = 3 ∨ f = 4 ∨ f = 5 ∨ f = 6 ∨ f = 7 ∨ f = 8 ∨ (f < 0 ∨ 8 < f) by omega) with rfl | rfl | rfl | rfl | rfl | rfl | rfl | rfl | rfl | hsw
  · refine v_tabIn (tgt := 64) iX8_section_12 (by decide) (by decide) rfl (by decide) ?_
    refine v_aload_n iX8_section_64 rfl ?_
    refine v_getR iX8_section_65 fX8_13 rfl rfl ?_
    refine v_iload_n iX8_section_68 rfl ?_
    refine v_iaload iX8_section_69 rfl (by omega) (by exact (show _ = V i by rw [Int.toNat_natCast]; exact hri.1)) ?_
    exact r_i iX8_section_70 rfl (⟨rfl, Sc.rf σ, rfl⟩)
  · refine v_tabIn (tgt := 71) iX8_section_12 (by decide) (by decide) rfl (by decide) ?_
    refine v_aload_n iX8_section_71 rfl ?_
    refine v_getR iX8_section_72 fX8_16 rfl rfl ?_
    refine v_iload_n iX8_section_75 rfl ?_
    refine v_iaload iX8_section_76 rfl (by omega) (by exact (show _ = α 98 i by rw [Int.toNat_natCast])) ?_
    exact r_i iX8_section_77 rfl (⟨rfl, Sc.rf σ, rfl⟩)
  · refine v_tabIn (tgt := 78) iX8_section_12 (by decide) (by decide) rfl (by decide) ?_
    refine v_aload_n iX8_section_78 rfl ?_
    refine v_getR iX8_section_79 fX8_7 rfl rfl ?_
    refine v_bipush iX8_section_82 (by decide) ?_
    refine v_iload_n iX8_section_84 rfl ?_
    refine v_iadd iX8_section_85 ?_
    refine v_iaload iX8_section_86 rfl (by omega) (by exact (show _ = α 96 (19 + i) by rw [show ((19 : Int) + (i : Int)).toNat = 19 + i by omega])) ?_
    exact r_i iX8_section_87 rfl (⟨rfl, Sc.rf σ, rfl⟩)
  · refine v_tabIn (tgt := 88) iX8_section_12 (by decide) (by decide) rfl (by decide) ?_
    refine v_aload_n iX8_section_88 rfl ?_
    refine v_getR iX8_section_89 fX8_19 rfl rfl ?_
    refine v_iload_n iX8_section_92 rfl ?_
    refine v_iaload iX8_section_93 rfl (by omega) (by exact (show _ = N i by rw [Int.toNat_natCast]; exact hri.2.2)) ?_
    exact r_i iX8_section_94 rfl (⟨rfl, Sc.rf σ, rfl⟩)
  · refine v_tabIn (tgt := 95) iX8_section_12 (by decide) (by decide) rfl (by decide) ?_
    refine v_aload_n iX8_section_95 rfl ?_
    refine v_getR iX8_section_96 fX8_13 rfl rfl ?_
    refine v_iload_n iX8_section_99 rfl ?_
    refine v_iaload iX8_section_100 rfl (by omega) (by exact (show _ = V i by rw [Int.toNat_natCast]; exact hri.1)) ?_
    refine v_aload_n iX8_section_101 rfl ?_
    refine v_getR iX8_section_102 fX8_13 rfl rfl ?_
    refine v_iload_n iX8_section_105 rfl ?_
    refine v_iaload iX8_section_106 rfl (by omega) (by exact (show _ = V i by rw [Int.toNat_natCast]; exact hri.1)) ?_
    refine v_aload_n iX8_section_107 rfl ?_
    refine v_iload_n iX8_section_108 rfl ?_
    refine c_V1 (Mc := mX8_skinOf) iX8_section_109 lX8_147 kX8_skinOf (qX8_skinOf _ _ _ (by omega)) (by decide) rfl rfl rfl rfl (Nat.le_of_ble_eq_true rfl) ?_
    try simp only [Int.toNat_natCast]
    rw [hri.2.1]
    refine c_S1 (Mc := mX8_divisor) iX8_section_112 lX8_207 kX8_divisor (qX8_divisor _ _ _ _ (by omega) (by omega)) (by decide) rfl rfl (Nat.le_of_ble_eq_true rfl) ?_
    try simp only [Int.toNat_natCast]
    refine v_idiv iX8_section_115 (by omega) (by omega) ?_
    exact r_i iX8_section_116 rfl (⟨rfl, Sc.rf σ, rfl⟩)
  · refine v_tabIn (tgt := 117) iX8_section_12 (by decide) (by decide) rfl (by decide) ?_
    refine v_aload_n iX8_section_117 rfl ?_
    refine v_iload_n iX8_section_118 rfl ?_
    refine c_V1 (Mc := mX8_skinOf) iX8_section_119 lX8_147 kX8_skinOf (qX8_skinOf _ _ _ (by omega)) (by decide) rfl rfl rfl rfl (Nat.le_of_ble_eq_true rfl) ?_
    try simp only [Int.toNat_natCast]
    rw [hri.2.1]
    refine v_aload_n iX8_section_122 rfl ?_
    refine v_getR iX8_section_123 fX8_13 rfl rfl ?_
    refine v_iload_n iX8_section_126 rfl ?_
    refine v_iaload iX8_section_127 rfl (by omega) (by exact (show _ = V i by rw [Int.toNat_natCast]; exact hri.1)) ?_
    refine v_aload_n iX8_section_128 rfl ?_
    refine v_iload_n iX8_section_129 rfl ?_
    refine c_V1 (Mc := mX8_skinOf) iX8_section_130 lX8_147 kX8_skinOf (qX8_skinOf _ _ _ (by omega)) (by decide) rfl rfl rfl rfl (Nat.le_of_ble_eq_true rfl) ?_
    try simp only [Int.toNat_natCast]
    rw [hri.2.1]
    refine c_S1 (Mc := mX8_divisor) iX8_section_133 lX8_207 kX8_divisor (qX8_divisor _ _ _ _ (by omega) (by omega)) (by decide) rfl rfl (Nat.le_of_ble_eq_true rfl) ?_
    try simp only [Int.toNat_natCast]
    refine v_idiv iX8_section_136 (by omega) (by omega) ?_
    exact r_i iX8_section_137 rfl (⟨rfl, Sc.rf σ, rfl⟩)
  · refine v_tabIn (tgt := 138) iX8_section_12 (by decide) (by decide) rfl (by decide) ?_
    refine v_aload_n iX8_section_138 rfl ?_
    refine v_iload_n iX8_section_139 rfl ?_
    refine c_V1 (Mc := mX8_isTop) iX8_section_140 lX8_160 kX8_isTop (qX8_isTop σ α hR hW i (by omega)) (by decide) rfl rfl rfl rfl (Nat.le_of_ble_eq_true rfl) ?_
    try simp only [Int.toNat_natCast]
    refine v_bif_eq (tgt := 150) iX8_section_143 (by decide) (fun h143 => ?_) (fun h143 => ?_)
    · try simp only [Int.toNat_natCast] at h143
      refine v_iconst iX8_section_150 ?_
      exact r_i iX8_section_151 rfl (⟨cf_i (by simp [secU, h143, b2i]), Sc.rf σ, rfl⟩)
    · try simp only [Int.toNat_natCast] at h143
      refine v_iconst iX8_section_146 ?_
      refine v_goto (tgt := 151) iX8_section_147 (by decide) ?_
      exact r_i iX8_section_151 rfl (⟨cf_i (by simp [secU, h143, b2i]), Sc.rf σ, rfl⟩)
  · refine v_tabIn (tgt := 152) iX8_section_12 (by decide) (by decide) rfl (by decide) ?_
    refine v_aload_n iX8_section_152 rfl ?_
    refine v_iload_n iX8_section_153 rfl ?_
    refine c_V1 (Mc := mX8_topOf) iX8_section_154 lX8_166 kX8_topOf (qX8_topOf σ α hR hW i (by omega)) (by decide) rfl rfl rfl rfl (Nat.le_of_ble_eq_true rfl) ?_
    try simp only [Int.toNat_natCast]
    exact r_i iX8_section_157 rfl (⟨rfl, ⟨_, rfl⟩, rfl⟩)
  · refine v_tabIn (tgt := 158) iX8_section_12 (by decide) (by decide) rfl (by decide) ?_
    refine v_aload_n iX8_section_158 rfl ?_
    refine v_iload_n iX8_section_159 rfl ?_
    refine c_V1 (Mc := mX8_topOf) iX8_section_160 lX8_166 kX8_topOf (qX8_topOf σ α hR hW i (by omega)) (by decide) rfl rfl rfl rfl (Nat.le_of_ble_eq_true rfl) ?_
    try simp only [Int.toNat_natCast]
    refine v_pop iX8_section_163 (by intro z h; cases h) ?_
    refine v_aload_n iX8_section_164 rfl ?_
    refine v_getI iX8_section_165 fX8_163 rfl rfl (by exact (show _ = ((clm V B N n 10 i).2 : Int) by rw [uS_eq])) ?_
    exact r_i iX8_section_168 rfl (⟨rfl, ⟨_, rfl⟩, rfl⟩)
  · refine v_tabOut (tgt := 169) iX8_section_12 (by omega) hsw (by decide) ?_
    refine v_bipush iX8_section_169 (by decide) ?_
    exact r_i iX8_section_171 rfl (⟨cf_i (secU_o hsw).symm, Sc.rf σ, rfl⟩)

set_option maxHeartbeats 4000000 in
set_option maxRecDepth 100000 in
theorem qX8_section_o (σ α : St) {n : Nat} (hn : σ 95 1 = (n : Int)) (hn10 : n ≤ 10) (i : Int) (hi : InR i) (hi2 : i < 0 ∨ (n : Int) ≤ i) (f : Int) : CF 2 mX8_section [vR 95, vI i, vI f] σ α (some (vI (-2))) (σ) (α) := by
  refine CG.of [some (vR 95), some (vI i), some (vI f)] (by decide) (by simp [lvA]) rfl ?_
  refine v_aload_n iX8_section_0 rfl ?_
  refine v_iload_n iX8_section_1 rfl ?_
  refine c_V1 (Mc := mX8_isSection) iX8_section_2 lX8_204 kX8_isSection (qX8_isSection σ α n i hi hn hn10) (by decide) rfl rfl rfl rfl (Nat.le_of_ble_eq_true rfl) ?_
  try simp only [Int.toNat_natCast]
  refine v_bif_ne (tgt := 11) iX8_section_5 (by decide) (fun h5 => (by exfalso; simp at h5; omega)) (fun h5 => ?_)
  refine v_bipush iX8_section_8 (by decide) ?_
  exact r_i iX8_section_10 rfl (⟨cf_i (by rfl), rfl, rfl⟩)

set_option maxHeartbeats 4000000 in
set_option maxRecDepth 100000 in
theorem qX8_top_o (σ α : St) {n : Nat} (hn : σ 95 1 = (n : Int)) (hn10 : n ≤ 10) (i : Int) (hi : InR i) (hi2 : i < 0 ∨ (n : Int) ≤ i) (f : Int) : CF 2 mX8_top [vR 95, vI i, vI f] σ α (some (vI (-2))) (σ) (α) := by
  refine CG.of [some (vR 95), some (vI i), some (vI f), none] (by decide) (by simp [lvA]) rfl ?_
  refine v_aload_n iX8_top_0 rfl ?_
  refine v_iload_n iX8_top_1 rfl ?_
  refine c_V1 (Mc := mX8_isSection) iX8_top_2 lX8_204 kX8_isSection (qX8_isSection σ α n i hi hn hn10) (by decide) rfl rfl rfl rfl (Nat.le_of_ble_eq_true rfl) ?_
  try simp only [Int.toNat_natCast]
  refine v_bif_ne (tgt := 11) iX8_top_5 (by decide) (fun h5 => (by exfalso; simp at h5; omega)) (fun h5 => ?_)
  refine v_bipush iX8_top_8 (by decide) ?_
  exact r_i iX8_top_10 rfl (⟨cf_i (by rfl), rfl, rfl⟩)

set_option maxHeartbeats 4000000 in
set_option maxRecDepth 100000 in
theorem qX8_top (σ α : St) {n : Nat} {V B N : Nat → Int} (hR : RV σ α n V B N) (hW : WF n V B N) {a b c : Int} (hU : RU σ a b c) {m : Nat} (hM : RR α n m) (i : Nat) (hi : i < n) (f : Int) (hf : InR f) : CG 10 mX8_top [vR 95, vI (i : Int), vI f] σ α (fun r' s' a' => r' = some (vI (if 0 ≤ f ∧ f ≤ 4 then (if topR V B N n i then topU ((msk (fun j => decide (((clm V B N n 10 j).1 : Int) = i)) n : Nat) : Int) (drwR c V B N n i) (hds c V B N n i : Int) (fdrR a b V B (fun i => (hds c V B N n i : Int)) (fun r => α 96 (1 + r)) (fun r => α 96 (7 + r)) (fun r => α 96 (13 + r)) m (2 ^ m - 1 : Nat) i) f else -4) else -3)) ∧ Sc σ s' ∧ Hd α a') := by
  have hn10 := hW.1
  have hm6 := hM.2.1
  have hp := pw6 hm6
  have hfr := fdrR_r a b V B (fun i => (hds c V B N n i : Int)) (fun r => α 96 (1 + r)) (fun r => α 96 (7 + r)) (fun r => α 96 (13 + r)) m (2 ^ m - 1 : Nat) i
  refine CG.of [some (vR 95), some (vI (i : Int)), some (vI f), none] (by decide) (by simp [lvA]) rfl ?_
  refine v_aload_n iX8_top_0 rfl ?_
  refine v_iload_n iX8_top_1 rfl ?_
  refine c_V1 (Mc := mX8_isSection) iX8_top_2 lX8_204 kX8_isSection (qX8_isSection σ α n i (by omega) hR.1 hn10) (by decide) rfl rfl rfl rfl (Nat.le_of_ble_eq_true rfl) ?_
  try simp only [Int.toNat_natCast]
  refine v_bif_ne (tgt := 11) iX8_top_5 (by decide) (fun h5 => ?_) (fun h5 => (by exfalso; simp at h5; omega))
  refine v_iload_n iX8_top_11 rfl ?_
  refine v_i2l iX8_top_12 (by omega) ?_
  refine v_lconst (z := 0) iX8_top_13 rfl ?_
  refine v_ldc2 iX8_top_14 gX8_210 ?_
  refine c_S1 (Mc := mX8_in) iX8_top_17 lX8_62 kX8_in (qX8_in _ _ _ _ _ hf (by decide) (by decide)) (by decide) rfl rfl (Nat.le_of_ble_eq_true rfl) ?_
  try simp only [Int.toNat_natCast]
  refine v_bif_ne (tgt := 26) iX8_top_20 (by decide) (fun h20 => ?_) (fun h20 => ?_)
  · try simp only [Int.toNat_natCast] at h20
    simp only [decide_eq_true_eq] at h20
    refine v_aload_n iX8_top_26 rfl ?_
    refine v_iload_n iX8_top_27 rfl ?_
    refine c_V1 (Mc := mX8_isTop) iX8_top_28 lX8_160 kX8_isTop (qX8_isTop σ α hR hW i (by omega)) (by decide) rfl rfl rfl rfl (Nat.le_of_ble_eq_true rfl) ?_
    try simp only [Int.toNat_natCast]
    refine v_bif_ne (tgt := 37) iX8_top_31 (by decide) (fun h31 => ?_) (fun h31 => ?_)
    · try simp only [Int.toNat_natCast] at h31
      refine v_aload_n iX8_top_37 rfl ?_
      refine c_VN (Mc := mX8_layHeads) iX8_top_38 lX8_195 kX8_layHeads (qX8_layHeads σ α hR hW hU) (by decide) rfl rfl rfl rfl (Nat.le_of_ble_eq_true rfl) ?_
      rintro σ1 a1 ⟨hs1, ha1⟩
      replace ha1 : a1 = LH c V B N n α := ha1
      rw [ha1]
      try simp only [Int.toNat_natCast]
      refine v_aload_n iX8_top_41 rfl ?_
      refine v_iload_n iX8_top_42 rfl ?_
      refine v_aload_n iX8_top_43 rfl ?_
      refine c_V1 (Mc := mX8_allRisers) iX8_top_44 lX8_198 kX8_allRisers (qX8_allRisers _ _ (hM.lh _)) (by decide) rfl rfl rfl rfl (Nat.le_of_ble_eq_true rfl) ?_
      try simp only [Int.toNat_natCast]
      rw [show ((2 ^ m : Nat) - 1 : Int) = ((2 ^ m - 1 : Nat) : Int) by omega]
      refine c_V1 (Mc := mX8_feeder) iX8_top_47 lX8_192 kX8_feeder (LH_fdr (hR.sc hs1) hW (hU.sc hs1) hM i hi _ (by omega)) (by decide) rfl rfl rfl rfl (Nat.le_of_ble_eq_true rfl) ?_
      try simp only [Int.toNat_natCast]
      refine v_is3 iX8_top_50 ⟨rfl, rfl⟩ ?_
      refine v_iload_n iX8_top_51 rfl ?_
      refine v_if_ne (tgt := 63) iX8_top_52 (by decide) (by omega) (fun h52 => ?_) (fun h52 => ?_)
      · refine v_iload_n iX8_top_63 rfl ?_
        refine v_iconst iX8_top_64 ?_
        refine v_icmp_ne (tgt := 76) iX8_top_65 (by decide) (by omega) (fun h65 => ?_) (fun h65 => ?_)
        · refine v_iload_n iX8_top_76 rfl ?_
          refine v_iconst iX8_top_77 ?_
          refine v_icmp_ne (tgt := 90) iX8_top_78 (by decide) (by omega) (fun h78 => ?_) (fun h78 => ?_)
          · refine v_iload_n iX8_top_90 rfl ?_
            refine v_iconst iX8_top_91 ?_
            refine v_icmp_ne (tgt := 99) iX8_top_92 (by decide) (by omega) (fun h92 => ?_) (fun h92 => ?_)
            · refine v_iload_n iX8_top_99 rfl ?_
              refine v_iconst iX8_top_100 ?_
              refine v_icmp_ne (tgt := 108) iX8_top_101 (by decide) (by omega) (fun h101 => ?_) (fun h101 => ?_)
              · refine v_iconst iX8_top_108 ?_
                exact r_i iX8_top_109 rfl (by first | exact ⟨cf_i (by rw [if_pos h20, if_pos h31]; subst_vars; rfl), by assumption, Hd.lh c V B N n α⟩ | exact ⟨cf_i (by rw [if_pos h20, if_pos h31, topU, if_neg (by omega), if_neg (by omega), if_neg (by omega), if_neg (by omega), if_pos h101]), by assumption, Hd.lh c V B N n α⟩ | exact ⟨cf_i (by rw [if_pos h20, if_pos h31, topU, if_neg (by omega), if_neg (by omega), if_neg (by omega), if_neg (by omega), if_neg h101]), by assumption, Hd.lh c V B N n α⟩)
              · refine v_iconst iX8_top_104 ?_
                refine v_goto (tgt := 109) iX8_top_105 (by decide) ?_
                exact r_i iX8_top_109 rfl (by first | exact ⟨cf_i (by rw [if_pos h20, if_pos h31]; subst_vars; rfl), by assumption, Hd.lh c V B N n α⟩ | exact ⟨cf_i (by rw [if_pos h20, if_pos h31, topU, if_neg (by omega), if_neg (by omega), if_neg (by omega), if_neg (by omega), if_pos h101]), by assumption, Hd.lh c V B N n α⟩ | exact ⟨cf_i (by rw [if_pos h20, if_pos h31, topU, if_neg (by omega), if_neg (by omega), if_neg (by omega), if_neg (by omega), if_neg h101]), by assumption, Hd.lh c V B N n α⟩)
            · refine v_iload_n iX8_top_95 rfl ?_
              refine v_goto (tgt := 109) iX8_top_96 (by decide) ?_
              exact r_i iX8_top_109 rfl (by first | exact ⟨cf_i (by rw [if_pos h20, if_pos h31]; subst_vars; rfl), by assumption, Hd.lh c V B N n α⟩ | exact ⟨cf_i (by rw [if_pos h20, if_pos h31, topU, if_neg (by omega), if_neg (by omega), if_neg (by omega), if_neg (by omega), if_pos h101]), by assumption, Hd.lh c V B N n α⟩ | exact ⟨cf_i (by rw [if_pos h20, if_pos h31, topU, if_neg (by omega), if_neg (by omega), if_neg (by omega), if_neg (by omega), if_neg h101]), by assumption, Hd.lh c V B N n α⟩)
          · refine v_aload_n iX8_top_81 rfl ?_
            refine v_getR iX8_top_82 fX8_54 rfl rfl ?_
            refine v_iload_n iX8_top_85 rfl ?_
            refine v_iaload iX8_top_86 rfl (by omega) (by exact (show _ = (hds c V B N n i : Int) by rw [Int.toNat_natCast]; exact LH_at _ _ _ _ _ _ hi)) ?_
            refine v_goto (tgt := 109) iX8_top_87 (by decide) ?_
            exact r_i iX8_top_109 rfl (by first | exact ⟨cf_i (by rw [if_pos h20, if_pos h31]; subst_vars; rfl), by assumption, Hd.lh c V B N n α⟩ | exact ⟨cf_i (by rw [if_pos h20, if_pos h31, topU, if_neg (by omega), if_neg (by omega), if_neg (by omega), if_neg (by omega), if_pos h101]), by assumption, Hd.lh c V B N n α⟩ | exact ⟨cf_i (by rw [if_pos h20, if_pos h31, topU, if_neg (by omega), if_neg (by omega), if_neg (by omega), if_neg (by omega), if_neg h101]), by assumption, Hd.lh c V B N n α⟩)
        · refine v_aload_n iX8_top_68 rfl ?_
          refine v_iload_n iX8_top_69 rfl ?_
          refine c_VQ (Mc := mX8_drownedIn) iX8_top_70 lX8_182 kX8_drownedIn (qX8_drownedIn σ1 _ ((hR.sc hs1).lh _) hW (hU.sc hs1) i hi) (by decide) rfl rfl rfl rfl (Nat.le_of_ble_eq_true rfl) ?_
          rintro σ2 a2 ⟨hs2, ha2⟩
          rw [ha2]
          replace hs2 := hs1.tr hs2
          try simp only [Int.toNat_natCast]
          refine v_goto (tgt := 109) iX8_top_73 (by decide) ?_
          exact r_i iX8_top_109 rfl (by first | exact ⟨cf_i (by rw [if_pos h20, if_pos h31]; subst_vars; rfl), by assumption, Hd.lh c V B N n α⟩ | exact ⟨cf_i (by rw [if_pos h20, if_pos h31, topU, if_neg (by omega), if_neg (by omega), if_neg (by omega), if_neg (by omega), if_pos h101]), by assumption, Hd.lh c V B N n α⟩ | exact ⟨cf_i (by rw [if_pos h20, if_pos h31, topU, if_neg (by omega), if_neg (by omega), if_neg (by omega), if_neg (by omega), if_neg h101]), by assumption, Hd.lh c V B N n α⟩)
      · refine v_aload_n iX8_top_55 rfl ?_
        refine v_iload_n iX8_top_56 rfl ?_
        refine c_VQ (Mc := mX8_basin) iX8_top_57 lX8_169 kX8_basin (qX8_basin σ1 _ ((hR.sc hs1).lh _) hW i (by omega)) (by decide) rfl rfl rfl rfl (Nat.le_of_ble_eq_true rfl) ?_
        rintro σ2 a2 ⟨hs2, ha2⟩
        rw [ha2]
        replace hs2 := hs1.tr hs2
        try simp only [Int.toNat_natCast]
        refine v_goto (tgt := 109) iX8_top_60 (by decide) ?_
        exact r_i iX8_top_109 rfl (by first | exact ⟨cf_i (by rw [if_pos h20, if_pos h31]; subst_vars; rfl), by assumption, Hd.lh c V B N n α⟩ | exact ⟨cf_i (by rw [if_pos h20, if_pos h31, topU, if_neg (by omega), if_neg (by omega), if_neg (by omega), if_neg (by omega), if_pos h101]), by assumption, Hd.lh c V B N n α⟩ | exact ⟨cf_i (by rw [if_pos h20, if_pos h31, topU, if_neg (by omega), if_neg (by omega), if_neg (by omega), if_neg (by omega), if_neg h101]), by assumption, Hd.lh c V B N n α⟩)
    · try simp only [Int.toNat_natCast] at h31
      refine v_bipush iX8_top_34 (by decide) ?_
      exact r_i iX8_top_36 rfl (⟨cf_i (by rw [if_pos h20, if_neg (by rw [h31]; decide)]), Sc.rf σ, Hd.rf α⟩)
  · try simp only [Int.toNat_natCast] at h20
    simp only [decide_eq_false_iff_not] at h20
    refine v_bipush iX8_top_23 (by decide) ?_
    exact r_i iX8_top_25 rfl (⟨cf_i (by rw [if_neg h20]), Sc.rf σ, Hd.rf α⟩)

set_option maxHeartbeats 4000000 in
set_option maxRecDepth 100000 in
theorem qX8_riser (σ α : St) {n : Nat} {V B N : Nat → Int} (hR : RV σ α n V B N) (hW : WF n V B N) {a b c : Int} (hU : RU σ a b c) {m : Nat} (hM : RR α n m) (r : Nat) (hr : r < m) (f : Int) (hf : InR f) : CG 11 mX8_riser [vR 95, vI (r : Int), vI f] σ α (fun r' s' a' => r' = some (vI (risU (α 96 (1 + r)) (α 96 (7 + r)) (α 96 (13 + r)) (((fdS a b c V B N n (α 96) m (2 ^ m - 1 : Nat)) ^^^ ((fdS a b c V B N n (α 96) m (2 ^ m - 1 : Nat)) &&& (fdS a b c V B N n (α 96) m (((2 ^ m - 1) ^^^ ((2 ^ m - 1) &&& 2 ^ r) : Nat)))) : Nat) : Int) f)) ∧ Sc σ s' ∧ Hd α a') := by
  have hm6 := hM.2.1
  have hp := pw6 hm6
  have hx : ((2 ^ m - 1) ^^^ ((2 ^ m - 1) &&& 2 ^ r) : Nat) < 2 ^ 6 := by
    have h1 : 2 ^ m - 1 < 2 ^ 6 := by omega
    exact Nat.xor_lt_two_pow h1 (Nat.lt_of_le_of_lt Nat.and_le_left h1)
  refine CG.of [some (vR 95), some (vI (r : Int)), some (vI f)] (by decide) (by simp [lvA]) rfl ?_
  refine v_aload_n iX8_riser_0 rfl ?_
  refine v_iload_n iX8_riser_1 rfl ?_
  refine c_V1 (Mc := mX8_isRiser) iX8_riser_2 lX8_212 kX8_isRiser (qX8_isRiser σ α hM r (by omega)) (by decide) rfl rfl rfl rfl (Nat.le_of_ble_eq_true rfl) ?_
  try simp only [Int.toNat_natCast]
  refine v_bif_ne (tgt := 11) iX8_riser_5 (by decide) (fun h5 => ?_) (fun h5 => (by exfalso; simp at h5; omega))
  refine v_iload_n iX8_riser_11 rfl ?_
  rcases (show f = 0 ∨ f = 1 ∨ f = 2 ∨ f = 3 ∨ (f < 0 ∨ 3 < f) by omega) with rfl | rfl | rfl | rfl | hsw
  · refine v_tabIn (tgt := 44) iX8_riser_12 (by decide) (by decide) rfl (by decide) ?_
    refine v_aload_n iX8_riser_44 rfl ?_
    refine v_getR iX8_riser_45 fX8_7 rfl rfl ?_
    refine v_iconst iX8_riser_48 ?_
    refine v_iload_n iX8_riser_49 rfl ?_
    refine v_iadd iX8_riser_50 ?_
    refine v_iaload iX8_riser_51 rfl (by omega) (by exact (show _ = α 96 (1 + r) by rw [show ((1 : Int) + (r : Int)).toNat = 1 + r by omega])) ?_
    exact r_i iX8_riser_52 rfl (⟨rfl, Sc.rf σ, Hd.rf α⟩)
  · refine v_tabIn (tgt := 53) iX8_riser_12 (by decide) (by decide) rfl (by decide) ?_
    refine v_aload_n iX8_riser_53 rfl ?_
    refine v_getR iX8_riser_54 fX8_7 rfl rfl ?_
    refine v_bipush iX8_riser_57 (by decide) ?_
    refine v_iload_n iX8_riser_59 rfl ?_
    refine v_iadd iX8_riser_60 ?_
    refine v_iaload iX8_riser_61 rfl (by omega) (by exact (show _ = α 96 (7 + r) by rw [show ((7 : Int) + (r : Int)).toNat = 7 + r by omega])) ?_
    exact r_i iX8_riser_62 rfl (⟨rfl, Sc.rf σ, Hd.rf α⟩)
  · refine v_tabIn (tgt := 63) iX8_riser_12 (by decide) (by decide) rfl (by decide) ?_
    refine v_aload_n iX8_riser_63 rfl ?_
    refine v_getR iX8_riser_64 fX8_7 rfl rfl ?_
    refine v_bipush iX8_riser_67 (by decide) ?_
    refine v_iload_n iX8_riser_69 rfl ?_
    refine v_iadd iX8_riser_70 ?_
    refine v_iaload iX8_riser_71 rfl (by omega) (by exact (show _ = α 96 (13 + r) by rw [show ((13 : Int) + (r : Int)).toNat = 13 + r by omega])) ?_
    exact r_i iX8_riser_72 rfl (⟨rfl, Sc.rf σ, Hd.rf α⟩)
  · refine v_tabIn (tgt := 73) iX8_riser_12 (by decide) (by decide) rfl (by decide) ?_
    refine v_aload_n iX8_riser_73 rfl ?_
    refine c_VQ (Mc := mX8_fed) iX8_riser_74 lX8_215 kX8_fed (qX8_fed σ α hR hW hU hM) (by decide) rfl rfl rfl rfl (Nat.le_of_ble_eq_true rfl) ?_
    rintro σ1 a1 ⟨hs1, ha1⟩
    rw [ha1]
    try simp only [Int.toNat_natCast]
    refine v_aload_n iX8_riser_77 rfl ?_
    refine v_aload_n iX8_riser_78 rfl ?_
    refine c_V1 (Mc := mX8_allRisers) iX8_riser_79 lX8_198 kX8_allRisers (qX8_allRisers _ _ (hM.lh _)) (by decide) rfl rfl rfl rfl (Nat.le_of_ble_eq_true rfl) ?_
    try simp only [Int.toNat_natCast]
    rw [show ((2 ^ m : Nat) - 1 : Int) = ((2 ^ m - 1 : Nat) : Int) by omega]
    refine v_iconst iX8_riser_82 ?_
    refine v_iload_n iX8_riser_83 rfl ?_
    refine v_ishl1 iX8_riser_84 (by omega) ?_
    refine v_iconst iX8_riser_85 ?_
    refine v_inot iX8_riser_86 (by exact Int.natCast_nonneg _) ?_
    refine v_iandn iX8_riser_87 (by refine ⟨?_, ?_⟩ <;> first | exact Int.natCast_nonneg _ | omega) ?_
    simp only [Int.toNat_natCast]
    refine c_V1 (Mc := mX8_fedBy) iX8_riser_88 lX8_201 kX8_fedBy (LH_fed (hR.sc hs1) hW (hU.sc hs1) hM _ (by omega)) (by decide) rfl rfl rfl rfl (Nat.le_of_ble_eq_true rfl) ?_
    try simp only [Int.toNat_natCast]
    refine v_iconst iX8_riser_91 ?_
    refine v_inot iX8_riser_92 (by exact Int.natCast_nonneg _) ?_
    refine v_iandn iX8_riser_93 (by refine ⟨?_, ?_⟩ <;> first | exact Int.natCast_nonneg _ | omega) ?_
    simp only [Int.toNat_natCast]
    exact r_i iX8_riser_94 rfl (⟨rfl, hs1, Hd.lh c V B N n α⟩)
  · refine v_tabOut (tgt := 95) iX8_riser_12 (by omega) hsw (by decide) ?_
    refine v_bipush iX8_riser_95 (by decide) ?_
    exact r_i iX8_riser_97 rfl (⟨cf_i (risU_o hsw).symm, Sc.rf σ, Hd.rf α⟩)

set_option maxHeartbeats 4000000 in
set_option maxRecDepth 100000 in
theorem qX8_riser_o (σ α : St) {n m : Nat} (hM : RR α n m) (r : Int) (hr : InR r) (hr2 : r < 0 ∨ (m : Int) ≤ r) (f : Int) : CF 2 mX8_riser [vR 95, vI r, vI f] σ α (some (vI (-2))) (σ) (α) := by
  refine CG.of [some (vR 95), some (vI r), some (vI f)] (by decide) (by simp [lvA]) rfl ?_
  refine v_aload_n iX8_riser_0 rfl ?_
  refine v_iload_n iX8_riser_1 rfl ?_
  refine c_V1 (Mc := mX8_isRiser) iX8_riser_2 lX8_212 kX8_isRiser (qX8_isRiser σ α hM r hr) (by decide) rfl rfl rfl rfl (Nat.le_of_ble_eq_true rfl) ?_
  try simp only [Int.toNat_natCast]
  refine v_bif_ne (tgt := 11) iX8_riser_5 (by decide) (fun h5 => (by exfalso; simp at h5; omega)) (fun h5 => ?_)
  refine v_bipush iX8_riser_8 (by decide) ?_
  exact r_i iX8_riser_10 rfl (⟨cf_i (by rfl), rfl, rfl⟩)
