set_option maxHeartbeats 4000000 in
set_option maxRecDepth 100000 in
theorem qX6_letterAt (σ α : St) (f_ : Nat → Int) (hfe_ : α 2 = f_) (l_ : Nat) (hl_ : σ 1 1 = l_) (hf_ : txU f_ l_) (p_ : Nat) (hp_ : p_ < l_) : CF 0 mX6_letterAt [vR 1, vI (p_ : Int)] σ α (some (vI (f_ p_))) (σ) (α) := by
  have hl2_ := hf_.1
  refine CG.of [some (vR 1), some (vI (p_ : Int))] (by decide) (by simp [lvA]) rfl ?_
  refine v_iload_n iX6_letterAt_0 rfl ?_
  refine v_if_lt (tgt := 21) iX6_letterAt_1 (by decide) (by omega) (fun hb1_ => (by exfalso; omega)) (fun hb1_ => ?_)
  refine v_iload_n iX6_letterAt_4 rfl ?_
  refine v_aload_n iX6_letterAt_5 rfl ?_
  refine v_getI iX6_letterAt_6 fX6_15 rfl rfl (by exact hl_) ?_
  refine v_icmp_ge (tgt := 21) iX6_letterAt_9 (by decide) (by omega) (fun hb9_ => (by exfalso; omega)) (fun hb9_ => ?_)
  refine v_aload_n iX6_letterAt_12 rfl ?_
  refine v_getR iX6_letterAt_13 fX6_9 rfl rfl ?_
  refine v_iload_n iX6_letterAt_16 rfl ?_
  refine v_iaload iX6_letterAt_17 rfl (by omega) (by exact (show _ = f_ p_ by rw [hfe_, Int.toNat_natCast])) ?_
  refine v_goto (tgt := 22) iX6_letterAt_18 (by decide) ?_
  exact r_i iX6_letterAt_22 rfl (⟨cf_i (by rfl), rfl, rfl⟩)

set_option maxHeartbeats 4000000 in
set_option maxRecDepth 100000 in
theorem qX5_kindOf (σ α : St) (c_ : Int) (hc_ : InR c_) : CF 0 mX5_kindOf [vI c_] σ α (some (vI (kdU c_))) (σ) (α) := by
  refine CG.of [some (vI c_)] (by decide) (by simp [lvA]) rfl ?_
  refine v_iload_n iX5_kindOf_0 rfl ?_
  refine v_bipush iX5_kindOf_1 (by decide) ?_
  refine v_icmp_lt (tgt := 14) iX5_kindOf_3 (by decide) (by omega) (fun hb3_ => ?_) (fun hb3_ => ?_)
  · refine v_iload_n iX5_kindOf_14 rfl ?_
    refine v_bipush iX5_kindOf_15 (by decide) ?_
    refine v_icmp_lt (tgt := 30) iX5_kindOf_17 (by decide) (by omega) (fun hb17_ => ?_) (fun hb17_ => ?_)
    · refine v_iconst iX5_kindOf_30 ?_
      exact r_i iX5_kindOf_31 rfl (⟨cf_i (by first | (rw [kdU, if_neg (by omega), if_pos (by omega)]; done) | (rw [kdU, if_neg (by omega), if_neg (by omega)]; done)), rfl, rfl⟩)
    · refine v_iload_n iX5_kindOf_20 rfl ?_
      refine v_bipush iX5_kindOf_21 (by decide) ?_
      refine v_icmp_gt (tgt := 30) iX5_kindOf_23 (by decide) (by omega) (fun hb23_ => ?_) (fun hb23_ => ?_)
      · refine v_iconst iX5_kindOf_30 ?_
        exact r_i iX5_kindOf_31 rfl (⟨cf_i (by first | (rw [kdU, if_neg (by omega), if_pos (by omega)]; done) | (rw [kdU, if_neg (by omega), if_neg (by omega)]; done)), rfl, rfl⟩)
      · refine v_iconst iX5_kindOf_26 ?_
        refine v_goto (tgt := 31) iX5_kindOf_27 (by decide) ?_
        exact r_i iX5_kindOf_31 rfl (⟨cf_i (by first | (rw [kdU, if_neg (by omega), if_pos (by omega)]; done) | (rw [kdU, if_neg (by omega), if_neg (by omega)]; done)), rfl, rfl⟩)
  · refine v_iload_n iX5_kindOf_6 rfl ?_
    refine v_bipush iX5_kindOf_7 (by decide) ?_
    refine v_icmp_gt (tgt := 14) iX5_kindOf_9 (by decide) (by omega) (fun hb9_ => ?_) (fun hb9_ => ?_)
    · refine v_iload_n iX5_kindOf_14 rfl ?_
      refine v_bipush iX5_kindOf_15 (by decide) ?_
      refine v_icmp_lt (tgt := 30) iX5_kindOf_17 (by decide) (by omega) (fun hb17_ => ?_) (fun hb17_ => ?_)
      · refine v_iconst iX5_kindOf_30 ?_
        exact r_i iX5_kindOf_31 rfl (⟨cf_i (by first | (rw [kdU, if_neg (by omega), if_pos (by omega)]; done) | (rw [kdU, if_neg (by omega), if_neg (by omega)]; done)), rfl, rfl⟩)
      · refine v_iload_n iX5_kindOf_20 rfl ?_
        refine v_bipush iX5_kindOf_21 (by decide) ?_
        refine v_icmp_gt (tgt := 30) iX5_kindOf_23 (by decide) (by omega) (fun hb23_ => ?_) (fun hb23_ => ?_)
        · refine v_iconst iX5_kindOf_30 ?_
          exact r_i iX5_kindOf_31 rfl (⟨cf_i (by first | (rw [kdU, if_neg (by omega), if_pos (by omega)]; done) | (rw [kdU, if_neg (by omega), if_neg (by omega)]; done)), rfl, rfl⟩)
        · refine v_iconst iX5_kindOf_26 ?_
          refine v_goto (tgt := 31) iX5_kindOf_27 (by decide) ?_
          exact r_i iX5_kindOf_31 rfl (⟨cf_i (by first | (rw [kdU, if_neg (by omega), if_pos (by omega)]; done) | (rw [kdU, if_neg (by omega), if_neg (by omega)]; done)), rfl, rfl⟩)
    · refine v_iconst iX5_kindOf_12 ?_
      exact r_i iX5_kindOf_13 rfl (⟨cf_i (by rw [kdU, if_pos (by omega)]), rfl, rfl⟩)

set_option maxHeartbeats 4000000 in
set_option maxRecDepth 100000 in
theorem qX5_step (σ α : St) (f_ : Nat → Int) (hfe_ : α 2 = f_) (l_ : Nat) (hl_ : σ 1 1 = l_) (hf_ : txU f_ l_) (p_ : Nat) (hp_ : σ 21 4 = p_) (hpl_ : p_ ≤ l_) : CG 1 mX5_step [vR 21] σ α (fun r' s' a' => r' = none ∧ (fcT σ s' ∧ ctU s' f_ l_ p_) ∧ a' = α) := by
  have hl2_ := hf_.1
  obtain ⟨S_, hS0_⟩ : ∃ S_, S_ = tkS f_ l_ p_ := ⟨_, rfl⟩
  have hSr_ := tkS_r f_ hpl_
  rw [← hS0_] at hSr_
  refine CG.of [some (vR 21)] (by decide) (by simp [lvA]) rfl ?_
  have h163_ : ∀ σ2_, S_ < l_ → fcT σ σ2_ → σ2_ 21 3 = (S_ : Int) → σ2_ 21 4 = (tkE f_ l_ S_ : Int) → σ2_ 21 2 = kdU (f_ S_) → VV 1 mX5_step [vR 21] (fun r' s' a' => r' = none ∧ (fcT σ s' ∧ ctU s' f_ l_ p_) ∧ a' = α) σ2_ α 163 [some (vR 21)] [] := by
    intro σ2_ hSl_ hF_ h3_ h4_ h2_
    exact r_v iX5_step_163 rfl ⟨rfl, ⟨hF_, by rw [ctU, ← hS0_]; exact ⟨h3_, h4_, by rw [knU_in hSl_]; exact h2_⟩⟩, rfl⟩
  have h107_ : ∀ (k_ : Nat), k_ ≤ l_ → ∀ σ2_, S_ < l_ → fcT σ σ2_ → σ2_ 21 3 = (S_ : Int) → σ2_ 21 4 = (k_ : Int) → σ2_ 21 2 = kdU (f_ S_) → (if kdU (f_ S_) = 3 then k_ else rnU f_ (kdU (f_ S_)) (l_ - k_) k_) = tkE f_ l_ S_ → VV 1 mX5_step [vR 21] (fun r' s' a' => r' = none ∧ (fcT σ s' ∧ ctU s' f_ l_ p_) ∧ a' = α) σ2_ α 107 [some (vR 21)] [] := by
    refine ind_up (P := fun (k_ : Nat) => ∀ σ2_, S_ < l_ → fcT σ σ2_ → σ2_ 21 3 = (S_ : Int) → σ2_ 21 4 = (k_ : Int) → σ2_ 21 2 = kdU (f_ S_) → (if kdU (f_ S_) = 3 then k_ else rnU f_ (kdU (f_ S_)) (l_ - k_) k_) = tkE f_ l_ S_ → VV 1 mX5_step [vR 21] (fun r' s' a' => r' = none ∧ (fcT σ s' ∧ ctU s' f_ l_ p_) ∧ a' = α) σ2_ α 107 [some (vR 21)] []) l_ ?_
    intro k_ hk_ ih_ σ2_ hS_ hF_ h3_ h4_ h2_ hR_
    refine v_aload_n iX5_step_107 rfl ?_
    refine v_getI iX5_step_108 fX5_42 rfl rfl (by exact h2_) ?_
    refine v_iconst iX5_step_111 ?_
    refine v_icmp_eq (tgt := 163) iX5_step_112 (by decide) (by have := kdU_r (f_ S_); omega) (fun hb112_ => ?_) (fun hb112_ => ?_)
    · exact h163_ _ hS_ hF_ h3_ (by rw [h4_, ← hR_]; first | (rw [if_pos (by omega)]; done) | (rw [if_neg (by omega), rn_stop (by omega)]; done)) h2_
    · refine v_aload_n iX5_step_115 rfl ?_
      refine v_getI iX5_step_116 fX5_25 rfl rfl (by exact h4_) ?_
      refine v_aload_n iX5_step_119 rfl ?_
      refine v_getR iX5_step_120 fX5_9 rfl rfl ?_
      refine v_getI iX5_step_123 fX5_125 rfl rfl (by exact (hF_ 1 1 (by omega)).trans hl_) ?_
      refine v_icmp_ge (tgt := 163) iX5_step_126 (by decide) (by omega) (fun hb126_ => ?_) (fun hb126_ => ?_)
      · exact h163_ _ hS_ hF_ h3_ (by rw [h4_, ← hR_]; first | (rw [if_pos (by omega)]; done) | (rw [if_neg (by omega), rn_stop (by omega)]; done)) h2_
      · refine v_aload_n iX5_step_129 rfl ?_
        refine v_getR iX5_step_130 fX5_9 rfl rfl ?_
        refine v_aload_n iX5_step_133 rfl ?_
        refine v_getI iX5_step_134 fX5_25 rfl rfl (by exact h4_) ?_
        refine c_V1 (Mc := mX6_letterAt) iX5_step_137 lX5_119 kX6_letterAt (qX6_letterAt σ2_ α f_ hfe_ l_ ((hF_ 1 1 (by omega)).trans hl_) hf_ k_ (by omega)) (by decide) rfl rfl rfl rfl (Nat.le_of_ble_eq_true rfl) ?_
        try simp only [Int.toNat_natCast]
        refine c_S1 (Mc := mX5_kindOf) iX5_step_140 lX5_128 kX5_kindOf (qX5_kindOf _ _ (f_ k_) (by have := hf_.2 k_ (by omega); omega)) (by decide) rfl rfl (Nat.le_of_ble_eq_true rfl) ?_
        try simp only [Int.toNat_natCast]
        refine v_aload_n iX5_step_143 rfl ?_
        refine v_getI iX5_step_144 fX5_42 rfl rfl (by exact h2_) ?_
        refine v_icmp_ne (tgt := 163) iX5_step_147 (by decide) (by have := kdU_r (f_ S_); have := kdU_r (f_ k_); omega) (fun hb147_ => ?_) (fun hb147_ => ?_)
        · exact h163_ _ hS_ hF_ h3_ (by rw [h4_, ← hR_]; first | (rw [if_pos (by omega)]; done) | (rw [if_neg (by omega), rn_stop (by omega)]; done)) h2_
        · refine v_aload_n iX5_step_150 rfl ?_
          refine v_dup iX5_step_151 (by intro z h; cases h) ?_
          refine v_getI iX5_step_152 fX5_25 rfl rfl (by exact h4_) ?_
          refine v_iconst iX5_step_155 ?_
          refine v_iadd iX5_step_156 ?_
          refine v_put iX5_step_157 pX5_25 rfl rfl (by intro h; cases h) ?_
          refine v_goto (tgt := 107) iX5_step_160 (by decide) ?_
          exact ih_ (by omega) _ hS_ (hF_.u (by omega) _) (by rw [uS_ne _ _ (by omega)]; exact h3_) (by rw [uS_eq]; omega) (by rw [uS_ne _ _ (by omega)]; exact h2_) (by rw [← hR_, if_neg (by omega), if_neg (by omega)]; exact (rn_step (f := f_) (l := l_) (p := k_) (by omega) (by omega)).symm)
  have h51_ : ∀ σ1_, fcT σ σ1_ → σ1_ 21 3 = (S_ : Int) → VV 1 mX5_step [vR 21] (fun r' s' a' => r' = none ∧ (fcT σ s' ∧ ctU s' f_ l_ p_) ∧ a' = α) σ1_ α 51 [some (vR 21)] [] := by
    intro σ1_ hF_ h3_
    refine v_aload_n iX5_step_51 rfl ?_
    refine v_aload_n iX5_step_52 rfl ?_
    refine v_getI iX5_step_53 fX5_39 rfl rfl (by exact h3_) ?_
    refine v_put iX5_step_56 pX5_25 rfl rfl (by intro h; cases h) ?_
    refine v_aload_n iX5_step_59 rfl ?_
    refine v_getI iX5_step_60 fX5_39 rfl rfl (by exact (show _ = (S_ : Int) by rw [uS_ne _ _ (by omega)]; exact h3_)) ?_
    refine v_aload_n iX5_step_63 rfl ?_
    refine v_getR iX5_step_64 fX5_9 rfl rfl ?_
    refine v_getI iX5_step_67 fX5_125 rfl rfl (by exact (show _ = (l_ : Int) by rw [uS_ne _ _ (by omega)]; exact (hF_ 1 1 (by omega)).trans hl_)) ?_
    refine v_icmp_lt (tgt := 79) iX5_step_70 (by decide) (by omega) (fun hb70_ => ?_) (fun hb70_ => ?_)
    · refine v_aload_n iX5_step_79 rfl ?_
      refine v_aload_n iX5_step_80 rfl ?_
      refine v_getR iX5_step_81 fX5_9 rfl rfl ?_
      refine v_aload_n iX5_step_84 rfl ?_
      refine v_getI iX5_step_85 fX5_39 rfl rfl (by exact (show _ = (S_ : Int) by rw [uS_ne _ _ (by omega)]; exact h3_)) ?_
      refine c_V1 (Mc := mX6_letterAt) iX5_step_88 lX5_119 kX6_letterAt (qX6_letterAt _ α f_ hfe_ l_ (((hF_.u (k := 4) (by omega) _) 1 1 (by omega)).trans hl_) hf_ S_ (by omega)) (by decide) rfl rfl rfl rfl (Nat.le_of_ble_eq_true rfl) ?_
      try simp only [Int.toNat_natCast]
      refine c_S1 (Mc := mX5_kindOf) iX5_step_91 lX5_128 kX5_kindOf (qX5_kindOf _ _ (f_ S_) (by have := hf_.2 S_ (by omega); omega)) (by decide) rfl rfl (Nat.le_of_ble_eq_true rfl) ?_
      try simp only [Int.toNat_natCast]
      refine v_put iX5_step_94 pX5_42 rfl rfl (by intro h; cases h) ?_
      refine v_aload_n iX5_step_97 rfl ?_
      refine v_dup iX5_step_98 (by intro z h; cases h) ?_
      refine v_getI iX5_step_99 fX5_25 rfl rfl (by exact (show _ = (S_ : Int) by rw [uS_ne _ _ (by omega), uS_eq])) ?_
      refine v_iconst iX5_step_102 ?_
      refine v_iadd iX5_step_103 ?_
      refine v_put iX5_step_104 pX5_25 rfl rfl (by intro h; cases h) ?_
      exact h107_ (S_ + 1) (by omega) _ (by omega) (((hF_.u (by omega) _).u (by omega) _).u (by omega) _) (by rw [uS_ne _ _ (by omega), uS_ne _ _ (by omega), uS_ne _ _ (by omega)]; exact h3_) (by rw [uS_eq]; omega) (by rw [uS_ne _ _ (by omega), uS_eq]) (by by_cases h3k_ : kdU (f_ S_) = 3; (rw [if_pos h3k_, tkE_3 (by omega) h3k_]); (rw [if_neg h3k_, tkE_n (by omega) h3k_]))
    · refine v_aload_n iX5_step_73 rfl ?_
      refine v_iconst iX5_step_74 ?_
      refine v_put iX5_step_75 pX5_42 rfl rfl (by intro h; cases h) ?_
      exact r_v iX5_step_78 rfl (⟨rfl, ⟨(hF_.u (by omega) _).u (by omega) _, by rw [ctU, ← hS0_]; exact ⟨by rw [uS_ne _ _ (by omega), uS_ne _ _ (by omega)]; exact h3_, by rw [uS_ne _ _ (by omega), uS_eq, tkE_out (by omega)], by rw [uS_eq, knU_out (by omega)]⟩⟩, rfl⟩)
  refine v_aload_n iX5_step_0 rfl ?_
  refine v_aload_n iX5_step_1 rfl ?_
  refine v_getI iX5_step_2 fX5_25 rfl rfl (by exact hp_) ?_
  refine v_put iX5_step_5 pX5_39 rfl rfl (by intro h; cases h) ?_
  refine ind_up (P := fun (k_ : Nat) => ∀ σ1_, fcT σ σ1_ → σ1_ 21 3 = (k_ : Int) → tkS f_ l_ k_ = tkS f_ l_ p_ → VV 1 mX5_step [vR 21] (fun r' s' a' => r' = none ∧ (fcT σ s' ∧ ctU s' f_ l_ p_) ∧ a' = α) σ1_ α 8 [some (vR 21)] []) l_ ?_ p_ hpl_ _ ((fcT.rf σ).u (by omega) _) (by rw [uS_eq]) rfl
  intro k_ hk_ ih_ σ1_ hF_ h3_ hT_
  refine v_aload_n iX5_step_8 rfl ?_
  refine v_getI iX5_step_9 fX5_39 rfl rfl (by exact h3_) ?_
  refine v_aload_n iX5_step_12 rfl ?_
  refine v_getR iX5_step_13 fX5_9 rfl rfl ?_
  refine v_getI iX5_step_16 fX5_125 rfl rfl (by exact (hF_ 1 1 (by omega)).trans hl_) ?_
  refine v_icmp_ge (tgt := 51) iX5_step_19 (by decide) (by omega) (fun hb19_ => ?_) (fun hb19_ => ?_)
  · exact h51_ _ hF_ (by rw [h3_, hS0_, ← hT_, tkS_stop (by omega)])
  · refine v_aload_n iX5_step_22 rfl ?_
    refine v_getR iX5_step_23 fX5_9 rfl rfl ?_
    refine v_aload_n iX5_step_26 rfl ?_
    refine v_getI iX5_step_27 fX5_39 rfl rfl (by exact h3_) ?_
    refine c_V1 (Mc := mX6_letterAt) iX5_step_30 lX5_119 kX6_letterAt (qX6_letterAt σ1_ α f_ hfe_ l_ ((hF_ 1 1 (by omega)).trans hl_) hf_ k_ (by omega)) (by decide) rfl rfl rfl rfl (Nat.le_of_ble_eq_true rfl) ?_
    try simp only [Int.toNat_natCast]
    refine v_bipush iX5_step_33 (by decide) ?_
    refine v_icmp_ne (tgt := 51) iX5_step_35 (by decide) (by have := hf_.2 k_ (by omega); omega) (fun hb35_ => ?_) (fun hb35_ => ?_)
    · exact h51_ _ hF_ (by rw [h3_, hS0_, ← hT_, tkS_stop (by omega)])
    · refine v_aload_n iX5_step_38 rfl ?_
      refine v_dup iX5_step_39 (by intro z h; cases h) ?_
      refine v_getI iX5_step_40 fX5_39 rfl rfl (by exact h3_) ?_
      refine v_iconst iX5_step_43 ?_
      refine v_iadd iX5_step_44 ?_
      refine v_put iX5_step_45 pX5_39 rfl rfl (by intro h; cases h) ?_
      refine v_goto (tgt := 8) iX5_step_48 (by decide) ?_
      exact ih_ (by omega) _ (hF_.u (by omega) _) (by rw [uS_eq]; omega) ((tkS_step (f := f_) (l := l_) (p := k_) (by omega) (by omega)).symm.trans hT_)

set_option maxHeartbeats 4000000 in
set_option maxRecDepth 100000 in
theorem qX5_isSemicolon (σ α : St) (f_ : Nat → Int) (hfe_ : α 2 = f_) (l_ : Nat) (hl_ : σ 1 1 = l_) (hf_ : txU f_ l_) (s_ : Nat) (hs_ : s_ < l_) (h3_ : σ 21 3 = s_) (h2_ : σ 21 2 = kdU (f_ s_)) : CF 1 mX5_isSemicolon [vR 21] σ α (some (vI (b2i (decide (f_ s_ = 59))))) (σ) (α) := by
  have hk_ := kdU_r (f_ s_)
  have hfs_ := hf_.2 s_ hs_
  refine CG.of [some (vR 21)] (by decide) (by simp [lvA]) rfl ?_
  refine v_aload_n iX5_isSemicolon_0 rfl ?_
  refine v_getI iX5_isSemicolon_1 fX5_42 rfl rfl (by exact h2_) ?_
  refine v_iconst iX5_isSemicolon_4 ?_
  refine v_icmp_ne (tgt := 28) iX5_isSemicolon_5 (by decide) (by omega) (fun hb5_ => ?_) (fun hb5_ => ?_)
  · have hne_ : ¬ f_ s_ = 59 := by first | omega | (intro h_; have := (kdU_3 (c := f_ s_)).mpr (by omega); omega)
    refine v_iconst iX5_isSemicolon_28 ?_
    exact r_b iX5_isSemicolon_29 rfl (by first | exact b2i_01 _ | decide | omega) (⟨cf_i (by first | exact (b2i_pos (by omega)).symm | exact (b2i_neg hne_).symm), rfl, rfl⟩)
  · refine v_aload_n iX5_isSemicolon_8 rfl ?_
    refine v_getR iX5_isSemicolon_9 fX5_9 rfl rfl ?_
    refine v_aload_n iX5_isSemicolon_12 rfl ?_
    refine v_getI iX5_isSemicolon_13 fX5_39 rfl rfl (by exact h3_) ?_
    refine c_V1 (Mc := mX6_letterAt) iX5_isSemicolon_16 lX5_119 kX6_letterAt (qX6_letterAt σ α f_ hfe_ l_ hl_ hf_ s_ hs_) (by decide) rfl rfl rfl rfl (Nat.le_of_ble_eq_true rfl) ?_
    try simp only [Int.toNat_natCast]
    refine v_bipush iX5_isSemicolon_19 (by decide) ?_
    refine v_icmp_ne (tgt := 28) iX5_isSemicolon_21 (by decide) (by omega) (fun hb21_ => ?_) (fun hb21_ => ?_)
    · have hne_ : ¬ f_ s_ = 59 := by first | omega | (intro h_; have := (kdU_3 (c := f_ s_)).mpr (by omega); omega)
      refine v_iconst iX5_isSemicolon_28 ?_
      exact r_b iX5_isSemicolon_29 rfl (by first | exact b2i_01 _ | decide | omega) (⟨cf_i (by first | exact (b2i_pos (by omega)).symm | exact (b2i_neg hne_).symm), rfl, rfl⟩)
    · refine v_iconst iX5_isSemicolon_24 ?_
      refine v_goto (tgt := 29) iX5_isSemicolon_25 (by decide) ?_
      exact r_b iX5_isSemicolon_29 rfl (by first | exact b2i_01 _ | decide | omega) (⟨cf_i (by first | exact (b2i_pos (by omega)).symm | exact (b2i_neg hne_).symm), rfl, rfl⟩)

set_option maxHeartbeats 4000000 in
set_option maxRecDepth 100000 in
theorem qX5_isWord (σ α : St) (f_ : Nat → Int) (hfe_ : α 2 = f_) (l_ : Nat) (hl_ : σ 1 1 = l_) (hf_ : txU f_ l_) (s_ e_ : Nat) (h3_ : σ 21 3 = s_) (h4_ : σ 21 4 = e_) (hse_ : s_ < e_ ∧ e_ ≤ l_) (hk_ : ∀ i, s_ ≤ i → i < e_ → kdU (f_ i) = 1) (i_ : Nat) (hi_ : i_ < 6) : CF 4 mX5_isWord [vR 21, vX (i_ + 1)] σ α (some (vI (b2i (wm f_ s_ e_ i_ 7)))) σ α := by
  have hl2_ := hf_.1
  have hn_ := sxN_r i_ hi_
  have hiff_ := wm_iff (f := f_) (s := s_) (e := e_) hi_ (fun j h1_ h2_ h_ => by have := kdU_1.mp (hk_ j h1_ h2_); omega)
  refine CG.of [some (vR 21), some (vX (i_ + 1)), none] (by decide) (by simp [lvA]) rfl ?_
  refine v_aload_n iX5_isWord_0 rfl ?_
  refine v_getI iX5_isWord_1 fX5_25 rfl rfl h4_ ?_
  refine v_aload_n iX5_isWord_4 rfl ?_
  refine v_getI iX5_isWord_5 fX5_39 rfl rfl h3_ ?_
  refine v_isub iX5_isWord_8 ?_
  refine v_aload_x iX5_isWord_9 rfl ?_
  refine c_X1 (Mc := mJ0_length_8abf5) iX5_isWord_10 lX5_131 kJ0_length_8abf5 rfl (qJ0_length _ _ i_ hi_) (by decide) rfl hi_ rfl (Nat.le_of_ble_eq_true rfl) ?_
  refine v_icmp_eq (tgt := 18) iX5_isWord_13 (by decide) (by omega) (fun hb13_ => ?_) (fun hb13_ => ?_)
  · refine v_iconst iX5_isWord_18 ?_
    refine v_is2 iX5_isWord_19 ⟨rfl, rfl⟩ ?_
    refine (ind_up (P := fun (j_ : Nat) => (∀ j, j < j_ → f_ (s_ + j) = wrd (7 * i_ + j)) → VV 4 mX5_isWord [vR 21, vX (i_ + 1)] (fun r' s' a' => r' = some (vI (b2i (wm f_ s_ e_ i_ 7))) ∧ s' = σ ∧ a' = α) σ α 20 [some (vR 21), some (vX (i_ + 1)), some (vI (j_ : Int))] []) (sxN.getD i_ 0) ?_ 0 (by omega) (fun j hj => absurd hj (by omega))).as rfl rfl rfl rfl
    intro j_ hj_ ih_ hm_
    refine v_iload_n iX5_isWord_20 rfl ?_
    refine v_aload_x iX5_isWord_21 rfl ?_
    refine c_X1 (Mc := mJ0_length_8abf5) iX5_isWord_22 lX5_131 kJ0_length_8abf5 rfl (qJ0_length _ _ i_ hi_) (by decide) rfl hi_ rfl (Nat.le_of_ble_eq_true rfl) ?_
    refine v_icmp_ge (tgt := 57) iX5_isWord_25 (by decide) (by omega) (fun hb25_ => ?_) (fun hb25_ => ?_)
    · refine v_iconst iX5_isWord_57 ?_
      exact r_b iX5_isWord_58 rfl (by decide) ⟨cf_i (by rw [hiff_.mpr ⟨by omega, fun j hj => hm_ j (by omega)⟩]; rfl), rfl, rfl⟩
    · have hw_ := wrd_r (7 * i_ + j_) (by omega)
      have hfj_ := hf_.2 (s_ + j_) (by omega)
      refine v_aload_n iX5_isWord_28 rfl ?_
      refine v_getR iX5_isWord_29 fX5_9 rfl rfl ?_
      refine v_aload_n iX5_isWord_32 rfl ?_
      refine v_getI iX5_isWord_33 fX5_39 rfl rfl h3_ ?_
      refine v_iload_n iX5_isWord_36 rfl ?_
      refine v_iadd iX5_isWord_37 ?_
      rw [show (s_ : Int) + (j_ : Int) = ((s_ + j_ : Nat) : Int) by omega]
      refine c_V1 (Mc := mX6_letterAt) iX5_isWord_38 lX5_119 kX6_letterAt (qX6_letterAt σ α f_ hfe_ l_ hl_ hf_ (s_ + j_) (by omega)) (by decide) rfl rfl rfl rfl (Nat.le_of_ble_eq_true rfl) ?_
      refine v_aload_x iX5_isWord_41 rfl ?_
      refine v_iload_n iX5_isWord_42 rfl ?_
      refine c_X1 (Mc := mJ0_charAt_5068e) iX5_isWord_43 lX5_136 kJ0_charAt_5068e rfl (qJ0_charAt _ _ i_ hi_ j_ (by omega)) (by decide) rfl hi_ rfl (Nat.le_of_ble_eq_true rfl) ?_
      refine v_icmp_eq (tgt := 51) iX5_isWord_46 (by decide) (by omega) (fun hb46_ => ?_) (fun hb46_ => ?_)
      · refine v_in2 iX5_isWord_51 ⟨rfl, rfl⟩ ?_
        refine v_goto (tgt := 20) iX5_isWord_54 (by decide) ?_
        exact (ih_ (by omega) (fun j hj => by by_cases hjj_ : j = j_; (rw [hjj_]; exact hb46_); exact hm_ j (by omega))).as rfl rfl rfl rfl
      · refine v_iconst iX5_isWord_49 ?_
        exact r_b iX5_isWord_50 rfl (by decide) ⟨cf_i (by cases hc_ : wm f_ s_ e_ i_ 7; rfl; exact absurd ((hiff_.mp hc_).2 j_ (by omega)) hb46_), rfl, rfl⟩
  · refine v_iconst iX5_isWord_16 ?_
    exact r_b iX5_isWord_17 rfl (by decide) ⟨cf_i (by cases hc_ : wm f_ s_ e_ i_ 7; rfl; exact absurd (hiff_.mp hc_).1 (by omega)), rfl, rfl⟩

set_option maxHeartbeats 4000000 in
set_option maxRecDepth 100000 in
theorem qX5_numberStands (σ α : St) (f_ : Nat → Int) (hfe_ : α 2 = f_) (l_ : Nat) (hl_ : σ 1 1 = l_) (hf_ : txU f_ l_) (p_ : Nat) (hp_ : σ 21 4 = p_) (hpl_ : p_ ≤ l_) (lo_ hi_ : Int) (hlo_ : 0 ≤ lo_ ∧ lo_ ≤ 1000) (hhi_ : InR hi_) : CG 2 mX5_numberStands [vR 21, vI lo_, vI hi_] σ α (fun r' s' a' => r' = some (vI (b2i (nmB f_ l_ p_ lo_ hi_ (-1)))) ∧ fcT σ s' ∧ s' 21 3 = (tkS f_ l_ p_ : Int) ∧ (nmB f_ l_ p_ lo_ hi_ (-1) = true → s' 21 4 = (nmE f_ l_ p_ : Int) ∧ s' 21 5 = nmV f_ l_ p_) ∧ a' = α) := by
  have hl2_ := hf_.1
  obtain ⟨S_, hSS_⟩ : ∃ S_, tkS f_ l_ p_ = S_ := ⟨_, rfl⟩
  obtain ⟨E_, hEE0_⟩ : ∃ E_, tkE f_ l_ S_ = E_ := ⟨_, rfl⟩
  have hSr_ := tkS_r f_ hpl_
  have hEr_ := tkE_r f_ (tkS_r f_ hpl_).2
  rw [hSS_] at hSr_ hEr_
  rw [hEE0_] at hEr_
  have hEE_ : E_ = nmE f_ l_ p_ := by rw [nmE, hSS_, hEE0_]
  have hVV_ : vlU f_ S_ (E_ - S_) = nmV f_ l_ p_ := by rw [nmV, hSS_, hEE0_]
  have hND_ : nmB f_ l_ p_ lo_ hi_ (-1) = decide ((S_ < l_ ∧ kdU (f_ S_) = 2 ∧ E_ ≤ S_ + 3) ∧ (lo_ ≤ vlU f_ S_ (E_ - S_) ∧ vlU f_ S_ (E_ - S_) ≤ hi_) ∧ vlU f_ S_ (E_ - S_) ≠ -1) := by rw [nmB, hSS_, hEE0_]
  refine CG.of [some (vR 21), some (vI lo_), some (vI hi_), none] (by decide) (by simp [lvA]) rfl ?_
  refine v_aload_n iX5_numberStands_0 rfl ?_
  refine c_VN (Mc := mX5_step) iX5_numberStands_1 lX5_32 kX5_step (qX5_step σ α f_ hfe_ l_ hl_ hf_ p_ hp_ hpl_) (by decide) rfl rfl rfl rfl (Nat.le_of_ble_eq_true rfl) ?_
  rintro s1_ a1_ ⟨⟨hF_, hT_⟩, hae_⟩
  have hae2_ := hae_.symm
  subst hae2_
  have h30_ := hT_.1
  have h40_ := hT_.2.1
  have h20_ := hT_.2.2
  rw [hSS_] at h30_ h40_ h20_
  rw [hEE0_] at h40_
  have hkr_ := knU_r f_ l_ S_
  try simp only [Int.toNat_natCast]
  refine v_aload_n iX5_numberStands_4 rfl ?_
  refine v_getI iX5_numberStands_5 fX5_42 rfl rfl (by exact h20_) ?_
  refine v_iconst iX5_numberStands_8 ?_
  refine v_icmp_ne (tgt := 25) iX5_numberStands_9 (by decide) (by omega) (fun hb9_ => ?_) (fun hb9_ => ?_)
  · have hN_ : nmB f_ l_ p_ lo_ hi_ (-1) = false := by
      rw [hND_]
      refine decide_eq_false (fun h_ => ?_)
      have h1_ := h_.1
      have := knU_in (f := f_) h1_.1
      omega
    refine v_iconst iX5_numberStands_25 ?_
    exact r_b iX5_numberStands_26 rfl (by first | exact b2i_01 _ | decide | omega) (⟨cf_i (by rw [hN_]; rfl), hF_, by rw [hSS_]; exact h30_, fun h_ => absurd (hN_.symm.trans h_) (by decide), rfl⟩)
  · refine v_aload_n iX5_numberStands_12 rfl ?_
    refine v_getI iX5_numberStands_13 fX5_25 rfl rfl (by exact h40_) ?_
    refine v_aload_n iX5_numberStands_16 rfl ?_
    refine v_getI iX5_numberStands_17 fX5_39 rfl rfl (by exact h30_) ?_
    refine v_isub iX5_numberStands_20 ?_
    refine v_iconst iX5_numberStands_21 ?_
    refine v_icmp_le (tgt := 27) iX5_numberStands_22 (by decide) (by omega) (fun hb22_ => ?_) (fun hb22_ => ?_)
    · have hSl_ : S_ < l_ := by
        by_cases h_ : S_ < l_
        · exact h_
        · have := knU_out (f := f_) h_; omega
      have hD_ : S_ < l_ ∧ kdU (f_ S_) = 2 ∧ E_ ≤ S_ + 3 := ⟨hSl_, by have := knU_in (f := f_) hSl_; omega, by omega⟩
      have hv_ := vlU_r (s := S_) hf_ (E_ - S_) (by omega) (by omega)
      have h74_ : ∀ σ1_, fcT σ σ1_ → σ1_ 21 3 = (S_ : Int) → σ1_ 21 4 = (E_ : Int) → σ1_ 21 5 = vlU f_ S_ (E_ - S_) → VV 2 mX5_numberStands [vR 21, vI lo_, vI hi_] (fun r' s' a' => r' = some (vI (b2i (nmB f_ l_ p_ lo_ hi_ (-1)))) ∧ fcT σ s' ∧ s' 21 3 = (tkS f_ l_ p_ : Int) ∧ (nmB f_ l_ p_ lo_ hi_ (-1) = true → s' 21 4 = (nmE f_ l_ p_ : Int) ∧ s' 21 5 = nmV f_ l_ p_) ∧ a' = α) σ1_ α 74 [some (vR 21), some (vI lo_), some (vI hi_), none] [] := by
        intro σ1_ hF1_ h3_ h4_ h5_
        rw [← hSS_] at h3_
        refine v_aload_n iX5_numberStands_74 rfl ?_
        refine v_getI iX5_numberStands_75 fX5_89 rfl rfl (by exact h5_) ?_
        refine v_iload_n iX5_numberStands_78 rfl ?_
        refine v_icmp_lt (tgt := 94) iX5_numberStands_79 (by decide) (by omega) (fun hb79_ => ?_) (fun hb79_ => ?_)
        · refine v_iconst iX5_numberStands_94 ?_
          exact r_b iX5_numberStands_95 rfl (by first | exact b2i_01 _ | decide | omega) (by first | exact ⟨cf_i (by rw [hND_]; exact (b2i_pos ⟨hD_, ⟨by omega, by omega⟩, by omega⟩).symm), hF1_, h3_, fun _ => ⟨by rw [h4_, hEE_], by rw [h5_, hVV_]⟩, rfl⟩ | exact ⟨cf_i (by rw [hND_]; exact (b2i_neg (fun h_ => by have := h_.2.1; omega)).symm), hF1_, h3_, fun _ => ⟨by rw [h4_, hEE_], by rw [h5_, hVV_]⟩, rfl⟩)
        · refine v_aload_n iX5_numberStands_82 rfl ?_
          refine v_getI iX5_numberStands_83 fX5_89 rfl rfl (by exact h5_) ?_
          refine v_iload_n iX5_numberStands_86 rfl ?_
          refine v_icmp_gt (tgt := 94) iX5_numberStands_87 (by decide) (by omega) (fun hb87_ => ?_) (fun hb87_ => ?_)
          · refine v_iconst iX5_numberStands_94 ?_
            exact r_b iX5_numberStands_95 rfl (by first | exact b2i_01 _ | decide | omega) (by first | exact ⟨cf_i (by rw [hND_]; exact (b2i_pos ⟨hD_, ⟨by omega, by omega⟩, by omega⟩).symm), hF1_, h3_, fun _ => ⟨by rw [h4_, hEE_], by rw [h5_, hVV_]⟩, rfl⟩ | exact ⟨cf_i (by rw [hND_]; exact (b2i_neg (fun h_ => by have := h_.2.1; omega)).symm), hF1_, h3_, fun _ => ⟨by rw [h4_, hEE_], by rw [h5_, hVV_]⟩, rfl⟩)
          · refine v_iconst iX5_numberStands_90 ?_
            refine v_goto (tgt := 95) iX5_numberStands_91 (by decide) ?_
            exact r_b iX5_numberStands_95 rfl (by first | exact b2i_01 _ | decide | omega) (by first | exact ⟨cf_i (by rw [hND_]; exact (b2i_pos ⟨hD_, ⟨by omega, by omega⟩, by omega⟩).symm), hF1_, h3_, fun _ => ⟨by rw [h4_, hEE_], by rw [h5_, hVV_]⟩, rfl⟩ | exact ⟨cf_i (by rw [hND_]; exact (b2i_neg (fun h_ => by have := h_.2.1; omega)).symm), hF1_, h3_, fun _ => ⟨by rw [h4_, hEE_], by rw [h5_, hVV_]⟩, rfl⟩)
      refine v_aload_n iX5_numberStands_27 rfl ?_
      refine v_iconst iX5_numberStands_28 ?_
      refine v_put iX5_numberStands_29 pX5_89 rfl rfl (by intro h; cases h) ?_
      refine v_aload_n iX5_numberStands_32 rfl ?_
      refine v_getI iX5_numberStands_33 fX5_39 rfl rfl (by exact (show _ = (S_ : Int) by rw [uS_ne _ _ (by omega)]; exact h30_)) ?_
      refine v_is3 iX5_numberStands_36 ⟨rfl, rfl⟩ ?_
      refine (ind_up (P := fun (j_ : Nat) => ∀ σ1_, fcT σ σ1_ → σ1_ 21 3 = (S_ : Int) → σ1_ 21 4 = (E_ : Int) → σ1_ 21 5 = vlU f_ S_ j_ → VV 2 mX5_numberStands [vR 21, vI lo_, vI hi_] (fun r' s' a' => r' = some (vI (b2i (nmB f_ l_ p_ lo_ hi_ (-1)))) ∧ fcT σ s' ∧ s' 21 3 = (tkS f_ l_ p_ : Int) ∧ (nmB f_ l_ p_ lo_ hi_ (-1) = true → s' 21 4 = (nmE f_ l_ p_ : Int) ∧ s' 21 5 = nmV f_ l_ p_) ∧ a' = α) σ1_ α 37 [some (vR 21), some (vI lo_), some (vI hi_), some (vI ((S_ : Int) + (j_ : Int)))] []) (E_ - S_) ?_ 0 (by omega) _ (hF_.u (by omega) _) (by rw [uS_ne _ _ (by omega)]; exact h30_) (by rw [uS_ne _ _ (by omega)]; exact h40_) (by rw [uS_eq]; rfl)).as rfl rfl (by simp) rfl
      intro j_ hj_ ih_ σ1_ hF1_ h3_ h4_ h5_
      have hvj_ := vlU_r (s := S_) hf_ j_ (by omega) (by omega)
      refine v_iload_n iX5_numberStands_37 rfl ?_
      refine v_aload_n iX5_numberStands_38 rfl ?_
      refine v_getI iX5_numberStands_39 fX5_25 rfl rfl (by exact h4_) ?_
      refine v_icmp_ge (tgt := 74) iX5_numberStands_42 (by decide) (by omega) (fun hb42_ => ?_) (fun hb42_ => ?_)
      · have hj3_ : j_ = E_ - S_ := by omega
        rw [hj3_] at h5_
        exact (h74_ σ1_ hF1_ h3_ h4_ h5_).asw rfl rfl ⟨rfl, rfl, rfl, trivial⟩ rfl
      · refine v_aload_n iX5_numberStands_45 rfl ?_
        refine v_aload_n iX5_numberStands_46 rfl ?_
        refine v_getI iX5_numberStands_47 fX5_89 rfl rfl (by exact h5_) ?_
        refine v_bipush iX5_numberStands_50 (by decide) ?_
        refine v_imul iX5_numberStands_52 ?_
        refine v_aload_n iX5_numberStands_53 rfl ?_
        refine v_getR iX5_numberStands_54 fX5_9 rfl rfl ?_
        refine v_iload_n iX5_numberStands_57 rfl ?_
        rw [show (S_ : Int) + (j_ : Int) = ((S_ + j_ : Nat) : Int) by omega]
        refine c_V1 (Mc := mX6_letterAt) iX5_numberStands_58 lX5_119 kX6_letterAt (qX6_letterAt σ1_ α f_ hfe_ l_ ((hF1_ 1 1 (by omega)).trans hl_) hf_ (S_ + j_) (by omega)) (by decide) rfl rfl rfl rfl (Nat.le_of_ble_eq_true rfl) ?_
        try simp only [Int.toNat_natCast]
        refine v_iadd iX5_numberStands_61 ?_
        refine v_bipush iX5_numberStands_62 (by decide) ?_
        refine v_isub iX5_numberStands_64 ?_
        refine v_put iX5_numberStands_65 pX5_89 rfl rfl (by intro h; cases h) ?_
        refine v_in3 iX5_numberStands_68 ⟨rfl, rfl⟩ ?_
        refine v_goto (tgt := 37) iX5_numberStands_71 (by decide) ?_
        exact (ih_ (by omega) _ (hF1_.u (by omega) _) (by rw [uS_ne _ _ (by omega)]; exact h3_) (by rw [uS_ne _ _ (by omega)]; exact h4_) (by rw [uS_eq]; show _ = 10 * vlU f_ S_ j_ + f_ (S_ + j_) - 48; omega)).as rfl rfl (by rw [show ((S_ + j_ : Nat) : Int) + 1 = (S_ : Int) + ((j_ + 1 : Nat) : Int) by omega]) rfl
    · have hN_ : nmB f_ l_ p_ lo_ hi_ (-1) = false := by
        rw [hND_]
        refine decide_eq_false (fun h_ => ?_)
        have h1_ := h_.1
        have := knU_in (f := f_) h1_.1
        omega
      refine v_iconst iX5_numberStands_25 ?_
      exact r_b iX5_numberStands_26 rfl (by first | exact b2i_01 _ | decide | omega) (⟨cf_i (by rw [hN_]; rfl), hF_, by rw [hSS_]; exact h30_, fun h_ => absurd (hN_.symm.trans h_) (by decide), rfl⟩)
