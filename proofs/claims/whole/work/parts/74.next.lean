set_option maxHeartbeats 4000000 in
set_option maxRecDepth 100000 in
theorem qX8_nextToken (σ α : St) (l_ p_ : Nat) (hl_ : σ 95 11 = l_) (hp_ : σ 95 16 = p_) (hpl_ : p_ ≤ l_) (hf_ : txU (α 101) l_) : CG 2 mX8_nextToken [vR 95] σ α (fun r' s' a' => r' = none ∧ (fnT σ s' ∧ rtU s' (α 101) l_ p_) ∧ a' = α) := by
  have hl2_ := hf_.1
  obtain ⟨S_, hS0_⟩ : ∃ S_, S_ = tkS (α 101) l_ p_ := ⟨_, rfl⟩
  have hSr_ := tkS_r (α 101) hpl_
  rw [← hS0_] at hSr_
  refine CG.of [some (vR 95)] (by decide) (by simp [lvA]) rfl ?_
  have h204_ : ∀ σ2_, fnT σ σ2_ → σ2_ 95 15 = (S_ : Int) → σ2_ 95 16 = (tkE (α 101) l_ S_ : Int) → VV 2 mX8_nextToken [vR 95] (fun r' s' a' => r' = none ∧ (fnT σ s' ∧ rtU s' (α 101) l_ p_) ∧ a' = α) σ2_ α 204 [some (vR 95)] [] := by
    intro σ2_ hF_ h15_ h16_
    exact r_v iX8_nextToken_204 rfl ⟨rfl, ⟨hF_, by rw [rtU, ← hS0_]; exact ⟨h15_, h16_⟩⟩, rfl⟩
  have h100_ : ∀ k_, k_ ≤ l_ → ∀ σ2_, S_ < l_ → fnT σ σ2_ → σ2_ 95 15 = (S_ : Int) → σ2_ 95 16 = (k_ : Int) → rnU (α 101) 1 (l_ - k_) k_ = tkE (α 101) l_ S_ → VV 2 mX8_nextToken [vR 95] (fun r' s' a' => r' = none ∧ (fnT σ s' ∧ rtU s' (α 101) l_ p_) ∧ a' = α) σ2_ α 100 [some (vR 95)] [] := by
    refine ind_up (P := fun k_ => ∀ σ2_, S_ < l_ → fnT σ σ2_ → σ2_ 95 15 = (S_ : Int) → σ2_ 95 16 = (k_ : Int) → rnU (α 101) 1 (l_ - k_) k_ = tkE (α 101) l_ S_ → VV 2 mX8_nextToken [vR 95] (fun r' s' a' => r' = none ∧ (fnT σ s' ∧ rtU s' (α 101) l_ p_) ∧ a' = α) σ2_ α 100 [some (vR 95)] []) l_ ?_
    intro k_ hk_ ih_ σ2_ hS_ hF_ h15_ h16_ hR_
    refine v_aload_n iX8_nextToken_100 rfl ?_
    refine v_getI iX8_nextToken_101 fX8_77 rfl rfl (by exact h16_) ?_
    refine v_aload_n iX8_nextToken_104 rfl ?_
    refine v_getI iX8_nextToken_105 fX8_66 rfl rfl (by exact (hF_ 95 11 (by omega)).trans hl_) ?_
    refine v_icmp_ge (tgt := 204) iX8_nextToken_108 (by decide) (by omega) (fun hb108_ => ?_) (fun hb108_ => ?_)
    · exact h204_ _ hF_ h15_ (by rw [h16_, ← hR_, rn_stop (k := 1) (by first | omega | (simp only [decide_eq_false_iff_not] at hb123_; rw [kdU_1]; omega))])
    · refine v_aload_n iX8_nextToken_111 rfl ?_
      refine v_getR iX8_nextToken_112 fX8_36 rfl rfl ?_
      refine v_aload_n iX8_nextToken_115 rfl ?_
      refine v_getI iX8_nextToken_116 fX8_77 rfl rfl (by exact h16_) ?_
      refine v_iaload iX8_nextToken_119 rfl (by omega) (by exact (show _ = α 101 k_ by rw [Int.toNat_natCast])) ?_
      refine c_S1 (Mc := mX8_isSmall) iX8_nextToken_120 lX8_83 kX8_isSmall (qX8_isSmall _ _ (α 101 k_) (by have := hf_.2 k_ (by omega); omega)) (by decide) rfl rfl (Nat.le_of_ble_eq_true rfl) ?_
      try simp only [Int.toNat_natCast]
      refine v_bif_eq (tgt := 204) iX8_nextToken_123 (by decide) (fun hb123_ => ?_) (fun hb123_ => ?_)
      · try simp only [Int.toNat_natCast] at hb123_
        exact h204_ _ hF_ h15_ (by rw [h16_, ← hR_, rn_stop (k := 1) (by first | omega | (simp only [decide_eq_false_iff_not] at hb123_; rw [kdU_1]; omega))])
      · try simp only [Int.toNat_natCast] at hb123_
        refine v_aload_n iX8_nextToken_126 rfl ?_
        refine v_dup iX8_nextToken_127 (by intro z h; cases h) ?_
        refine v_getI iX8_nextToken_128 fX8_77 rfl rfl (by exact h16_) ?_
        refine v_iconst iX8_nextToken_131 ?_
        refine v_iadd iX8_nextToken_132 ?_
        refine v_put iX8_nextToken_133 pX8_77 rfl rfl (by intro h; cases h) ?_
        refine v_goto (tgt := 100) iX8_nextToken_136 (by decide) ?_
        simp only [decide_eq_true_eq] at hb123_
        exact ih_ (by omega) _ hS_ (hF_.u (by omega) _) (by rw [uS_ne _ _ (by omega)]; exact h15_) (by rw [uS_eq]; omega) ((rn_step (f := α 101) (k := 1) (l := l_) (p := k_) (by omega) (kdU_1.mpr (by omega))).symm.trans hR_)
  have h165_ : ∀ k_, k_ ≤ l_ → ∀ σ2_, S_ < l_ → fnT σ σ2_ → σ2_ 95 15 = (S_ : Int) → σ2_ 95 16 = (k_ : Int) → rnU (α 101) 2 (l_ - k_) k_ = tkE (α 101) l_ S_ → VV 2 mX8_nextToken [vR 95] (fun r' s' a' => r' = none ∧ (fnT σ s' ∧ rtU s' (α 101) l_ p_) ∧ a' = α) σ2_ α 165 [some (vR 95)] [] := by
    refine ind_up (P := fun k_ => ∀ σ2_, S_ < l_ → fnT σ σ2_ → σ2_ 95 15 = (S_ : Int) → σ2_ 95 16 = (k_ : Int) → rnU (α 101) 2 (l_ - k_) k_ = tkE (α 101) l_ S_ → VV 2 mX8_nextToken [vR 95] (fun r' s' a' => r' = none ∧ (fnT σ s' ∧ rtU s' (α 101) l_ p_) ∧ a' = α) σ2_ α 165 [some (vR 95)] []) l_ ?_
    intro k_ hk_ ih_ σ2_ hS_ hF_ h15_ h16_ hR_
    refine v_aload_n iX8_nextToken_165 rfl ?_
    refine v_getI iX8_nextToken_166 fX8_77 rfl rfl (by exact h16_) ?_
    refine v_aload_n iX8_nextToken_169 rfl ?_
    refine v_getI iX8_nextToken_170 fX8_66 rfl rfl (by exact (hF_ 95 11 (by omega)).trans hl_) ?_
    refine v_icmp_ge (tgt := 204) iX8_nextToken_173 (by decide) (by omega) (fun hb173_ => ?_) (fun hb173_ => ?_)
    · exact h204_ _ hF_ h15_ (by rw [h16_, ← hR_, rn_stop (k := 2) (by first | omega | (simp only [decide_eq_false_iff_not] at hb188_; rw [kdU_2]; omega))])
    · refine v_aload_n iX8_nextToken_176 rfl ?_
      refine v_getR iX8_nextToken_177 fX8_36 rfl rfl ?_
      refine v_aload_n iX8_nextToken_180 rfl ?_
      refine v_getI iX8_nextToken_181 fX8_77 rfl rfl (by exact h16_) ?_
      refine v_iaload iX8_nextToken_184 rfl (by omega) (by exact (show _ = α 101 k_ by rw [Int.toNat_natCast])) ?_
      refine c_S1 (Mc := mX8_isDigit) iX8_nextToken_185 lX8_87 kX8_isDigit (qX8_isDigit _ _ (α 101 k_) (by have := hf_.2 k_ (by omega); omega)) (by decide) rfl rfl (Nat.le_of_ble_eq_true rfl) ?_
      try simp only [Int.toNat_natCast]
      refine v_bif_eq (tgt := 204) iX8_nextToken_188 (by decide) (fun hb188_ => ?_) (fun hb188_ => ?_)
      · try simp only [Int.toNat_natCast] at hb188_
        exact h204_ _ hF_ h15_ (by rw [h16_, ← hR_, rn_stop (k := 2) (by first | omega | (simp only [decide_eq_false_iff_not] at hb188_; rw [kdU_2]; omega))])
      · try simp only [Int.toNat_natCast] at hb188_
        refine v_aload_n iX8_nextToken_191 rfl ?_
        refine v_dup iX8_nextToken_192 (by intro z h; cases h) ?_
        refine v_getI iX8_nextToken_193 fX8_77 rfl rfl (by exact h16_) ?_
        refine v_iconst iX8_nextToken_196 ?_
        refine v_iadd iX8_nextToken_197 ?_
        refine v_put iX8_nextToken_198 pX8_77 rfl rfl (by intro h; cases h) ?_
        refine v_goto (tgt := 165) iX8_nextToken_201 (by decide) ?_
        simp only [decide_eq_true_eq] at hb188_
        exact ih_ (by omega) _ hS_ (hF_.u (by omega) _) (by rw [uS_ne _ _ (by omega)]; exact h15_) (by rw [uS_eq]; omega) ((rn_step (f := α 101) (k := 2) (l := l_) (p := k_) (by omega) (kdU_2.mpr (by omega))).symm.trans hR_)
  have h46_ : ∀ σ1_, fnT σ σ1_ → σ1_ 95 15 = (S_ : Int) → VV 2 mX8_nextToken [vR 95] (fun r' s' a' => r' = none ∧ (fnT σ s' ∧ rtU s' (α 101) l_ p_) ∧ a' = α) σ1_ α 46 [some (vR 95)] [] := by
    intro σ1_ hF_ h15_
    refine v_aload_n iX8_nextToken_46 rfl ?_
    refine v_aload_n iX8_nextToken_47 rfl ?_
    refine v_getI iX8_nextToken_48 fX8_80 rfl rfl (by exact h15_) ?_
    refine v_aload_n iX8_nextToken_51 rfl ?_
    refine v_getI iX8_nextToken_52 fX8_66 rfl rfl (by exact (hF_ 95 11 (by omega)).trans hl_) ?_
    refine v_icmp_ge (tgt := 67) iX8_nextToken_55 (by decide) (by omega) (fun hb55_ => ?_) (fun hb55_ => ?_)
    · refine v_aload_n iX8_nextToken_67 rfl ?_
      refine v_getI iX8_nextToken_68 fX8_80 rfl rfl (by exact h15_) ?_
      refine v_put iX8_nextToken_71 pX8_77 rfl rfl (by intro h; cases h) ?_
      refine v_aload_n iX8_nextToken_74 rfl ?_
      refine v_getI iX8_nextToken_75 fX8_80 rfl rfl (by exact (show _ = (S_ : Int) by rw [uS_ne _ _ (by omega)]; exact h15_)) ?_
      refine v_aload_n iX8_nextToken_78 rfl ?_
      refine v_getI iX8_nextToken_79 fX8_66 rfl rfl (by exact (show _ = (l_ : Int) by rw [uS_ne _ _ (by omega)]; exact (hF_ 95 11 (by omega)).trans hl_)) ?_
      refine v_icmp_ge (tgt := 139) iX8_nextToken_82 (by decide) (by omega) (fun hb82_ => ?_) (fun hb82_ => (by exfalso; omega))
      refine v_aload_n iX8_nextToken_139 rfl ?_
      refine v_getI iX8_nextToken_140 fX8_80 rfl rfl (by exact (show _ = (S_ : Int) by rw [uS_ne _ _ (by omega)]; exact h15_)) ?_
      refine v_aload_n iX8_nextToken_143 rfl ?_
      refine v_getI iX8_nextToken_144 fX8_66 rfl rfl (by exact (show _ = (l_ : Int) by rw [uS_ne _ _ (by omega)]; exact (hF_ 95 11 (by omega)).trans hl_)) ?_
      refine v_icmp_ge (tgt := 204) iX8_nextToken_147 (by decide) (by omega) (fun hb147_ => ?_) (fun hb147_ => (by exfalso; omega))
      exact h204_ _ (hF_.u (by omega) _) (by rw [uS_ne _ _ (by omega)]; exact h15_) (by rw [uS_eq, tkE_out (by omega)])
    · refine v_aload_n iX8_nextToken_58 rfl ?_
      refine v_getI iX8_nextToken_59 fX8_80 rfl rfl (by exact h15_) ?_
      refine v_iconst iX8_nextToken_62 ?_
      refine v_iadd iX8_nextToken_63 ?_
      refine v_goto (tgt := 71) iX8_nextToken_64 (by decide) ?_
      refine v_put iX8_nextToken_71 pX8_77 rfl rfl (by intro h; cases h) ?_
      refine v_aload_n iX8_nextToken_74 rfl ?_
      refine v_getI iX8_nextToken_75 fX8_80 rfl rfl (by exact (show _ = (S_ : Int) by rw [uS_ne _ _ (by omega)]; exact h15_)) ?_
      refine v_aload_n iX8_nextToken_78 rfl ?_
      refine v_getI iX8_nextToken_79 fX8_66 rfl rfl (by exact (show _ = (l_ : Int) by rw [uS_ne _ _ (by omega)]; exact (hF_ 95 11 (by omega)).trans hl_)) ?_
      refine v_icmp_ge (tgt := 139) iX8_nextToken_82 (by decide) (by omega) (fun hb82_ => (by exfalso; omega)) (fun hb82_ => ?_)
      refine v_aload_n iX8_nextToken_85 rfl ?_
      refine v_getR iX8_nextToken_86 fX8_36 rfl rfl ?_
      refine v_aload_n iX8_nextToken_89 rfl ?_
      refine v_getI iX8_nextToken_90 fX8_80 rfl rfl (by exact (show _ = (S_ : Int) by rw [uS_ne _ _ (by omega)]; exact h15_)) ?_
      refine v_iaload iX8_nextToken_93 rfl (by omega) (by exact (show _ = α 101 S_ by rw [Int.toNat_natCast])) ?_
      refine c_S1 (Mc := mX8_isSmall) iX8_nextToken_94 lX8_83 kX8_isSmall (qX8_isSmall _ _ (α 101 S_) (by have := hf_.2 S_ (by omega); omega)) (by decide) rfl rfl (Nat.le_of_ble_eq_true rfl) ?_
      try simp only [Int.toNat_natCast]
      refine v_bif_eq (tgt := 139) iX8_nextToken_97 (by decide) (fun hb97_ => ?_) (fun hb97_ => ?_)
      · try simp only [Int.toNat_natCast] at hb97_
        refine v_aload_n iX8_nextToken_139 rfl ?_
        refine v_getI iX8_nextToken_140 fX8_80 rfl rfl (by exact (show _ = (S_ : Int) by rw [uS_ne _ _ (by omega)]; exact h15_)) ?_
        refine v_aload_n iX8_nextToken_143 rfl ?_
        refine v_getI iX8_nextToken_144 fX8_66 rfl rfl (by exact (show _ = (l_ : Int) by rw [uS_ne _ _ (by omega)]; exact (hF_ 95 11 (by omega)).trans hl_)) ?_
        refine v_icmp_ge (tgt := 204) iX8_nextToken_147 (by decide) (by omega) (fun hb147_ => (by exfalso; omega)) (fun hb147_ => ?_)
        refine v_aload_n iX8_nextToken_150 rfl ?_
        refine v_getR iX8_nextToken_151 fX8_36 rfl rfl ?_
        refine v_aload_n iX8_nextToken_154 rfl ?_
        refine v_getI iX8_nextToken_155 fX8_80 rfl rfl (by exact (show _ = (S_ : Int) by rw [uS_ne _ _ (by omega)]; exact h15_)) ?_
        refine v_iaload iX8_nextToken_158 rfl (by omega) (by exact (show _ = α 101 S_ by rw [Int.toNat_natCast])) ?_
        refine c_S1 (Mc := mX8_isDigit) iX8_nextToken_159 lX8_87 kX8_isDigit (qX8_isDigit _ _ (α 101 S_) (by have := hf_.2 S_ (by omega); omega)) (by decide) rfl rfl (Nat.le_of_ble_eq_true rfl) ?_
        try simp only [Int.toNat_natCast]
        refine v_bif_eq (tgt := 204) iX8_nextToken_162 (by decide) (fun hb162_ => ?_) (fun hb162_ => ?_)
        · try simp only [Int.toNat_natCast] at hb162_
          simp only [decide_eq_false_iff_not] at hb97_ hb162_
          exact h204_ _ (hF_.u (by omega) _) (by rw [uS_ne _ _ (by omega)]; exact h15_) (by rw [uS_eq, tkE_3 (by omega) (kdU_3.mpr ⟨hb97_, hb162_⟩)]; omega)
        · try simp only [Int.toNat_natCast] at hb162_
          simp only [decide_eq_true_eq] at hb162_
          have e1_ := kdU_2.mpr hb162_
          exact h165_ (S_ + 1) (by omega) _ (by omega) (hF_.u (by omega) _) (by rw [uS_ne _ _ (by omega)]; exact h15_) (by rw [uS_eq]; omega) (by rw [tkE_n (by omega) (by omega), e1_])
      · try simp only [Int.toNat_natCast] at hb97_
        simp only [decide_eq_true_eq] at hb97_
        have e1_ := kdU_1.mpr hb97_
        exact h100_ (S_ + 1) (by omega) _ (by omega) (hF_.u (by omega) _) (by rw [uS_ne _ _ (by omega)]; exact h15_) (by rw [uS_eq]; omega) (by rw [tkE_n (by omega) (by omega), e1_])
  refine v_aload_n iX8_nextToken_0 rfl ?_
  refine v_aload_n iX8_nextToken_1 rfl ?_
  refine v_getI iX8_nextToken_2 fX8_77 rfl rfl (by exact hp_) ?_
  refine v_put iX8_nextToken_5 pX8_80 rfl rfl (by intro h; cases h) ?_
  refine ind_up (P := fun k_ => ∀ σ1_, fnT σ σ1_ → σ1_ 95 15 = (k_ : Int) → tkS (α 101) l_ k_ = tkS (α 101) l_ p_ → VV 2 mX8_nextToken [vR 95] (fun r' s' a' => r' = none ∧ (fnT σ s' ∧ rtU s' (α 101) l_ p_) ∧ a' = α) σ1_ α 8 [some (vR 95)] []) l_ ?_ p_ hpl_ _ ((fnT.rf σ).u (by omega) _) (by rw [uS_eq]) rfl
  intro k_ hk_ ih_ σ1_ hF_ h15_ hT_
  refine v_aload_n iX8_nextToken_8 rfl ?_
  refine v_getI iX8_nextToken_9 fX8_80 rfl rfl (by exact h15_) ?_
  refine v_aload_n iX8_nextToken_12 rfl ?_
  refine v_getI iX8_nextToken_13 fX8_66 rfl rfl (by exact (hF_ 95 11 (by omega)).trans hl_) ?_
  refine v_icmp_ge (tgt := 46) iX8_nextToken_16 (by decide) (by omega) (fun hb16_ => ?_) (fun hb16_ => ?_)
  · exact h46_ _ hF_ (by rw [h15_, hS0_, ← hT_, tkS_stop (by omega)])
  · refine v_aload_n iX8_nextToken_19 rfl ?_
    refine v_getR iX8_nextToken_20 fX8_36 rfl rfl ?_
    refine v_aload_n iX8_nextToken_23 rfl ?_
    refine v_getI iX8_nextToken_24 fX8_80 rfl rfl (by exact h15_) ?_
    refine v_iaload iX8_nextToken_27 rfl (by omega) (by exact (show _ = α 101 k_ by rw [Int.toNat_natCast])) ?_
    refine v_bipush iX8_nextToken_28 (by decide) ?_
    refine v_icmp_ne (tgt := 46) iX8_nextToken_30 (by decide) (by have := hf_.2 k_ (by omega); omega) (fun hb30_ => ?_) (fun hb30_ => ?_)
    · exact h46_ _ hF_ (by rw [h15_, hS0_, ← hT_, tkS_stop (by omega)])
    · refine v_aload_n iX8_nextToken_33 rfl ?_
      refine v_dup iX8_nextToken_34 (by intro z h; cases h) ?_
      refine v_getI iX8_nextToken_35 fX8_80 rfl rfl (by exact h15_) ?_
      refine v_iconst iX8_nextToken_38 ?_
      refine v_iadd iX8_nextToken_39 ?_
      refine v_put iX8_nextToken_40 pX8_80 rfl rfl (by intro h; cases h) ?_
      refine v_goto (tgt := 8) iX8_nextToken_43 (by decide) ?_
      exact ih_ (by omega) _ (hF_.u (by omega) _) (by rw [uS_eq]; omega) ((tkS_step (f := α 101) (l := l_) (p := k_) (by omega) (by omega)).symm.trans hT_)
