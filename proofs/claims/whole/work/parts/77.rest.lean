/-- the numbers of a clause as the row holds them -/
def nbU (w : Int) (α : St) (x y z : Int) : Prop := (w ≠ 0 → α 105 0 = x ∧ α 105 1 = y) ∧ (w = 3 ∨ w = 5 → α 105 2 = z)

set_option maxHeartbeats 4000000 in
set_option maxRecDepth 100000 in
theorem qX8_readsRest (σ α : St) (f_ : Nat → Int) (hfe_ : α 101 = f_) (l_ p_ : Nat) (hl_ : σ 95 11 = l_) (hpl_ : p_ ≤ l_) (hf_ : txU f_ l_) (hr_ : rtU σ f_ l_ p_) (n_ w_ : Int) (hn_ : σ 95 17 = n_) (hn2_ : 0 ≤ n_ ∧ n_ ≤ 10) (hw_ : 0 ≤ w_ ∧ w_ ≤ 5) : CG 5 mX8_readsRest [vR 95, vI w_] σ α (fun r' s' a' => r' = some (vI (b2i (rsU f_ l_ n_ w_ p_).1)) ∧ fnT σ s' ∧ fa105 α a' ∧ ((rsU f_ l_ n_ w_ p_).1 = true → rtU s' f_ l_ (rsU f_ l_ n_ w_ p_).2.1 ∧ nbU w_ a' (rsU f_ l_ n_ w_ p_).2.2.1 (rsU f_ l_ n_ w_ p_).2.2.2.1 (rsU f_ l_ n_ w_ p_).2.2.2.2) ∧ ((rsU f_ l_ n_ w_ p_).1 = false → s' 95 15 = ((rsU f_ l_ n_ w_ p_).2.1 : Int))) := by
  refine CG.of [some (vR 95), some (vI w_)] (by decide) (by simp [lvA]) rfl ?_
  refine v_iload_n iX8_readsRest_0 rfl ?_
  rcases (show w_ = 0 ∨ w_ = 1 ∨ w_ = 2 ∨ w_ = 3 ∨ w_ = 4 ∨ (w_ < 0 ∨ 4 < w_) by omega) with rfl | rfl | rfl | rfl | rfl | hsw
  · refine v_tabIn (tgt := 36) iX8_readsRest_1 (by decide) (by decide) rfl (by decide) ?_
    refine v_iconst iX8_readsRest_36 ?_
    exact r_b iX8_readsRest_37 rfl (by decide) (by show _ ∧ _; rw [rsU_0]; exact ⟨rfl, fnT.rf σ, fa105.rf α, fun _ => ⟨hr_, fun h_ => absurd rfl h_, fun h_ => absurd h_ (by decide)⟩, fun h_ => (by cases h_)⟩)
  · refine v_tabIn (tgt := 38) iX8_readsRest_1 (by decide) (by decide) rfl (by decide) ?_
    refine v_aload_n iX8_readsRest_38 rfl ?_
    refine v_iconst iX8_readsRest_39 ?_
    refine v_iconst iX8_readsRest_40 ?_
    refine v_bipush iX8_readsRest_41 (by decide) ?_
    refine v_iconst iX8_readsRest_43 ?_
    refine c_VQ (Mc := mX8_number) iX8_readsRest_44 lX8_96 kX8_number (qX8_number σ α f_ hfe_ l_ p_ hl_ hpl_ hf_ hr_ 0 (by decide) 1 99 (-1) (by decide) (by decide) (by decide)) (by decide) rfl rfl rfl rfl (Nat.le_of_ble_eq_true rfl) ?_
    rintro s1_ a1_ ⟨hFx1_, hAx1_, hTx1_, hNx1_⟩
    have hF1_ := hFx1_
    have hA1_ := hAx1_
    try simp only [Int.toNat_natCast]
    refine v_bif_eq (tgt := 66) iX8_readsRest_47 (by decide) (fun hb47_ => ?_) (fun hb47_ => ?_)
    · have hR_ : rsU f_ l_ n_ 1 p_ = (false, tkS f_ l_ p_, 0, 0, 0) := by rw [rsU_1, nmK_f hb47_]
      refine v_iconst iX8_readsRest_66 ?_
      exact r_b iX8_readsRest_67 rfl (by decide) (by show _ ∧ _; rw [hR_]; exact ⟨rfl, hF1_, hA1_, fun h_ => (by cases h_), fun _ => (by rw [(hNx1_ hb47_).1]; exact hr_.1)⟩)
    · obtain ⟨hR1_, hV1_⟩ := hTx1_ hb47_
      have hq1_ := (nmE_r f_ hpl_).2
      have hi1_ := nmB_i hb47_
      refine v_aload_n iX8_readsRest_50 rfl ?_
      refine v_iconst iX8_readsRest_51 ?_
      refine v_iconst iX8_readsRest_52 ?_
      refine v_bipush iX8_readsRest_53 (by decide) ?_
      refine v_iconst iX8_readsRest_55 ?_
      refine c_VQ (Mc := mX8_number) iX8_readsRest_56 lX8_96 kX8_number (qX8_number s1_ a1_ f_ ((hA1_ 101 (by decide)).trans hfe_) l_ (nmE f_ l_ p_) ((hF1_ 95 11 (by omega)).trans hl_) hq1_ hf_ hR1_ 1 (by decide) 1 99 (-1) (by decide) (by decide) (by decide)) (by decide) rfl rfl rfl rfl (Nat.le_of_ble_eq_true rfl) ?_
      rintro s2_ a2_ ⟨hFx2_, hAx2_, hTx2_, hNx2_⟩
      have hF2_ := hF1_.tr hFx2_
      have hA2_ := hA1_.tr hAx2_
      try simp only [Int.toNat_natCast]
      refine v_bif_eq (tgt := 66) iX8_readsRest_59 (by decide) (fun hb59_ => ?_) (fun hb59_ => ?_)
      · have hR_ : rsU f_ l_ n_ 1 p_ = (false, tkS f_ l_ (nmE f_ l_ p_), 0, 0, 0) := by rw [rsU_1, nmK_t hb47_, nmK_f hb59_]
        refine v_iconst iX8_readsRest_66 ?_
        exact r_b iX8_readsRest_67 rfl (by decide) (by show _ ∧ _; rw [hR_]; exact ⟨rfl, hF2_, hA2_, fun h_ => (by cases h_), fun _ => (by rw [(hNx2_ hb59_).1]; exact hR1_.1)⟩)
      · obtain ⟨hR2_, hV2_⟩ := hTx2_ hb59_
        have hq2_ := (nmE_r f_ hq1_).2
        have hi2_ := nmB_i hb59_
        have hR_ : rsU f_ l_ n_ 1 p_ = (true, nmE f_ l_ (nmE f_ l_ p_), nmV f_ l_ p_, nmV f_ l_ (nmE f_ l_ p_), 0) := by rw [rsU_1, nmK_t hb47_, nmK_t hb59_]
        refine v_iconst iX8_readsRest_62 ?_
        refine v_goto (tgt := 67) iX8_readsRest_63 (by decide) ?_
        exact r_b iX8_readsRest_67 rfl (by decide) (by show _ ∧ _; rw [hR_]; exact ⟨rfl, hF2_, hA2_, fun _ => ⟨hR2_, fun _ => ⟨by rw [hV2_, uF_ne _ _ (by decide), hV1_, uF_eq], by rw [hV2_, uF_eq]⟩, fun h_ => absurd h_ (by decide)⟩, fun h_ => (by cases h_)⟩)
  · refine v_tabIn (tgt := 68) iX8_readsRest_1 (by decide) (by decide) rfl (by decide) ?_
    refine v_aload_n iX8_readsRest_68 rfl ?_
    refine v_iconst iX8_readsRest_69 ?_
    refine v_iconst iX8_readsRest_70 ?_
    refine c_VQ (Mc := mX8_readsSection) iX8_readsRest_71 lX8_100 kX8_readsSection (qX8_readsSection σ α f_ hfe_ l_ p_ hl_ hpl_ hf_ hr_ 0 (by decide) n_ (-1) hn_ hn2_ (by decide)) (by decide) rfl rfl rfl rfl (Nat.le_of_ble_eq_true rfl) ?_
    rintro s1_ a1_ ⟨hFx1_, hAx1_, hTx1_, hNx1_⟩
    have hF1_ := hFx1_
    have hA1_ := hAx1_
    try simp only [Int.toNat_natCast]
    refine v_bif_eq (tgt := 95) iX8_readsRest_74 (by decide) (fun hb74_ => ?_) (fun hb74_ => ?_)
    · have hR_ : rsU f_ l_ n_ 2 p_ = (false, tkS f_ l_ p_, 0, 0, 0) := by rw [rsU_2, nmK_f hb74_]
      refine v_iconst iX8_readsRest_95 ?_
      exact r_b iX8_readsRest_96 rfl (by decide) (by show _ ∧ _; rw [hR_]; exact ⟨rfl, hF1_, hA1_, fun h_ => (by cases h_), fun _ => (by rw [(hNx1_ hb74_).1]; exact hr_.1)⟩)
    · obtain ⟨hR1_, hV1_⟩ := hTx1_ hb74_
      have hq1_ := (nmE_r f_ hpl_).2
      have hi1_ := nmB_i hb74_
      refine v_aload_n iX8_readsRest_77 rfl ?_
      refine v_iconst iX8_readsRest_78 ?_
      refine v_aload_n iX8_readsRest_79 rfl ?_
      refine v_getR iX8_readsRest_80 fX8_48 rfl rfl ?_
      refine v_iconst iX8_readsRest_83 ?_
      refine v_iaload iX8_readsRest_84 rfl (by omega) (by exact (show _ = nmV f_ l_ p_ by show a1_ 105 0 = _; rw [hV1_, uF_eq])) ?_
      refine c_VQ (Mc := mX8_readsSection) iX8_readsRest_85 lX8_100 kX8_readsSection (qX8_readsSection s1_ a1_ f_ ((hA1_ 101 (by decide)).trans hfe_) l_ (nmE f_ l_ p_) ((hF1_ 95 11 (by omega)).trans hl_) hq1_ hf_ hR1_ 1 (by decide) n_ (nmV f_ l_ p_) ((hF1_ 95 17 (by omega)).trans hn_) hn2_ (by omega)) (by decide) rfl rfl rfl rfl (Nat.le_of_ble_eq_true rfl) ?_
      rintro s2_ a2_ ⟨hFx2_, hAx2_, hTx2_, hNx2_⟩
      have hF2_ := hF1_.tr hFx2_
      have hA2_ := hA1_.tr hAx2_
      try simp only [Int.toNat_natCast]
      refine v_bif_eq (tgt := 95) iX8_readsRest_88 (by decide) (fun hb88_ => ?_) (fun hb88_ => ?_)
      · have hR_ : rsU f_ l_ n_ 2 p_ = (false, tkS f_ l_ (nmE f_ l_ p_), 0, 0, 0) := by rw [rsU_2, nmK_t hb74_, nmK_f hb88_]
        refine v_iconst iX8_readsRest_95 ?_
        exact r_b iX8_readsRest_96 rfl (by decide) (by show _ ∧ _; rw [hR_]; exact ⟨rfl, hF2_, hA2_, fun h_ => (by cases h_), fun _ => (by rw [(hNx2_ hb88_).1]; exact hR1_.1)⟩)
      · obtain ⟨hR2_, hV2_⟩ := hTx2_ hb88_
        have hq2_ := (nmE_r f_ hq1_).2
        have hi2_ := nmB_i hb88_
        have hR_ : rsU f_ l_ n_ 2 p_ = (true, nmE f_ l_ (nmE f_ l_ p_), nmV f_ l_ p_, nmV f_ l_ (nmE f_ l_ p_), 0) := by rw [rsU_2, nmK_t hb74_, nmK_t hb88_]
        refine v_iconst iX8_readsRest_91 ?_
        refine v_goto (tgt := 96) iX8_readsRest_92 (by decide) ?_
        exact r_b iX8_readsRest_96 rfl (by decide) (by show _ ∧ _; rw [hR_]; exact ⟨rfl, hF2_, hA2_, fun _ => ⟨hR2_, fun _ => ⟨by rw [hV2_, uF_ne _ _ (by decide), hV1_, uF_eq], by rw [hV2_, uF_eq]⟩, fun h_ => absurd h_ (by decide)⟩, fun h_ => (by cases h_)⟩)
  · refine v_tabIn (tgt := 97) iX8_readsRest_1 (by decide) (by decide) rfl (by decide) ?_
    refine v_aload_n iX8_readsRest_97 rfl ?_
    refine v_iconst iX8_readsRest_98 ?_
    refine v_iconst iX8_readsRest_99 ?_
    refine c_VQ (Mc := mX8_readsSection) iX8_readsRest_100 lX8_100 kX8_readsSection (qX8_readsSection σ α f_ hfe_ l_ p_ hl_ hpl_ hf_ hr_ 0 (by decide) n_ (-1) hn_ hn2_ (by decide)) (by decide) rfl rfl rfl rfl (Nat.le_of_ble_eq_true rfl) ?_
    rintro s1_ a1_ ⟨hFx1_, hAx1_, hTx1_, hNx1_⟩
    have hF1_ := hFx1_
    have hA1_ := hAx1_
    try simp only [Int.toNat_natCast]
    refine v_bif_eq (tgt := 134) iX8_readsRest_103 (by decide) (fun hb103_ => ?_) (fun hb103_ => ?_)
    · have hR_ : rsU f_ l_ n_ 3 p_ = (false, tkS f_ l_ p_, 0, 0, 0) := by rw [rsU_3, nmK_f hb103_]
      refine v_iconst iX8_readsRest_134 ?_
      exact r_b iX8_readsRest_135 rfl (by decide) (by show _ ∧ _; rw [hR_]; exact ⟨rfl, hF1_, hA1_, fun h_ => (by cases h_), fun _ => (by rw [(hNx1_ hb103_).1]; exact hr_.1)⟩)
    · obtain ⟨hR1_, hV1_⟩ := hTx1_ hb103_
      have hq1_ := (nmE_r f_ hpl_).2
      have hi1_ := nmB_i hb103_
      refine v_aload_n iX8_readsRest_106 rfl ?_
      refine v_iconst iX8_readsRest_107 ?_
      refine v_iconst iX8_readsRest_108 ?_
      refine v_bipush iX8_readsRest_109 (by decide) ?_
      refine v_iconst iX8_readsRest_111 ?_
      refine c_VQ (Mc := mX8_number) iX8_readsRest_112 lX8_96 kX8_number (qX8_number s1_ a1_ f_ ((hA1_ 101 (by decide)).trans hfe_) l_ (nmE f_ l_ p_) ((hF1_ 95 11 (by omega)).trans hl_) hq1_ hf_ hR1_ 1 (by decide) 1 99 (-1) (by decide) (by decide) (by decide)) (by decide) rfl rfl rfl rfl (Nat.le_of_ble_eq_true rfl) ?_
      rintro s2_ a2_ ⟨hFx2_, hAx2_, hTx2_, hNx2_⟩
      have hF2_ := hF1_.tr hFx2_
      have hA2_ := hA1_.tr hAx2_
      try simp only [Int.toNat_natCast]
      refine v_bif_eq (tgt := 134) iX8_readsRest_115 (by decide) (fun hb115_ => ?_) (fun hb115_ => ?_)
      · have hR_ : rsU f_ l_ n_ 3 p_ = (false, tkS f_ l_ (nmE f_ l_ p_), 0, 0, 0) := by rw [rsU_3, nmK_t hb103_, nmK_f hb115_]
        refine v_iconst iX8_readsRest_134 ?_
        exact r_b iX8_readsRest_135 rfl (by decide) (by show _ ∧ _; rw [hR_]; exact ⟨rfl, hF2_, hA2_, fun h_ => (by cases h_), fun _ => (by rw [(hNx2_ hb115_).1]; exact hR1_.1)⟩)
      · obtain ⟨hR2_, hV2_⟩ := hTx2_ hb115_
        have hq2_ := (nmE_r f_ hq1_).2
        have hi2_ := nmB_i hb115_
        refine v_aload_n iX8_readsRest_118 rfl ?_
        refine v_iconst iX8_readsRest_119 ?_
        refine v_iconst iX8_readsRest_120 ?_
        refine v_bipush iX8_readsRest_121 (by decide) ?_
        refine v_iconst iX8_readsRest_123 ?_
        refine c_VQ (Mc := mX8_number) iX8_readsRest_124 lX8_96 kX8_number (qX8_number s2_ a2_ f_ ((hA2_ 101 (by decide)).trans hfe_) l_ (nmE f_ l_ (nmE f_ l_ p_)) ((hF2_ 95 11 (by omega)).trans hl_) hq2_ hf_ hR2_ 2 (by decide) 1 99 (-1) (by decide) (by decide) (by decide)) (by decide) rfl rfl rfl rfl (Nat.le_of_ble_eq_true rfl) ?_
        rintro s3_ a3_ ⟨hFx3_, hAx3_, hTx3_, hNx3_⟩
        have hF3_ := hF2_.tr hFx3_
        have hA3_ := hA2_.tr hAx3_
        try simp only [Int.toNat_natCast]
        refine v_bif_eq (tgt := 134) iX8_readsRest_127 (by decide) (fun hb127_ => ?_) (fun hb127_ => ?_)
        · have hR_ : rsU f_ l_ n_ 3 p_ = (false, tkS f_ l_ (nmE f_ l_ (nmE f_ l_ p_)), 0, 0, 0) := by rw [rsU_3, nmK_t hb103_, nmK_t hb115_, nmK_f hb127_]
          refine v_iconst iX8_readsRest_134 ?_
          exact r_b iX8_readsRest_135 rfl (by decide) (by show _ ∧ _; rw [hR_]; exact ⟨rfl, hF3_, hA3_, fun h_ => (by cases h_), fun _ => (by rw [(hNx3_ hb127_).1]; exact hR2_.1)⟩)
        · obtain ⟨hR3_, hV3_⟩ := hTx3_ hb127_
          have hq3_ := (nmE_r f_ hq2_).2
          have hi3_ := nmB_i hb127_
          have hR_ : rsU f_ l_ n_ 3 p_ = (true, nmE f_ l_ (nmE f_ l_ (nmE f_ l_ p_)), nmV f_ l_ p_, nmV f_ l_ (nmE f_ l_ p_), nmV f_ l_ (nmE f_ l_ (nmE f_ l_ p_))) := by rw [rsU_3, nmK_t hb103_, nmK_t hb115_, nmK_t hb127_]
          refine v_iconst iX8_readsRest_130 ?_
          refine v_goto (tgt := 135) iX8_readsRest_131 (by decide) ?_
          exact r_b iX8_readsRest_135 rfl (by decide) (by show _ ∧ _; rw [hR_]; exact ⟨rfl, hF3_, hA3_, fun _ => ⟨hR3_, fun _ => ⟨by rw [hV3_, uF_ne _ _ (by decide), hV2_, uF_ne _ _ (by decide), hV1_, uF_eq], by rw [hV3_, uF_ne _ _ (by decide), hV2_, uF_eq]⟩, fun h_ => by rw [hV3_, uF_eq]⟩, fun h_ => (by cases h_)⟩)
  · refine v_tabIn (tgt := 136) iX8_readsRest_1 (by decide) (by decide) rfl (by decide) ?_
    refine v_aload_n iX8_readsRest_136 rfl ?_
    refine v_iconst iX8_readsRest_137 ?_
    refine v_iconst iX8_readsRest_138 ?_
    refine c_VQ (Mc := mX8_readsSection) iX8_readsRest_139 lX8_100 kX8_readsSection (qX8_readsSection σ α f_ hfe_ l_ p_ hl_ hpl_ hf_ hr_ 0 (by decide) n_ (-1) hn_ hn2_ (by decide)) (by decide) rfl rfl rfl rfl (Nat.le_of_ble_eq_true rfl) ?_
    rintro s1_ a1_ ⟨hFx1_, hAx1_, hTx1_, hNx1_⟩
    have hF1_ := hFx1_
    have hA1_ := hAx1_
    try simp only [Int.toNat_natCast]
    refine v_bif_eq (tgt := 161) iX8_readsRest_142 (by decide) (fun hb142_ => ?_) (fun hb142_ => ?_)
    · have hR_ : rsU f_ l_ n_ 4 p_ = (false, tkS f_ l_ p_, 0, 0, 0) := by rw [rsU_4, nmK_f hb142_]
      refine v_iconst iX8_readsRest_161 ?_
      exact r_b iX8_readsRest_162 rfl (by decide) (by show _ ∧ _; rw [hR_]; exact ⟨rfl, hF1_, hA1_, fun h_ => (by cases h_), fun _ => (by rw [(hNx1_ hb142_).1]; exact hr_.1)⟩)
    · obtain ⟨hR1_, hV1_⟩ := hTx1_ hb142_
      have hq1_ := (nmE_r f_ hpl_).2
      have hi1_ := nmB_i hb142_
      refine v_aload_n iX8_readsRest_145 rfl ?_
      refine v_iconst iX8_readsRest_146 ?_
      refine v_iconst iX8_readsRest_147 ?_
      refine v_bipush iX8_readsRest_148 (by decide) ?_
      refine v_iconst iX8_readsRest_150 ?_
      refine c_VQ (Mc := mX8_number) iX8_readsRest_151 lX8_96 kX8_number (qX8_number s1_ a1_ f_ ((hA1_ 101 (by decide)).trans hfe_) l_ (nmE f_ l_ p_) ((hF1_ 95 11 (by omega)).trans hl_) hq1_ hf_ hR1_ 1 (by decide) 0 9 (-1) (by decide) (by decide) (by decide)) (by decide) rfl rfl rfl rfl (Nat.le_of_ble_eq_true rfl) ?_
      rintro s2_ a2_ ⟨hFx2_, hAx2_, hTx2_, hNx2_⟩
      have hF2_ := hF1_.tr hFx2_
      have hA2_ := hA1_.tr hAx2_
      try simp only [Int.toNat_natCast]
      refine v_bif_eq (tgt := 161) iX8_readsRest_154 (by decide) (fun hb154_ => ?_) (fun hb154_ => ?_)
      · have hR_ : rsU f_ l_ n_ 4 p_ = (false, tkS f_ l_ (nmE f_ l_ p_), 0, 0, 0) := by rw [rsU_4, nmK_t hb142_, nmK_f hb154_]
        refine v_iconst iX8_readsRest_161 ?_
        exact r_b iX8_readsRest_162 rfl (by decide) (by show _ ∧ _; rw [hR_]; exact ⟨rfl, hF2_, hA2_, fun h_ => (by cases h_), fun _ => (by rw [(hNx2_ hb154_).1]; exact hR1_.1)⟩)
      · obtain ⟨hR2_, hV2_⟩ := hTx2_ hb154_
        have hq2_ := (nmE_r f_ hq1_).2
        have hi2_ := nmB_i hb154_
        have hR_ : rsU f_ l_ n_ 4 p_ = (true, nmE f_ l_ (nmE f_ l_ p_), nmV f_ l_ p_, nmV f_ l_ (nmE f_ l_ p_), 0) := by rw [rsU_4, nmK_t hb142_, nmK_t hb154_]
        refine v_iconst iX8_readsRest_157 ?_
        refine v_goto (tgt := 162) iX8_readsRest_158 (by decide) ?_
        exact r_b iX8_readsRest_162 rfl (by decide) (by show _ ∧ _; rw [hR_]; exact ⟨rfl, hF2_, hA2_, fun _ => ⟨hR2_, fun _ => ⟨by rw [hV2_, uF_ne _ _ (by decide), hV1_, uF_eq], by rw [hV2_, uF_eq]⟩, fun h_ => absurd h_ (by decide)⟩, fun h_ => (by cases h_)⟩)
  · refine v_tabOut (tgt := 163) iX8_readsRest_1 (by omega) hsw (by decide) ?_
    obtain rfl : w_ = 5 := by omega
    refine v_aload_n iX8_readsRest_163 rfl ?_
    refine v_iconst iX8_readsRest_164 ?_
    refine v_iconst iX8_readsRest_165 ?_
    refine v_bipush iX8_readsRest_166 (by decide) ?_
    refine v_iconst iX8_readsRest_168 ?_
    refine c_VQ (Mc := mX8_number) iX8_readsRest_169 lX8_96 kX8_number (qX8_number σ α f_ hfe_ l_ p_ hl_ hpl_ hf_ hr_ 0 (by decide) 1 99 (-1) (by decide) (by decide) (by decide)) (by decide) rfl rfl rfl rfl (Nat.le_of_ble_eq_true rfl) ?_
    rintro s1_ a1_ ⟨hFx1_, hAx1_, hTx1_, hNx1_⟩
    have hF1_ := hFx1_
    have hA1_ := hAx1_
    try simp only [Int.toNat_natCast]
    refine v_bif_eq (tgt := 203) iX8_readsRest_172 (by decide) (fun hb172_ => ?_) (fun hb172_ => ?_)
    · have hR_ : rsU f_ l_ n_ 5 p_ = (false, tkS f_ l_ p_, 0, 0, 0) := by rw [rsU_5, nmK_f hb172_]
      refine v_iconst iX8_readsRest_203 ?_
      exact r_b iX8_readsRest_204 rfl (by decide) (by show _ ∧ _; rw [hR_]; exact ⟨rfl, hF1_, hA1_, fun h_ => (by cases h_), fun _ => (by rw [(hNx1_ hb172_).1]; exact hr_.1)⟩)
    · obtain ⟨hR1_, hV1_⟩ := hTx1_ hb172_
      have hq1_ := (nmE_r f_ hpl_).2
      have hi1_ := nmB_i hb172_
      refine v_aload_n iX8_readsRest_175 rfl ?_
      refine v_iconst iX8_readsRest_176 ?_
      refine v_iconst iX8_readsRest_177 ?_
      refine v_bipush iX8_readsRest_178 (by decide) ?_
      refine v_iconst iX8_readsRest_180 ?_
      refine c_VQ (Mc := mX8_number) iX8_readsRest_181 lX8_96 kX8_number (qX8_number s1_ a1_ f_ ((hA1_ 101 (by decide)).trans hfe_) l_ (nmE f_ l_ p_) ((hF1_ 95 11 (by omega)).trans hl_) hq1_ hf_ hR1_ 1 (by decide) 1 99 (-1) (by decide) (by decide) (by decide)) (by decide) rfl rfl rfl rfl (Nat.le_of_ble_eq_true rfl) ?_
      rintro s2_ a2_ ⟨hFx2_, hAx2_, hTx2_, hNx2_⟩
      have hF2_ := hF1_.tr hFx2_
      have hA2_ := hA1_.tr hAx2_
      try simp only [Int.toNat_natCast]
      refine v_bif_eq (tgt := 203) iX8_readsRest_184 (by decide) (fun hb184_ => ?_) (fun hb184_ => ?_)
      · have hR_ : rsU f_ l_ n_ 5 p_ = (false, tkS f_ l_ (nmE f_ l_ p_), 0, 0, 0) := by rw [rsU_5, nmK_t hb172_, nmK_f hb184_]
        refine v_iconst iX8_readsRest_203 ?_
        exact r_b iX8_readsRest_204 rfl (by decide) (by show _ ∧ _; rw [hR_]; exact ⟨rfl, hF2_, hA2_, fun h_ => (by cases h_), fun _ => (by rw [(hNx2_ hb184_).1]; exact hR1_.1)⟩)
      · obtain ⟨hR2_, hV2_⟩ := hTx2_ hb184_
        have hq2_ := (nmE_r f_ hq1_).2
        have hi2_ := nmB_i hb184_
        refine v_aload_n iX8_readsRest_187 rfl ?_
        refine v_iconst iX8_readsRest_188 ?_
        refine v_iconst iX8_readsRest_189 ?_
        refine v_bipush iX8_readsRest_190 (by decide) ?_
        refine v_iconst iX8_readsRest_192 ?_
        refine c_VQ (Mc := mX8_number) iX8_readsRest_193 lX8_96 kX8_number (qX8_number s2_ a2_ f_ ((hA2_ 101 (by decide)).trans hfe_) l_ (nmE f_ l_ (nmE f_ l_ p_)) ((hF2_ 95 11 (by omega)).trans hl_) hq2_ hf_ hR2_ 2 (by decide) 0 100 (-1) (by decide) (by decide) (by decide)) (by decide) rfl rfl rfl rfl (Nat.le_of_ble_eq_true rfl) ?_
        rintro s3_ a3_ ⟨hFx3_, hAx3_, hTx3_, hNx3_⟩
        have hF3_ := hF2_.tr hFx3_
        have hA3_ := hA2_.tr hAx3_
        try simp only [Int.toNat_natCast]
        refine v_bif_eq (tgt := 203) iX8_readsRest_196 (by decide) (fun hb196_ => ?_) (fun hb196_ => ?_)
        · have hR_ : rsU f_ l_ n_ 5 p_ = (false, tkS f_ l_ (nmE f_ l_ (nmE f_ l_ p_)), 0, 0, 0) := by rw [rsU_5, nmK_t hb172_, nmK_t hb184_, nmK_f hb196_]
          refine v_iconst iX8_readsRest_203 ?_
          exact r_b iX8_readsRest_204 rfl (by decide) (by show _ ∧ _; rw [hR_]; exact ⟨rfl, hF3_, hA3_, fun h_ => (by cases h_), fun _ => (by rw [(hNx3_ hb196_).1]; exact hR2_.1)⟩)
        · obtain ⟨hR3_, hV3_⟩ := hTx3_ hb196_
          have hq3_ := (nmE_r f_ hq2_).2
          have hi3_ := nmB_i hb196_
          have hR_ : rsU f_ l_ n_ 5 p_ = (true, nmE f_ l_ (nmE f_ l_ (nmE f_ l_ p_)), nmV f_ l_ p_, nmV f_ l_ (nmE f_ l_ p_), nmV f_ l_ (nmE f_ l_ (nmE f_ l_ p_))) := by rw [rsU_5, nmK_t hb172_, nmK_t hb184_, nmK_t hb196_]
          refine v_iconst iX8_readsRest_199 ?_
          refine v_goto (tgt := 204) iX8_readsRest_200 (by decide) ?_
          exact r_b iX8_readsRest_204 rfl (by decide) (by show _ ∧ _; rw [hR_]; exact ⟨rfl, hF3_, hA3_, fun _ => ⟨hR3_, fun _ => ⟨by rw [hV3_, uF_ne _ _ (by decide), hV2_, uF_ne _ _ (by decide), hV1_, uF_eq], by rw [hV3_, uF_ne _ _ (by decide), hV2_, uF_eq]⟩, fun h_ => by rw [hV3_, uF_eq]⟩, fun h_ => (by cases h_)⟩)
