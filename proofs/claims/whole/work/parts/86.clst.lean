set_option maxHeartbeats 4000000 in
set_option maxRecDepth 100000 in
theorem qX5_clauseStands (σ α : St) (f_ : Nat → Int) (hfe_ : α 2 = f_) (l_ : Nat) (hl_ : σ 1 1 = l_) (hf_ : txU f_ l_) (p_ : Nat) (hpl_ : p_ ≤ l_) (hT_ : ctU σ f_ l_ p_) (P_ : pnT) (hP_ : pcU σ α 12 P_) (hwf_ : wfP P_) : CG 5 mX5_clauseStands [vR 21] σ α (fun r' s' a' => r' = some (vI (b2i (clU f_ l_ (pnN P_) (pnR P_ 0) p_).1)) ∧ fcD σ α s' a' ∧ ((clU f_ l_ (pnN P_) (pnR P_ 0) p_).1 = true → s' 21 4 = ((clU f_ l_ (pnN P_) (pnR P_ 0) p_).2.1 : Int) ∧ pcU s' a' 12 (dpU f_ l_ p_ P_)) ∧ ((clU f_ l_ (pnN P_) (pnR P_ 0) p_).1 = false → s' 21 3 = ((clU f_ l_ (pnN P_) (pnR P_ 0) p_).2.1 : Int))) := by
  have hn10_ := hwf_.1
  have hm6_ := hwf_.2.2.2.1.1
  have hS_ := tkS_r f_ hpl_
  have hE_ := (tkE_r f_ hS_.2).2.1
  have hE1_ := (tkE_r f_ hS_.2).2.2
  have hkn_ := knU_r f_ l_ (tkS f_ l_ p_)
  refine CG.of [some (vR 21)] (by decide) (by simp [lvA]) rfl ?_
  refine v_aload_n iX5_clauseStands_0 rfl ?_
  refine v_getI iX5_clauseStands_1 fX5_42 rfl rfl (by exact hT_.2.2) ?_
  refine v_iconst iX5_clauseStands_4 ?_
  refine v_icmp_eq (tgt := 10) iX5_clauseStands_5 (by decide) (by omega) (fun hb5_ => ?_) (fun hb5_ => ?_)
  · have hsl_ : tkS f_ l_ p_ < l_ := by
      by_cases h_ : tkS f_ l_ p_ < l_
      · exact h_
      · have := knU_out (f := f_) h_; omega
    have hk1_ : kdU (f_ (tkS f_ l_ p_)) = 1 := by have := knU_in (f := f_) hsl_; omega
    have hse_ : tkS f_ l_ p_ < (tkE f_ l_ (tkS f_ l_ p_)) ∧ (tkE f_ l_ (tkS f_ l_ p_)) ≤ l_ := ⟨hE1_ hsl_, hE_⟩
    have hk_ : ∀ i, tkS f_ l_ p_ ≤ i → i < (tkE f_ l_ (tkS f_ l_ p_)) → kdU (f_ i) = 1 := fun i h1_ h2_ => by rw [tkE_k f_ h1_ h2_]; exact hk1_
    refine v_aload_n iX5_clauseStands_10 rfl ?_
    refine v_ldcS (i := 0) iX5_clauseStands_11 rfl (by decide) rfl ?_
    refine c_V1 (Mc := mX5_isWord) iX5_clauseStands_13 lX5_50 kX5_isWord (qX5_isWord σ α f_ hfe_ l_ hl_ hf_ (tkS f_ l_ p_) (tkE f_ l_ (tkS f_ l_ p_)) hT_.1 hT_.2.1 hse_ hk_ 0 (by decide)) (by decide) rfl rfl rfl rfl (Nat.le_of_ble_eq_true rfl) ?_
    try simp only [Int.toNat_natCast]
    refine v_bif_eq (tgt := 28) iX5_clauseStands_16 (by decide) (fun hb16_ => ?_) (fun hb16_ => ?_)
    · try simp only [Int.toNat_natCast] at hb16_
      refine v_aload_n iX5_clauseStands_28 rfl ?_
      refine v_ldcS (i := 1) iX5_clauseStands_29 rfl (by decide) rfl ?_
      refine c_V1 (Mc := mX5_isWord) iX5_clauseStands_31 lX5_50 kX5_isWord (qX5_isWord σ α f_ hfe_ l_ hl_ hf_ (tkS f_ l_ p_) (tkE f_ l_ (tkS f_ l_ p_)) hT_.1 hT_.2.1 hse_ hk_ 1 (by decide)) (by decide) rfl rfl rfl rfl (Nat.le_of_ble_eq_true rfl) ?_
      try simp only [Int.toNat_natCast]
      refine v_bif_eq (tgt := 42) iX5_clauseStands_34 (by decide) (fun hb34_ => ?_) (fun hb34_ => ?_)
      · try simp only [Int.toNat_natCast] at hb34_
        refine v_aload_n iX5_clauseStands_42 rfl ?_
        refine v_ldcS (i := 2) iX5_clauseStands_43 rfl (by decide) rfl ?_
        refine c_V1 (Mc := mX5_isWord) iX5_clauseStands_45 lX5_50 kX5_isWord (qX5_isWord σ α f_ hfe_ l_ hl_ hf_ (tkS f_ l_ p_) (tkE f_ l_ (tkS f_ l_ p_)) hT_.1 hT_.2.1 hse_ hk_ 2 (by decide)) (by decide) rfl rfl rfl rfl (Nat.le_of_ble_eq_true rfl) ?_
        try simp only [Int.toNat_natCast]
        refine v_bif_eq (tgt := 56) iX5_clauseStands_48 (by decide) (fun hb48_ => ?_) (fun hb48_ => ?_)
        · try simp only [Int.toNat_natCast] at hb48_
          refine v_aload_n iX5_clauseStands_56 rfl ?_
          refine v_ldcS (i := 3) iX5_clauseStands_57 rfl (by decide) rfl ?_
          refine c_V1 (Mc := mX5_isWord) iX5_clauseStands_59 lX5_50 kX5_isWord (qX5_isWord σ α f_ hfe_ l_ hl_ hf_ (tkS f_ l_ p_) (tkE f_ l_ (tkS f_ l_ p_)) hT_.1 hT_.2.1 hse_ hk_ 3 (by decide)) (by decide) rfl rfl rfl rfl (Nat.le_of_ble_eq_true rfl) ?_
          try simp only [Int.toNat_natCast]
          refine v_bif_eq (tgt := 70) iX5_clauseStands_62 (by decide) (fun hb62_ => ?_) (fun hb62_ => ?_)
          · try simp only [Int.toNat_natCast] at hb62_
            refine v_aload_n iX5_clauseStands_70 rfl ?_
            refine v_ldcS (i := 4) iX5_clauseStands_71 rfl (by decide) rfl ?_
            refine c_V1 (Mc := mX5_isWord) iX5_clauseStands_73 lX5_50 kX5_isWord (qX5_isWord σ α f_ hfe_ l_ hl_ hf_ (tkS f_ l_ p_) (tkE f_ l_ (tkS f_ l_ p_)) hT_.1 hT_.2.1 hse_ hk_ 4 (by decide)) (by decide) rfl rfl rfl rfl (Nat.le_of_ble_eq_true rfl) ?_
            try simp only [Int.toNat_natCast]
            refine v_bif_eq (tgt := 84) iX5_clauseStands_76 (by decide) (fun hb76_ => ?_) (fun hb76_ => ?_)
            · try simp only [Int.toNat_natCast] at hb76_
              refine v_aload_n iX5_clauseStands_84 rfl ?_
              refine v_ldcS (i := 5) iX5_clauseStands_85 rfl (by decide) rfl ?_
              refine c_V1 (Mc := mX5_isWord) iX5_clauseStands_87 lX5_50 kX5_isWord (qX5_isWord σ α f_ hfe_ l_ hl_ hf_ (tkS f_ l_ p_) (tkE f_ l_ (tkS f_ l_ p_)) hT_.1 hT_.2.1 hse_ hk_ 5 (by decide)) (by decide) rfl rfl rfl rfl (Nat.le_of_ble_eq_true rfl) ?_
              try simp only [Int.toNat_natCast]
              refine v_bif_eq (tgt := 104) iX5_clauseStands_90 (by decide) (fun hb90_ => ?_) (fun hb90_ => ?_)
              · try simp only [Int.toNat_natCast] at hb90_
                have hW_ : wpU f_ l_ p_ = -1 := by unfold wpU wdU; simp [fst1, hb16_, hb34_, hb48_, hb62_, hb76_, hb90_]
                have hC_ : clU f_ l_ (pnN P_) (pnR P_ 0) p_ = (false, tkS f_ l_ p_, 0, 0, 0) := clU_f (Or.inl hW_)
                refine v_iconst iX5_clauseStands_104 ?_
                exact r_b iX5_clauseStands_105 rfl (by decide) (by show _ ∧ _; rw [hC_]; exact ⟨rfl, fcD.rf σ α, fun h_ => (by cases h_), fun _ => hT_.1⟩)
              · try simp only [Int.toNat_natCast] at hb90_
                have hW_ : wpU f_ l_ p_ = 5 := by unfold wpU wdU; simp [fst1, hb16_, hb34_, hb48_, hb62_, hb76_, hb90_]
                refine v_aload_n iX5_clauseStands_93 rfl ?_
                have hC_ : clU f_ l_ (pnN P_) (pnR P_ 0) p_ = rsU f_ l_ (pnN P_ : Int) 5 (tkE f_ l_ (tkS f_ l_ p_)) := by rw [clU_t (by rw [hW_]; omega), hW_]
                have hdp_ : dpU f_ l_ p_ P_ = doU 5 (clU f_ l_ (pnN P_) (pnR P_ 0) p_).2.2.1 (clU f_ l_ (pnN P_) (pnR P_ 0) p_).2.2.2.1 (clU f_ l_ (pnN P_) (pnR P_ 0) p_).2.2.2.2 P_ := by rw [dpU, hW_]
                refine c_VQ (Mc := mX5_ruleStands) iX5_clauseStands_94 lX5_79 kX5_ruleStands (qX5_ruleStands σ α f_ hfe_ l_ hl_ hf_ (tkE f_ l_ (tkS f_ l_ p_)) hT_.2.1 hE_ P_ hP_ hwf_) (by decide) rfl rfl rfl rfl (Nat.le_of_ble_eq_true rfl) ?_
                rintro s1_ a1_ ⟨hFr_, hOk_, hBd_⟩
                refine v_bif_eq (tgt := 104) iX5_clauseStands_97 (by decide) (fun hb97_ => ?_) (fun hb97_ => ?_)
                · refine v_iconst iX5_clauseStands_104 ?_
                  exact r_b iX5_clauseStands_105 rfl (by decide) (by show _ ∧ _; rw [hdp_, hC_]; exact ⟨by rw [hb97_]; rfl, hFr_, hOk_, hBd_⟩)
                · refine v_iconst iX5_clauseStands_100 ?_
                  refine v_goto (tgt := 105) iX5_clauseStands_101 (by decide) ?_
                  exact r_b iX5_clauseStands_105 rfl (by decide) (by show _ ∧ _; rw [hdp_, hC_]; exact ⟨by rw [hb97_]; rfl, hFr_, hOk_, hBd_⟩)
            · try simp only [Int.toNat_natCast] at hb76_
              have hW_ : wpU f_ l_ p_ = 4 := by unfold wpU wdU; simp [fst1, hb16_, hb34_, hb48_, hb62_, hb76_]
              refine v_aload_n iX5_clauseStands_79 rfl ?_
              have hC_ : clU f_ l_ (pnN P_) (pnR P_ 0) p_ = rsU f_ l_ (pnN P_ : Int) 4 (tkE f_ l_ (tkS f_ l_ p_)) := by rw [clU_t (by rw [hW_]; omega), hW_]
              have hdp_ : dpU f_ l_ p_ P_ = doU 4 (clU f_ l_ (pnN P_) (pnR P_ 0) p_).2.2.1 (clU f_ l_ (pnN P_) (pnR P_ 0) p_).2.2.2.1 (clU f_ l_ (pnN P_) (pnR P_ 0) p_).2.2.2.2 P_ := by rw [dpU, hW_]
              refine c_VQ (Mc := mX5_chillStands) iX5_clauseStands_80 lX5_74 kX5_chillStands (qX5_chillStands σ α f_ hfe_ l_ hl_ hf_ (tkE f_ l_ (tkS f_ l_ p_)) hT_.2.1 hE_ P_ hP_ hwf_) (by decide) rfl rfl rfl rfl (Nat.le_of_ble_eq_true rfl) ?_
              rintro s1_ a1_ ⟨hFr_, hOk_, hBd_⟩
              exact r_b iX5_clauseStands_83 rfl (b2i_01 _) (by show _ ∧ _; rw [hdp_, hC_]; exact ⟨rfl, hFr_, hOk_, hBd_⟩)
          · try simp only [Int.toNat_natCast] at hb62_
            have hW_ : wpU f_ l_ p_ = 3 := by unfold wpU wdU; simp [fst1, hb16_, hb34_, hb48_, hb62_]
            refine v_aload_n iX5_clauseStands_65 rfl ?_
            by_cases hc_ : pnR P_ 0 = 6
            · have hC_ : clU f_ l_ (pnN P_) (pnR P_ 0) p_ = (false, tkS f_ l_ p_, 0, 0, 0) := clU_f (by rw [hW_]; omega)
              refine c_V1 (Mc := mX5_riserStands) iX5_clauseStands_66 lX5_69 kX5_riserStands (qX5_riserStands_f σ α f_ hfe_ l_ hl_ hf_ (tkE f_ l_ (tkS f_ l_ p_)) hT_.2.1 hE_ P_ hP_ hwf_ hc_) (by decide) rfl rfl rfl rfl (Nat.le_of_ble_eq_true rfl) ?_
              exact r_b iX5_clauseStands_69 rfl (by decide) (by show _ ∧ _; rw [hC_]; exact ⟨rfl, fcD.rf σ α, fun h_ => (by cases h_), fun _ => hT_.1⟩)
            · have hC_ : clU f_ l_ (pnN P_) (pnR P_ 0) p_ = rsU f_ l_ (pnN P_ : Int) 3 (tkE f_ l_ (tkS f_ l_ p_)) := by rw [clU_t (by rw [hW_]; omega), hW_]
              have hdp_ : dpU f_ l_ p_ P_ = doU 3 (clU f_ l_ (pnN P_) (pnR P_ 0) p_).2.2.1 (clU f_ l_ (pnN P_) (pnR P_ 0) p_).2.2.2.1 (clU f_ l_ (pnN P_) (pnR P_ 0) p_).2.2.2.2 P_ := by rw [dpU, hW_]
              refine c_VQ (Mc := mX5_riserStands) iX5_clauseStands_66 lX5_69 kX5_riserStands (qX5_riserStands σ α f_ hfe_ l_ hl_ hf_ (tkE f_ l_ (tkS f_ l_ p_)) hT_.2.1 hE_ P_ hP_ hwf_ hc_) (by decide) rfl rfl rfl rfl (Nat.le_of_ble_eq_true rfl) ?_
              rintro s1_ a1_ ⟨hFr_, hOk_, hBd_⟩
              exact r_b iX5_clauseStands_69 rfl (b2i_01 _) (by show _ ∧ _; rw [hdp_, hC_]; exact ⟨rfl, hFr_, hOk_, hBd_⟩)
        · try simp only [Int.toNat_natCast] at hb48_
          have hW_ : wpU f_ l_ p_ = 2 := by unfold wpU wdU; simp [fst1, hb16_, hb34_, hb48_]
          refine v_aload_n iX5_clauseStands_51 rfl ?_
          have hC_ : clU f_ l_ (pnN P_) (pnR P_ 0) p_ = rsU f_ l_ (pnN P_ : Int) 2 (tkE f_ l_ (tkS f_ l_ p_)) := by rw [clU_t (by rw [hW_]; omega), hW_]
          have hdp_ : dpU f_ l_ p_ P_ = doU 2 (clU f_ l_ (pnN P_) (pnR P_ 0) p_).2.2.1 (clU f_ l_ (pnN P_) (pnR P_ 0) p_).2.2.2.1 (clU f_ l_ (pnN P_) (pnR P_ 0) p_).2.2.2.2 P_ := by rw [dpU, hW_]
          refine c_VQ (Mc := mX5_jointStands) iX5_clauseStands_52 lX5_64 kX5_jointStands (qX5_jointStands σ α f_ hfe_ l_ hl_ hf_ (tkE f_ l_ (tkS f_ l_ p_)) hT_.2.1 hE_ P_ hP_ hwf_) (by decide) rfl rfl rfl rfl (Nat.le_of_ble_eq_true rfl) ?_
          rintro s1_ a1_ ⟨hFr_, hOk_, hBd_⟩
          exact r_b iX5_clauseStands_55 rfl (b2i_01 _) (by show _ ∧ _; rw [hdp_, hC_]; exact ⟨rfl, hFr_, hOk_, hBd_⟩)
      · try simp only [Int.toNat_natCast] at hb34_
        have hW_ : wpU f_ l_ p_ = 1 := by unfold wpU wdU; simp [fst1, hb16_, hb34_]
        refine v_aload_n iX5_clauseStands_37 rfl ?_
        by_cases hc_ : (pnN P_ : Int) = 10
        · have hC_ : clU f_ l_ (pnN P_) (pnR P_ 0) p_ = (false, tkS f_ l_ p_, 0, 0, 0) := clU_f (by rw [hW_]; omega)
          refine c_V1 (Mc := mX5_sectionStands) iX5_clauseStands_38 lX5_59 kX5_sectionStands (qX5_sectionStands_f σ α f_ hfe_ l_ hl_ hf_ (tkE f_ l_ (tkS f_ l_ p_)) hT_.2.1 hE_ P_ hP_ hwf_ hc_) (by decide) rfl rfl rfl rfl (Nat.le_of_ble_eq_true rfl) ?_
          exact r_b iX5_clauseStands_41 rfl (by decide) (by show _ ∧ _; rw [hC_]; exact ⟨rfl, fcD.rf σ α, fun h_ => (by cases h_), fun _ => hT_.1⟩)
        · have hC_ : clU f_ l_ (pnN P_) (pnR P_ 0) p_ = rsU f_ l_ (pnN P_ : Int) 1 (tkE f_ l_ (tkS f_ l_ p_)) := by rw [clU_t (by rw [hW_]; omega), hW_]
          have hdp_ : dpU f_ l_ p_ P_ = doU 1 (clU f_ l_ (pnN P_) (pnR P_ 0) p_).2.2.1 (clU f_ l_ (pnN P_) (pnR P_ 0) p_).2.2.2.1 (clU f_ l_ (pnN P_) (pnR P_ 0) p_).2.2.2.2 P_ := by rw [dpU, hW_]
          refine c_VQ (Mc := mX5_sectionStands) iX5_clauseStands_38 lX5_59 kX5_sectionStands (qX5_sectionStands σ α f_ hfe_ l_ hl_ hf_ (tkE f_ l_ (tkS f_ l_ p_)) hT_.2.1 hE_ P_ hP_ hwf_ hc_) (by decide) rfl rfl rfl rfl (Nat.le_of_ble_eq_true rfl) ?_
          rintro s1_ a1_ ⟨hFr_, hOk_, hBd_⟩
          exact r_b iX5_clauseStands_41 rfl (b2i_01 _) (by show _ ∧ _; rw [hdp_, hC_]; exact ⟨rfl, hFr_, hOk_, hBd_⟩)
    · try simp only [Int.toNat_natCast] at hb16_
      have hW_ : wpU f_ l_ p_ = 0 := by unfold wpU wdU; simp [fst1, hb16_]
      have hC_ : clU f_ l_ (pnN P_) (pnR P_ 0) p_ = (true, (tkE f_ l_ (tkS f_ l_ p_)), 0, 0, 0) := by rw [clU_t (by rw [hW_]; omega), hW_, rsU_0]
      refine v_aload_n iX5_clauseStands_19 rfl ?_
      refine v_getR iX5_clauseStands_20 fX5_15 rfl rfl ?_
      refine c_V0 (Mc := mX4_clear) iX5_clauseStands_23 lX5_54 kX4_clear (qX4_clear σ α 12 isPlan_trial) (by decide) rfl rfl rfl rfl (Nat.le_of_ble_eq_true rfl) ?_
      try simp only [Int.toNat_natCast]
      refine v_iconst iX5_clauseStands_26 ?_
      exact r_b iX5_clauseStands_27 rfl (by first | exact b2i_01 _ | decide | omega) (by show _ ∧ _; exact ⟨by rw [hC_]; rfl, ((((((fcD.rf σ α).s2 _ _).s6 _ _).s2 _ _).s2 _ _).s2 _ _).a (by omega) _, fun _ => ⟨by rw [hC_, uS_ne _ _ (by omega), uS_ne _ _ (by omega), uS_ne _ _ (by omega), uS_ne _ _ (by omega), uS_ne _ _ (by omega)]; exact hT_.2.1, by rw [dpU, hW_]; exact pc_0 hP_ _ _ _⟩, fun h_ => (by rw [hC_] at h_; cases h_)⟩)
  · have hW_ : wpU f_ l_ p_ = -1 := by
      unfold wpU
      by_cases hsl_ : tkS f_ l_ p_ < l_
      · exact wdU_n (by have := knU_in (f := f_) hsl_; omega)
      · exact wdU_e (by rw [tkE_out hsl_]; omega)
    have hC_ : clU f_ l_ (pnN P_) (pnR P_ 0) p_ = (false, tkS f_ l_ p_, 0, 0, 0) := clU_f (Or.inl hW_)
    refine v_iconst iX5_clauseStands_8 ?_
    exact r_b iX5_clauseStands_9 rfl (by first | exact b2i_01 _ | decide | omega) (by show _ ∧ _; rw [hC_]; exact ⟨rfl, fcD.rf σ α, fun h_ => (by cases h_), fun _ => hT_.1⟩)
