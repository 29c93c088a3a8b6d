theorem wm_e {f : Nat → Int} {s e w : Nat} (h : ¬ s < e) : wm f s e w 7 = false := wm_f (k := 0) (decide_eq_false (fun q => h q.1)) (by decide)
theorem wdU_e {f : Nat → Int} {s e : Nat} (h : ¬ s < e) : wdU f s e = -1 := by
  unfold wdU
  simp only [fst1, wm_e h, Bool.false_eq_true, if_false]

set_option maxHeartbeats 4000000 in
set_option maxRecDepth 100000 in
theorem qX5_sectionStands (σ α : St) (f_ : Nat → Int) (hfe_ : α 2 = f_) (l_ : Nat) (hl_ : σ 1 1 = l_) (hf_ : txU f_ l_) (p_ : Nat) (hp_ : σ 21 4 = p_) (hpl_ : p_ ≤ l_) (P_ : pnT) (hP_ : pcU σ α 12 P_) (hwf_ : wfP P_) (hn_ : (pnN P_ : Int) ≠ 10) : CG 3 mX5_sectionStands [vR 21] σ α (fun r' s' a' => r' = some (vI (b2i (rsU f_ l_ (pnN P_ : Int) 1 p_).1)) ∧ fcD σ α s' a' ∧ ((rsU f_ l_ (pnN P_ : Int) 1 p_).1 = true → s' 21 4 = ((rsU f_ l_ (pnN P_ : Int) 1 p_).2.1 : Int) ∧ pcU s' a' 12 (doU 1 (rsU f_ l_ (pnN P_ : Int) 1 p_).2.2.1 (rsU f_ l_ (pnN P_ : Int) 1 p_).2.2.2.1 (rsU f_ l_ (pnN P_ : Int) 1 p_).2.2.2.2 P_)) ∧ ((rsU f_ l_ (pnN P_ : Int) 1 p_).1 = false → s' 21 3 = ((rsU f_ l_ (pnN P_ : Int) 1 p_).2.1 : Int))) := by
  have hn10_ := hwf_.1
  have hm6_ := hwf_.2.2.2.1.1
  refine CG.of [some (vR 21), none] (by decide) (by simp [lvA]) rfl ?_
  refine v_aload_n iX5_sectionStands_0 rfl ?_
  refine v_getR iX5_sectionStands_1 fX5_15 rfl rfl ?_
  refine v_getI iX5_sectionStands_4 fX5_82 rfl rfl (by exact hP_.1) ?_
  refine v_bipush iX5_sectionStands_7 (by decide) ?_
  refine v_icmp_ge (tgt := 22) iX5_sectionStands_9 (by decide) (by omega) (fun hb9_ => (by exfalso; omega)) (fun hb9_ => ?_)
  refine v_aload_n iX5_sectionStands_12 rfl ?_
  refine v_iconst iX5_sectionStands_13 ?_
  refine v_bipush iX5_sectionStands_14 (by decide) ?_
  refine c_VQ (Mc := mX5_numberStands) iX5_sectionStands_16 lX5_85 kX5_numberStands (qX5_numberStands σ α f_ hfe_ l_ hl_ hf_ p_ hp_ hpl_ 1 99 (by decide) (by decide)) (by decide) rfl rfl rfl rfl (Nat.le_of_ble_eq_true rfl) ?_
  rintro s1_ a1_ ⟨hFx1_, h31_, hOk1_, hae1_⟩
  have haf1_ := hae1_.symm
  subst haf1_
  have hF1_ := hFx1_
  try simp only [Int.toNat_natCast]
  refine v_bif_ne (tgt := 24) iX5_sectionStands_19 (by decide) (fun hb19_ => ?_) (fun hb19_ => ?_)
  · try simp only [Int.toNat_natCast] at hb19_
    obtain ⟨h41_, h51_⟩ := hOk1_ hb19_
    have hq1_ := (nmE_r f_ hpl_).2
    have hi1_ := nmB_i hb19_
    refine v_aload_n iX5_sectionStands_24 rfl ?_
    refine v_getI iX5_sectionStands_25 fX5_89 rfl rfl (by exact h51_) ?_
    refine v_is1 iX5_sectionStands_28 ⟨rfl, rfl⟩ ?_
    refine v_aload_n iX5_sectionStands_29 rfl ?_
    refine v_iconst iX5_sectionStands_30 ?_
    refine v_bipush iX5_sectionStands_31 (by decide) ?_
    refine c_VQ (Mc := mX5_numberStands) iX5_sectionStands_33 lX5_85 kX5_numberStands (qX5_numberStands s1_ α f_ hfe_ l_ ((hF1_ 1 1 (by omega)).trans hl_) hf_ (nmE f_ l_ p_) h41_ hq1_ 1 99 (by decide) (by decide)) (by decide) rfl rfl rfl rfl (Nat.le_of_ble_eq_true rfl) ?_
    rintro s2_ a2_ ⟨hFx2_, h32_, hOk2_, hae2_⟩
    have haf2_ := hae2_.symm
    subst haf2_
    have hF2_ := hF1_.tr hFx2_
    try simp only [Int.toNat_natCast]
    refine v_bif_ne (tgt := 41) iX5_sectionStands_36 (by decide) (fun hb36_ => ?_) (fun hb36_ => ?_)
    · try simp only [Int.toNat_natCast] at hb36_
      obtain ⟨h42_, h52_⟩ := hOk2_ hb36_
      have hq2_ := (nmE_r f_ hq1_).2
      have hi2_ := nmB_i hb36_
      have hP2_ : pcU s2_ α 12 P_ := hP_.go (fun q k hq => hF2_ q k (by omega)) (fun _ _ _ => rfl)
      refine v_aload_n iX5_sectionStands_41 rfl ?_
      refine v_getR iX5_sectionStands_42 fX5_15 rfl rfl ?_
      refine v_iload_n iX5_sectionStands_45 rfl ?_
      refine v_aload_n iX5_sectionStands_46 rfl ?_
      refine v_getI iX5_sectionStands_47 fX5_89 rfl rfl (by exact h52_) ?_
      refine c_V0 (Mc := mX4_addSection) iX5_sectionStands_50 lX5_92 kX4_addSection (qX4_addSection s2_ α 12 isPlan_trial (pnN P_) ((hF2_ 12 4 (by omega)).trans hP_.1) (by omega) (nmV f_ l_ p_) (nmV f_ l_ (nmE f_ l_ p_))) (by decide) rfl rfl rfl rfl (Nat.le_of_ble_eq_true rfl) ?_
      try simp only [Int.toNat_natCast]
      refine v_iconst iX5_sectionStands_53 ?_
      exact r_b iX5_sectionStands_54 rfl (by first | exact b2i_01 _ | decide | omega) (by show _ ∧ _; rw [show rsU f_ l_ (pnN P_ : Int) 1 p_ = (true, nmE f_ l_ (nmE f_ l_ p_), nmV f_ l_ p_, nmV f_ l_ (nmE f_ l_ p_), 0) by rw [rsU_1, nmK_t hb19_, nmK_t hb36_]]; exact ⟨rfl, ((((hF2_.d α).s2 _ _).a (by omega) _).a (by omega) _).a (by omega) _, fun _ => ⟨by rw [uS_ne _ _ (by omega)]; exact h42_, pc_1 hP2_ (hwf_.2.2.1 _ (Nat.le_refl _)) (by omega) _ _ _⟩, fun h_ => (by cases h_)⟩)
    · try simp only [Int.toNat_natCast] at hb36_
      refine v_iconst iX5_sectionStands_39 ?_
      exact r_b iX5_sectionStands_40 rfl (by first | exact b2i_01 _ | decide | omega) (by show _ ∧ _; rw [show rsU f_ l_ (pnN P_ : Int) 1 p_ = (false, tkS f_ l_ (nmE f_ l_ p_), 0, 0, 0) by rw [rsU_1, nmK_t hb19_, nmK_f hb36_]]; exact ⟨rfl, hF2_.d α, fun h_ => (by cases h_), fun _ => h32_⟩)
  · try simp only [Int.toNat_natCast] at hb19_
    refine v_iconst iX5_sectionStands_22 ?_
    exact r_b iX5_sectionStands_23 rfl (by first | exact b2i_01 _ | decide | omega) (by show _ ∧ _; rw [show rsU f_ l_ (pnN P_ : Int) 1 p_ = (false, tkS f_ l_ p_, 0, 0, 0) by rw [rsU_1, nmK_f hb19_]]; exact ⟨rfl, hF1_.d α, fun h_ => (by cases h_), fun _ => h31_⟩)

set_option maxHeartbeats 4000000 in
set_option maxRecDepth 100000 in
theorem qX5_sectionStands_f (σ α : St) (f_ : Nat → Int) (hfe_ : α 2 = f_) (l_ : Nat) (hl_ : σ 1 1 = l_) (hf_ : txU f_ l_) (p_ : Nat) (hp_ : σ 21 4 = p_) (hpl_ : p_ ≤ l_) (P_ : pnT) (hP_ : pcU σ α 12 P_) (hwf_ : wfP P_) (hn_ : (pnN P_ : Int) = 10) : CF 3 mX5_sectionStands [vR 21] σ α (some (vI 0)) (σ) (α) := by
  refine CG.of [some (vR 21), none] (by decide) (by simp [lvA]) rfl ?_
  refine v_aload_n iX5_sectionStands_0 rfl ?_
  refine v_getR iX5_sectionStands_1 fX5_15 rfl rfl ?_
  refine v_getI iX5_sectionStands_4 fX5_82 rfl rfl (by exact hP_.1) ?_
  refine v_bipush iX5_sectionStands_7 (by decide) ?_
  refine v_icmp_ge (tgt := 22) iX5_sectionStands_9 (by decide) (by omega) (fun hb9_ => ?_) (fun hb9_ => (by exfalso; omega))
  refine v_iconst iX5_sectionStands_22 ?_
  exact r_b iX5_sectionStands_23 rfl (by first | exact b2i_01 _ | decide | omega) (⟨cf_i (by rfl), rfl, rfl⟩)

set_option maxHeartbeats 4000000 in
set_option maxRecDepth 100000 in
theorem qX5_jointStands (σ α : St) (f_ : Nat → Int) (hfe_ : α 2 = f_) (l_ : Nat) (hl_ : σ 1 1 = l_) (hf_ : txU f_ l_) (p_ : Nat) (hp_ : σ 21 4 = p_) (hpl_ : p_ ≤ l_) (P_ : pnT) (hP_ : pcU σ α 12 P_) (hwf_ : wfP P_) : CG 3 mX5_jointStands [vR 21] σ α (fun r' s' a' => r' = some (vI (b2i (rsU f_ l_ (pnN P_ : Int) 2 p_).1)) ∧ fcD σ α s' a' ∧ ((rsU f_ l_ (pnN P_ : Int) 2 p_).1 = true → s' 21 4 = ((rsU f_ l_ (pnN P_ : Int) 2 p_).2.1 : Int) ∧ pcU s' a' 12 (doU 2 (rsU f_ l_ (pnN P_ : Int) 2 p_).2.2.1 (rsU f_ l_ (pnN P_ : Int) 2 p_).2.2.2.1 (rsU f_ l_ (pnN P_ : Int) 2 p_).2.2.2.2 P_)) ∧ ((rsU f_ l_ (pnN P_ : Int) 2 p_).1 = false → s' 21 3 = ((rsU f_ l_ (pnN P_ : Int) 2 p_).2.1 : Int))) := by
  have hn10_ := hwf_.1
  have hm6_ := hwf_.2.2.2.1.1
  refine CG.of [some (vR 21), none] (by decide) (by simp [lvA]) rfl ?_
  refine v_aload_n iX5_jointStands_0 rfl ?_
  refine v_iconst iX5_jointStands_1 ?_
  refine v_aload_n iX5_jointStands_2 rfl ?_
  refine v_getR iX5_jointStands_3 fX5_15 rfl rfl ?_
  refine v_getI iX5_jointStands_6 fX5_82 rfl rfl (by exact hP_.1) ?_
  refine v_iconst iX5_jointStands_9 ?_
  refine v_isub iX5_jointStands_10 ?_
  refine c_VQ (Mc := mX5_numberStands) iX5_jointStands_11 lX5_85 kX5_numberStands (qX5_numberStands σ α f_ hfe_ l_ hl_ hf_ p_ hp_ hpl_ 0 ((pnN P_ : Int) - 1) (by decide) (by omega)) (by decide) rfl rfl rfl rfl (Nat.le_of_ble_eq_true rfl) ?_
  rintro s1_ a1_ ⟨hFx1_, h31_, hOk1_, hae1_⟩
  have haf1_ := hae1_.symm
  subst haf1_
  have hF1_ := hFx1_
  try simp only [Int.toNat_natCast]
  refine v_bif_ne (tgt := 19) iX5_jointStands_14 (by decide) (fun hb14_ => ?_) (fun hb14_ => ?_)
  · try simp only [Int.toNat_natCast] at hb14_
    obtain ⟨h41_, h51_⟩ := hOk1_ hb14_
    have hq1_ := (nmE_r f_ hpl_).2
    have hi1_ := nmB_i hb14_
    refine v_aload_n iX5_jointStands_19 rfl ?_
    refine v_getI iX5_jointStands_20 fX5_89 rfl rfl (by exact h51_) ?_
    refine v_is1 iX5_jointStands_23 ⟨rfl, rfl⟩ ?_
    refine v_aload_n iX5_jointStands_24 rfl ?_
    refine v_iconst iX5_jointStands_25 ?_
    refine v_aload_n iX5_jointStands_26 rfl ?_
    refine v_getR iX5_jointStands_27 fX5_15 rfl rfl ?_
    refine v_getI iX5_jointStands_30 fX5_82 rfl rfl (by exact (hF1_ 12 4 (by omega)).trans hP_.1) ?_
    refine v_iconst iX5_jointStands_33 ?_
    refine v_isub iX5_jointStands_34 ?_
    refine c_VQ (Mc := mX5_numberStands) iX5_jointStands_35 lX5_85 kX5_numberStands (qX5_numberStands s1_ α f_ hfe_ l_ ((hF1_ 1 1 (by omega)).trans hl_) hf_ (nmE f_ l_ p_) h41_ hq1_ 0 ((pnN P_ : Int) - 1) (by decide) (by omega)) (by decide) rfl rfl rfl rfl (Nat.le_of_ble_eq_true rfl) ?_
    rintro s2_ a2_ ⟨hFx2_, h32_, hOk2_, hae2_⟩
    have haf2_ := hae2_.symm
    subst haf2_
    have hF2_ := hF1_.tr hFx2_
    try simp only [Int.toNat_natCast]
    refine v_bif_eq (tgt := 49) iX5_jointStands_38 (by decide) (fun hb38_ => ?_) (fun hb38_ => ?_)
    · try simp only [Int.toNat_natCast] at hb38_
      refine v_iconst iX5_jointStands_49 ?_
      exact r_b iX5_jointStands_50 rfl (by first | exact b2i_01 _ | decide | omega) (by show _ ∧ _; rw [show rsU f_ l_ (pnN P_ : Int) 2 p_ = (false, tkS f_ l_ (nmE f_ l_ p_), 0, 0, 0) by rw [rsU_2, nmK_t hb14_, nmK_f (by first | (rw [nmB_bu, hb38_, Bool.false_and]; done) | (rw [nmB_bu, hb38_, Bool.true_and]; exact decide_eq_false (fun h_ => h_ hb46_)))]]; exact ⟨rfl, hF2_.d α, fun h_ => (by cases h_), fun _ => h32_⟩)
    · try simp only [Int.toNat_natCast] at hb38_
      obtain ⟨h42_, h52_⟩ := hOk2_ hb38_
      have hq2_ := (nmE_r f_ hq1_).2
      have hi2_ := nmB_i hb38_
      refine v_aload_n iX5_jointStands_41 rfl ?_
      refine v_getI iX5_jointStands_42 fX5_89 rfl rfl (by exact h52_) ?_
      refine v_iload_n iX5_jointStands_45 rfl ?_
      refine v_icmp_ne (tgt := 51) iX5_jointStands_46 (by decide) (by omega) (fun hb46_ => ?_) (fun hb46_ => ?_)
      · have hP2_ : pcU s2_ α 12 P_ := hP_.go (fun q k hq => hF2_ q k (by omega)) (fun _ _ _ => rfl)
        obtain ⟨i_, hxi_⟩ : ∃ i_ : Nat, nmV f_ l_ p_ = i_ := ⟨_, (Int.toNat_of_nonneg (by omega)).symm⟩
        obtain ⟨j_, hyj_⟩ : ∃ j_ : Nat, nmV f_ l_ (nmE f_ l_ p_) = j_ := ⟨_, (Int.toNat_of_nonneg (by omega)).symm⟩
        have hbj_ : nmB f_ l_ (nmE f_ l_ p_) 0 ((pnN P_ : Int) - 1) (nmV f_ l_ p_) = true := by rw [nmB_bu, hb38_, Bool.true_and]; exact decide_eq_true hb46_
        rw [hxi_]
        refine v_aload_n iX5_jointStands_51 rfl ?_
        refine v_getR iX5_jointStands_52 fX5_15 rfl rfl ?_
        refine v_iload_n iX5_jointStands_55 rfl ?_
        refine v_aload_n iX5_jointStands_56 rfl ?_
        refine v_getI iX5_jointStands_57 fX5_89 rfl rfl (by exact h52_.trans hyj_) ?_
        refine c_V0 (Mc := mX4_join) iX5_jointStands_60 lX5_96 kX4_join (qX4_join s2_ α 12 isPlan_trial i_ j_ (by omega) (by omega) (by omega) (by rw [show α (12 + 3) i_ = pnJ P_ i_ from hP_.2.2.2.1 i_ (by omega)]; exact (hwf_.2.1 i_ (by omega)).2.2.1.1) (by rw [show α (12 + 3) j_ = pnJ P_ j_ from hP_.2.2.2.1 j_ (by omega)]; exact (hwf_.2.1 j_ (by omega)).2.2.1.1)) (by decide) rfl rfl rfl rfl (Nat.le_of_ble_eq_true rfl) ?_
        try simp only [Int.toNat_natCast]
        refine v_iconst iX5_jointStands_63 ?_
        exact r_b iX5_jointStands_64 rfl (by first | exact b2i_01 _ | decide | omega) (by show _ ∧ _; rw [show rsU f_ l_ (pnN P_ : Int) 2 p_ = (true, nmE f_ l_ (nmE f_ l_ p_), nmV f_ l_ p_, nmV f_ l_ (nmE f_ l_ p_), 0) by rw [rsU_2, nmK_t hb14_, nmK_t hbj_]]; exact ⟨rfl, (hF2_.d α).a (by omega) _, fun _ => ⟨h42_, by show pcU s2_ _ 12 (doU 2 (nmV f_ l_ p_) (nmV f_ l_ (nmE f_ l_ p_)) 0 P_); rw [hxi_, hyj_]; exact pc_2 hP2_ (by omega) (by omega) 0⟩, fun h_ => (by cases h_)⟩)
      · refine v_iconst iX5_jointStands_49 ?_
        exact r_b iX5_jointStands_50 rfl (by first | exact b2i_01 _ | decide | omega) (by show _ ∧ _; rw [show rsU f_ l_ (pnN P_ : Int) 2 p_ = (false, tkS f_ l_ (nmE f_ l_ p_), 0, 0, 0) by rw [rsU_2, nmK_t hb14_, nmK_f (by first | (rw [nmB_bu, hb38_, Bool.false_and]; done) | (rw [nmB_bu, hb38_, Bool.true_and]; exact decide_eq_false (fun h_ => h_ hb46_)))]]; exact ⟨rfl, hF2_.d α, fun h_ => (by cases h_), fun _ => h32_⟩)
  · try simp only [Int.toNat_natCast] at hb14_
    refine v_iconst iX5_jointStands_17 ?_
    exact r_b iX5_jointStands_18 rfl (by first | exact b2i_01 _ | decide | omega) (by show _ ∧ _; rw [show rsU f_ l_ (pnN P_ : Int) 2 p_ = (false, tkS f_ l_ p_, 0, 0, 0) by rw [rsU_2, nmK_f hb14_]]; exact ⟨rfl, hF1_.d α, fun h_ => (by cases h_), fun _ => h31_⟩)

set_option maxHeartbeats 4000000 in
set_option maxRecDepth 100000 in
theorem qX5_riserStands (σ α : St) (f_ : Nat → Int) (hfe_ : α 2 = f_) (l_ : Nat) (hl_ : σ 1 1 = l_) (hf_ : txU f_ l_) (p_ : Nat) (hp_ : σ 21 4 = p_) (hpl_ : p_ ≤ l_) (P_ : pnT) (hP_ : pcU σ α 12 P_) (hwf_ : wfP P_) (hm_ : pnR P_ 0 ≠ 6) : CG 3 mX5_riserStands [vR 21] σ α (fun r' s' a' => r' = some (vI (b2i (rsU f_ l_ (pnN P_ : Int) 3 p_).1)) ∧ fcD σ α s' a' ∧ ((rsU f_ l_ (pnN P_ : Int) 3 p_).1 = true → s' 21 4 = ((rsU f_ l_ (pnN P_ : Int) 3 p_).2.1 : Int) ∧ pcU s' a' 12 (doU 3 (rsU f_ l_ (pnN P_ : Int) 3 p_).2.2.1 (rsU f_ l_ (pnN P_ : Int) 3 p_).2.2.2.1 (rsU f_ l_ (pnN P_ : Int) 3 p_).2.2.2.2 P_)) ∧ ((rsU f_ l_ (pnN P_ : Int) 3 p_).1 = false → s' 21 3 = ((rsU f_ l_ (pnN P_ : Int) 3 p_).2.1 : Int))) := by
  have hn10_ := hwf_.1
  have hm6_ := hwf_.2.2.2.1.1
  obtain ⟨m_, hmm_⟩ : ∃ m_ : Nat, pnR P_ 0 = m_ := ⟨_, (Int.toNat_of_nonneg (by omega)).symm⟩
  have h164_ : σ 16 4 = pnR P_ 0 := hP_.2.2.2.2.1
  refine CG.of [some (vR 21), none, none] (by decide) (by simp [lvA]) rfl ?_
  refine v_aload_n iX5_riserStands_0 rfl ?_
  refine v_getR iX5_riserStands_1 fX5_15 rfl rfl ?_
  refine v_getR iX5_riserStands_4 fX5_99 rfl rfl ?_
  refine v_getI iX5_riserStands_7 fX5_103 rfl rfl (by exact h164_) ?_
  refine v_bipush iX5_riserStands_10 (by decide) ?_
  refine v_icmp_ge (tgt := 32) iX5_riserStands_12 (by decide) (by omega) (fun hb12_ => (by exfalso; omega)) (fun hb12_ => ?_)
  refine v_aload_n iX5_riserStands_15 rfl ?_
  refine v_iconst iX5_riserStands_16 ?_
  refine v_aload_n iX5_riserStands_17 rfl ?_
  refine v_getR iX5_riserStands_18 fX5_15 rfl rfl ?_
  refine v_getI iX5_riserStands_21 fX5_82 rfl rfl (by exact hP_.1) ?_
  refine v_iconst iX5_riserStands_24 ?_
  refine v_isub iX5_riserStands_25 ?_
  refine c_VQ (Mc := mX5_numberStands) iX5_riserStands_26 lX5_85 kX5_numberStands (qX5_numberStands σ α f_ hfe_ l_ hl_ hf_ p_ hp_ hpl_ 0 ((pnN P_ : Int) - 1) (by decide) (by omega)) (by decide) rfl rfl rfl rfl (Nat.le_of_ble_eq_true rfl) ?_
  rintro s1_ a1_ ⟨hFx1_, h31_, hOk1_, hae1_⟩
  have haf1_ := hae1_.symm
  subst haf1_
  have hF1_ := hFx1_
  try simp only [Int.toNat_natCast]
  refine v_bif_ne (tgt := 34) iX5_riserStands_29 (by decide) (fun hb29_ => ?_) (fun hb29_ => ?_)
  · try simp only [Int.toNat_natCast] at hb29_
    obtain ⟨h41_, h51_⟩ := hOk1_ hb29_
    have hq1_ := (nmE_r f_ hpl_).2
    have hi1_ := nmB_i hb29_
    refine v_aload_n iX5_riserStands_34 rfl ?_
    refine v_getI iX5_riserStands_35 fX5_89 rfl rfl (by exact h51_) ?_
    refine v_is1 iX5_riserStands_38 ⟨rfl, rfl⟩ ?_
    refine v_aload_n iX5_riserStands_39 rfl ?_
    refine v_iconst iX5_riserStands_40 ?_
    refine v_bipush iX5_riserStands_41 (by decide) ?_
    refine c_VQ (Mc := mX5_numberStands) iX5_riserStands_43 lX5_85 kX5_numberStands (qX5_numberStands s1_ α f_ hfe_ l_ ((hF1_ 1 1 (by omega)).trans hl_) hf_ (nmE f_ l_ p_) h41_ hq1_ 1 99 (by decide) (by decide)) (by decide) rfl rfl rfl rfl (Nat.le_of_ble_eq_true rfl) ?_
    rintro s2_ a2_ ⟨hFx2_, h32_, hOk2_, hae2_⟩
    have haf2_ := hae2_.symm
    subst haf2_
    have hF2_ := hF1_.tr hFx2_
    try simp only [Int.toNat_natCast]
    refine v_bif_ne (tgt := 51) iX5_riserStands_46 (by decide) (fun hb46_ => ?_) (fun hb46_ => ?_)
    · try simp only [Int.toNat_natCast] at hb46_
      obtain ⟨h42_, h52_⟩ := hOk2_ hb46_
      have hq2_ := (nmE_r f_ hq1_).2
      have hi2_ := nmB_i hb46_
      refine v_aload_n iX5_riserStands_51 rfl ?_
      refine v_getI iX5_riserStands_52 fX5_89 rfl rfl (by exact h52_) ?_
      refine v_is2 iX5_riserStands_55 ⟨rfl, rfl⟩ ?_
      refine v_aload_n iX5_riserStands_56 rfl ?_
      refine v_iconst iX5_riserStands_57 ?_
      refine v_bipush iX5_riserStands_58 (by decide) ?_
      refine c_VQ (Mc := mX5_numberStands) iX5_riserStands_60 lX5_85 kX5_numberStands (qX5_numberStands s2_ α f_ hfe_ l_ ((hF2_ 1 1 (by omega)).trans hl_) hf_ (nmE f_ l_ (nmE f_ l_ p_)) h42_ hq2_ 1 99 (by decide) (by decide)) (by decide) rfl rfl rfl rfl (Nat.le_of_ble_eq_true rfl) ?_
      rintro s3_ a3_ ⟨hFx3_, h33_, hOk3_, hae3_⟩
      have haf3_ := hae3_.symm
      subst haf3_
      have hF3_ := hF2_.tr hFx3_
      try simp only [Int.toNat_natCast]
      refine v_bif_ne (tgt := 68) iX5_riserStands_63 (by decide) (fun hb63_ => ?_) (fun hb63_ => ?_)
      · try simp only [Int.toNat_natCast] at hb63_
        obtain ⟨h43_, h53_⟩ := hOk3_ hb63_
        have hq3_ := (nmE_r f_ hq2_).2
        have hi3_ := nmB_i hb63_
        have hP3_ : pcU s3_ α 12 P_ := hP_.go (fun q k hq => hF3_ q k (by omega)) (fun _ _ _ => rfl)
        refine v_aload_n iX5_riserStands_68 rfl ?_
        refine v_getR iX5_riserStands_69 fX5_15 rfl rfl ?_
        refine v_getR iX5_riserStands_72 fX5_99 rfl rfl ?_
        refine v_iload_n iX5_riserStands_75 rfl ?_
        refine v_iload_n iX5_riserStands_76 rfl ?_
        refine v_aload_n iX5_riserStands_77 rfl ?_
        refine v_getI iX5_riserStands_78 fX5_89 rfl rfl (by exact h53_) ?_
        refine c_V0 (Mc := mX1_addRiser) iX5_riserStands_81 lX5_108 kX1_addRiser (qX1_addRiser s3_ α 16 isPlan_trial.2.2.2.2 m_ (((hF3_ 16 4 (by omega)).trans h164_).trans hmm_) (by omega) (nmV f_ l_ p_) (nmV f_ l_ (nmE f_ l_ p_)) (nmV f_ l_ (nmE f_ l_ (nmE f_ l_ p_)))) (by decide) rfl rfl rfl rfl (Nat.le_of_ble_eq_true rfl) ?_
        try simp only [Int.toNat_natCast]
        refine v_iconst iX5_riserStands_84 ?_
        exact r_b iX5_riserStands_85 rfl (by first | exact b2i_01 _ | decide | omega) (by show _ ∧ _; rw [show rsU f_ l_ (pnN P_ : Int) 3 p_ = (true, nmE f_ l_ (nmE f_ l_ (nmE f_ l_ p_)), nmV f_ l_ p_, nmV f_ l_ (nmE f_ l_ p_), nmV f_ l_ (nmE f_ l_ (nmE f_ l_ p_))) by rw [rsU_3, nmK_t hb29_, nmK_t hb46_, nmK_t hb63_]]; exact ⟨rfl, ((((hF3_.d α).s6 _ _).a (by omega) _).a (by omega) _).a (by omega) _, fun _ => ⟨by rw [uS_ne _ _ (by omega)]; exact h43_, pc_3 hP3_ hmm_ (by omega) _ _ _⟩, fun h_ => (by cases h_)⟩)
      · try simp only [Int.toNat_natCast] at hb63_
        refine v_iconst iX5_riserStands_66 ?_
        exact r_b iX5_riserStands_67 rfl (by first | exact b2i_01 _ | decide | omega) (by show _ ∧ _; rw [show rsU f_ l_ (pnN P_ : Int) 3 p_ = (false, tkS f_ l_ (nmE f_ l_ (nmE f_ l_ p_)), 0, 0, 0) by rw [rsU_3, nmK_t hb29_, nmK_t hb46_, nmK_f hb63_]]; exact ⟨rfl, hF3_.d α, fun h_ => (by cases h_), fun _ => h33_⟩)
    · try simp only [Int.toNat_natCast] at hb46_
      refine v_iconst iX5_riserStands_49 ?_
      exact r_b iX5_riserStands_50 rfl (by first | exact b2i_01 _ | decide | omega) (by show _ ∧ _; rw [show rsU f_ l_ (pnN P_ : Int) 3 p_ = (false, tkS f_ l_ (nmE f_ l_ p_), 0, 0, 0) by rw [rsU_3, nmK_t hb29_, nmK_f hb46_]]; exact ⟨rfl, hF2_.d α, fun h_ => (by cases h_), fun _ => h32_⟩)
  · try simp only [Int.toNat_natCast] at hb29_
    refine v_iconst iX5_riserStands_32 ?_
    exact r_b iX5_riserStands_33 rfl (by first | exact b2i_01 _ | decide | omega) (by show _ ∧ _; rw [show rsU f_ l_ (pnN P_ : Int) 3 p_ = (false, tkS f_ l_ p_, 0, 0, 0) by rw [rsU_3, nmK_f hb29_]]; exact ⟨rfl, hF1_.d α, fun h_ => (by cases h_), fun _ => h31_⟩)

set_option maxHeartbeats 4000000 in
set_option maxRecDepth 100000 in
theorem qX5_riserStands_f (σ α : St) (f_ : Nat → Int) (hfe_ : α 2 = f_) (l_ : Nat) (hl_ : σ 1 1 = l_) (hf_ : txU f_ l_) (p_ : Nat) (hp_ : σ 21 4 = p_) (hpl_ : p_ ≤ l_) (P_ : pnT) (hP_ : pcU σ α 12 P_) (hwf_ : wfP P_) (hm_ : pnR P_ 0 = 6) : CF 3 mX5_riserStands [vR 21] σ α (some (vI 0)) (σ) (α) := by
  have h164_ : σ 16 4 = pnR P_ 0 := hP_.2.2.2.2.1
  refine CG.of [some (vR 21), none, none] (by decide) (by simp [lvA]) rfl ?_
  refine v_aload_n iX5_riserStands_0 rfl ?_
  refine v_getR iX5_riserStands_1 fX5_15 rfl rfl ?_
  refine v_getR iX5_riserStands_4 fX5_99 rfl rfl ?_
  refine v_getI iX5_riserStands_7 fX5_103 rfl rfl (by exact h164_) ?_
  refine v_bipush iX5_riserStands_10 (by decide) ?_
  refine v_icmp_ge (tgt := 32) iX5_riserStands_12 (by decide) (by omega) (fun hb12_ => ?_) (fun hb12_ => (by exfalso; omega))
  refine v_iconst iX5_riserStands_32 ?_
  exact r_b iX5_riserStands_33 rfl (by first | exact b2i_01 _ | decide | omega) (⟨cf_i (by rfl), rfl, rfl⟩)

set_option maxHeartbeats 4000000 in
set_option maxRecDepth 100000 in
theorem qX5_chillStands (σ α : St) (f_ : Nat → Int) (hfe_ : α 2 = f_) (l_ : Nat) (hl_ : σ 1 1 = l_) (hf_ : txU f_ l_) (p_ : Nat) (hp_ : σ 21 4 = p_) (hpl_ : p_ ≤ l_) (P_ : pnT) (hP_ : pcU σ α 12 P_) (hwf_ : wfP P_) : CG 3 mX5_chillStands [vR 21] σ α (fun r' s' a' => r' = some (vI (b2i (rsU f_ l_ (pnN P_ : Int) 4 p_).1)) ∧ fcD σ α s' a' ∧ ((rsU f_ l_ (pnN P_ : Int) 4 p_).1 = true → s' 21 4 = ((rsU f_ l_ (pnN P_ : Int) 4 p_).2.1 : Int) ∧ pcU s' a' 12 (doU 4 (rsU f_ l_ (pnN P_ : Int) 4 p_).2.2.1 (rsU f_ l_ (pnN P_ : Int) 4 p_).2.2.2.1 (rsU f_ l_ (pnN P_ : Int) 4 p_).2.2.2.2 P_)) ∧ ((rsU f_ l_ (pnN P_ : Int) 4 p_).1 = false → s' 21 3 = ((rsU f_ l_ (pnN P_ : Int) 4 p_).2.1 : Int))) := by
  have hn10_ := hwf_.1
  have hm6_ := hwf_.2.2.2.1.1
  refine CG.of [some (vR 21), none] (by decide) (by simp [lvA]) rfl ?_
  refine v_aload_n iX5_chillStands_0 rfl ?_
  refine v_iconst iX5_chillStands_1 ?_
  refine v_aload_n iX5_chillStands_2 rfl ?_
  refine v_getR iX5_chillStands_3 fX5_15 rfl rfl ?_
  refine v_getI iX5_chillStands_6 fX5_82 rfl rfl (by exact hP_.1) ?_
  refine v_iconst iX5_chillStands_9 ?_
  refine v_isub iX5_chillStands_10 ?_
  refine c_VQ (Mc := mX5_numberStands) iX5_chillStands_11 lX5_85 kX5_numberStands (qX5_numberStands σ α f_ hfe_ l_ hl_ hf_ p_ hp_ hpl_ 0 ((pnN P_ : Int) - 1) (by decide) (by omega)) (by decide) rfl rfl rfl rfl (Nat.le_of_ble_eq_true rfl) ?_
  rintro s1_ a1_ ⟨hFx1_, h31_, hOk1_, hae1_⟩
  have haf1_ := hae1_.symm
  subst haf1_
  have hF1_ := hFx1_
  try simp only [Int.toNat_natCast]
  refine v_bif_ne (tgt := 19) iX5_chillStands_14 (by decide) (fun hb14_ => ?_) (fun hb14_ => ?_)
  · try simp only [Int.toNat_natCast] at hb14_
    obtain ⟨h41_, h51_⟩ := hOk1_ hb14_
    have hq1_ := (nmE_r f_ hpl_).2
    have hi1_ := nmB_i hb14_
    refine v_aload_n iX5_chillStands_19 rfl ?_
    refine v_getI iX5_chillStands_20 fX5_89 rfl rfl (by exact h51_) ?_
    refine v_is1 iX5_chillStands_23 ⟨rfl, rfl⟩ ?_
    refine v_aload_n iX5_chillStands_24 rfl ?_
    refine v_iconst iX5_chillStands_25 ?_
    refine v_bipush iX5_chillStands_26 (by decide) ?_
    refine c_VQ (Mc := mX5_numberStands) iX5_chillStands_28 lX5_85 kX5_numberStands (qX5_numberStands s1_ α f_ hfe_ l_ ((hF1_ 1 1 (by omega)).trans hl_) hf_ (nmE f_ l_ p_) h41_ hq1_ 0 9 (by decide) (by decide)) (by decide) rfl rfl rfl rfl (Nat.le_of_ble_eq_true rfl) ?_
    rintro s2_ a2_ ⟨hFx2_, h32_, hOk2_, hae2_⟩
    have haf2_ := hae2_.symm
    subst haf2_
    have hF2_ := hF1_.tr hFx2_
    try simp only [Int.toNat_natCast]
    refine v_bif_ne (tgt := 36) iX5_chillStands_31 (by decide) (fun hb31_ => ?_) (fun hb31_ => ?_)
    · try simp only [Int.toNat_natCast] at hb31_
      obtain ⟨h42_, h52_⟩ := hOk2_ hb31_
      have hq2_ := (nmE_r f_ hq1_).2
      have hi2_ := nmB_i hb31_
      have hP2_ : pcU s2_ α 12 P_ := hP_.go (fun q k hq => hF2_ q k (by omega)) (fun _ _ _ => rfl)
      obtain ⟨i_, hxi_⟩ : ∃ i_ : Nat, nmV f_ l_ p_ = i_ := ⟨_, (Int.toNat_of_nonneg (by omega)).symm⟩
      rw [hxi_]
      refine v_aload_n iX5_chillStands_36 rfl ?_
      refine v_getR iX5_chillStands_37 fX5_15 rfl rfl ?_
      refine v_getR iX5_chillStands_40 fX5_99 rfl rfl ?_
      refine v_getR iX5_chillStands_43 fX5_112 rfl rfl ?_
      refine v_iload_n iX5_chillStands_46 rfl ?_
      refine v_aload_n iX5_chillStands_47 rfl ?_
      refine v_getI iX5_chillStands_48 fX5_89 rfl rfl (by exact h52_) ?_
      refine v_iastore iX5_chillStands_51 rfl (by omega) ?_
      rw [Int.toNat_natCast]
      refine v_iconst iX5_chillStands_52 ?_
      exact r_b iX5_chillStands_53 rfl (by first | exact b2i_01 _ | decide | omega) (by show _ ∧ _; rw [show rsU f_ l_ (pnN P_ : Int) 4 p_ = (true, nmE f_ l_ (nmE f_ l_ p_), nmV f_ l_ p_, nmV f_ l_ (nmE f_ l_ p_), 0) by rw [rsU_4, nmK_t hb14_, nmK_t hb31_]]; exact ⟨rfl, (hF2_.d α).a (by omega) _, fun _ => ⟨h42_, by show pcU s2_ _ 12 (doU 4 (nmV f_ l_ p_) (nmV f_ l_ (nmE f_ l_ p_)) 0 P_); rw [hxi_]; exact pc_4 hP2_ (by omega) _ _⟩, fun h_ => (by cases h_)⟩)
    · try simp only [Int.toNat_natCast] at hb31_
      refine v_iconst iX5_chillStands_34 ?_
      exact r_b iX5_chillStands_35 rfl (by first | exact b2i_01 _ | decide | omega) (by show _ ∧ _; rw [show rsU f_ l_ (pnN P_ : Int) 4 p_ = (false, tkS f_ l_ (nmE f_ l_ p_), 0, 0, 0) by rw [rsU_4, nmK_t hb14_, nmK_f hb31_]]; exact ⟨rfl, hF2_.d α, fun h_ => (by cases h_), fun _ => h32_⟩)
  · try simp only [Int.toNat_natCast] at hb14_
    refine v_iconst iX5_chillStands_17 ?_
    exact r_b iX5_chillStands_18 rfl (by first | exact b2i_01 _ | decide | omega) (by show _ ∧ _; rw [show rsU f_ l_ (pnN P_ : Int) 4 p_ = (false, tkS f_ l_ p_, 0, 0, 0) by rw [rsU_4, nmK_f hb14_]]; exact ⟨rfl, hF1_.d α, fun h_ => (by cases h_), fun _ => h31_⟩)

set_option maxHeartbeats 4000000 in
set_option maxRecDepth 100000 in
theorem qX5_ruleStands (σ α : St) (f_ : Nat → Int) (hfe_ : α 2 = f_) (l_ : Nat) (hl_ : σ 1 1 = l_) (hf_ : txU f_ l_) (p_ : Nat) (hp_ : σ 21 4 = p_) (hpl_ : p_ ≤ l_) (P_ : pnT) (hP_ : pcU σ α 12 P_) (hwf_ : wfP P_) : CG 3 mX5_ruleStands [vR 21] σ α (fun r' s' a' => r' = some (vI (b2i (rsU f_ l_ (pnN P_ : Int) 5 p_).1)) ∧ fcD σ α s' a' ∧ ((rsU f_ l_ (pnN P_ : Int) 5 p_).1 = true → s' 21 4 = ((rsU f_ l_ (pnN P_ : Int) 5 p_).2.1 : Int) ∧ pcU s' a' 12 (doU 5 (rsU f_ l_ (pnN P_ : Int) 5 p_).2.2.1 (rsU f_ l_ (pnN P_ : Int) 5 p_).2.2.2.1 (rsU f_ l_ (pnN P_ : Int) 5 p_).2.2.2.2 P_)) ∧ ((rsU f_ l_ (pnN P_ : Int) 5 p_).1 = false → s' 21 3 = ((rsU f_ l_ (pnN P_ : Int) 5 p_).2.1 : Int))) := by
  have hn10_ := hwf_.1
  have hm6_ := hwf_.2.2.2.1.1
  refine CG.of [some (vR 21), none, none] (by decide) (by simp [lvA]) rfl ?_
  refine v_aload_n iX5_ruleStands_0 rfl ?_
  refine v_iconst iX5_ruleStands_1 ?_
  refine v_bipush iX5_ruleStands_2 (by decide) ?_
  refine c_VQ (Mc := mX5_numberStands) iX5_ruleStands_4 lX5_85 kX5_numberStands (qX5_numberStands σ α f_ hfe_ l_ hl_ hf_ p_ hp_ hpl_ 1 99 (by decide) (by decide)) (by decide) rfl rfl rfl rfl (Nat.le_of_ble_eq_true rfl) ?_
  rintro s1_ a1_ ⟨hFx1_, h31_, hOk1_, hae1_⟩
  have haf1_ := hae1_.symm
  subst haf1_
  have hF1_ := hFx1_
  try simp only [Int.toNat_natCast]
  refine v_bif_ne (tgt := 12) iX5_ruleStands_7 (by decide) (fun hb7_ => ?_) (fun hb7_ => ?_)
  · try simp only [Int.toNat_natCast] at hb7_
    obtain ⟨h41_, h51_⟩ := hOk1_ hb7_
    have hq1_ := (nmE_r f_ hpl_).2
    have hi1_ := nmB_i hb7_
    refine v_aload_n iX5_ruleStands_12 rfl ?_
    refine v_getI iX5_ruleStands_13 fX5_89 rfl rfl (by exact h51_) ?_
    refine v_is1 iX5_ruleStands_16 ⟨rfl, rfl⟩ ?_
    refine v_aload_n iX5_ruleStands_17 rfl ?_
    refine v_iconst iX5_ruleStands_18 ?_
    refine v_bipush iX5_ruleStands_19 (by decide) ?_
    refine c_VQ (Mc := mX5_numberStands) iX5_ruleStands_21 lX5_85 kX5_numberStands (qX5_numberStands s1_ α f_ hfe_ l_ ((hF1_ 1 1 (by omega)).trans hl_) hf_ (nmE f_ l_ p_) h41_ hq1_ 1 99 (by decide) (by decide)) (by decide) rfl rfl rfl rfl (Nat.le_of_ble_eq_true rfl) ?_
    rintro s2_ a2_ ⟨hFx2_, h32_, hOk2_, hae2_⟩
    have haf2_ := hae2_.symm
    subst haf2_
    have hF2_ := hF1_.tr hFx2_
    try simp only [Int.toNat_natCast]
    refine v_bif_ne (tgt := 29) iX5_ruleStands_24 (by decide) (fun hb24_ => ?_) (fun hb24_ => ?_)
    · try simp only [Int.toNat_natCast] at hb24_
      obtain ⟨h42_, h52_⟩ := hOk2_ hb24_
      have hq2_ := (nmE_r f_ hq1_).2
      have hi2_ := nmB_i hb24_
      refine v_aload_n iX5_ruleStands_29 rfl ?_
      refine v_getI iX5_ruleStands_30 fX5_89 rfl rfl (by exact h52_) ?_
      refine v_is2 iX5_ruleStands_33 ⟨rfl, rfl⟩ ?_
      refine v_aload_n iX5_ruleStands_34 rfl ?_
      refine v_iconst iX5_ruleStands_35 ?_
      refine v_bipush iX5_ruleStands_36 (by decide) ?_
      refine c_VQ (Mc := mX5_numberStands) iX5_ruleStands_38 lX5_85 kX5_numberStands (qX5_numberStands s2_ α f_ hfe_ l_ ((hF2_ 1 1 (by omega)).trans hl_) hf_ (nmE f_ l_ (nmE f_ l_ p_)) h42_ hq2_ 0 100 (by decide) (by decide)) (by decide) rfl rfl rfl rfl (Nat.le_of_ble_eq_true rfl) ?_
      rintro s3_ a3_ ⟨hFx3_, h33_, hOk3_, hae3_⟩
      have haf3_ := hae3_.symm
      subst haf3_
      have hF3_ := hF2_.tr hFx3_
      try simp only [Int.toNat_natCast]
      refine v_bif_ne (tgt := 46) iX5_ruleStands_41 (by decide) (fun hb41_ => ?_) (fun hb41_ => ?_)
      · try simp only [Int.toNat_natCast] at hb41_
        obtain ⟨h43_, h53_⟩ := hOk3_ hb41_
        have hq3_ := (nmE_r f_ hq2_).2
        have hi3_ := nmB_i hb41_
        have hP3_ : pcU s3_ α 12 P_ := hP_.go (fun q k hq => hF3_ q k (by omega)) (fun _ _ _ => rfl)
        refine v_aload_n iX5_ruleStands_46 rfl ?_
        refine v_getR iX5_ruleStands_47 fX5_15 rfl rfl ?_
        refine v_iload_n iX5_ruleStands_50 rfl ?_
        refine v_iload_n iX5_ruleStands_51 rfl ?_
        refine v_aload_n iX5_ruleStands_52 rfl ?_
        refine v_getI iX5_ruleStands_53 fX5_89 rfl rfl (by exact h53_) ?_
        refine c_V0 (Mc := mX4_setRule) iX5_ruleStands_56 lX5_116 kX4_setRule (qX4_setRule s3_ α 12 isPlan_trial (nmV f_ l_ p_) (nmV f_ l_ (nmE f_ l_ p_)) (nmV f_ l_ (nmE f_ l_ (nmE f_ l_ p_)))) (by decide) rfl rfl rfl rfl (Nat.le_of_ble_eq_true rfl) ?_
        try simp only [Int.toNat_natCast]
        refine v_iconst iX5_ruleStands_59 ?_
        exact r_b iX5_ruleStands_60 rfl (by first | exact b2i_01 _ | decide | omega) (by show _ ∧ _; rw [show rsU f_ l_ (pnN P_ : Int) 5 p_ = (true, nmE f_ l_ (nmE f_ l_ (nmE f_ l_ p_)), nmV f_ l_ p_, nmV f_ l_ (nmE f_ l_ p_), nmV f_ l_ (nmE f_ l_ (nmE f_ l_ p_))) by rw [rsU_5, nmK_t hb7_, nmK_t hb24_, nmK_t hb41_]]; exact ⟨rfl, (((hF3_.d α).s2 _ _).s2 _ _).s2 _ _, fun _ => ⟨by rw [uS_ne _ _ (by omega), uS_ne _ _ (by omega), uS_ne _ _ (by omega)]; exact h43_, pc_5 hP3_ _ _ _⟩, fun h_ => (by cases h_)⟩)
      · try simp only [Int.toNat_natCast] at hb41_
        refine v_iconst iX5_ruleStands_44 ?_
        exact r_b iX5_ruleStands_45 rfl (by first | exact b2i_01 _ | decide | omega) (by show _ ∧ _; rw [show rsU f_ l_ (pnN P_ : Int) 5 p_ = (false, tkS f_ l_ (nmE f_ l_ (nmE f_ l_ p_)), 0, 0, 0) by rw [rsU_5, nmK_t hb7_, nmK_t hb24_, nmK_f hb41_]]; exact ⟨rfl, hF3_.d α, fun h_ => (by cases h_), fun _ => h33_⟩)
    · try simp only [Int.toNat_natCast] at hb24_
      refine v_iconst iX5_ruleStands_27 ?_
      exact r_b iX5_ruleStands_28 rfl (by first | exact b2i_01 _ | decide | omega) (by show _ ∧ _; rw [show rsU f_ l_ (pnN P_ : Int) 5 p_ = (false, tkS f_ l_ (nmE f_ l_ p_), 0, 0, 0) by rw [rsU_5, nmK_t hb7_, nmK_f hb24_]]; exact ⟨rfl, hF2_.d α, fun h_ => (by cases h_), fun _ => h32_⟩)
  · try simp only [Int.toNat_natCast] at hb7_
    refine v_iconst iX5_ruleStands_10 ?_
    exact r_b iX5_ruleStands_11 rfl (by first | exact b2i_01 _ | decide | omega) (by show _ ∧ _; rw [show rsU f_ l_ (pnN P_ : Int) 5 p_ = (false, tkS f_ l_ p_, 0, 0, 0) by rw [rsU_5, nmK_f hb7_]]; exact ⟨rfl, hF1_.d α, fun h_ => (by cases h_), fun _ => h31_⟩)
