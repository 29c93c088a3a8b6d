set_option maxHeartbeats 4000000 in
set_option maxRecDepth 100000 in
theorem qX8_readsClause_n (σ α : St) (f_ : Nat → Int) (hfe_ : α 101 = f_) (l_ p_ : Nat) (hl_ : σ 95 11 = l_) (hpl_ : p_ ≤ l_) (hf_ : txU f_ l_) (hr_ : rtU σ f_ l_ p_) (hwd_ : ∀ k, k < 42 → α 106 k = wrd k) (P_ : pnT) (hwf_ : wfP P_) (h17_ : σ 95 17 = (pnN P_ : Int)) (h18_ : σ 95 18 = pnR P_ 0) (h20_ : σ 95 20 = 0) : CG 6 mX8_readsClause [vR 95] σ α (fun r' s' a' => r' = some (vI (b2i (clU f_ l_ (pnN P_) (pnR P_ 0) p_).1)) ∧ (fmT σ s' ∧ fa105 α a') ∧ ((clU f_ l_ (pnN P_) (pnR P_ 0) p_).1 = true → rtU s' f_ l_ (clU f_ l_ (pnN P_) (pnR P_ 0) p_).2.1 ∧ s' 95 17 = (pnN (dpU f_ l_ p_ P_) : Int) ∧ s' 95 18 = pnR (dpU f_ l_ p_ P_) 0 ∧ s' 95 19 = σ 95 19 ∧ s' 95 20 = σ 95 20) ∧ ((clU f_ l_ (pnN P_) (pnR P_ 0) p_).1 = false → s' 95 15 = ((clU f_ l_ (pnN P_) (pnR P_ 0) p_).2.1 : Int))) := by
  have hS_ := tkS_r f_ hpl_
  have hE_ := (tkE_r f_ hS_.2).2.1
  have hE0_ := (tkE_r f_ hS_.2).1
  have hwr_ := wpU_r f_ l_ p_
  have hn10_ := hwf_.1
  have hm6_ := hwf_.2.2.2.1.1
  refine CG.of [some (vR 95), none] (by decide) (by simp [lvA]) rfl ?_
  have h38_ : (wpU f_ l_ p_ = -1 ∨ (wpU f_ l_ p_ = 1 ∧ (pnN P_ : Int) = 10) ∨ (wpU f_ l_ p_ = 3 ∧ pnR P_ 0 = 6)) → VV 6 mX8_readsClause [vR 95] (fun r' s' a' => r' = some (vI (b2i (clU f_ l_ (pnN P_) (pnR P_ 0) p_).1)) ∧ (fmT σ s' ∧ fa105 α a') ∧ ((clU f_ l_ (pnN P_) (pnR P_ 0) p_).1 = true → rtU s' f_ l_ (clU f_ l_ (pnN P_) (pnR P_ 0) p_).2.1 ∧ s' 95 17 = (pnN (dpU f_ l_ p_ P_) : Int) ∧ s' 95 18 = pnR (dpU f_ l_ p_ P_) 0 ∧ s' 95 19 = σ 95 19 ∧ s' 95 20 = σ 95 20) ∧ ((clU f_ l_ (pnN P_) (pnR P_ 0) p_).1 = false → s' 95 15 = ((clU f_ l_ (pnN P_) (pnR P_ 0) p_).2.1 : Int))) σ α 38 [some (vR 95), some (vI (wpU f_ l_ p_))] [] := by
    intro hc_
    have hC_ := clU_f (f := f_) (l := l_) (p := p_) hc_
    refine v_iconst iX8_readsClause_38 ?_
    exact r_b iX8_readsClause_39 rfl (by decide) (by show _ ∧ _; rw [hC_]; exact ⟨rfl, ⟨fmT.rf σ, fa105.rf α⟩, fun h_ => (by cases h_), fun _ => hr_.1⟩)
  have h40_ : ¬ (wpU f_ l_ p_ = -1 ∨ (wpU f_ l_ p_ = 1 ∧ (pnN P_ : Int) = 10) ∨ (wpU f_ l_ p_ = 3 ∧ pnR P_ 0 = 6)) → VV 6 mX8_readsClause [vR 95] (fun r' s' a' => r' = some (vI (b2i (clU f_ l_ (pnN P_) (pnR P_ 0) p_).1)) ∧ (fmT σ s' ∧ fa105 α a') ∧ ((clU f_ l_ (pnN P_) (pnR P_ 0) p_).1 = true → rtU s' f_ l_ (clU f_ l_ (pnN P_) (pnR P_ 0) p_).2.1 ∧ s' 95 17 = (pnN (dpU f_ l_ p_ P_) : Int) ∧ s' 95 18 = pnR (dpU f_ l_ p_ P_) 0 ∧ s' 95 19 = σ 95 19 ∧ s' 95 20 = σ 95 20) ∧ ((clU f_ l_ (pnN P_) (pnR P_ 0) p_).1 = false → s' 95 15 = ((clU f_ l_ (pnN P_) (pnR P_ 0) p_).2.1 : Int))) σ α 40 [some (vR 95), some (vI (wpU f_ l_ p_))] [] := by
    intro hc_
    have hC_ := clU_t (f := f_) (l := l_) (p := p_) hc_
    refine v_aload_n iX8_readsClause_40 rfl ?_
    refine c_VN (Mc := mX8_nextToken) iX8_readsClause_41 lX8_90 kX8_nextToken (qX8_nextTok σ α f_ hfe_ l_ (tkE f_ l_ (tkS f_ l_ p_)) hl_ hr_.2 hE_ hf_) (by decide) rfl rfl rfl rfl (Nat.le_of_ble_eq_true rfl) ?_
    rintro s1_ a1_ ⟨⟨hF1_, hT1_⟩, hae_⟩
    have hae2_ := hae_.symm
    subst hae2_
    try simp only [Int.toNat_natCast]
    refine v_aload_n iX8_readsClause_44 rfl ?_
    refine v_iload_n iX8_readsClause_45 rfl ?_
    refine c_VQ (Mc := mX8_readsRest) iX8_readsClause_46 lX8_118 kX8_readsRest (qX8_readsRest s1_ α f_ hfe_ l_ (tkE f_ l_ (tkS f_ l_ p_)) ((hF1_ 95 11 (by omega)).trans hl_) hE_ hf_ hT1_ (pnN P_ : Int) (wpU f_ l_ p_) ((hF1_ 95 17 (by omega)).trans h17_) (by have := hwf_.1; omega) (by omega)) (by decide) rfl rfl rfl rfl (Nat.le_of_ble_eq_true rfl) ?_
    rintro s2_ a2_ ⟨hF2_, hA2_, hG2_, hBd2_⟩
    rw [← hC_] at hG2_ hBd2_ ⊢
    try simp only [Int.toNat_natCast]
    refine v_bif_ne (tgt := 54) iX8_readsClause_49 (by decide) (fun hb49_ => ?_) (fun hb49_ => ?_)
    · try simp only [Int.toNat_natCast] at hb49_
      have hCt_ : (clU f_ l_ (pnN P_) (pnR P_ 0) p_).1 = true := hb49_
      obtain ⟨hT2_, hB2_⟩ := hG2_ hCt_
      have hok_ := clU_ok hpl_ hCt_
      have hN0_ : (pnN (dpU f_ l_ p_ P_) : Int) = ((if wpU f_ l_ p_ = 0 then 0 else if wpU f_ l_ p_ = 1 then pnN P_ + 1 else pnN P_ : Nat) : Int) := by rw [dpU, doU_n hok_.1]
      have hR0_ : pnR (dpU f_ l_ p_ P_) 0 = if wpU f_ l_ p_ = 0 then 0 else if wpU f_ l_ p_ = 3 then pnR P_ 0 + 1 else pnR P_ 0 := by rw [dpU, doU_r hok_.1 _ _ _ hwf_.2.2.2.1.1.1]
      have h111_ : VV 6 mX8_readsClause [vR 95] (fun r' s' a' => r' = some (vI (b2i (clU f_ l_ (pnN P_) (pnR P_ 0) p_).1)) ∧ (fmT σ s' ∧ fa105 α a') ∧ ((clU f_ l_ (pnN P_) (pnR P_ 0) p_).1 = true → rtU s' f_ l_ (clU f_ l_ (pnN P_) (pnR P_ 0) p_).2.1 ∧ s' 95 17 = (pnN (dpU f_ l_ p_ P_) : Int) ∧ s' 95 18 = pnR (dpU f_ l_ p_ P_) 0 ∧ s' 95 19 = σ 95 19 ∧ s' 95 20 = σ 95 20) ∧ ((clU f_ l_ (pnN P_) (pnR P_ 0) p_).1 = false → s' 95 15 = ((clU f_ l_ (pnN P_) (pnR P_ 0) p_).2.1 : Int))) (uS s2_ 95 17 (pnN (dpU f_ l_ p_ P_) : Int)) a2_ 111 [some (vR 95), some (vI (wpU f_ l_ p_))] [vI (pnR (dpU f_ l_ p_ P_) 0), vR 95] := by
        refine v_put iX8_readsClause_111 pX8_115 rfl rfl (by intro h; cases h) ?_
        have hF3_ : fmT σ (uS (uS s2_ 95 17 (pnN (dpU f_ l_ p_ P_) : Int)) 95 18 (pnR (dpU f_ l_ p_ P_) 0)) := ((hF1_.tr hF2_).fm.u (by omega) _).u (by omega) _
        refine v_aload_n iX8_readsClause_114 rfl ?_
        refine v_getI iX8_readsClause_115 fX8_121 rfl rfl (by exact (show _ = (0 : Int) by rw [uS_ne _ _ (by omega), uS_ne _ _ (by omega)]; exact ((hF1_.tr hF2_) 95 20 (by omega)).trans h20_)) ?_
        refine v_if_eq (tgt := 126) iX8_readsClause_118 (by decide) (by omega) (fun hb118_ => ?_) (fun hb118_ => (by exfalso; omega))
        refine v_iconst iX8_readsClause_126 ?_
        exact r_b iX8_readsClause_127 rfl (by first | exact b2i_01 _ | decide | omega) (by show _ ∧ _; rw [hCt_]; exact ⟨rfl, ⟨hF3_, hA2_⟩, fun _ => ⟨⟨by rw [uS_ne _ _ (by omega), uS_ne _ _ (by omega)]; exact hT2_.1, by rw [uS_ne _ _ (by omega), uS_ne _ _ (by omega)]; exact hT2_.2⟩, by rw [uS_ne _ _ (by omega), uS_eq], by rw [uS_eq], by rw [uS_ne _ _ (by omega), uS_ne _ _ (by omega)]; exact (hF1_.tr hF2_) 95 19 (by omega), by rw [uS_ne _ _ (by omega), uS_ne _ _ (by omega)]; exact (hF1_.tr hF2_) 95 20 (by omega)⟩, fun h_ => (by cases h_)⟩)
      have h81_ : VV 6 mX8_readsClause [vR 95] (fun r' s' a' => r' = some (vI (b2i (clU f_ l_ (pnN P_) (pnR P_ 0) p_).1)) ∧ (fmT σ s' ∧ fa105 α a') ∧ ((clU f_ l_ (pnN P_) (pnR P_ 0) p_).1 = true → rtU s' f_ l_ (clU f_ l_ (pnN P_) (pnR P_ 0) p_).2.1 ∧ s' 95 17 = (pnN (dpU f_ l_ p_ P_) : Int) ∧ s' 95 18 = pnR (dpU f_ l_ p_ P_) 0 ∧ s' 95 19 = σ 95 19 ∧ s' 95 20 = σ 95 20) ∧ ((clU f_ l_ (pnN P_) (pnR P_ 0) p_).1 = false → s' 95 15 = ((clU f_ l_ (pnN P_) (pnR P_ 0) p_).2.1 : Int))) s2_ a2_ 81 [some (vR 95), some (vI (wpU f_ l_ p_))] [vI (pnN (dpU f_ l_ p_ P_) : Int), vR 95] := by
        refine v_put iX8_readsClause_81 pX8_93 rfl rfl (by intro h; cases h) ?_
        refine v_aload_n iX8_readsClause_84 rfl ?_
        refine v_iload_n iX8_readsClause_85 rfl ?_
        refine v_if_ne (tgt := 93) iX8_readsClause_86 (by decide) (by omega) (fun hb86_ => ?_) (fun hb86_ => ?_)
        · refine v_iload_n iX8_readsClause_93 rfl ?_
          refine v_iconst iX8_readsClause_94 ?_
          refine v_icmp_ne (tgt := 107) iX8_readsClause_95 (by decide) (by omega) (fun hb95_ => ?_) (fun hb95_ => ?_)
          · refine v_aload_n iX8_readsClause_107 rfl ?_
            refine v_getI iX8_readsClause_108 fX8_115 rfl rfl (by exact (show _ = pnR P_ 0 by rw [uS_ne _ _ (by omega)]; exact ((hF1_.tr hF2_) 95 18 (by omega)).trans h18_)) ?_
            exact h111_.as rfl rfl rfl (by rw [hR0_]; first | (rw [if_pos (by omega)]; done) | (rw [if_neg (by omega), if_pos (by omega)]; done) | (rw [if_neg (by omega), if_neg (by omega)]; done))
          · refine v_aload_n iX8_readsClause_98 rfl ?_
            refine v_getI iX8_readsClause_99 fX8_115 rfl rfl (by exact (show _ = pnR P_ 0 by rw [uS_ne _ _ (by omega)]; exact ((hF1_.tr hF2_) 95 18 (by omega)).trans h18_)) ?_
            refine v_iconst iX8_readsClause_102 ?_
            refine v_iadd iX8_readsClause_103 ?_
            refine v_goto (tgt := 111) iX8_readsClause_104 (by decide) ?_
            exact h111_.as rfl rfl rfl (by rw [hR0_]; first | (rw [if_pos (by omega)]; done) | (rw [if_neg (by omega), if_pos (by omega)]; done) | (rw [if_neg (by omega), if_neg (by omega)]; done))
        · refine v_iconst iX8_readsClause_89 ?_
          refine v_goto (tgt := 111) iX8_readsClause_90 (by decide) ?_
          exact h111_.as rfl rfl rfl (by rw [hR0_]; first | (rw [if_pos (by omega)]; done) | (rw [if_neg (by omega), if_pos (by omega)]; done) | (rw [if_neg (by omega), if_neg (by omega)]; done))
      refine v_aload_n iX8_readsClause_54 rfl ?_
      refine v_iload_n iX8_readsClause_55 rfl ?_
      refine v_if_ne (tgt := 63) iX8_readsClause_56 (by decide) (by omega) (fun hb56_ => ?_) (fun hb56_ => ?_)
      · refine v_iload_n iX8_readsClause_63 rfl ?_
        refine v_iconst iX8_readsClause_64 ?_
        refine v_icmp_ne (tgt := 77) iX8_readsClause_65 (by decide) (by omega) (fun hb65_ => ?_) (fun hb65_ => ?_)
        · refine v_aload_n iX8_readsClause_77 rfl ?_
          refine v_getI iX8_readsClause_78 fX8_93 rfl rfl (by exact ((hF1_.tr hF2_) 95 17 (by omega)).trans h17_) ?_
          exact h81_.as rfl rfl rfl (by rw [hN0_]; first | (rw [if_pos (by omega)]; try rfl) | (rw [if_neg (by omega), if_pos (by omega), Int.natCast_add]; try rfl) | (rw [if_neg (by omega), if_neg (by omega)]; try rfl))
        · refine v_aload_n iX8_readsClause_68 rfl ?_
          refine v_getI iX8_readsClause_69 fX8_93 rfl rfl (by exact ((hF1_.tr hF2_) 95 17 (by omega)).trans h17_) ?_
          refine v_iconst iX8_readsClause_72 ?_
          refine v_iadd iX8_readsClause_73 ?_
          refine v_goto (tgt := 81) iX8_readsClause_74 (by decide) ?_
          exact h81_.as rfl rfl rfl (by rw [hN0_]; first | (rw [if_pos (by omega)]; try rfl) | (rw [if_neg (by omega), if_pos (by omega), Int.natCast_add]; try rfl) | (rw [if_neg (by omega), if_neg (by omega)]; try rfl))
      · refine v_iconst iX8_readsClause_59 ?_
        refine v_goto (tgt := 81) iX8_readsClause_60 (by decide) ?_
        exact h81_.as rfl rfl rfl (by rw [hN0_]; first | (rw [if_pos (by omega)]; try rfl) | (rw [if_neg (by omega), if_pos (by omega), Int.natCast_add]; try rfl) | (rw [if_neg (by omega), if_neg (by omega)]; try rfl))
    · try simp only [Int.toNat_natCast] at hb49_
      refine v_iconst iX8_readsClause_52 ?_
      exact r_b iX8_readsClause_53 rfl (by first | exact b2i_01 _ | decide | omega) (by show _ ∧ _; exact ⟨by rw [hb49_]; rfl, ⟨(hF1_.tr hF2_).fm, hA2_⟩, fun h_ => absurd (hb49_.symm.trans h_) (by decide), fun _ => hBd2_ hb49_⟩)
  refine v_aload_n iX8_readsClause_0 rfl ?_
  refine c_V1 (Mc := mX8_wordHere) iX8_readsClause_1 lX8_111 kX8_wordHere (qX8_wordHere σ α f_ hfe_ l_ (tkS f_ l_ p_) (tkE f_ l_ (tkS f_ l_ p_)) hr_.1 hr_.2 ⟨hE0_, hE_⟩ hf_ hwd_) (by decide) rfl rfl rfl rfl (Nat.le_of_ble_eq_true rfl) ?_
  try simp only [Int.toNat_natCast]
  have hwe_ : wdU f_ (tkS f_ l_ p_) (tkE f_ l_ (tkS f_ l_ p_)) = wpU f_ l_ p_ := rfl
  rw [hwe_]
  refine v_is1 iX8_readsClause_4 ⟨rfl, rfl⟩ ?_
  refine v_iload_n iX8_readsClause_5 rfl ?_
  refine v_iconst iX8_readsClause_6 ?_
  refine v_icmp_eq (tgt := 38) iX8_readsClause_7 (by decide) (by omega) (fun hb7_ => ?_) (fun hb7_ => ?_)
  · exact h38_ (by omega)
  · refine v_iload_n iX8_readsClause_10 rfl ?_
    refine v_iconst iX8_readsClause_11 ?_
    refine v_icmp_ne (tgt := 24) iX8_readsClause_12 (by decide) (by omega) (fun hb12_ => ?_) (fun hb12_ => ?_)
    · refine v_iload_n iX8_readsClause_24 rfl ?_
      refine v_iconst iX8_readsClause_25 ?_
      refine v_icmp_ne (tgt := 40) iX8_readsClause_26 (by decide) (by omega) (fun hb26_ => ?_) (fun hb26_ => ?_)
      · exact h40_ (by omega)
      · refine v_aload_n iX8_readsClause_29 rfl ?_
        refine v_getI iX8_readsClause_30 fX8_115 rfl rfl (by exact h18_) ?_
        refine v_bipush iX8_readsClause_33 (by decide) ?_
        refine v_icmp_ne (tgt := 40) iX8_readsClause_35 (by decide) (by omega) (fun hb35_ => ?_) (fun hb35_ => ?_)
        · exact h40_ (by omega)
        · exact h38_ (by omega)
    · refine v_aload_n iX8_readsClause_15 rfl ?_
      refine v_getI iX8_readsClause_16 fX8_93 rfl rfl (by exact h17_) ?_
      refine v_bipush iX8_readsClause_19 (by decide) ?_
      refine v_icmp_eq (tgt := 38) iX8_readsClause_21 (by decide) (by omega) (fun hb21_ => ?_) (fun hb21_ => ?_)
      · exact h38_ (by omega)
      · refine v_iload_n iX8_readsClause_24 rfl ?_
        refine v_iconst iX8_readsClause_25 ?_
        refine v_icmp_ne (tgt := 40) iX8_readsClause_26 (by decide) (by omega) (fun hb26_ => ?_) (fun hb26_ => ?_)
        · exact h40_ (by omega)
        · refine v_aload_n iX8_readsClause_29 rfl ?_
          refine v_getI iX8_readsClause_30 fX8_115 rfl rfl (by exact h18_) ?_
          refine v_bipush iX8_readsClause_33 (by decide) ?_
          refine v_icmp_ne (tgt := 40) iX8_readsClause_35 (by decide) (by omega) (fun hb35_ => ?_) (fun hb35_ => ?_)
          · exact h40_ (by omega)
          · exact h38_ (by omega)

set_option maxHeartbeats 4000000 in
set_option maxRecDepth 100000 in
theorem qX8_readsClause_d (σ α : St) (f_ : Nat → Int) (hfe_ : α 101 = f_) (l_ p_ : Nat) (hl_ : σ 95 11 = l_) (hpl_ : p_ ≤ l_) (hf_ : txU f_ l_) (hr_ : rtU σ f_ l_ p_) (hwd_ : ∀ k, k < 42 → α 106 k = wrd k) (P_ : pnT) (hwf_ : wfP P_) (h17_ : σ 95 17 = (pnN P_ : Int)) (h18_ : σ 95 18 = pnR P_ 0) (h20_ : σ 95 20 = 1) (hL_ : rlU σ α P_) : CG 6 mX8_readsClause [vR 95] σ α (fun r' s' a' => r' = some (vI (b2i (clU f_ l_ (pnN P_) (pnR P_ 0) p_).1)) ∧ (fdU σ α s' a') ∧ ((clU f_ l_ (pnN P_) (pnR P_ 0) p_).1 = true → rtU s' f_ l_ (clU f_ l_ (pnN P_) (pnR P_ 0) p_).2.1 ∧ s' 95 17 = (pnN (dpU f_ l_ p_ P_) : Int) ∧ s' 95 18 = pnR (dpU f_ l_ p_ P_) 0 ∧ s' 95 19 = σ 95 19 ∧ s' 95 20 = σ 95 20 ∧ rlU s' a' (dpU f_ l_ p_ P_)) ∧ ((clU f_ l_ (pnN P_) (pnR P_ 0) p_).1 = false → s' 95 15 = ((clU f_ l_ (pnN P_) (pnR P_ 0) p_).2.1 : Int))) := by
  have hS_ := tkS_r f_ hpl_
  have hE_ := (tkE_r f_ hS_.2).2.1
  have hE0_ := (tkE_r f_ hS_.2).1
  have hwr_ := wpU_r f_ l_ p_
  have hn10_ := hwf_.1
  have hm6_ := hwf_.2.2.2.1.1
  refine CG.of [some (vR 95), none] (by decide) (by simp [lvA]) rfl ?_
  have h38_ : (wpU f_ l_ p_ = -1 ∨ (wpU f_ l_ p_ = 1 ∧ (pnN P_ : Int) = 10) ∨ (wpU f_ l_ p_ = 3 ∧ pnR P_ 0 = 6)) → VV 6 mX8_readsClause [vR 95] (fun r' s' a' => r' = some (vI (b2i (clU f_ l_ (pnN P_) (pnR P_ 0) p_).1)) ∧ (fdU σ α s' a') ∧ ((clU f_ l_ (pnN P_) (pnR P_ 0) p_).1 = true → rtU s' f_ l_ (clU f_ l_ (pnN P_) (pnR P_ 0) p_).2.1 ∧ s' 95 17 = (pnN (dpU f_ l_ p_ P_) : Int) ∧ s' 95 18 = pnR (dpU f_ l_ p_ P_) 0 ∧ s' 95 19 = σ 95 19 ∧ s' 95 20 = σ 95 20 ∧ rlU s' a' (dpU f_ l_ p_ P_)) ∧ ((clU f_ l_ (pnN P_) (pnR P_ 0) p_).1 = false → s' 95 15 = ((clU f_ l_ (pnN P_) (pnR P_ 0) p_).2.1 : Int))) σ α 38 [some (vR 95), some (vI (wpU f_ l_ p_))] [] := by
    intro hc_
    have hC_ := clU_f (f := f_) (l := l_) (p := p_) hc_
    refine v_iconst iX8_readsClause_38 ?_
    exact r_b iX8_readsClause_39 rfl (by decide) (by show _ ∧ _; rw [hC_]; exact ⟨rfl, fdU.rf σ α, fun h_ => (by cases h_), fun _ => hr_.1⟩)
  have h40_ : ¬ (wpU f_ l_ p_ = -1 ∨ (wpU f_ l_ p_ = 1 ∧ (pnN P_ : Int) = 10) ∨ (wpU f_ l_ p_ = 3 ∧ pnR P_ 0 = 6)) → VV 6 mX8_readsClause [vR 95] (fun r' s' a' => r' = some (vI (b2i (clU f_ l_ (pnN P_) (pnR P_ 0) p_).1)) ∧ (fdU σ α s' a') ∧ ((clU f_ l_ (pnN P_) (pnR P_ 0) p_).1 = true → rtU s' f_ l_ (clU f_ l_ (pnN P_) (pnR P_ 0) p_).2.1 ∧ s' 95 17 = (pnN (dpU f_ l_ p_ P_) : Int) ∧ s' 95 18 = pnR (dpU f_ l_ p_ P_) 0 ∧ s' 95 19 = σ 95 19 ∧ s' 95 20 = σ 95 20 ∧ rlU s' a' (dpU f_ l_ p_ P_)) ∧ ((clU f_ l_ (pnN P_) (pnR P_ 0) p_).1 = false → s' 95 15 = ((clU f_ l_ (pnN P_) (pnR P_ 0) p_).2.1 : Int))) σ α 40 [some (vR 95), some (vI (wpU f_ l_ p_))] [] := by
    intro hc_
    have hC_ := clU_t (f := f_) (l := l_) (p := p_) hc_
    refine v_aload_n iX8_readsClause_40 rfl ?_
    refine c_VN (Mc := mX8_nextToken) iX8_readsClause_41 lX8_90 kX8_nextToken (qX8_nextTok σ α f_ hfe_ l_ (tkE f_ l_ (tkS f_ l_ p_)) hl_ hr_.2 hE_ hf_) (by decide) rfl rfl rfl rfl (Nat.le_of_ble_eq_true rfl) ?_
    rintro s1_ a1_ ⟨⟨hF1_, hT1_⟩, hae_⟩
    have hae2_ := hae_.symm
    subst hae2_
    try simp only [Int.toNat_natCast]
    refine v_aload_n iX8_readsClause_44 rfl ?_
    refine v_iload_n iX8_readsClause_45 rfl ?_
    refine c_VQ (Mc := mX8_readsRest) iX8_readsClause_46 lX8_118 kX8_readsRest (qX8_readsRest s1_ α f_ hfe_ l_ (tkE f_ l_ (tkS f_ l_ p_)) ((hF1_ 95 11 (by omega)).trans hl_) hE_ hf_ hT1_ (pnN P_ : Int) (wpU f_ l_ p_) ((hF1_ 95 17 (by omega)).trans h17_) (by have := hwf_.1; omega) (by omega)) (by decide) rfl rfl rfl rfl (Nat.le_of_ble_eq_true rfl) ?_
    rintro s2_ a2_ ⟨hF2_, hA2_, hG2_, hBd2_⟩
    rw [← hC_] at hG2_ hBd2_ ⊢
    try simp only [Int.toNat_natCast]
    refine v_bif_ne (tgt := 54) iX8_readsClause_49 (by decide) (fun hb49_ => ?_) (fun hb49_ => ?_)
    · try simp only [Int.toNat_natCast] at hb49_
      have hCt_ : (clU f_ l_ (pnN P_) (pnR P_ 0) p_).1 = true := hb49_
      obtain ⟨hT2_, hB2_⟩ := hG2_ hCt_
      have hok_ := clU_ok hpl_ hCt_
      have hN0_ : (pnN (dpU f_ l_ p_ P_) : Int) = ((if wpU f_ l_ p_ = 0 then 0 else if wpU f_ l_ p_ = 1 then pnN P_ + 1 else pnN P_ : Nat) : Int) := by rw [dpU, doU_n hok_.1]
      have hR0_ : pnR (dpU f_ l_ p_ P_) 0 = if wpU f_ l_ p_ = 0 then 0 else if wpU f_ l_ p_ = 3 then pnR P_ 0 + 1 else pnR P_ 0 := by rw [dpU, doU_r hok_.1 _ _ _ hwf_.2.2.2.1.1.1]
      have h111_ : VV 6 mX8_readsClause [vR 95] (fun r' s' a' => r' = some (vI (b2i (clU f_ l_ (pnN P_) (pnR P_ 0) p_).1)) ∧ (fdU σ α s' a') ∧ ((clU f_ l_ (pnN P_) (pnR P_ 0) p_).1 = true → rtU s' f_ l_ (clU f_ l_ (pnN P_) (pnR P_ 0) p_).2.1 ∧ s' 95 17 = (pnN (dpU f_ l_ p_ P_) : Int) ∧ s' 95 18 = pnR (dpU f_ l_ p_ P_) 0 ∧ s' 95 19 = σ 95 19 ∧ s' 95 20 = σ 95 20 ∧ rlU s' a' (dpU f_ l_ p_ P_)) ∧ ((clU f_ l_ (pnN P_) (pnR P_ 0) p_).1 = false → s' 95 15 = ((clU f_ l_ (pnN P_) (pnR P_ 0) p_).2.1 : Int))) (uS s2_ 95 17 (pnN (dpU f_ l_ p_ P_) : Int)) a2_ 111 [some (vR 95), some (vI (wpU f_ l_ p_))] [vI (pnR (dpU f_ l_ p_ P_) 0), vR 95] := by
        refine v_put iX8_readsClause_111 pX8_115 rfl rfl (by intro h; cases h) ?_
        have hF3_ : fmT σ (uS (uS s2_ 95 17 (pnN (dpU f_ l_ p_ P_) : Int)) 95 18 (pnR (dpU f_ l_ p_ P_) 0)) := ((hF1_.tr hF2_).fm.u (by omega) _).u (by omega) _
        have hX_ : rtU (uS (uS s2_ 95 17 (pnN (dpU f_ l_ p_ P_) : Int)) 95 18 (pnR (dpU f_ l_ p_ P_) 0)) f_ l_ (clU f_ l_ (pnN P_) (pnR P_ 0) p_).2.1 ∧ (uS (uS s2_ 95 17 (pnN (dpU f_ l_ p_ P_) : Int)) 95 18 (pnR (dpU f_ l_ p_ P_) 0)) 95 17 = (pnN (dpU f_ l_ p_ P_) : Int) ∧ (uS (uS s2_ 95 17 (pnN (dpU f_ l_ p_ P_) : Int)) 95 18 (pnR (dpU f_ l_ p_ P_) 0)) 95 18 = pnR (dpU f_ l_ p_ P_) 0 ∧ (uS (uS s2_ 95 17 (pnN (dpU f_ l_ p_ P_) : Int)) 95 18 (pnR (dpU f_ l_ p_ P_) 0)) 95 19 = σ 95 19 ∧ (uS (uS s2_ 95 17 (pnN (dpU f_ l_ p_ P_) : Int)) 95 18 (pnR (dpU f_ l_ p_ P_) 0)) 95 20 = σ 95 20 := ⟨⟨by rw [uS_ne _ _ (by omega), uS_ne _ _ (by omega)]; exact hT2_.1, by rw [uS_ne _ _ (by omega), uS_ne _ _ (by omega)]; exact hT2_.2⟩, by rw [uS_ne _ _ (by omega), uS_eq], by rw [uS_eq], by rw [uS_ne _ _ (by omega), uS_ne _ _ (by omega)]; exact (hF1_.tr hF2_) 95 19 (by omega), by rw [uS_ne _ _ (by omega), uS_ne _ _ (by omega)]; exact (hF1_.tr hF2_) 95 20 (by omega)⟩
        refine v_aload_n iX8_readsClause_114 rfl ?_
        refine v_getI iX8_readsClause_115 fX8_121 rfl rfl (by exact (show _ = (1 : Int) by rw [uS_ne _ _ (by omega), uS_ne _ _ (by omega)]; exact ((hF1_.tr hF2_) 95 20 (by omega)).trans h20_)) ?_
        refine v_if_eq (tgt := 126) iX8_readsClause_118 (by decide) (by omega) (fun hb118_ => (by exfalso; omega)) (fun hb118_ => ?_)
        refine v_aload_n iX8_readsClause_121 rfl ?_
        refine v_iload_n iX8_readsClause_122 rfl ?_
        refine c_VN (Mc := mX8_does) iX8_readsClause_123 lX8_125 kX8_does (qX8_does (uS (uS s2_ 95 17 (pnN (dpU f_ l_ p_ P_) : Int)) 95 18 (pnR (dpU f_ l_ p_ P_) 0)) a2_ P_ (hL_.go hF3_ hA2_) hwf_ _ _ _ _ hok_.1 hok_.2.1 hB2_) (by decide) rfl rfl rfl rfl (Nat.le_of_ble_eq_true rfl) ?_
        rintro s3_ a3_ ⟨hD_, hRL_⟩
        try simp only [Int.toNat_natCast]
        refine v_iconst iX8_readsClause_126 ?_
        exact r_b iX8_readsClause_127 rfl (by first | exact b2i_01 _ | decide | omega) (by show _ ∧ _; exact ⟨by rw [hCt_]; rfl, (fdU.ofm hF3_ hA2_).tr (fdU.ofd hD_), fun _ => ⟨⟨by rw [hD_.1 95 15 (by omega)]; exact hX_.1.1, by rw [hD_.1 95 16 (by omega)]; exact hX_.1.2⟩, by rw [hD_.1 95 17 (by omega)]; exact hX_.2.1, by rw [hD_.1 95 18 (by omega)]; exact hX_.2.2.1, by rw [hD_.1 95 19 (by omega)]; exact hX_.2.2.2.1, by rw [hD_.1 95 20 (by omega)]; exact hX_.2.2.2.2, hRL_⟩, fun h_ => absurd (hCt_.symm.trans h_) (by decide)⟩)
      have h81_ : VV 6 mX8_readsClause [vR 95] (fun r' s' a' => r' = some (vI (b2i (clU f_ l_ (pnN P_) (pnR P_ 0) p_).1)) ∧ (fdU σ α s' a') ∧ ((clU f_ l_ (pnN P_) (pnR P_ 0) p_).1 = true → rtU s' f_ l_ (clU f_ l_ (pnN P_) (pnR P_ 0) p_).2.1 ∧ s' 95 17 = (pnN (dpU f_ l_ p_ P_) : Int) ∧ s' 95 18 = pnR (dpU f_ l_ p_ P_) 0 ∧ s' 95 19 = σ 95 19 ∧ s' 95 20 = σ 95 20 ∧ rlU s' a' (dpU f_ l_ p_ P_)) ∧ ((clU f_ l_ (pnN P_) (pnR P_ 0) p_).1 = false → s' 95 15 = ((clU f_ l_ (pnN P_) (pnR P_ 0) p_).2.1 : Int))) s2_ a2_ 81 [some (vR 95), some (vI (wpU f_ l_ p_))] [vI (pnN (dpU f_ l_ p_ P_) : Int), vR 95] := by
        refine v_put iX8_readsClause_81 pX8_93 rfl rfl (by intro h; cases h) ?_
        refine v_aload_n iX8_readsClause_84 rfl ?_
        refine v_iload_n iX8_readsClause_85 rfl ?_
        refine v_if_ne (tgt := 93) iX8_readsClause_86 (by decide) (by omega) (fun hb86_ => ?_) (fun hb86_ => ?_)
        · refine v_iload_n iX8_readsClause_93 rfl ?_
          refine v_iconst iX8_readsClause_94 ?_
          refine v_icmp_ne (tgt := 107) iX8_readsClause_95 (by decide) (by omega) (fun hb95_ => ?_) (fun hb95_ => ?_)
          · refine v_aload_n iX8_readsClause_107 rfl ?_
            refine v_getI iX8_readsClause_108 fX8_115 rfl rfl (by exact (show _ = pnR P_ 0 by rw [uS_ne _ _ (by omega)]; exact ((hF1_.tr hF2_) 95 18 (by omega)).trans h18_)) ?_
            exact h111_.as rfl rfl rfl (by rw [hR0_]; first | (rw [if_pos (by omega)]; done) | (rw [if_neg (by omega), if_pos (by omega)]; done) | (rw [if_neg (by omega), if_neg (by omega)]; done))
          · refine v_aload_n iX8_readsClause_98 rfl ?_
            refine v_getI iX8_readsClause_99 fX8_115 rfl rfl (by exact (show _ = pnR P_ 0 by rw [uS_ne _ _ (by omega)]; exact ((hF1_.tr hF2_) 95 18 (by omega)).trans h18_)) ?_
            refine v_iconst iX8_readsClause_102 ?_
            refine v_iadd iX8_readsClause_103 ?_
            refine v_goto (tgt := 111) iX8_readsClause_104 (by decide) ?_
            exact h111_.as rfl rfl rfl (by rw [hR0_]; first | (rw [if_pos (by omega)]; done) | (rw [if_neg (by omega), if_pos (by omega)]; done) | (rw [if_neg (by omega), if_neg (by omega)]; done))
        · refine v_iconst iX8_readsClause_89 ?_
          refine v_goto (tgt := 111) iX8_readsClause_90 (by decide) ?_
          exact h111_.as rfl rfl rfl (by rw [hR0_]; first | (rw [if_pos (by omega)]; done) | (rw [if_neg (by omega), if_pos (by omega)]; done) | (rw [if_neg (by omega), if_neg (by omega)]; done))
      refine v_aload_n iX8_readsClause_54 rfl ?_
      refine v_iload_n iX8_readsClause_55 rfl ?_
      refine v_if_ne (tgt := 63) iX8_readsClause_56 (by decide) (by omega) (fun hb56_ => ?_) (fun hb56_ => ?_)
      · refine v_iload_n iX8_readsClause_63 rfl ?_
        refine v_iconst iX8_readsClause_64 ?_
        refine v_icmp_ne (tgt := 77) iX8_readsClause_65 (by decide) (by omega) (fun hb65_ => ?_) (fun hb65_ => ?_)
        · refine v_aload_n iX8_readsClause_77 rfl ?_
          refine v_getI iX8_readsClause_78 fX8_93 rfl rfl (by exact ((hF1_.tr hF2_) 95 17 (by omega)).trans h17_) ?_
          exact h81_.as rfl rfl rfl (by rw [hN0_]; first | (rw [if_pos (by omega)]; try rfl) | (rw [if_neg (by omega), if_pos (by omega), Int.natCast_add]; try rfl) | (rw [if_neg (by omega), if_neg (by omega)]; try rfl))
        · refine v_aload_n iX8_readsClause_68 rfl ?_
          refine v_getI iX8_readsClause_69 fX8_93 rfl rfl (by exact ((hF1_.tr hF2_) 95 17 (by omega)).trans h17_) ?_
          refine v_iconst iX8_readsClause_72 ?_
          refine v_iadd iX8_readsClause_73 ?_
          refine v_goto (tgt := 81) iX8_readsClause_74 (by decide) ?_
          exact h81_.as rfl rfl rfl (by rw [hN0_]; first | (rw [if_pos (by omega)]; try rfl) | (rw [if_neg (by omega), if_pos (by omega), Int.natCast_add]; try rfl) | (rw [if_neg (by omega), if_neg (by omega)]; try rfl))
      · refine v_iconst iX8_readsClause_59 ?_
        refine v_goto (tgt := 81) iX8_readsClause_60 (by decide) ?_
        exact h81_.as rfl rfl rfl (by rw [hN0_]; first | (rw [if_pos (by omega)]; try rfl) | (rw [if_neg (by omega), if_pos (by omega), Int.natCast_add]; try rfl) | (rw [if_neg (by omega), if_neg (by omega)]; try rfl))
    · try simp only [Int.toNat_natCast] at hb49_
      refine v_iconst iX8_readsClause_52 ?_
      exact r_b iX8_readsClause_53 rfl (by first | exact b2i_01 _ | decide | omega) (by show _ ∧ _; exact ⟨by rw [hb49_]; rfl, fdU.ofm (hF1_.tr hF2_).fm hA2_, fun h_ => absurd (hb49_.symm.trans h_) (by decide), fun _ => hBd2_ hb49_⟩)
  refine v_aload_n iX8_readsClause_0 rfl ?_
  refine c_V1 (Mc := mX8_wordHere) iX8_readsClause_1 lX8_111 kX8_wordHere (qX8_wordHere σ α f_ hfe_ l_ (tkS f_ l_ p_) (tkE f_ l_ (tkS f_ l_ p_)) hr_.1 hr_.2 ⟨hE0_, hE_⟩ hf_ hwd_) (by decide) rfl rfl rfl rfl (Nat.le_of_ble_eq_true rfl) ?_
  try simp only [Int.toNat_natCast]
  have hwe_ : wdU f_ (tkS f_ l_ p_) (tkE f_ l_ (tkS f_ l_ p_)) = wpU f_ l_ p_ := rfl
  rw [hwe_]
  refine v_is1 iX8_readsClause_4 ⟨rfl, rfl⟩ ?_
  refine v_iload_n iX8_readsClause_5 rfl ?_
  refine v_iconst iX8_readsClause_6 ?_
  refine v_icmp_eq (tgt := 38) iX8_readsClause_7 (by decide) (by omega) (fun hb7_ => ?_) (fun hb7_ => ?_)
  · exact h38_ (by omega)
  · refine v_iload_n iX8_readsClause_10 rfl ?_
    refine v_iconst iX8_readsClause_11 ?_
    refine v_icmp_ne (tgt := 24) iX8_readsClause_12 (by decide) (by omega) (fun hb12_ => ?_) (fun hb12_ => ?_)
    · refine v_iload_n iX8_readsClause_24 rfl ?_
      refine v_iconst iX8_readsClause_25 ?_
      refine v_icmp_ne (tgt := 40) iX8_readsClause_26 (by decide) (by omega) (fun hb26_ => ?_) (fun hb26_ => ?_)
      · exact h40_ (by omega)
      · refine v_aload_n iX8_readsClause_29 rfl ?_
        refine v_getI iX8_readsClause_30 fX8_115 rfl rfl (by exact h18_) ?_
        refine v_bipush iX8_readsClause_33 (by decide) ?_
        refine v_icmp_ne (tgt := 40) iX8_readsClause_35 (by decide) (by omega) (fun hb35_ => ?_) (fun hb35_ => ?_)
        · exact h40_ (by omega)
        · exact h38_ (by omega)
    · refine v_aload_n iX8_readsClause_15 rfl ?_
      refine v_getI iX8_readsClause_16 fX8_93 rfl rfl (by exact h17_) ?_
      refine v_bipush iX8_readsClause_19 (by decide) ?_
      refine v_icmp_eq (tgt := 38) iX8_readsClause_21 (by decide) (by omega) (fun hb21_ => ?_) (fun hb21_ => ?_)
      · exact h38_ (by omega)
      · refine v_iload_n iX8_readsClause_24 rfl ?_
        refine v_iconst iX8_readsClause_25 ?_
        refine v_icmp_ne (tgt := 40) iX8_readsClause_26 (by decide) (by omega) (fun hb26_ => ?_) (fun hb26_ => ?_)
        · exact h40_ (by omega)
        · refine v_aload_n iX8_readsClause_29 rfl ?_
          refine v_getI iX8_readsClause_30 fX8_115 rfl rfl (by exact h18_) ?_
          refine v_bipush iX8_readsClause_33 (by decide) ?_
          refine v_icmp_ne (tgt := 40) iX8_readsClause_35 (by decide) (by omega) (fun hb35_ => ?_) (fun hb35_ => ?_)
          · exact h40_ (by omega)
          · exact h38_ (by omega)
