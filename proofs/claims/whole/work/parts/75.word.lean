theorem qX8_nextTok (σ α : St) (f_ : Nat → Int) (hfe_ : α 101 = f_) (l_ p_ : Nat) (hl_ : σ 95 11 = l_) (hp_ : σ 95 16 = p_) (hpl_ : p_ ≤ l_) (hf_ : txU f_ l_) : CG 2 mX8_nextToken [vR 95] σ α (fun r' s' a' => r' = none ∧ (fnT σ s' ∧ rtU s' f_ l_ p_) ∧ a' = α) := by
  subst hfe_
  exact qX8_nextToken σ α l_ p_ hl_ hp_ hpl_ hf_

set_option maxHeartbeats 4000000 in
set_option maxRecDepth 100000 in
theorem qX8_wordHere (σ α : St) (f_ : Nat → Int) (hfe_ : α 101 = f_) (l_ s_ e_ : Nat) (h15_ : σ 95 15 = s_) (h16_ : σ 95 16 = e_) (hse_ : s_ ≤ e_ ∧ e_ ≤ l_) (hf_ : txU f_ l_) (hw_ : ∀ k, k < 42 → α 106 k = wrd k) : CG 0 mX8_wordHere [vR 95] σ α (fun r' s' a' => r' = some (vI (wdU f_ s_ e_)) ∧ s' = σ ∧ a' = α) := by
  have hl2_ := hf_.1
  refine CG.of [some (vR 95), none, none, none] (by decide) (by simp [lvA]) rfl ?_
  refine v_iconst iX8_wordHere_0 ?_
  refine v_is1 iX8_wordHere_1 ⟨rfl, rfl⟩ ?_
  refine (ind_up (P := fun w_ => fst1 (fun w => wm f_ s_ e_ w 7) (6 - w_) w_ = wdU f_ s_ e_ → VV 0 mX8_wordHere [vR 95] (fun r' s' a' => r' = some (vI (wdU f_ s_ e_)) ∧ s' = σ ∧ a' = α) σ α 2 [some (vR 95), some (vI (w_ : Int)), none, none] []) 6 ?_ 0 (by omega) rfl).asw rfl rfl ⟨rfl, rfl, trivial⟩ rfl
  intro w_ hw6_ ih_ hW_
  have h104_ : w_ < 6 → VV 0 mX8_wordHere [vR 95] (fun r' s' a' => r' = some (vI (wdU f_ s_ e_)) ∧ s' = σ ∧ a' = α) σ α 104 [some (vR 95), some (vI (w_ : Int)), some (vI (b2i (wm f_ s_ e_ w_ 7))), none] [] := by
    intro hw7_
    refine v_iload_n iX8_wordHere_104 rfl ?_
    refine v_bif_eq (tgt := 110) iX8_wordHere_105 (by decide) (fun hb105_ => ?_) (fun hb105_ => ?_)
    · try simp only [Int.toNat_natCast] at hb105_
      refine v_in1 iX8_wordHere_110 ⟨rfl, rfl⟩ ?_
      refine v_goto (tgt := 2) iX8_wordHere_113 (by decide) ?_
      exact (ih_ (by omega) (by rw [← hW_, show 6 - w_ = (6 - (w_ + 1)) + 1 by omega]; show _ = if wm f_ s_ e_ w_ 7 then (w_ : Int) else fst1 (fun w => wm f_ s_ e_ w 7) (6 - (w_ + 1)) (w_ + 1); rw [if_neg (by rw [hb105_]; decide)])).asw rfl rfl ⟨rfl, cf_i (by omega), trivial⟩ rfl
    · try simp only [Int.toNat_natCast] at hb105_
      refine v_iload_n iX8_wordHere_108 rfl ?_
      exact r_i iX8_wordHere_109 rfl (⟨cf_i (by rw [← hW_, show 6 - w_ = (5 - w_) + 1 by omega]; show _ = if wm f_ s_ e_ w_ 7 then (w_ : Int) else _; rw [if_pos hb105_]), rfl, rfl⟩)
  have h37_ : w_ < 6 → VV 0 mX8_wordHere [vR 95] (fun r' s' a' => r' = some (vI (wdU f_ s_ e_)) ∧ s' = σ ∧ a' = α) σ α 37 [some (vR 95), some (vI (w_ : Int)), none, none] [vI (b2i (wm f_ s_ e_ w_ 0))] := by
    intro hw7_
    have h104_ := h104_ hw7_
    refine v_is2 iX8_wordHere_37 ⟨rfl, rfl⟩ ?_
    refine v_iconst iX8_wordHere_38 ?_
    refine v_is3 iX8_wordHere_39 ⟨rfl, rfl⟩ ?_
    refine (ind_up (P := fun k_ => VV 0 mX8_wordHere [vR 95] (fun r' s' a' => r' = some (vI (wdU f_ s_ e_)) ∧ s' = σ ∧ a' = α) σ α 40 [some (vR 95), some (vI (w_ : Int)), some (vI (b2i (wm f_ s_ e_ w_ k_))), some (vI (k_ : Int))] []) 7 ?_ 0 (by omega)).as rfl rfl rfl rfl
    intro k_ hk_ ih2_
    have h97_ : wm f_ s_ e_ w_ k_ = true → k_ < 7 → VV 0 mX8_wordHere [vR 95] (fun r' s' a' => r' = some (vI (wdU f_ s_ e_)) ∧ s' = σ ∧ a' = α) σ α 97 [some (vR 95), some (vI (w_ : Int)), some (vI (b2i (wm f_ s_ e_ w_ k_))), some (vI (k_ : Int))] [vI (b2i (wm f_ s_ e_ w_ (k_ + 1)))] := by
      intro hk1_ hk2_
      refine v_is2 iX8_wordHere_97 ⟨rfl, rfl⟩ ?_
      refine v_in3 iX8_wordHere_98 ⟨rfl, rfl⟩ ?_
      refine v_goto (tgt := 40) iX8_wordHere_101 (by decide) ?_
      exact (ih2_ (by omega)).as rfl rfl rfl rfl
    refine v_iload_n iX8_wordHere_40 rfl ?_
    refine v_bipush iX8_wordHere_41 (by decide) ?_
    refine v_icmp_ge (tgt := 104) iX8_wordHere_43 (by decide) (by omega) (fun hb43_ => ?_) (fun hb43_ => ?_)
    · exact h104_.asw rfl rfl ⟨rfl, rfl, by first | (rw [show k_ = 7 by omega]; done) | (rw [hb47_, wm_f hb47_ (by omega)]; done), trivial⟩ rfl
    · refine v_iload_n iX8_wordHere_46 rfl ?_
      refine v_bif_eq (tgt := 104) iX8_wordHere_47 (by decide) (fun hb47_ => ?_) (fun hb47_ => ?_)
      · try simp only [Int.toNat_natCast] at hb47_
        exact h104_.asw rfl rfl ⟨rfl, rfl, by first | (rw [show k_ = 7 by omega]; done) | (rw [hb47_, wm_f hb47_ (by omega)]; done), trivial⟩ rfl
      · try simp only [Int.toNat_natCast] at hb47_
        have hs_ : wm f_ s_ e_ w_ (k_ + 1) = decide (wrd (7 * w_ + k_) = if s_ + k_ < e_ then f_ (s_ + k_) else 0) := by
          show (wm f_ s_ e_ w_ k_ && decide _) = _
          rw [hb47_, Bool.true_and]
        refine v_aload_n iX8_wordHere_50 rfl ?_
        refine v_getR iX8_wordHere_51 fX8_51 rfl rfl ?_
        refine v_bipush iX8_wordHere_54 (by decide) ?_
        refine v_iload_n iX8_wordHere_56 rfl ?_
        refine v_imul iX8_wordHere_57 ?_
        refine v_iload_n iX8_wordHere_58 rfl ?_
        refine v_iadd iX8_wordHere_59 ?_
        refine v_iaload iX8_wordHere_60 rfl (by omega) (by exact (show _ = wrd (7 * w_ + k_) by rw [show ((7 : Int) * (w_ : Int) + (k_ : Int)).toNat = 7 * w_ + k_ by omega]; exact hw_ _ (by omega))) ?_
        refine v_aload_n iX8_wordHere_61 rfl ?_
        refine v_getI iX8_wordHere_62 fX8_80 rfl rfl (by exact h15_) ?_
        refine v_iload_n iX8_wordHere_65 rfl ?_
        refine v_iadd iX8_wordHere_66 ?_
        refine v_aload_n iX8_wordHere_67 rfl ?_
        refine v_getI iX8_wordHere_68 fX8_77 rfl rfl (by exact h16_) ?_
        refine v_icmp_ge (tgt := 88) iX8_wordHere_71 (by decide) (by omega) (fun hb71_ => ?_) (fun hb71_ => ?_)
        · refine v_iconst iX8_wordHere_88 ?_
          refine v_icmp_ne (tgt := 96) iX8_wordHere_89 (by decide) (by have := wrd_r (7 * w_ + k_) (by omega); first | (have := hf_.2 (s_ + k_) (by omega); omega) | omega) (fun hb89_ => ?_) (fun hb89_ => ?_)
          · refine v_iconst iX8_wordHere_96 ?_
            exact (h97_ hb47_ (by omega)).as rfl rfl rfl (by rw [hs_]; first | (rw [b2i_pos (by rw [if_pos (by omega)]; omega)]; done) | (rw [b2i_neg (by rw [if_pos (by omega)]; omega)]; done) | (rw [b2i_pos (by rw [if_neg (by omega)]; omega)]; done) | (rw [b2i_neg (by rw [if_neg (by omega)]; omega)]; done))
          · refine v_iconst iX8_wordHere_92 ?_
            refine v_goto (tgt := 97) iX8_wordHere_93 (by decide) ?_
            exact (h97_ hb47_ (by omega)).as rfl rfl rfl (by rw [hs_]; first | (rw [b2i_pos (by rw [if_pos (by omega)]; omega)]; done) | (rw [b2i_neg (by rw [if_pos (by omega)]; omega)]; done) | (rw [b2i_pos (by rw [if_neg (by omega)]; omega)]; done) | (rw [b2i_neg (by rw [if_neg (by omega)]; omega)]; done))
        · refine v_aload_n iX8_wordHere_74 rfl ?_
          refine v_getR iX8_wordHere_75 fX8_36 rfl rfl ?_
          refine v_aload_n iX8_wordHere_78 rfl ?_
          refine v_getI iX8_wordHere_79 fX8_80 rfl rfl (by exact h15_) ?_
          refine v_iload_n iX8_wordHere_82 rfl ?_
          refine v_iadd iX8_wordHere_83 ?_
          refine v_iaload iX8_wordHere_84 rfl (by omega) (by exact (show _ = f_ (s_ + k_) by rw [hfe_, show ((s_ : Int) + (k_ : Int)).toNat = s_ + k_ by omega])) ?_
          refine v_goto (tgt := 89) iX8_wordHere_85 (by decide) ?_
          refine v_icmp_ne (tgt := 96) iX8_wordHere_89 (by decide) (by have := wrd_r (7 * w_ + k_) (by omega); first | (have := hf_.2 (s_ + k_) (by omega); omega) | omega) (fun hb89_ => ?_) (fun hb89_ => ?_)
          · refine v_iconst iX8_wordHere_96 ?_
            exact (h97_ hb47_ (by omega)).as rfl rfl rfl (by rw [hs_]; first | (rw [b2i_pos (by rw [if_pos (by omega)]; omega)]; done) | (rw [b2i_neg (by rw [if_pos (by omega)]; omega)]; done) | (rw [b2i_pos (by rw [if_neg (by omega)]; omega)]; done) | (rw [b2i_neg (by rw [if_neg (by omega)]; omega)]; done))
          · refine v_iconst iX8_wordHere_92 ?_
            refine v_goto (tgt := 97) iX8_wordHere_93 (by decide) ?_
            exact (h97_ hb47_ (by omega)).as rfl rfl rfl (by rw [hs_]; first | (rw [b2i_pos (by rw [if_pos (by omega)]; omega)]; done) | (rw [b2i_neg (by rw [if_pos (by omega)]; omega)]; done) | (rw [b2i_pos (by rw [if_neg (by omega)]; omega)]; done) | (rw [b2i_neg (by rw [if_neg (by omega)]; omega)]; done))
  refine v_iload_n iX8_wordHere_2 rfl ?_
  refine v_iconst iX8_wordHere_3 ?_
  refine v_icmp_gt (tgt := 116) iX8_wordHere_4 (by decide) (by omega) (fun hb4_ => ?_) (fun hb4_ => ?_)
  · refine v_iconst iX8_wordHere_116 ?_
    exact r_i iX8_wordHere_117 rfl (⟨cf_i (by rw [← hW_, show 6 - w_ = 0 by omega]; rfl), rfl, rfl⟩)
  · refine v_aload_n iX8_wordHere_7 rfl ?_
    refine v_getI iX8_wordHere_8 fX8_77 rfl rfl (by exact h16_) ?_
    refine v_aload_n iX8_wordHere_11 rfl ?_
    refine v_getI iX8_wordHere_12 fX8_80 rfl rfl (by exact h15_) ?_
    refine v_icmp_le (tgt := 36) iX8_wordHere_15 (by decide) (by omega) (fun hb15_ => ?_) (fun hb15_ => ?_)
    · refine v_iconst iX8_wordHere_36 ?_
      exact (h37_ (by omega)).asw rfl rfl ⟨rfl, rfl, trivial⟩ (by first | (rw [show b2i (wm f_ s_ e_ w_ 0) = 0 from b2i_neg (by omega)]; done) | (rw [show b2i (wm f_ s_ e_ w_ 0) = 1 from b2i_pos (by omega)]; done))
    · refine v_aload_n iX8_wordHere_18 rfl ?_
      refine v_getI iX8_wordHere_19 fX8_77 rfl rfl (by exact h16_) ?_
      refine v_aload_n iX8_wordHere_22 rfl ?_
      refine v_getI iX8_wordHere_23 fX8_80 rfl rfl (by exact h15_) ?_
      refine v_isub iX8_wordHere_26 ?_
      refine v_bipush iX8_wordHere_27 (by decide) ?_
      refine v_icmp_ge (tgt := 36) iX8_wordHere_29 (by decide) (by omega) (fun hb29_ => ?_) (fun hb29_ => ?_)
      · refine v_iconst iX8_wordHere_36 ?_
        exact (h37_ (by omega)).asw rfl rfl ⟨rfl, rfl, trivial⟩ (by first | (rw [show b2i (wm f_ s_ e_ w_ 0) = 0 from b2i_neg (by omega)]; done) | (rw [show b2i (wm f_ s_ e_ w_ 0) = 1 from b2i_pos (by omega)]; done))
      · refine v_iconst iX8_wordHere_32 ?_
        refine v_goto (tgt := 37) iX8_wordHere_33 (by decide) ?_
        exact (h37_ (by omega)).asw rfl rfl ⟨rfl, rfl, trivial⟩ (by first | (rw [show b2i (wm f_ s_ e_ w_ 0) = 0 from b2i_neg (by omega)]; done) | (rw [show b2i (wm f_ s_ e_ w_ 0) = 1 from b2i_pos (by omega)]; done))

set_option maxHeartbeats 4000000 in
set_option maxRecDepth 100000 in
theorem qX8_number (σ α : St) (f_ : Nat → Int) (hfe_ : α 101 = f_) (l_ p_ : Nat) (hl_ : σ 95 11 = l_) (hpl_ : p_ ≤ l_) (hf_ : txU f_ l_) (hr_ : rtU σ f_ l_ p_) (k_ : Nat) (hk_ : k_ < 3) (lo_ hi_ bu_ : Int) (hlo_ : InR lo_) (hhi_ : InR hi_) (hbu_ : InR bu_) : CG 3 mX8_number [vR 95, vI (k_ : Int), vI lo_, vI hi_, vI bu_] σ α (fun r' s' a' => r' = some (vI (b2i (nmB f_ l_ p_ lo_ hi_ bu_))) ∧ fnT σ s' ∧ fa105 α a' ∧ (nmB f_ l_ p_ lo_ hi_ bu_ = true → rtU s' f_ l_ (nmE f_ l_ p_) ∧ a' 105 = uF (α 105) k_ (nmV f_ l_ p_)) ∧ (nmB f_ l_ p_ lo_ hi_ bu_ = false → s' = σ ∧ a' = α)) := by
  have hl2_ := hf_.1
  obtain ⟨S_, hSS_⟩ : ∃ S_, tkS f_ l_ p_ = S_ := ⟨_, rfl⟩
  obtain ⟨E_, hEE0_⟩ : ∃ E_, tkE f_ l_ S_ = E_ := ⟨_, rfl⟩
  have hSr_ := tkS_r f_ hpl_
  have hEr_ := tkE_r f_ (tkS_r f_ hpl_).2
  have h15_ := hr_.1
  have h16_ := hr_.2
  rw [hSS_] at hSr_ hEr_ h15_ h16_
  rw [hEE0_] at hEr_ h16_
  have hEE_ : E_ = nmE f_ l_ p_ := by rw [nmE, hSS_, hEE0_]
  have hND_ : nmB f_ l_ p_ lo_ hi_ bu_ = decide ((S_ < l_ ∧ kdU (f_ S_) = 2 ∧ E_ ≤ S_ + 3) ∧ (lo_ ≤ vlU f_ S_ (E_ - S_) ∧ vlU f_ S_ (E_ - S_) ≤ hi_) ∧ vlU f_ S_ (E_ - S_) ≠ bu_) := by rw [nmB, hSS_, hEE0_]
  refine CG.of [some (vR 95), some (vI (k_ : Int)), some (vI lo_), some (vI hi_), some (vI bu_), none, none] (by decide) (by simp [lvA]) rfl ?_
  refine v_aload_n iX8_number_0 rfl ?_
  refine v_getI iX8_number_1 fX8_80 rfl rfl (by exact h15_) ?_
  refine v_aload_n iX8_number_4 rfl ?_
  refine v_getI iX8_number_5 fX8_66 rfl rfl (by exact hl_) ?_
  refine v_icmp_eq (tgt := 39) iX8_number_8 (by decide) (by omega) (fun hb8_ => ?_) (fun hb8_ => ?_)
  · (try simp only [decide_eq_false_iff_not] at hb23_)
    (try simp only [decide_eq_true_eq] at hb23_)
    have hN_ : nmB f_ l_ p_ lo_ hi_ bu_ = false := by
      rw [hND_]
      refine decide_eq_false (fun h_ => ?_)
      have h1_ := h_.1
      rw [kdU_2] at h1_
      omega
    refine v_iconst iX8_number_39 ?_
    exact r_b iX8_number_40 rfl (by first | exact b2i_01 _ | decide | omega) (⟨cf_i (by rw [hN_]; rfl), fnT.rf σ, fa105.rf α, fun h_ => absurd (hN_.symm.trans h_) (by decide), fun _ => ⟨rfl, rfl⟩⟩)
  · refine v_aload_n iX8_number_11 rfl ?_
    refine v_getR iX8_number_12 fX8_36 rfl rfl ?_
    refine v_aload_n iX8_number_15 rfl ?_
    refine v_getI iX8_number_16 fX8_80 rfl rfl (by exact h15_) ?_
    refine v_iaload iX8_number_19 rfl (by omega) (by exact (show _ = f_ S_ by rw [hfe_, Int.toNat_natCast])) ?_
    refine c_S1 (Mc := mX8_isDigit) iX8_number_20 lX8_87 kX8_isDigit (qX8_isDigit _ _ (f_ S_) (by have := hf_.2 S_ (by omega); omega)) (by decide) rfl rfl (Nat.le_of_ble_eq_true rfl) ?_
    try simp only [Int.toNat_natCast]
    refine v_bif_eq (tgt := 39) iX8_number_23 (by decide) (fun hb23_ => ?_) (fun hb23_ => ?_)
    · try simp only [Int.toNat_natCast] at hb23_
      (try simp only [decide_eq_false_iff_not] at hb23_)
      (try simp only [decide_eq_true_eq] at hb23_)
      have hN_ : nmB f_ l_ p_ lo_ hi_ bu_ = false := by
        rw [hND_]
        refine decide_eq_false (fun h_ => ?_)
        have h1_ := h_.1
        rw [kdU_2] at h1_
        omega
      refine v_iconst iX8_number_39 ?_
      exact r_b iX8_number_40 rfl (by first | exact b2i_01 _ | decide | omega) (⟨cf_i (by rw [hN_]; rfl), fnT.rf σ, fa105.rf α, fun h_ => absurd (hN_.symm.trans h_) (by decide), fun _ => ⟨rfl, rfl⟩⟩)
    · try simp only [Int.toNat_natCast] at hb23_
      refine v_aload_n iX8_number_26 rfl ?_
      refine v_getI iX8_number_27 fX8_77 rfl rfl (by exact h16_) ?_
      refine v_aload_n iX8_number_30 rfl ?_
      refine v_getI iX8_number_31 fX8_80 rfl rfl (by exact h15_) ?_
      refine v_isub iX8_number_34 ?_
      refine v_iconst iX8_number_35 ?_
      refine v_icmp_le (tgt := 41) iX8_number_36 (by decide) (by omega) (fun hb36_ => ?_) (fun hb36_ => ?_)
      · simp only [decide_eq_true_eq] at hb23_
        have hD_ : S_ < l_ ∧ kdU (f_ S_) = 2 ∧ E_ ≤ S_ + 3 := ⟨by omega, kdU_2.mpr hb23_, by omega⟩
        have hv_ := vlU_r (s := S_) hf_ (E_ - S_) (by omega) (by omega)
        have hVV_ : nmV f_ l_ p_ = vlU f_ S_ (E_ - S_) := by rw [nmV, hSS_, hEE0_]
        have h108_ : VV 3 mX8_number [vR 95, vI (k_ : Int), vI lo_, vI hi_, vI bu_] (fun r' s' a' => r' = some (vI (b2i (nmB f_ l_ p_ lo_ hi_ bu_))) ∧ fnT σ s' ∧ fa105 α a' ∧ (nmB f_ l_ p_ lo_ hi_ bu_ = true → rtU s' f_ l_ (nmE f_ l_ p_) ∧ a' 105 = uF (α 105) k_ (nmV f_ l_ p_)) ∧ (nmB f_ l_ p_ lo_ hi_ bu_ = false → s' = σ ∧ a' = α)) σ α 108 [some (vR 95), some (vI (k_ : Int)), some (vI lo_), some (vI hi_), some (vI bu_), some (vI (vlU f_ S_ (E_ - S_))), none] [vI (b2i (nmB f_ l_ p_ lo_ hi_ bu_))] := by
          rw [← hVV_]
          refine v_is6 iX8_number_108 ⟨rfl, rfl⟩ ?_
          refine v_iload iX8_number_110 rfl ?_
          refine v_bif_eq (tgt := 127) iX8_number_112 (by decide) (fun hb112_ => ?_) (fun hb112_ => ?_)
          · try simp only [Int.toNat_natCast] at hb112_
            refine v_iload iX8_number_127 rfl ?_
            exact r_b iX8_number_129 rfl (by first | exact b2i_01 _ | decide | omega) (by first | exact ⟨rfl, fnT.rf σ, fa105.rf α, fun h_ => absurd (hb112_.symm.trans h_) (by decide), fun _ => ⟨rfl, rfl⟩⟩ | exact ⟨rfl, hF1_, fun q hq => uA_ne _ _ hq, fun _ => ⟨by rw [hEE_] at hT1_; exact hT1_, by rw [uA_eq]⟩, fun h_ => absurd (hb112_.symm.trans h_) (by decide)⟩)
          · try simp only [Int.toNat_natCast] at hb112_
            refine v_aload_n iX8_number_115 rfl ?_
            refine v_getR iX8_number_116 fX8_48 rfl rfl ?_
            refine v_iload_n iX8_number_119 rfl ?_
            refine v_iload iX8_number_120 rfl ?_
            refine v_iastore iX8_number_122 rfl (by omega) ?_
            refine v_aload_n iX8_number_123 rfl ?_
            refine c_VN (Mc := mX8_nextToken) iX8_number_124 lX8_90 kX8_nextToken (qX8_nextTok _ _ f_ (by rw [uA_ne _ _ (by decide)]; exact hfe_) l_ E_ hl_ h16_ (by omega) hf_) (by decide) rfl rfl rfl rfl (Nat.le_of_ble_eq_true rfl) ?_
            rintro s1_ a1_ ⟨⟨hF1_, hT1_⟩, rfl⟩
            try simp only [Int.toNat_natCast]
            refine v_iload iX8_number_127 rfl ?_
            exact r_b iX8_number_129 rfl (by first | exact b2i_01 _ | decide | omega) (by first | exact ⟨rfl, fnT.rf σ, fa105.rf α, fun h_ => absurd (hb112_.symm.trans h_) (by decide), fun _ => ⟨rfl, rfl⟩⟩ | exact ⟨rfl, hF1_, fun q hq => uA_ne _ _ hq, fun _ => ⟨by rw [hEE_] at hT1_; exact hT1_, by rw [uA_eq]⟩, fun h_ => absurd (hb112_.symm.trans h_) (by decide)⟩)
        have h83_ : VV 3 mX8_number [vR 95, vI (k_ : Int), vI lo_, vI hi_, vI bu_] (fun r' s' a' => r' = some (vI (b2i (nmB f_ l_ p_ lo_ hi_ bu_))) ∧ fnT σ s' ∧ fa105 α a' ∧ (nmB f_ l_ p_ lo_ hi_ bu_ = true → rtU s' f_ l_ (nmE f_ l_ p_) ∧ a' 105 = uF (α 105) k_ (nmV f_ l_ p_)) ∧ (nmB f_ l_ p_ lo_ hi_ bu_ = false → s' = σ ∧ a' = α)) σ α 83 [some (vR 95), some (vI (k_ : Int)), some (vI lo_), some (vI hi_), some (vI bu_), some (vI (vlU f_ S_ (E_ - S_))), some (vI (E_ : Int))] [] := by
          refine v_iload iX8_number_83 rfl ?_
          refine v_i2l iX8_number_85 (by omega) ?_
          refine v_iload_n iX8_number_86 rfl ?_
          refine v_i2l iX8_number_87 (by omega) ?_
          refine v_iload_n iX8_number_88 rfl ?_
          refine v_i2l iX8_number_89 (by omega) ?_
          refine c_S1 (Mc := mX8_in) iX8_number_90 lX8_62 kX8_in (qX8_in _ _ _ _ _ (by omega) hlo_ hhi_) (by decide) rfl rfl (Nat.le_of_ble_eq_true rfl) ?_
          try simp only [Int.toNat_natCast]
          refine v_bif_eq (tgt := 107) iX8_number_93 (by decide) (fun hb93_ => ?_) (fun hb93_ => ?_)
          · try simp only [Int.toNat_natCast] at hb93_
            (try simp only [decide_eq_false_iff_not] at hb93_)
            (try simp only [decide_eq_true_eq] at hb93_)
            refine v_iconst iX8_number_107 ?_
            exact h108_.asw rfl rfl ⟨rfl, rfl, rfl, rfl, rfl, rfl, trivial⟩ (by rw [hND_]; first | (rw [show b2i (decide ((S_ < l_ ∧ kdU (f_ S_) = 2 ∧ E_ ≤ S_ + 3) ∧ (lo_ ≤ vlU f_ S_ (E_ - S_) ∧ vlU f_ S_ (E_ - S_) ≤ hi_) ∧ vlU f_ S_ (E_ - S_) ≠ bu_)) = 1 from b2i_pos ⟨hD_, hb93_, by omega⟩]; done) | (rw [show b2i (decide ((S_ < l_ ∧ kdU (f_ S_) = 2 ∧ E_ ≤ S_ + 3) ∧ (lo_ ≤ vlU f_ S_ (E_ - S_) ∧ vlU f_ S_ (E_ - S_) ≤ hi_) ∧ vlU f_ S_ (E_ - S_) ≠ bu_)) = 0 from b2i_neg (fun h_ => by have := h_.2; omega)]; done))
          · try simp only [Int.toNat_natCast] at hb93_
            refine v_iload iX8_number_96 rfl ?_
            refine v_iload iX8_number_98 rfl ?_
            refine v_icmp_eq (tgt := 107) iX8_number_100 (by decide) (by omega) (fun hb100_ => ?_) (fun hb100_ => ?_)
            · (try simp only [decide_eq_false_iff_not] at hb93_)
              (try simp only [decide_eq_true_eq] at hb93_)
              refine v_iconst iX8_number_107 ?_
              exact h108_.asw rfl rfl ⟨rfl, rfl, rfl, rfl, rfl, rfl, trivial⟩ (by rw [hND_]; first | (rw [show b2i (decide ((S_ < l_ ∧ kdU (f_ S_) = 2 ∧ E_ ≤ S_ + 3) ∧ (lo_ ≤ vlU f_ S_ (E_ - S_) ∧ vlU f_ S_ (E_ - S_) ≤ hi_) ∧ vlU f_ S_ (E_ - S_) ≠ bu_)) = 1 from b2i_pos ⟨hD_, hb93_, by omega⟩]; done) | (rw [show b2i (decide ((S_ < l_ ∧ kdU (f_ S_) = 2 ∧ E_ ≤ S_ + 3) ∧ (lo_ ≤ vlU f_ S_ (E_ - S_) ∧ vlU f_ S_ (E_ - S_) ≤ hi_) ∧ vlU f_ S_ (E_ - S_) ≠ bu_)) = 0 from b2i_neg (fun h_ => by have := h_.2; omega)]; done))
            · simp only [decide_eq_true_eq] at hb93_
              refine v_iconst iX8_number_103 ?_
              refine v_goto (tgt := 108) iX8_number_104 (by decide) ?_
              exact h108_.asw rfl rfl ⟨rfl, rfl, rfl, rfl, rfl, rfl, trivial⟩ (by rw [hND_]; first | (rw [show b2i (decide ((S_ < l_ ∧ kdU (f_ S_) = 2 ∧ E_ ≤ S_ + 3) ∧ (lo_ ≤ vlU f_ S_ (E_ - S_) ∧ vlU f_ S_ (E_ - S_) ≤ hi_) ∧ vlU f_ S_ (E_ - S_) ≠ bu_)) = 1 from b2i_pos ⟨hD_, hb93_, by omega⟩]; done) | (rw [show b2i (decide ((S_ < l_ ∧ kdU (f_ S_) = 2 ∧ E_ ≤ S_ + 3) ∧ (lo_ ≤ vlU f_ S_ (E_ - S_) ∧ vlU f_ S_ (E_ - S_) ≤ hi_) ∧ vlU f_ S_ (E_ - S_) ≠ bu_)) = 0 from b2i_neg (fun h_ => by have := h_.2; omega)]; done))
        refine v_iconst iX8_number_41 ?_
        refine v_is5 iX8_number_42 ⟨rfl, rfl⟩ ?_
        refine v_aload_n iX8_number_44 rfl ?_
        refine v_getI iX8_number_45 fX8_80 rfl rfl (by exact h15_) ?_
        refine v_is6 iX8_number_48 ⟨rfl, rfl⟩ ?_
        refine (ind_up (P := fun j_ => VV 3 mX8_number [vR 95, vI (k_ : Int), vI lo_, vI hi_, vI bu_] (fun r' s' a' => r' = some (vI (b2i (nmB f_ l_ p_ lo_ hi_ bu_))) ∧ fnT σ s' ∧ fa105 α a' ∧ (nmB f_ l_ p_ lo_ hi_ bu_ = true → rtU s' f_ l_ (nmE f_ l_ p_) ∧ a' 105 = uF (α 105) k_ (nmV f_ l_ p_)) ∧ (nmB f_ l_ p_ lo_ hi_ bu_ = false → s' = σ ∧ a' = α)) σ α 50 [some (vR 95), some (vI (k_ : Int)), some (vI lo_), some (vI hi_), some (vI bu_), some (vI (vlU f_ S_ j_)), some (vI ((S_ : Int) + (j_ : Int)))] []) (E_ - S_) ?_ 0 (by omega)).as rfl rfl (by simp [vlU]) rfl
        intro j_ hj_ ih_
        have hvj_ := vlU_r (s := S_) hf_ j_ (by omega) (by omega)
        refine v_iload iX8_number_50 rfl ?_
        refine v_aload_n iX8_number_52 rfl ?_
        refine v_getI iX8_number_53 fX8_77 rfl rfl (by exact h16_) ?_
        refine v_icmp_ge (tgt := 83) iX8_number_56 (by decide) (by omega) (fun hb56_ => ?_) (fun hb56_ => ?_)
        · have hj3_ : j_ = E_ - S_ := by omega
          exact h83_.as rfl rfl (by rw [hj3_, show (S_ : Int) + ((E_ - S_ : Nat) : Int) = (E_ : Int) by omega]) rfl
        · refine v_bipush iX8_number_59 (by decide) ?_
          refine v_iload iX8_number_61 rfl ?_
          refine v_imul iX8_number_63 ?_
          refine v_aload_n iX8_number_64 rfl ?_
          refine v_getR iX8_number_65 fX8_36 rfl rfl ?_
          refine v_iload iX8_number_68 rfl ?_
          refine v_iaload iX8_number_70 rfl (by omega) (by exact (show _ = f_ (S_ + j_) by rw [hfe_, show ((S_ : Int) + (j_ : Int)).toNat = S_ + j_ by omega])) ?_
          refine v_iadd iX8_number_71 ?_
          refine v_bipush iX8_number_72 (by decide) ?_
          refine v_isub iX8_number_74 ?_
          refine v_is5 iX8_number_75 ⟨rfl, rfl⟩ ?_
          refine v_in6 iX8_number_77 ⟨rfl, rfl⟩ ?_
          refine v_goto (tgt := 50) iX8_number_80 (by decide) ?_
          exact (ih_ (by omega)).as rfl rfl (by rw [show (S_ : Int) + (j_ : Int) + 1 = (S_ : Int) + ((j_ + 1 : Nat) : Int) by omega]; rfl) rfl
      · (try simp only [decide_eq_false_iff_not] at hb23_)
        (try simp only [decide_eq_true_eq] at hb23_)
        have hN_ : nmB f_ l_ p_ lo_ hi_ bu_ = false := by
          rw [hND_]
          refine decide_eq_false (fun h_ => ?_)
          have h1_ := h_.1
          rw [kdU_2] at h1_
          omega
        refine v_iconst iX8_number_39 ?_
        exact r_b iX8_number_40 rfl (by first | exact b2i_01 _ | decide | omega) (⟨cf_i (by rw [hN_]; rfl), fnT.rf σ, fa105.rf α, fun h_ => absurd (hN_.symm.trans h_) (by decide), fun _ => ⟨rfl, rfl⟩⟩)

set_option maxHeartbeats 4000000 in
set_option maxRecDepth 100000 in
theorem qX8_readsSection (σ α : St) (f_ : Nat → Int) (hfe_ : α 101 = f_) (l_ p_ : Nat) (hl_ : σ 95 11 = l_) (hpl_ : p_ ≤ l_) (hf_ : txU f_ l_) (hr_ : rtU σ f_ l_ p_) (k_ : Nat) (hk_ : k_ < 3) (n_ bu_ : Int) (hn_ : σ 95 17 = n_) (hn2_ : 0 ≤ n_ ∧ n_ ≤ 10) (hbu_ : InR bu_) : CG 4 mX8_readsSection [vR 95, vI (k_ : Int), vI bu_] σ α (fun r' s' a' => r' = some (vI (b2i (nmB f_ l_ p_ 0 (n_ - 1) bu_))) ∧ fnT σ s' ∧ fa105 α a' ∧ (nmB f_ l_ p_ 0 (n_ - 1) bu_ = true → rtU s' f_ l_ (nmE f_ l_ p_) ∧ a' 105 = uF (α 105) k_ (nmV f_ l_ p_)) ∧ (nmB f_ l_ p_ 0 (n_ - 1) bu_ = false → s' = σ ∧ a' = α)) := by
  refine CG.of [some (vR 95), some (vI (k_ : Int)), some (vI bu_)] (by decide) (by simp [lvA]) rfl ?_
  refine v_aload_n iX8_readsSection_0 rfl ?_
  refine v_iload_n iX8_readsSection_1 rfl ?_
  refine v_iconst iX8_readsSection_2 ?_
  refine v_aload_n iX8_readsSection_3 rfl ?_
  refine v_getI iX8_readsSection_4 fX8_93 rfl rfl (by exact hn_) ?_
  refine v_iconst iX8_readsSection_7 ?_
  refine v_isub iX8_readsSection_8 ?_
  refine v_iload_n iX8_readsSection_9 rfl ?_
  refine c_VQ (Mc := mX8_number) iX8_readsSection_10 lX8_96 kX8_number (qX8_number σ α f_ hfe_ l_ p_ hl_ hpl_ hf_ hr_ k_ hk_ 0 (n_ - 1) bu_ (by omega) (by omega) hbu_) (by decide) rfl rfl rfl rfl (Nat.le_of_ble_eq_true rfl) ?_
  rintro s1_ a1_ hQ_
  try simp only [Int.toNat_natCast]
  exact r_b iX8_readsSection_13 rfl (by first | exact b2i_01 _ | decide | omega) (⟨rfl, hQ_⟩)
