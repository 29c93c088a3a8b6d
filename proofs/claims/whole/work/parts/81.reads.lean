set_option maxHeartbeats 4000000 in
set_option maxRecDepth 100000 in
theorem qX8_reads_n (σ α : St) (f_ : Nat → Int) (hfe_ : α 101 = f_) (l_ : Nat) (hl_ : σ 95 11 = l_) (hf_ : txU f_ l_) (hwd_ : ∀ k, k < 42 → α 106 k = wrd k) (P_ : pnT) (hwf_ : wfP P_) (hn1_ : σ 95 1 = (pnN P_ : Int)) (hm_ : α 96 319 = pnR P_ 0) : CG 7 mX8_reads [vR 95, vI 0] σ α (fun r' s' a' => r' = some (vI (b2i (rdU f_ l_ 24 0 P_).1)) ∧ (fmT σ s' ∧ fa105 α a') ∧ ((rdU f_ l_ 24 0 P_).1 = false → s' 95 15 = ((rdU f_ l_ 24 0 P_).2.1 : Int)) ∧ ((rdU f_ l_ 24 0 P_).1 = true → s' 95 19 = ((rdU f_ l_ 24 0 P_).2.2.1 : Int))) := by
  have hl2_ := hf_.1
  refine CG.of [some (vR 95), some (vI 0), none] (by decide) (by simp [lvA]) rfl ?_
  have hF44_ : ∀ σ1_ α1_, (fmT σ σ1_ ∧ fa105 α α1_) → (rdU f_ l_ 24 0 P_).1 = false → σ1_ 95 15 = ((rdU f_ l_ 24 0 P_).2.1 : Int) → VV 7 mX8_reads [vR 95, vI 0] (fun r' s' a' => r' = some (vI (b2i (rdU f_ l_ 24 0 P_).1)) ∧ (fmT σ s' ∧ fa105 α a') ∧ ((rdU f_ l_ 24 0 P_).1 = false → s' 95 15 = ((rdU f_ l_ 24 0 P_).2.1 : Int)) ∧ ((rdU f_ l_ 24 0 P_).1 = true → s' 95 19 = ((rdU f_ l_ 24 0 P_).2.2.1 : Int))) σ1_ α1_ 44 [some (vR 95), some (vI 0), some (vI 0)] [] := by
    intro σ1_ α1_ hF_ hRf_ hRp_
    refine v_iload_n iX8_reads_44 rfl ?_
    refine v_if_eq (tgt := 114) iX8_reads_45 (by decide) (by omega) (fun hb45_ => ?_) (fun hb45_ => (by exfalso; omega))
    refine v_iload_n iX8_reads_114 rfl ?_
    exact r_b iX8_reads_115 rfl (by first | exact b2i_01 _ | decide | omega) (⟨by rw [hRf_]; rfl, hF_, fun _ => hRp_, fun h_ => absurd (hRf_.symm.trans h_) (by decide)⟩)
  have h44_ : ∀ (c_ : Nat), c_ ≤ 24 → ∀ σ1_ α1_ p1_ P1_, (fmT σ σ1_ ∧ fa105 α α1_) → p1_ ≤ l_ → wfP P1_ → rtU σ1_ f_ l_ p1_ → σ1_ 95 19 = (c_ : Int) → σ1_ 95 17 = (pnN P1_ : Int) → σ1_ 95 18 = pnR P1_ 0 → σ1_ 95 20 = 0 → rrU f_ l_ (24 - c_) (rdU f_ l_ (24 - c_)) p1_ P1_ = rdU f_ l_ 24 0 P_ → VV 7 mX8_reads [vR 95, vI 0] (fun r' s' a' => r' = some (vI (b2i (rdU f_ l_ 24 0 P_).1)) ∧ (fmT σ s' ∧ fa105 α a') ∧ ((rdU f_ l_ 24 0 P_).1 = false → s' 95 15 = ((rdU f_ l_ 24 0 P_).2.1 : Int)) ∧ ((rdU f_ l_ 24 0 P_).1 = true → s' 95 19 = ((rdU f_ l_ 24 0 P_).2.2.1 : Int))) σ1_ α1_ 44 [some (vR 95), some (vI 0), some (vI 1)] [] := by
    refine ind_up (P := fun (c_ : Nat) => ∀ σ1_ α1_ p1_ P1_, (fmT σ σ1_ ∧ fa105 α α1_) → p1_ ≤ l_ → wfP P1_ → rtU σ1_ f_ l_ p1_ → σ1_ 95 19 = (c_ : Int) → σ1_ 95 17 = (pnN P1_ : Int) → σ1_ 95 18 = pnR P1_ 0 → σ1_ 95 20 = 0 → rrU f_ l_ (24 - c_) (rdU f_ l_ (24 - c_)) p1_ P1_ = rdU f_ l_ 24 0 P_ → VV 7 mX8_reads [vR 95, vI 0] (fun r' s' a' => r' = some (vI (b2i (rdU f_ l_ 24 0 P_).1)) ∧ (fmT σ s' ∧ fa105 α a') ∧ ((rdU f_ l_ 24 0 P_).1 = false → s' 95 15 = ((rdU f_ l_ 24 0 P_).2.1 : Int)) ∧ ((rdU f_ l_ 24 0 P_).1 = true → s' 95 19 = ((rdU f_ l_ 24 0 P_).2.2.1 : Int))) σ1_ α1_ 44 [some (vR 95), some (vI 0), some (vI 1)] []) 24 ?_
    intro c_ hc_ ih_ σ1_ α1_ p1_ P1_ hF_ hp1_ hw1_ hT_ h19_ h17_ h18_ h20_ hRR_
    have hS1_ := tkS_r f_ hp1_
    have hE1_ := (tkE_r f_ hS1_.2).2.1
    have hfe1_ : α1_ 101 = f_ := (hF_.2 101 (by decide)).trans hfe_
    have hwr1_ := (hF_.2 106 (by decide))
    refine v_iload_n iX8_reads_44 rfl ?_
    refine v_if_eq (tgt := 114) iX8_reads_45 (by decide) (by omega) (fun hb45_ => (by exfalso; omega)) (fun hb45_ => ?_)
    refine v_aload_n iX8_reads_48 rfl ?_
    refine v_getI iX8_reads_49 fX8_80 rfl rfl (by exact hT_.1) ?_
    refine v_aload_n iX8_reads_52 rfl ?_
    refine v_getI iX8_reads_53 fX8_66 rfl rfl (by exact (hF_.1 95 11 (by omega)).trans hl_) ?_
    refine v_icmp_ge (tgt := 114) iX8_reads_56 (by decide) (by omega) (fun hb56_ => ?_) (fun hb56_ => ?_)
    · have hRe_ : rdU f_ l_ 24 0 P_ = (true, tkS f_ l_ p1_, 24 - (24 - c_), P1_) := by rw [← hRR_, rrU_e (by omega)]
      refine v_iload_n iX8_reads_114 rfl ?_
      exact r_b iX8_reads_115 rfl (by first | exact b2i_01 _ | decide | omega) (by show _ ∧ _; rw [hRe_]; exact ⟨rfl, hF_, fun h_ => (by cases h_), fun _ => by rw [h19_]; show (c_ : Int) = ((24 - (24 - c_) : Nat) : Int); omega⟩)
    · refine v_aload_n iX8_reads_59 rfl ?_
      refine v_getI iX8_reads_60 fX8_129 rfl rfl (by exact h19_) ?_
      refine v_bipush iX8_reads_63 (by decide) ?_
      refine v_icmp_ge (tgt := 86) iX8_reads_65 (by decide) (by omega) (fun hb65_ => ?_) (fun hb65_ => ?_)
      · have hRb_ : rdU f_ l_ 24 0 P_ = (false, tkS f_ l_ p1_, 0, P1_) := by rw [← hRR_, rrU_b (by omega) (by omega)]
        refine v_iconst iX8_reads_86 ?_
        refine v_is2 iX8_reads_87 ⟨rfl, rfl⟩ ?_
        refine v_iload_n iX8_reads_88 rfl ?_
        refine v_if_eq (tgt := 44) iX8_reads_89 (by decide) (by omega) (fun hb89_ => ?_) (fun hb89_ => (by exfalso; omega))
        exact hF44_ _ _ hF_ (by rw [hRb_]) (by rw [hRb_]; exact hT_.1)
      · refine v_aload_n iX8_reads_68 rfl ?_
        refine v_getR iX8_reads_69 fX8_36 rfl rfl ?_
        refine v_aload_n iX8_reads_72 rfl ?_
        refine v_getI iX8_reads_73 fX8_80 rfl rfl (by exact hT_.1) ?_
        refine v_iaload iX8_reads_76 rfl (by omega) (by exact (show _ = f_ (tkS f_ l_ p1_) by rw [hfe1_, Int.toNat_natCast])) ?_
        refine v_bipush iX8_reads_77 (by decide) ?_
        refine v_icmp_ne (tgt := 86) iX8_reads_79 (by decide) (by have := hf_.2 (tkS f_ l_ p1_) (by omega); omega) (fun hb79_ => ?_) (fun hb79_ => ?_)
        · have hRb_ : rdU f_ l_ 24 0 P_ = (false, tkS f_ l_ p1_, 0, P1_) := by rw [← hRR_, rrU_b (by omega) (by omega)]
          refine v_iconst iX8_reads_86 ?_
          refine v_is2 iX8_reads_87 ⟨rfl, rfl⟩ ?_
          refine v_iload_n iX8_reads_88 rfl ?_
          refine v_if_eq (tgt := 44) iX8_reads_89 (by decide) (by omega) (fun hb89_ => ?_) (fun hb89_ => (by exfalso; omega))
          exact hF44_ _ _ hF_ (by rw [hRb_]) (by rw [hRb_]; exact hT_.1)
        · refine v_iconst iX8_reads_82 ?_
          refine v_goto (tgt := 87) iX8_reads_83 (by decide) ?_
          refine v_is2 iX8_reads_87 ⟨rfl, rfl⟩ ?_
          refine v_iload_n iX8_reads_88 rfl ?_
          refine v_if_eq (tgt := 44) iX8_reads_89 (by decide) (by omega) (fun hb89_ => (by exfalso; omega)) (fun hb89_ => ?_)
          refine v_aload_n iX8_reads_92 rfl ?_
          refine c_VN (Mc := mX8_nextToken) iX8_reads_93 lX8_90 kX8_nextToken (qX8_nextTok σ1_ α1_ f_ hfe1_ l_ (tkE f_ l_ (tkS f_ l_ p1_)) ((hF_.1 95 11 (by omega)).trans hl_) hT_.2 hE1_ hf_) (by decide) rfl rfl rfl rfl (Nat.le_of_ble_eq_true rfl) ?_
          rintro s1_ a1_ ⟨⟨hF1_, hT1_⟩, hae_⟩
          have hae2_ := hae_.symm
          subst hae2_
          try simp only [Int.toNat_natCast]
          refine v_aload_n iX8_reads_96 rfl ?_
          refine c_VQ (Mc := mX8_readsClause) iX8_reads_97 lX8_132 kX8_readsClause (qX8_readsClause_n s1_ α1_ f_ hfe1_ l_ (tkE f_ l_ (tkS f_ l_ p1_)) ((hF1_ 95 11 (by omega)).trans ((hF_.1 95 11 (by omega)).trans hl_)) hE1_ hf_ hT1_ (fun k hk => by rw [hwr1_]; exact hwd_ k hk) P1_ hw1_ ((hF1_ 95 17 (by omega)).trans h17_) ((hF1_ 95 18 (by omega)).trans h18_) ((hF1_ 95 20 (by omega)).trans h20_)) (by decide) rfl rfl rfl rfl (Nat.le_of_ble_eq_true rfl) ?_
          rintro s2_ a2_ ⟨hFr2_, hOk2_, hBd2_⟩
          try simp only [Int.toNat_natCast]
          refine v_is2 iX8_reads_100 ⟨rfl, rfl⟩ ?_
          refine v_aload_n iX8_reads_101 rfl ?_
          refine v_dup iX8_reads_102 (by intro z h; cases h) ?_
          refine v_getI iX8_reads_103 fX8_129 rfl rfl rfl ?_
          refine v_iconst iX8_reads_106 ?_
          refine v_iadd iX8_reads_107 ?_
          refine v_put iX8_reads_108 pX8_129 rfl rfl (by intro h; cases h) ?_
          refine v_goto (tgt := 44) iX8_reads_111 (by decide) ?_
          have hfx_ : (fmT σ s2_ ∧ fa105 α a2_) := ⟨(hF_.1.tr hF1_.fm).tr hFr2_.1, hF_.2.tr hFr2_.2⟩
          have hRg_ : rdU f_ l_ 24 0 P_ = rdU f_ l_ ((24 - (c_ + 1)) + 1) (tkE f_ l_ (tkS f_ l_ p1_)) P1_ := by rw [← hRR_, rrU_g (p := p1_) (P := P1_) (by omega) (by omega) (by omega), show 24 - c_ = 24 - (c_ + 1) + 1 by omega]
          have hfr_ : (fmT σ (uS s2_ 95 19 (s2_ 95 19 + 1)) ∧ fa105 α a2_) := ⟨(hfx_).1.u (by omega) _, (hfx_).2⟩
          cases hC_ : (clU f_ l_ (pnN P1_) (pnR P1_ 0) (tkE f_ l_ (tkS f_ l_ p1_))).1 with
          | true =>
            obtain ⟨hT2_, h172_, h182_, h192_, h202_⟩ := hOk2_ hC_
            have hok_ := clU_ok hE1_ hC_
            exact (ih_ (by omega) _ _ _ _ hfr_ hok_.2.2 (dpU_wf hE1_ hw1_ hC_) ⟨by rw [uS_ne _ _ (by omega)]; exact hT2_.1, by rw [uS_ne _ _ (by omega)]; exact hT2_.2⟩ (by rw [uS_eq, h192_]; exact (by rw [hF1_ 95 19 (by omega), h19_] <;> omega)) (by rw [uS_ne _ _ (by omega)]; exact h172_) (by rw [uS_ne _ _ (by omega)]; exact h182_) (by rw [uS_ne _ _ (by omega)]; exact h202_.trans ((hF1_ 95 20 (by omega)).trans h20_)) ((hRg_.trans (rdU_t hC_)).symm)).as rfl rfl rfl rfl
          | false =>
            have hRb_ : rdU f_ l_ 24 0 P_ = (false, (clU f_ l_ (pnN P1_) (pnR P1_ 0) (tkE f_ l_ (tkS f_ l_ p1_))).2.1, 0, P1_) := hRg_.trans (rdU_f hC_)
            exact (hF44_ _ _ hfr_ (by rw [hRb_]) (by rw [hRb_]; rw [uS_ne _ _ (by omega)]; exact hBd2_ hC_)).as rfl rfl rfl rfl
  refine v_aload_n iX8_reads_0 rfl ?_
  refine v_iload_n iX8_reads_1 rfl ?_
  refine v_put iX8_reads_2 pX8_121 rfl rfl (fun _ => by omega) ?_
  refine v_aload_n iX8_reads_5 rfl ?_
  refine v_iconst iX8_reads_6 ?_
  refine v_put iX8_reads_7 pX8_77 rfl rfl (by intro h; cases h) ?_
  refine v_aload_n iX8_reads_10 rfl ?_
  refine v_iconst iX8_reads_11 ?_
  refine v_put iX8_reads_12 pX8_129 rfl rfl (by intro h; cases h) ?_
  refine v_aload_n iX8_reads_15 rfl ?_
  refine v_aload_n iX8_reads_16 rfl ?_
  refine v_getI iX8_reads_17 fX8_57 rfl rfl (by exact (show _ = (pnN P_ : Int) by rw [uS_ne _ _ (by omega), uS_ne _ _ (by omega), uS_ne _ _ (by omega)]; exact hn1_)) ?_
  refine v_put iX8_reads_20 pX8_93 rfl rfl (by intro h; cases h) ?_
  refine v_aload_n iX8_reads_23 rfl ?_
  refine v_aload_n iX8_reads_24 rfl ?_
  refine v_getR iX8_reads_25 fX8_7 rfl rfl ?_
  refine v_sipush iX8_reads_28 (by decide) ?_
  refine v_iaload iX8_reads_31 rfl (by omega) (by exact (show _ = pnR P_ 0 by show α 96 319 = _; exact hm_)) ?_
  refine v_put iX8_reads_32 pX8_115 rfl rfl (by intro h; cases h) ?_
  obtain ⟨σ5_, hs5_⟩ : ∃ σ5_, σ5_ = uS (uS (uS (uS (uS σ 95 20 0) 95 16 0) 95 19 1) 95 17 (pnN P_ : Int)) 95 18 (pnR P_ 0) := ⟨_, rfl⟩
  rw [← hs5_]
  have hFa_ : fmT σ σ5_ := by rw [hs5_]; exact (((((fmT.rf σ).u (by omega) _).u (by omega) _).u (by omega) _).u (by omega) _).u (by omega) _
  have e16_ : σ5_ 95 16 = ((0 : Nat) : Int) := by rw [hs5_]; simp [uS]
  have e17_ : σ5_ 95 17 = (pnN P_ : Int) := by rw [hs5_]; simp [uS]
  have e18_ : σ5_ 95 18 = pnR P_ 0 := by rw [hs5_]; simp [uS]
  have e19_ : σ5_ 95 19 = 1 := by rw [hs5_]; simp [uS]
  have e20_ : σ5_ 95 20 = 0 := by rw [hs5_]; simp [uS]
  refine v_aload_n iX8_reads_35 rfl ?_
  refine c_VN (Mc := mX8_nextToken) iX8_reads_36 lX8_90 kX8_nextToken (qX8_nextTok σ5_ α f_ hfe_ l_ 0 ((hFa_ 95 11 (by omega)).trans hl_) e16_ (Nat.zero_le _) hf_) (by decide) rfl rfl rfl rfl (Nat.le_of_ble_eq_true rfl) ?_
  rintro s1_ a1_ ⟨⟨hF1_, hT1_⟩, hae_⟩
  have hae2_ := hae_.symm
  subst hae2_
  try simp only [Int.toNat_natCast]
  refine v_aload_n iX8_reads_39 rfl ?_
  refine c_VQ (Mc := mX8_readsClause) iX8_reads_40 lX8_132 kX8_readsClause (qX8_readsClause_n s1_ α f_ hfe_ l_ 0 ((hF1_ 95 11 (by omega)).trans ((hFa_ 95 11 (by omega)).trans hl_)) (Nat.zero_le _) hf_ hT1_ hwd_ P_ hwf_ ((hF1_ 95 17 (by omega)).trans e17_) ((hF1_ 95 18 (by omega)).trans e18_) ((hF1_ 95 20 (by omega)).trans e20_)) (by decide) rfl rfl rfl rfl (Nat.le_of_ble_eq_true rfl) ?_
  rintro s2_ a2_ ⟨hFr2_, hOk2_, hBd2_⟩
  try simp only [Int.toNat_natCast]
  refine v_is2 iX8_reads_43 ⟨rfl, rfl⟩ ?_
  have hfr_ : (fmT σ s2_ ∧ fa105 α a2_) := ⟨(hFa_.tr hF1_.fm).tr hFr2_.1, hFr2_.2⟩
  cases hC_ : (clU f_ l_ (pnN P_) (pnR P_ 0) 0).1 with
  | true =>
    obtain ⟨hT2_, h172_, h182_, h192_, h202_⟩ := hOk2_ hC_
    have hok_ := clU_ok (Nat.zero_le _) hC_
    exact (h44_ 1 (by decide) _ _ _ _ hfr_ hok_.2.2 (dpU_wf (Nat.zero_le _) hwf_ hC_) ⟨by exact hT2_.1, by exact hT2_.2⟩ (by rw [h192_]; exact (by rw [hF1_ 95 19 (by omega), e19_] <;> omega)) (by exact h172_) (by exact h182_) (by exact h202_.trans ((hF1_ 95 20 (by omega)).trans e20_)) ((rdU_t (k := 23) hC_).symm)).as rfl rfl rfl rfl
  | false =>
    have hRb_ : rdU f_ l_ 24 0 P_ = (false, (clU f_ l_ (pnN P_) (pnR P_ 0) 0).2.1, 0, P_) := rdU_f (k := 23) hC_
    exact (hF44_ _ _ hfr_ (by rw [hRb_]) (by rw [hRb_]; exact hBd2_ hC_)).as rfl rfl rfl rfl

set_option maxHeartbeats 4000000 in
set_option maxRecDepth 100000 in
theorem qX8_reads_d (σ α : St) (f_ : Nat → Int) (hfe_ : α 101 = f_) (l_ : Nat) (hl_ : σ 95 11 = l_) (hf_ : txU f_ l_) (hwd_ : ∀ k, k < 42 → α 106 k = wrd k) (P_ : pnT) (hwf_ : wfP P_) (hn1_ : σ 95 1 = (pnN P_ : Int)) (hm_ : α 96 319 = pnR P_ 0) (hL_ : rlU σ α P_) : CG 7 mX8_reads [vR 95, vI 1] σ α (fun r' s' a' => r' = some (vI (b2i (rdU f_ l_ 24 0 P_).1)) ∧ fdU σ α s' a' ∧ ((rdU f_ l_ 24 0 P_).1 = true → s' 95 19 = ((rdU f_ l_ 24 0 P_).2.2.1 : Int) ∧ rlU s' a' (rdU f_ l_ 24 0 P_).2.2.2)) := by
  have hl2_ := hf_.1
  refine CG.of [some (vR 95), some (vI 1), none] (by decide) (by simp [lvA]) rfl ?_
  have hF44_ : ∀ σ1_ α1_, fdU σ α σ1_ α1_ → (rdU f_ l_ 24 0 P_).1 = false → VV 7 mX8_reads [vR 95, vI 1] (fun r' s' a' => r' = some (vI (b2i (rdU f_ l_ 24 0 P_).1)) ∧ fdU σ α s' a' ∧ ((rdU f_ l_ 24 0 P_).1 = true → s' 95 19 = ((rdU f_ l_ 24 0 P_).2.2.1 : Int) ∧ rlU s' a' (rdU f_ l_ 24 0 P_).2.2.2)) σ1_ α1_ 44 [some (vR 95), some (vI 1), some (vI 0)] [] := by
    intro σ1_ α1_ hF_ hRf_
    refine v_iload_n iX8_reads_44 rfl ?_
    refine v_if_eq (tgt := 114) iX8_reads_45 (by decide) (by omega) (fun hb45_ => ?_) (fun hb45_ => (by exfalso; omega))
    refine v_iload_n iX8_reads_114 rfl ?_
    exact r_b iX8_reads_115 rfl (by first | exact b2i_01 _ | decide | omega) (⟨by rw [hRf_]; rfl, hF_, fun h_ => absurd (hRf_.symm.trans h_) (by decide)⟩)
  have h44_ : ∀ (c_ : Nat), c_ ≤ 24 → ∀ σ1_ α1_ p1_ P1_, fdU σ α σ1_ α1_ → p1_ ≤ l_ → wfP P1_ → rtU σ1_ f_ l_ p1_ → σ1_ 95 19 = (c_ : Int) → σ1_ 95 17 = (pnN P1_ : Int) → σ1_ 95 18 = pnR P1_ 0 → σ1_ 95 20 = 1 → rlU σ1_ α1_ P1_ → rrU f_ l_ (24 - c_) (rdU f_ l_ (24 - c_)) p1_ P1_ = rdU f_ l_ 24 0 P_ → VV 7 mX8_reads [vR 95, vI 1] (fun r' s' a' => r' = some (vI (b2i (rdU f_ l_ 24 0 P_).1)) ∧ fdU σ α s' a' ∧ ((rdU f_ l_ 24 0 P_).1 = true → s' 95 19 = ((rdU f_ l_ 24 0 P_).2.2.1 : Int) ∧ rlU s' a' (rdU f_ l_ 24 0 P_).2.2.2)) σ1_ α1_ 44 [some (vR 95), some (vI 1), some (vI 1)] [] := by
    refine ind_up (P := fun (c_ : Nat) => ∀ σ1_ α1_ p1_ P1_, fdU σ α σ1_ α1_ → p1_ ≤ l_ → wfP P1_ → rtU σ1_ f_ l_ p1_ → σ1_ 95 19 = (c_ : Int) → σ1_ 95 17 = (pnN P1_ : Int) → σ1_ 95 18 = pnR P1_ 0 → σ1_ 95 20 = 1 → rlU σ1_ α1_ P1_ → rrU f_ l_ (24 - c_) (rdU f_ l_ (24 - c_)) p1_ P1_ = rdU f_ l_ 24 0 P_ → VV 7 mX8_reads [vR 95, vI 1] (fun r' s' a' => r' = some (vI (b2i (rdU f_ l_ 24 0 P_).1)) ∧ fdU σ α s' a' ∧ ((rdU f_ l_ 24 0 P_).1 = true → s' 95 19 = ((rdU f_ l_ 24 0 P_).2.2.1 : Int) ∧ rlU s' a' (rdU f_ l_ 24 0 P_).2.2.2)) σ1_ α1_ 44 [some (vR 95), some (vI 1), some (vI 1)] []) 24 ?_
    intro c_ hc_ ih_ σ1_ α1_ p1_ P1_ hF_ hp1_ hw1_ hT_ h19_ h17_ h18_ h20_ hL1_ hRR_
    have hS1_ := tkS_r f_ hp1_
    have hE1_ := (tkE_r f_ hS1_.2).2.1
    have hfe1_ : α1_ 101 = f_ := (hF_.2.1 101 (by decide) (by decide) (by decide) (by decide) (by decide)).trans hfe_
    have hwr1_ := (hF_.2.1 106 (by decide) (by decide) (by decide) (by decide) (by decide))
    refine v_iload_n iX8_reads_44 rfl ?_
    refine v_if_eq (tgt := 114) iX8_reads_45 (by decide) (by omega) (fun hb45_ => (by exfalso; omega)) (fun hb45_ => ?_)
    refine v_aload_n iX8_reads_48 rfl ?_
    refine v_getI iX8_reads_49 fX8_80 rfl rfl (by exact hT_.1) ?_
    refine v_aload_n iX8_reads_52 rfl ?_
    refine v_getI iX8_reads_53 fX8_66 rfl rfl (by exact (hF_.1 95 11 (by omega)).trans hl_) ?_
    refine v_icmp_ge (tgt := 114) iX8_reads_56 (by decide) (by omega) (fun hb56_ => ?_) (fun hb56_ => ?_)
    · have hRe_ : rdU f_ l_ 24 0 P_ = (true, tkS f_ l_ p1_, 24 - (24 - c_), P1_) := by rw [← hRR_, rrU_e (by omega)]
      refine v_iload_n iX8_reads_114 rfl ?_
      exact r_b iX8_reads_115 rfl (by first | exact b2i_01 _ | decide | omega) (by show _ ∧ _; rw [hRe_]; exact ⟨rfl, hF_, fun _ => ⟨by rw [h19_]; show (c_ : Int) = ((24 - (24 - c_) : Nat) : Int); omega, hL1_⟩⟩)
    · refine v_aload_n iX8_reads_59 rfl ?_
      refine v_getI iX8_reads_60 fX8_129 rfl rfl (by exact h19_) ?_
      refine v_bipush iX8_reads_63 (by decide) ?_
      refine v_icmp_ge (tgt := 86) iX8_reads_65 (by decide) (by omega) (fun hb65_ => ?_) (fun hb65_ => ?_)
      · have hRb_ : rdU f_ l_ 24 0 P_ = (false, tkS f_ l_ p1_, 0, P1_) := by rw [← hRR_, rrU_b (by omega) (by omega)]
        refine v_iconst iX8_reads_86 ?_
        refine v_is2 iX8_reads_87 ⟨rfl, rfl⟩ ?_
        refine v_iload_n iX8_reads_88 rfl ?_
        refine v_if_eq (tgt := 44) iX8_reads_89 (by decide) (by omega) (fun hb89_ => ?_) (fun hb89_ => (by exfalso; omega))
        exact hF44_ _ _ hF_ (by rw [hRb_])
      · refine v_aload_n iX8_reads_68 rfl ?_
        refine v_getR iX8_reads_69 fX8_36 rfl rfl ?_
        refine v_aload_n iX8_reads_72 rfl ?_
        refine v_getI iX8_reads_73 fX8_80 rfl rfl (by exact hT_.1) ?_
        refine v_iaload iX8_reads_76 rfl (by omega) (by exact (show _ = f_ (tkS f_ l_ p1_) by rw [hfe1_, Int.toNat_natCast])) ?_
        refine v_bipush iX8_reads_77 (by decide) ?_
        refine v_icmp_ne (tgt := 86) iX8_reads_79 (by decide) (by have := hf_.2 (tkS f_ l_ p1_) (by omega); omega) (fun hb79_ => ?_) (fun hb79_ => ?_)
        · have hRb_ : rdU f_ l_ 24 0 P_ = (false, tkS f_ l_ p1_, 0, P1_) := by rw [← hRR_, rrU_b (by omega) (by omega)]
          refine v_iconst iX8_reads_86 ?_
          refine v_is2 iX8_reads_87 ⟨rfl, rfl⟩ ?_
          refine v_iload_n iX8_reads_88 rfl ?_
          refine v_if_eq (tgt := 44) iX8_reads_89 (by decide) (by omega) (fun hb89_ => ?_) (fun hb89_ => (by exfalso; omega))
          exact hF44_ _ _ hF_ (by rw [hRb_])
        · refine v_iconst iX8_reads_82 ?_
          refine v_goto (tgt := 87) iX8_reads_83 (by decide) ?_
          refine v_is2 iX8_reads_87 ⟨rfl, rfl⟩ ?_
          refine v_iload_n iX8_reads_88 rfl ?_
          refine v_if_eq (tgt := 44) iX8_reads_89 (by decide) (by omega) (fun hb89_ => (by exfalso; omega)) (fun hb89_ => ?_)
          refine v_aload_n iX8_reads_92 rfl ?_
          refine c_VN (Mc := mX8_nextToken) iX8_reads_93 lX8_90 kX8_nextToken (qX8_nextTok σ1_ α1_ f_ hfe1_ l_ (tkE f_ l_ (tkS f_ l_ p1_)) ((hF_.1 95 11 (by omega)).trans hl_) hT_.2 hE1_ hf_) (by decide) rfl rfl rfl rfl (Nat.le_of_ble_eq_true rfl) ?_
          rintro s1_ a1_ ⟨⟨hF1_, hT1_⟩, hae_⟩
          have hae2_ := hae_.symm
          subst hae2_
          try simp only [Int.toNat_natCast]
          refine v_aload_n iX8_reads_96 rfl ?_
          refine c_VQ (Mc := mX8_readsClause) iX8_reads_97 lX8_132 kX8_readsClause (qX8_readsClause_d s1_ α1_ f_ hfe1_ l_ (tkE f_ l_ (tkS f_ l_ p1_)) ((hF1_ 95 11 (by omega)).trans ((hF_.1 95 11 (by omega)).trans hl_)) hE1_ hf_ hT1_ (fun k hk => by rw [hwr1_]; exact hwd_ k hk) P1_ hw1_ ((hF1_ 95 17 (by omega)).trans h17_) ((hF1_ 95 18 (by omega)).trans h18_) ((hF1_ 95 20 (by omega)).trans h20_) (hL1_.go hF1_.fm (fa105.rf α1_))) (by decide) rfl rfl rfl rfl (Nat.le_of_ble_eq_true rfl) ?_
          rintro s2_ a2_ ⟨hFr2_, hOk2_, hBd2_⟩
          try simp only [Int.toNat_natCast]
          refine v_is2 iX8_reads_100 ⟨rfl, rfl⟩ ?_
          refine v_aload_n iX8_reads_101 rfl ?_
          refine v_dup iX8_reads_102 (by intro z h; cases h) ?_
          refine v_getI iX8_reads_103 fX8_129 rfl rfl rfl ?_
          refine v_iconst iX8_reads_106 ?_
          refine v_iadd iX8_reads_107 ?_
          refine v_put iX8_reads_108 pX8_129 rfl rfl (by intro h; cases h) ?_
          refine v_goto (tgt := 44) iX8_reads_111 (by decide) ?_
          have hRg_ : rdU f_ l_ 24 0 P_ = rdU f_ l_ ((24 - (c_ + 1)) + 1) (tkE f_ l_ (tkS f_ l_ p1_)) P1_ := by rw [← hRR_, rrU_g (p := p1_) (P := P1_) (by omega) (by omega) (by omega), show 24 - c_ = 24 - (c_ + 1) + 1 by omega]
          have hfr_ : fdU σ α (uS s2_ 95 19 (s2_ 95 19 + 1)) a2_ := ((hF_.tr (fdU.ofm hF1_.fm (fa105.rf α1_))).tr hFr2_).tr (fdU.ofm ((fmT.rf s2_).u (by omega) _) (fa105.rf a2_))
          cases hC_ : (clU f_ l_ (pnN P1_) (pnR P1_ 0) (tkE f_ l_ (tkS f_ l_ p1_))).1 with
          | true =>
            obtain ⟨hT2_, h172_, h182_, h192_, h202_, hL2_⟩ := hOk2_ hC_
            have hok_ := clU_ok hE1_ hC_
            exact (ih_ (by omega) _ _ _ _ hfr_ hok_.2.2 (dpU_wf hE1_ hw1_ hC_) ⟨by rw [uS_ne _ _ (by omega)]; exact hT2_.1, by rw [uS_ne _ _ (by omega)]; exact hT2_.2⟩ (by rw [uS_eq, h192_]; exact (by rw [hF1_ 95 19 (by omega), h19_] <;> omega)) (by rw [uS_ne _ _ (by omega)]; exact h172_) (by rw [uS_ne _ _ (by omega)]; exact h182_) (by rw [uS_ne _ _ (by omega)]; exact h202_.trans ((hF1_ 95 20 (by omega)).trans h20_)) (hL2_.go ((fmT.rf s2_).u (by omega) _) (fa105.rf a2_)) ((hRg_.trans (rdU_t hC_)).symm)).as rfl rfl rfl rfl
          | false =>
            have hRb_ : rdU f_ l_ 24 0 P_ = (false, (clU f_ l_ (pnN P1_) (pnR P1_ 0) (tkE f_ l_ (tkS f_ l_ p1_))).2.1, 0, P1_) := hRg_.trans (rdU_f hC_)
            exact (hF44_ _ _ hfr_ (by rw [hRb_])).as rfl rfl rfl rfl
  refine v_aload_n iX8_reads_0 rfl ?_
  refine v_iload_n iX8_reads_1 rfl ?_
  refine v_put iX8_reads_2 pX8_121 rfl rfl (fun _ => by omega) ?_
  refine v_aload_n iX8_reads_5 rfl ?_
  refine v_iconst iX8_reads_6 ?_
  refine v_put iX8_reads_7 pX8_77 rfl rfl (by intro h; cases h) ?_
  refine v_aload_n iX8_reads_10 rfl ?_
  refine v_iconst iX8_reads_11 ?_
  refine v_put iX8_reads_12 pX8_129 rfl rfl (by intro h; cases h) ?_
  refine v_aload_n iX8_reads_15 rfl ?_
  refine v_aload_n iX8_reads_16 rfl ?_
  refine v_getI iX8_reads_17 fX8_57 rfl rfl (by exact (show _ = (pnN P_ : Int) by rw [uS_ne _ _ (by omega), uS_ne _ _ (by omega), uS_ne _ _ (by omega)]; exact hn1_)) ?_
  refine v_put iX8_reads_20 pX8_93 rfl rfl (by intro h; cases h) ?_
  refine v_aload_n iX8_reads_23 rfl ?_
  refine v_aload_n iX8_reads_24 rfl ?_
  refine v_getR iX8_reads_25 fX8_7 rfl rfl ?_
  refine v_sipush iX8_reads_28 (by decide) ?_
  refine v_iaload iX8_reads_31 rfl (by omega) (by exact (show _ = pnR P_ 0 by show α 96 319 = _; exact hm_)) ?_
  refine v_put iX8_reads_32 pX8_115 rfl rfl (by intro h; cases h) ?_
  obtain ⟨σ5_, hs5_⟩ : ∃ σ5_, σ5_ = uS (uS (uS (uS (uS σ 95 20 1) 95 16 0) 95 19 1) 95 17 (pnN P_ : Int)) 95 18 (pnR P_ 0) := ⟨_, rfl⟩
  rw [← hs5_]
  have hFa_ : fmT σ σ5_ := by rw [hs5_]; exact (((((fmT.rf σ).u (by omega) _).u (by omega) _).u (by omega) _).u (by omega) _).u (by omega) _
  have e16_ : σ5_ 95 16 = ((0 : Nat) : Int) := by rw [hs5_]; simp [uS]
  have e17_ : σ5_ 95 17 = (pnN P_ : Int) := by rw [hs5_]; simp [uS]
  have e18_ : σ5_ 95 18 = pnR P_ 0 := by rw [hs5_]; simp [uS]
  have e19_ : σ5_ 95 19 = 1 := by rw [hs5_]; simp [uS]
  have e20_ : σ5_ 95 20 = 1 := by rw [hs5_]; simp [uS]
  refine v_aload_n iX8_reads_35 rfl ?_
  refine c_VN (Mc := mX8_nextToken) iX8_reads_36 lX8_90 kX8_nextToken (qX8_nextTok σ5_ α f_ hfe_ l_ 0 ((hFa_ 95 11 (by omega)).trans hl_) e16_ (Nat.zero_le _) hf_) (by decide) rfl rfl rfl rfl (Nat.le_of_ble_eq_true rfl) ?_
  rintro s1_ a1_ ⟨⟨hF1_, hT1_⟩, hae_⟩
  have hae2_ := hae_.symm
  subst hae2_
  try simp only [Int.toNat_natCast]
  refine v_aload_n iX8_reads_39 rfl ?_
  refine c_VQ (Mc := mX8_readsClause) iX8_reads_40 lX8_132 kX8_readsClause (qX8_readsClause_d s1_ α f_ hfe_ l_ 0 ((hF1_ 95 11 (by omega)).trans ((hFa_ 95 11 (by omega)).trans hl_)) (Nat.zero_le _) hf_ hT1_ hwd_ P_ hwf_ ((hF1_ 95 17 (by omega)).trans e17_) ((hF1_ 95 18 (by omega)).trans e18_) ((hF1_ 95 20 (by omega)).trans e20_) (hL_.go (hFa_.tr hF1_.fm) (fa105.rf α))) (by decide) rfl rfl rfl rfl (Nat.le_of_ble_eq_true rfl) ?_
  rintro s2_ a2_ ⟨hFr2_, hOk2_, hBd2_⟩
  try simp only [Int.toNat_natCast]
  refine v_is2 iX8_reads_43 ⟨rfl, rfl⟩ ?_
  have hfr_ : fdU σ α s2_ a2_ := (fdU.ofm (hFa_.tr hF1_.fm) (fa105.rf α)).tr hFr2_
  cases hC_ : (clU f_ l_ (pnN P_) (pnR P_ 0) 0).1 with
  | true =>
    obtain ⟨hT2_, h172_, h182_, h192_, h202_, hL2_⟩ := hOk2_ hC_
    have hok_ := clU_ok (Nat.zero_le _) hC_
    exact (h44_ 1 (by decide) _ _ _ _ hfr_ hok_.2.2 (dpU_wf (Nat.zero_le _) hwf_ hC_) ⟨by exact hT2_.1, by exact hT2_.2⟩ (by rw [h192_]; exact (by rw [hF1_ 95 19 (by omega), e19_] <;> omega)) (by exact h172_) (by exact h182_) (by exact h202_.trans ((hF1_ 95 20 (by omega)).trans e20_)) hL2_ ((rdU_t (k := 23) hC_).symm)).as rfl rfl rfl rfl
  | false =>
    have hRb_ : rdU f_ l_ 24 0 P_ = (false, (clU f_ l_ (pnN P_) (pnR P_ 0) 0).2.1, 0, P_) := rdU_f (k := 23) hC_
    exact (hF44_ _ _ hfr_ (by rw [hRb_])).as rfl rfl rfl rfl
