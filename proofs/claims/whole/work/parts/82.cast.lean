set_option maxHeartbeats 4000000 in
set_option maxRecDepth 100000 in
theorem qX8_fault (σ α : St) (f_ : Nat → Int) (hfe_ : α 101 = f_) (l_ : Nat) (hl_ : σ 95 11 = l_) (hf_ : txU f_ l_) (hwd_ : ∀ k, k < 42 → α 106 k = wrd k) (P_ : pnT) (hwf_ : wfP P_) (hn1_ : σ 95 1 = (pnN P_ : Int)) (hm_ : α 96 319 = pnR P_ 0) : CG 8 mX8_fault [vR 95] σ α (fun r' s' a' => r' = some (vI (if (rdU f_ l_ 24 0 P_).1 then -1 else ((rdU f_ l_ 24 0 P_).2.1 : Int))) ∧ fmT σ s' ∧ fa105 α a') := by
  refine CG.of [some (vR 95)] (by decide) (by simp [lvA]) rfl ?_
  refine v_aload_n iX8_fault_0 rfl ?_
  refine v_iconst iX8_fault_1 ?_
  refine c_VQ (Mc := mX8_reads) iX8_fault_2 lX8_136 kX8_reads (qX8_reads_n σ α f_ hfe_ l_ hl_ hf_ hwd_ P_ hwf_ hn1_ hm_) (by decide) rfl rfl rfl rfl (Nat.le_of_ble_eq_true rfl) ?_
  rintro s1_ a1_ ⟨hF_, hB_, hK_⟩
  try simp only [Int.toNat_natCast]
  refine v_bif_eq (tgt := 12) iX8_fault_5 (by decide) (fun hb5_ => ?_) (fun hb5_ => ?_)
  · try simp only [Int.toNat_natCast] at hb5_
    refine v_aload_n iX8_fault_12 rfl ?_
    refine v_getI iX8_fault_13 fX8_80 rfl rfl (by exact hB_ hb5_) ?_
    exact r_i iX8_fault_16 rfl (by first | exact ⟨by rw [hb5_]; rfl, hF_⟩)
  · try simp only [Int.toNat_natCast] at hb5_
    refine v_iconst iX8_fault_8 ?_
    refine v_goto (tgt := 16) iX8_fault_9 (by decide) ?_
    exact r_i iX8_fault_16 rfl (by first | exact ⟨by rw [hb5_]; rfl, hF_⟩)

set_option maxHeartbeats 4000000 in
set_option maxRecDepth 100000 in
theorem qX8_casting (σ α : St) (f_ : Nat → Int) (hfe_ : α 101 = f_) (l_ : Nat) (hl_ : σ 95 11 = l_) (hf_ : txU f_ l_) (hwd_ : ∀ k, k < 42 → α 106 k = wrd k) (P_ : pnT) (hwf_ : wfP P_) (hn1_ : σ 95 1 = (pnN P_ : Int)) (hab_ : σ 95 5 = pnA P_ ∧ σ 95 6 = pnB P_ ∧ σ 95 7 = pnC P_) (hvk_ : ∀ i, i < 10 → α 97 i = pnV P_ i ∧ α 98 i = pnK P_ i ∧ α 99 i = pnJ P_ i) (hto_ : ∀ k, k < 29 → α 96 (319 + k) = pnR P_ k) : CG 8 mX8_casting [vR 95] σ α (fun r' s' a' => r' = some (vI (if (rdU f_ l_ 24 0 P_).1 then ((rdU f_ l_ 24 0 P_).2.2.1 : Int) else -4)) ∧ ((rdU f_ l_ 24 0 P_).1 = false → fmT σ s' ∧ fa105 α a') ∧ ((rdU f_ l_ 24 0 P_).1 = true → rlU s' a' (rdU f_ l_ 24 0 P_).2.2.2 ∧ (∀ k, k < 29 → a' 96 (319 + k) = pnR (rdU f_ l_ 24 0 P_).2.2.2 k) ∧ s' 95 11 = 0 ∧ s' 95 8 = 0 ∧ (a' 100 0 = 0 ∧ a' 100 1 = 0) ∧ (∀ t, t < 3 → a' 102 t = -1) ∧ (∀ q k, q ≠ 95 → s' q k = σ q k) ∧ (∀ q, q < 95 ∨ q = 101 ∨ q = 103 ∨ q = 104 ∨ q = 106 → a' q = α q))) := by
  refine CG.of [some (vR 95), none] (by decide) (by simp [lvA]) rfl ?_
  refine v_aload_n iX8_casting_0 rfl ?_
  refine v_iconst iX8_casting_1 ?_
  refine c_VQ (Mc := mX8_reads) iX8_casting_2 lX8_136 kX8_reads (qX8_reads_n σ α f_ hfe_ l_ hl_ hf_ hwd_ P_ hwf_ hn1_ (hto_ 0 (by decide))) (by decide) rfl rfl rfl rfl (Nat.le_of_ble_eq_true rfl) ?_
  rintro s1_ a1_ ⟨hF_, hB_, hK_⟩
  try simp only [Int.toNat_natCast]
  refine v_bif_ne (tgt := 11) iX8_casting_5 (by decide) (fun hb5_ => ?_) (fun hb5_ => ?_)
  · try simp only [Int.toNat_natCast] at hb5_
    have hL1_ : rlU s1_ (uA a1_ 96 (cpR (a1_ 96) 319 0 29)) P_ := by
      refine ⟨(hF_.1 95 1 (by omega)).trans hn1_, ⟨(hF_.1 95 5 (by omega)).trans hab_.1, (hF_.1 95 6 (by omega)).trans hab_.2.1, (hF_.1 95 7 (by omega)).trans hab_.2.2⟩, fun i hi => ?_, fun k hk => ?_⟩
      · rw [uA_ne _ _ (by decide), uA_ne _ _ (by decide), uA_ne _ _ (by decide), hF_.2 97 (by decide), hF_.2 98 (by decide), hF_.2 99 (by decide)]; exact hvk_ i hi
      · rw [uA_eq]
        have e_ := cpR_in (a1_ 96) (a := 319) (b := 0) (n := 29) (j := k) hk
        rw [Nat.zero_add] at e_
        rw [e_, hF_.2 96 (by decide)]; exact hto_ k hk
    refine v_aload_n iX8_casting_11 rfl ?_
    refine v_sipush iX8_casting_12 (by decide) ?_
    refine v_iconst iX8_casting_15 ?_
    refine c_V0 (Mc := mX8_copyRow) iX8_casting_16 lX8_140 kX8_copyRow (qX8_copyRow s1_ a1_ 319 0 (by decide) (by decide) (by decide)) (by decide) rfl rfl rfl rfl (Nat.le_of_ble_eq_true rfl) ?_
    try simp only [Int.toNat_natCast]
    refine v_aload_n iX8_casting_19 rfl ?_
    refine v_iconst iX8_casting_20 ?_
    refine c_VQ (Mc := mX8_reads) iX8_casting_21 lX8_136 kX8_reads (qX8_reads_d s1_ (uA a1_ 96 (cpR (a1_ 96) 319 0 29)) f_ (by rw [uA_ne _ _ (by decide)]; exact (hF_.2 101 (by decide)).trans hfe_) l_ ((hF_.1 95 11 (by omega)).trans hl_) hf_ (fun k hk => by rw [uA_ne _ _ (by decide), hF_.2 106 (by decide)]; exact hwd_ k hk) P_ hwf_ ((hF_.1 95 1 (by omega)).trans hn1_) (by rw [uA_eq, cpR_out _ (by omega), hF_.2 96 (by decide)]; exact hto_ 0 (by decide)) hL1_) (by decide) rfl rfl rfl rfl (Nat.le_of_ble_eq_true rfl) ?_
    rintro s2_ a2_ ⟨hF2_, hK2_⟩
    obtain ⟨h19_, hL2_⟩ := hK2_ hb5_
    try simp only [Int.toNat_natCast]
    refine v_pop iX8_casting_24 (by intro z h; cases h) ?_
    refine v_aload_n iX8_casting_25 rfl ?_
    refine v_iconst iX8_casting_26 ?_
    refine v_sipush iX8_casting_27 (by decide) ?_
    refine c_V0 (Mc := mX8_copyRow) iX8_casting_30 lX8_140 kX8_copyRow (qX8_copyRow s2_ a2_ 0 319 (by decide) (by decide) (by decide)) (by decide) rfl rfl rfl rfl (Nat.le_of_ble_eq_true rfl) ?_
    try simp only [Int.toNat_natCast]
    refine v_aload_n iX8_casting_33 rfl ?_
    refine v_iconst iX8_casting_34 ?_
    refine v_put iX8_casting_35 pX8_66 rfl rfl (by intro h; cases h) ?_
    refine v_aload_n iX8_casting_38 rfl ?_
    refine v_iconst iX8_casting_39 ?_
    refine v_put iX8_casting_40 pX8_144 rfl rfl (by intro h; cases h) ?_
    refine v_aload_n iX8_casting_43 rfl ?_
    refine v_getR iX8_casting_44 fX8_32 rfl rfl ?_
    refine v_iconst iX8_casting_47 ?_
    refine v_iconst iX8_casting_48 ?_
    refine v_bastore iX8_casting_49 rfl (by omega) (by omega) ?_
    refine v_aload_n iX8_casting_50 rfl ?_
    refine v_getR iX8_casting_51 fX8_32 rfl rfl ?_
    refine v_iconst iX8_casting_54 ?_
    refine v_iconst iX8_casting_55 ?_
    refine v_bastore iX8_casting_56 rfl (by omega) (by omega) ?_
    refine v_iconst iX8_casting_57 ?_
    refine v_is1 iX8_casting_58 ⟨rfl, rfl⟩ ?_
    have hz4_ : ∀ q, q ≠ 96 → q ≠ 100 → (uA (uA (uA a2_ 96 (cpR (a2_ 96) 0 319 29)) 100 (uF ((uA a2_ 96 (cpR (a2_ 96) 0 319 29)) 100) 0 0)) 100 (uF (uA (uA a2_ 96 (cpR (a2_ 96) 0 319 29)) 100 (uF ((uA a2_ 96 (cpR (a2_ 96) 0 319 29)) 100) 0 0) 100) 1 0)) q = a2_ q := fun q h6 h0 => by rw [uA_ne _ _ h0, uA_ne _ _ h0, uA_ne _ _ h6]
    have hz96_ : (uA (uA (uA a2_ 96 (cpR (a2_ 96) 0 319 29)) 100 (uF ((uA a2_ 96 (cpR (a2_ 96) 0 319 29)) 100) 0 0)) 100 (uF (uA (uA a2_ 96 (cpR (a2_ 96) 0 319 29)) 100 (uF ((uA a2_ 96 (cpR (a2_ 96) 0 319 29)) 100) 0 0) 100) 1 0)) 96 = cpR (a2_ 96) 0 319 29 := by rw [uA_ne _ _ (by decide), uA_ne _ _ (by decide), uA_eq]
    refine (ind_up (P := fun (j_ : Nat) => ∀ α1_, (∀ q, q ≠ 102 → α1_ q = (uA (uA (uA a2_ 96 (cpR (a2_ 96) 0 319 29)) 100 (uF ((uA a2_ 96 (cpR (a2_ 96) 0 319 29)) 100) 0 0)) 100 (uF (uA (uA a2_ 96 (cpR (a2_ 96) 0 319 29)) 100 (uF ((uA a2_ 96 (cpR (a2_ 96) 0 319 29)) 100) 0 0) 100) 1 0)) q) → (∀ t, t < j_ → α1_ 102 t = -1) → VV 8 mX8_casting [vR 95] (fun r' s' a' => r' = some (vI (if (rdU f_ l_ 24 0 P_).1 then ((rdU f_ l_ 24 0 P_).2.2.1 : Int) else -4)) ∧ ((rdU f_ l_ 24 0 P_).1 = false → fmT σ s' ∧ fa105 α a') ∧ ((rdU f_ l_ 24 0 P_).1 = true → rlU s' a' (rdU f_ l_ 24 0 P_).2.2.2 ∧ (∀ k, k < 29 → a' 96 (319 + k) = pnR (rdU f_ l_ 24 0 P_).2.2.2 k) ∧ s' 95 11 = 0 ∧ s' 95 8 = 0 ∧ (a' 100 0 = 0 ∧ a' 100 1 = 0) ∧ (∀ t, t < 3 → a' 102 t = -1) ∧ (∀ q k, q ≠ 95 → s' q k = σ q k) ∧ (∀ q, q < 95 ∨ q = 101 ∨ q = 103 ∨ q = 104 ∨ q = 106 → a' q = α q))) (uS (uS s2_ 95 11 0) 95 8 0) α1_ 59 [some (vR 95), some (vI (j_ : Int))] []) 3 ?_ 0 (by omega) _ (fun q hq => rfl) (fun t ht => absurd ht (by omega))).as rfl rfl rfl rfl
    intro j_ hj_ ih_ α1_ hx_ hy_
    refine v_iload_n iX8_casting_59 rfl ?_
    refine v_iconst iX8_casting_60 ?_
    refine v_icmp_ge (tgt := 77) iX8_casting_61 (by decide) (by omega) (fun hb61_ => ?_) (fun hb61_ => ?_)
    · refine v_aload_n iX8_casting_77 rfl ?_
      refine v_getI iX8_casting_78 fX8_129 rfl rfl (by exact (show _ = ((rdU f_ l_ 24 0 P_).2.2.1 : Int) by rw [uS_ne _ _ (by omega), uS_ne _ _ (by omega)]; exact h19_)) ?_
      exact r_i iX8_casting_81 rfl (by
        refine ⟨by rw [hb5_]; rfl, fun h_ => absurd (hb5_.symm.trans h_) (by decide), fun _ => ⟨?_, ?_, ?_, ?_, ⟨?_, ?_⟩, fun t ht => hy_ t (by omega), fun q k hq => ?_, fun q hq => ?_⟩⟩
        · obtain ⟨g1, g2, g3, g4⟩ := hL2_
          refine ⟨by rw [uS_ne _ _ (by omega), uS_ne _ _ (by omega)]; exact g1, ⟨by rw [uS_ne _ _ (by omega), uS_ne _ _ (by omega)]; exact g2.1, by rw [uS_ne _ _ (by omega), uS_ne _ _ (by omega)]; exact g2.2.1, by rw [uS_ne _ _ (by omega), uS_ne _ _ (by omega)]; exact g2.2.2⟩, fun i hi => ?_, fun k hk => ?_⟩
          · rw [hx_ 97 (by decide), hx_ 98 (by decide), hx_ 99 (by decide), hz4_ 97 (by decide) (by decide), hz4_ 98 (by decide) (by decide), hz4_ 99 (by decide) (by decide)]; exact g3 i hi
          · rw [hx_ 96 (by decide), hz96_, cpR_out _ (by omega)]; exact g4 k hk
        · intro k hk
          rw [hx_ 96 (by decide), hz96_, cpR_in _ hk, Nat.zero_add]; exact hL2_.2.2.2 k hk
        · rw [uS_ne _ _ (by omega), uS_eq]
        · rw [uS_eq]
        · rw [hx_ 100 (by decide), uA_eq, uA_eq, uF_ne _ _ (by decide)]; exact uF_eq _ _ _
        · rw [hx_ 100 (by decide), uA_eq]; exact uF_eq _ _ _
        · rw [uS_ne _ _ (by omega), uS_ne _ _ (by omega), hF2_.1 q k (by omega), hF_.1 q k (by omega)]
        · rw [hx_ q (by omega), hz4_ q (by omega) (by omega), hF2_.2.1 q (by omega) (by omega) (by omega) (by omega) (by omega), uA_ne _ _ (by omega), hF_.2 q (by omega)])
    · refine v_aload_n iX8_casting_64 rfl ?_
      refine v_getR iX8_casting_65 fX8_39 rfl rfl ?_
      refine v_iload_n iX8_casting_68 rfl ?_
      refine v_iconst iX8_casting_69 ?_
      refine v_iastore iX8_casting_70 rfl (by omega) ?_
      refine v_in1 iX8_casting_71 ⟨rfl, rfl⟩ ?_
      refine v_goto (tgt := 59) iX8_casting_74 (by decide) ?_
      exact (ih_ (by omega) _ (fun q hq => by rw [uA_ne _ _ hq]; exact hx_ q hq) (fun t ht => by rw [uA_eq, Int.toNat_natCast]; unfold uF; split; rfl; exact hy_ t (by omega))).as rfl rfl rfl rfl
  · try simp only [Int.toNat_natCast] at hb5_
    refine v_bipush iX8_casting_8 (by decide) ?_
    exact r_i iX8_casting_10 rfl (⟨by rw [hb5_]; rfl, fun _ => hF_, fun h_ => absurd (hb5_.symm.trans h_) (by decide)⟩)
