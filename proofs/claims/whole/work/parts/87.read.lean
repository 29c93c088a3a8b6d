def fcR (σ α s' a' : St) : Prop := (∀ q k, q ≠ 12 → q ≠ 16 → ¬ (q = 21 ∧ 2 ≤ k ∧ k ≤ 6) → s' q k = σ q k) ∧ ∀ q, ¬ (13 ≤ q ∧ q ≤ 20) → a' q = α q
theorem fcR.rf (σ α : St) : fcR σ α σ α := ⟨fun _ _ _ _ _ => rfl, fun _ _ => rfl⟩
theorem fcR.tr {σ α s1 a1 s2 a2 : St} (h : fcR σ α s1 a1) (g : fcR s1 a1 s2 a2) : fcR σ α s2 a2 := ⟨fun q k h1 h2 hq => (g.1 q k h1 h2 hq).trans (h.1 q k h1 h2 hq), fun q hq => (g.2 q hq).trans (h.2 q hq)⟩
theorem fcD.r {σ α s' a' : St} (h : fcD σ α s' a') : fcR σ α s' a' := ⟨fun q k h1 h2 hq => h.1 q k (by omega) h1 h2, h.2⟩
theorem fcT.r {σ s' : St} (h : fcT σ s') (α : St) : fcR σ α s' α := (h.d α).r
theorem fcR.u {σ α s' a' : St} (h : fcR σ α s' a') {k : Nat} (hk : 2 ≤ k ∧ k ≤ 6) (v : Int) : fcR σ α (uS s' 21 k v) a' := ⟨fun q j h1 h2 hq => by rw [uS_ne _ _ (by omega)]; exact h.1 q j h1 h2 hq, h.2⟩
theorem pcU.u {σ α : St} {P : pnT} (h : pcU σ α 12 P) (k : Nat) (v : Int) : pcU (uS σ 21 k v) α 12 P := h.go (fun q j hq => by rw [uS_ne _ _ (by omega)]) (fun _ _ _ => rfl)

theorem nmK_le {f : Nat → Int} {l p : Nat} (hp : p ≤ l) {lo hi bu : Int} {k : Nat → Int → rzT} (hk : ∀ q x, q ≤ l → (k q x).2.1 ≤ l) : (nmK f l p lo hi bu k).2.1 ≤ l := by
  unfold nmK
  split
  · exact hk _ _ (nmE_r f hp).2
  · exact (tkS_r f hp).2
theorem rsU_le {f : Nat → Int} {l p : Nat} {n w : Int} (hp : p ≤ l) (hw : 0 ≤ w ∧ w ≤ 5) : (rsU f l n w p).2.1 ≤ l := by
  rcases (show w = 0 ∨ w = 1 ∨ w = 2 ∨ w = 3 ∨ w = 4 ∨ w = 5 by omega) with rfl | rfl | rfl | rfl | rfl | rfl
  · rw [rsU_0]; exact hp
  · rw [rsU_1]; exact nmK_le hp fun q x hq => nmK_le hq fun q2 x2 hq2 => hq2
  · rw [rsU_2]; exact nmK_le hp fun q x hq => nmK_le hq fun q2 x2 hq2 => hq2
  · rw [rsU_3]; exact nmK_le hp fun q x hq => nmK_le hq fun q2 x2 hq2 => nmK_le hq2 fun q3 x3 hq3 => hq3
  · rw [rsU_4]; exact nmK_le hp fun q x hq => nmK_le hq fun q2 x2 hq2 => hq2
  · rw [rsU_5]; exact nmK_le hp fun q x hq => nmK_le hq fun q2 x2 hq2 => nmK_le hq2 fun q3 x3 hq3 => hq3

set_option maxHeartbeats 4000000 in
set_option maxRecDepth 100000 in
theorem qX5_read (σ α : St) (f_ : Nat → Int) (hfe_ : α 2 = f_) (l_ : Nat) (hl_ : σ 1 1 = l_) (hf_ : txU f_ l_) (P_ : pnT) (hP_ : pcU σ α 3 P_) (hwf_ : wfP P_) : CG 6 mX5_read [vR 21, vR 3] σ α (fun r' s' a' => r' = some (vI (if (rdU f_ l_ 24 0 P_).1 then -1 else ((rdU f_ l_ 24 0 P_).2.1 : Int))) ∧ fcR σ α s' a' ∧ ((rdU f_ l_ 24 0 P_).1 = true → pcU s' a' 12 (rdU f_ l_ 24 0 P_).2.2.2 ∧ s' 21 6 = ((rdU f_ l_ 24 0 P_).2.2.1 : Int))) := by
  have hl2_ := hf_.1
  have hn10_ := hwf_.1
  refine CG.of [some (vR 21), some (vR 3), none] (by decide) (by simp [lvA]) rfl ?_
  refine v_aload_n iX5_read_0 rfl ?_
  refine v_getR iX5_read_1 fX5_15 rfl rfl ?_
  refine v_aload_n iX5_read_4 rfl ?_
  refine c_V0 (Mc := mX4_copyFrom) iX5_read_5 lX5_19 kX4_copyFrom (qX4_copyFrom σ α 12 3 isPlan_trial isPlan_told (by decide)) (by decide) rfl rfl rfl rfl (Nat.le_of_ble_eq_true rfl) ?_
  try simp only [Int.toNat_natCast]
  refine v_aload_n iX5_read_8 rfl ?_
  refine v_iconst iX5_read_9 ?_
  refine v_put iX5_read_10 pX5_25 rfl rfl (by intro h; cases h) ?_
  refine v_aload_n iX5_read_13 rfl ?_
  refine v_iconst iX5_read_14 ?_
  refine v_put iX5_read_15 pX5_29 rfl rfl (by intro h; cases h) ?_
  refine v_iconst iX5_read_18 ?_
  refine v_is2 iX5_read_19 ⟨rfl, rfl⟩ ?_
  refine (ind_up (P := fun (i_ : Nat) => ∀ σ1_ α1_ p1_ P1_, fcR σ α σ1_ α1_ → p1_ ≤ l_ → wfP P1_ → pcU σ1_ α1_ 12 P1_ → σ1_ 21 4 = (p1_ : Int) → σ1_ 21 6 = (i_ : Int) → (i_ < 24 → rdU f_ l_ (24 - i_) p1_ P1_ = rdU f_ l_ 24 0 P_) → (i_ = 24 → (rdU f_ l_ 24 0 P_).1 = false ∧ σ1_ 21 3 = ((rdU f_ l_ 24 0 P_).2.1 : Int)) → VV 6 mX5_read [vR 21, vR 3] (fun r' s' a' => r' = some (vI (if (rdU f_ l_ 24 0 P_).1 then -1 else ((rdU f_ l_ 24 0 P_).2.1 : Int))) ∧ fcR σ α s' a' ∧ ((rdU f_ l_ 24 0 P_).1 = true → pcU s' a' 12 (rdU f_ l_ 24 0 P_).2.2.2 ∧ s' 21 6 = ((rdU f_ l_ 24 0 P_).2.2.1 : Int))) σ1_ α1_ 20 [some (vR 21), some (vR 3), some (vI (i_ : Int))] []) 24 ?_ 0 (by omega) _ _ 0 P_ ⟨fun q k h1_ h2_ hq_ => by rw [uS_ne _ _ (by omega), uS_ne _ _ (by omega), pcS_o _ h1_ h2_], fun q hq_ => pcA_o _ (by omega)⟩ (Nat.zero_le _) hwf_ (((hP_.copy hwf_.1 (by decide)).u 4 _).u 6 _) (by rw [uS_ne _ _ (by omega), uS_eq]; rfl) (by rw [uS_eq]; rfl) (fun _ => rfl) (fun h_ => absurd h_ (by decide))).as rfl rfl rfl rfl
  intro i_ hi_ ih_ σ1_ α1_ p1_ P1_ hF_ hp1_ hw1_ hPc_ h4_ h6_ hR_ h24_
  have hfe1_ : α1_ 2 = f_ := (hF_.2 2 (by omega)).trans hfe_
  have hl1_ : σ1_ 1 1 = (l_ : Int) := (hF_.1 1 1 (by omega) (by omega) (by omega)).trans hl_
  refine v_iload_n iX5_read_20 rfl ?_
  refine v_bipush iX5_read_21 (by decide) ?_
  refine v_icmp_ge (tgt := 83) iX5_read_23 (by decide) (by omega) (fun hb23_ => ?_) (fun hb23_ => ?_)
  · have hRb_ := (h24_ (by omega)).1
    refine v_aload_n iX5_read_83 rfl ?_
    refine v_getI iX5_read_84 fX5_39 rfl rfl (by exact (h24_ (by omega)).2) ?_
    exact r_i iX5_read_87 rfl (⟨cf_i (by rw [hRb_]; rfl), hF_, fun h_ => absurd (hRb_.symm.trans h_) (by decide)⟩)
  · have hRi_ := hR_ (by omega)
    rw [show 24 - i_ = (24 - (i_ + 1)) + 1 by omega] at hRi_
    refine v_aload_n iX5_read_26 rfl ?_
    refine c_VN (Mc := mX5_step) iX5_read_27 lX5_32 kX5_step (qX5_step σ1_ α1_ f_ hfe1_ l_ hl1_ hf_ p1_ h4_ hp1_) (by decide) rfl rfl rfl rfl (Nat.le_of_ble_eq_true rfl) ?_
    rintro s1_ a1_ ⟨⟨hF1_, hT1_⟩, hae_⟩
    have haf_ := hae_.symm
    subst haf_
    try simp only [Int.toNat_natCast]
    refine v_aload_n iX5_read_30 rfl ?_
    refine c_VQ (Mc := mX5_clauseStands) iX5_read_31 lX5_35 kX5_clauseStands (qX5_clauseStands s1_ α1_ f_ hfe1_ l_ ((hF1_ 1 1 (by omega)).trans hl1_) hf_ p1_ hp1_ hT1_ P1_ (hPc_.go (fun q k hq => hF1_ q k (by omega)) (fun _ _ _ => rfl)) hw1_) (by decide) rfl rfl rfl rfl (Nat.le_of_ble_eq_true rfl) ?_
    rintro s2_ a2_ ⟨hD_, hOk_, hBd_⟩
    have h6b_ : s2_ 21 6 = (i_ : Int) := by rw [hD_.1 21 6 (by omega) (by omega) (by omega), hF1_ 21 6 (by omega)]; exact h6_
    try simp only [Int.toNat_natCast]
    refine v_bif_ne (tgt := 42) iX5_read_34 (by decide) (fun hb34_ => ?_) (fun hb34_ => ?_)
    · try simp only [Int.toNat_natCast] at hb34_
      obtain ⟨hO1_, hO2_⟩ := hOk_ hb34_
      have hok_ := clU_ok hp1_ hb34_
      have hRt_ := hRi_
      rw [rdU_t hb34_] at hRt_
      have hwf2_ := dpU_wf hp1_ hw1_ hb34_
      have hS2_ := tkS_r f_ hok_.2.2
      have hE2_ := (tkE_r f_ hS2_.2).2.1
      refine v_aload_n iX5_read_42 rfl ?_
      refine v_dup iX5_read_43 (by intro z h; cases h) ?_
      refine v_getI iX5_read_44 fX5_29 rfl rfl (by exact h6b_) ?_
      refine v_iconst iX5_read_47 ?_
      refine v_iadd iX5_read_48 ?_
      refine v_put iX5_read_49 pX5_29 rfl rfl (by intro h; cases h) ?_
      refine v_aload_n iX5_read_52 rfl ?_
      refine c_VN (Mc := mX5_step) iX5_read_53 lX5_32 kX5_step (qX5_step (uS s2_ 21 6 ((i_ : Int) + 1)) a2_ f_ ((hD_.2 2 (by omega)).trans hfe1_) l_ (by rw [uS_ne _ _ (by omega), hD_.1 1 1 (by omega) (by omega) (by omega), hF1_ 1 1 (by omega)]; exact hl1_) hf_ (clU f_ l_ (pnN P1_) (pnR P1_ 0) p1_).2.1 (by rw [uS_ne _ _ (by omega)]; exact hO1_) hok_.2.2) (by decide) rfl rfl rfl rfl (Nat.le_of_ble_eq_true rfl) ?_
      rintro s4_ a4_ ⟨⟨hF4_, hT4_⟩, hae4_⟩
      have haf4_ := hae4_.symm
      subst haf4_
      try simp only [Int.toNat_natCast]
      refine v_aload_n iX5_read_56 rfl ?_
      refine v_getI iX5_read_57 fX5_42 rfl rfl (by exact hT4_.2.2) ?_
      refine v_if_ne (tgt := 65) iX5_read_60 (by decide) (by have := knU_r f_ l_ (tkS f_ l_ (clU f_ l_ (pnN P1_) (pnR P1_ 0) p1_).2.1); omega) (fun hb60_ => ?_) (fun hb60_ => ?_)
      · have hsl_ : tkS f_ l_ (clU f_ l_ (pnN P1_) (pnR P1_ 0) p1_).2.1 < l_ := by
          by_cases h_ : tkS f_ l_ (clU f_ l_ (pnN P1_) (pnR P1_ 0) p1_).2.1 < l_
          · exact h_
          · have := knU_out (f := f_) h_; omega
        refine v_aload_n iX5_read_65 rfl ?_
        refine c_V1 (Mc := mX5_isSemicolon) iX5_read_66 lX5_45 kX5_isSemicolon (qX5_isSemicolon s4_ a2_ f_ ((hD_.2 2 (by omega)).trans hfe1_) l_ (by rw [hF4_ 1 1 (by omega), uS_ne _ _ (by omega), hD_.1 1 1 (by omega) (by omega) (by omega), hF1_ 1 1 (by omega)]; exact hl1_) hf_ (tkS f_ l_ (clU f_ l_ (pnN P1_) (pnR P1_ 0) p1_).2.1) hsl_ hT4_.1 (by rw [← knU_in hsl_]; exact hT4_.2.2)) (by decide) rfl rfl rfl rfl (Nat.le_of_ble_eq_true rfl) ?_
        try simp only [Int.toNat_natCast]
        refine v_bif_ne (tgt := 77) iX5_read_69 (by decide) (fun hb69_ => ?_) (fun hb69_ => ?_)
        · try simp only [Int.toNat_natCast] at hb69_
          simp only [decide_eq_true_eq] at hb69_
          refine v_in2 iX5_read_77 ⟨rfl, rfl⟩ ?_
          refine v_goto (tgt := 20) iX5_read_80 (by decide) ?_
          refine (ih_ (by omega) _ _ (tkE f_ l_ (tkS f_ l_ (clU f_ l_ (pnN P1_) (pnR P1_ 0) p1_).2.1)) (dpU f_ l_ p1_ P1_) ((((hF_.tr (hF1_.r α1_)).tr hD_.r).u (k := 6) (by omega) _).tr (hF4_.r a2_)) hE2_ hwf2_ ((hO2_.u 6 _).go (fun q k hq => hF4_ q k (by omega)) (fun _ _ _ => rfl)) hT4_.2.1 (by rw [hF4_ 21 6 (by omega), uS_eq]; omega) (fun hlt_ => ?_) (fun heq_ => ?_)).as rfl rfl rfl rfl
          · rw [← hRt_, rrU_g hsl_ hb69_ (by omega)]
          · rw [← hRt_, rrU_b hsl_ (by omega)]; exact ⟨rfl, hT4_.1⟩
        · try simp only [Int.toNat_natCast] at hb69_
          simp only [decide_eq_false_iff_not] at hb69_
          have hRb_ : rdU f_ l_ 24 0 P_ = (false, tkS f_ l_ (clU f_ l_ (pnN P1_) (pnR P1_ 0) p1_).2.1, 0, dpU f_ l_ p1_ P1_) := by rw [← hRt_, rrU_b hsl_ (by omega)]
          refine v_aload_n iX5_read_72 rfl ?_
          refine v_getI iX5_read_73 fX5_39 rfl rfl (by exact hT4_.1) ?_
          exact r_i iX5_read_76 rfl (⟨cf_i (by rw [hRb_]; rfl), ((((hF_.tr (hF1_.r α1_)).tr hD_.r).u (k := 6) (by omega) _).tr (hF4_.r a2_)), fun h_ => (by rw [hRb_] at h_; cases h_)⟩)
      · have hge_ : ¬ tkS f_ l_ (clU f_ l_ (pnN P1_) (pnR P1_ 0) p1_).2.1 < l_ := by
          intro h_
          have := knU_in (f := f_) h_
          have := kdU_r (f_ (tkS f_ l_ (clU f_ l_ (pnN P1_) (pnR P1_ 0) p1_).2.1))
          omega
        rw [rrU_e hge_] at hRt_
        refine v_iconst iX5_read_63 ?_
        exact r_i iX5_read_64 rfl (⟨cf_i (by rw [← hRt_]; rfl), ((((hF_.tr (hF1_.r α1_)).tr hD_.r).u (k := 6) (by omega) _).tr (hF4_.r a2_)), fun _ => ⟨by rw [← hRt_]; exact (hO2_.u 6 _).go (fun q k hq => hF4_ q k (by omega)) (fun _ _ _ => rfl), by rw [← hRt_, hF4_ 21 6 (by omega), uS_eq]; show (i_ : Int) + 1 = ((24 - (24 - (i_ + 1)) : Nat) : Int); omega⟩⟩)
    · try simp only [Int.toNat_natCast] at hb34_
      have hRb_ : rdU f_ l_ 24 0 P_ = (false, (clU f_ l_ (pnN P1_) (pnR P1_ 0) p1_).2.1, 0, P1_) := by rw [← hRi_, rdU_f hb34_]
      refine v_aload_n iX5_read_37 rfl ?_
      refine v_getI iX5_read_38 fX5_39 rfl rfl (by exact hBd_ hb34_) ?_
      exact r_i iX5_read_41 rfl (⟨cf_i (by rw [hRb_]; rfl), ((hF_.tr (hF1_.r α1_)).tr hD_.r), fun h_ => (by rw [hRb_] at h_; cases h_)⟩)

set_option maxHeartbeats 4000000 in
set_option maxRecDepth 100000 in
theorem qX7_fault (σ α : St) (f_ : Nat → Int) (hfe_ : α 2 = f_) (l_ : Nat) (hl_ : σ 1 1 = l_) (hf_ : txU f_ l_) (P_ : pnT) (hP_ : pcU σ α 3 P_) (hwf_ : wfP P_) : CG 7 mX7_fault [vR 0] σ α (fun r' s' a' => r' = some (vI (if (rdU f_ l_ 24 0 P_).1 then -1 else ((rdU f_ l_ 24 0 P_).2.1 : Int))) ∧ fcR σ α s' a') := by
  refine CG.of [some (vR 0)] (by decide) (by simp [lvA]) rfl ?_
  refine v_aload_n iX7_fault_0 rfl ?_
  refine v_getR iX7_fault_1 fX7_31 rfl rfl ?_
  refine v_aload_n iX7_fault_4 rfl ?_
  refine v_getR iX7_fault_5 fX7_19 rfl rfl ?_
  refine c_VQ (Mc := mX5_read) iX7_fault_8 lX7_81 kX5_read (qX5_read σ α f_ hfe_ l_ hl_ hf_ P_ hP_ hwf_) (by decide) rfl rfl rfl rfl (Nat.le_of_ble_eq_true rfl) ?_
  rintro s1_ a1_ ⟨hF_, hK_⟩
  try simp only [Int.toNat_natCast]
  exact r_i iX7_fault_11 rfl (⟨rfl, hF_⟩)

theorem rdU_l0 (f : Nat → Int) {l : Nat} : ∀ k p P, p ≤ l → wfP P → (rdU f l k p P).2.1 ≤ l ∧ ((rdU f l k p P).1 = true → wfP (rdU f l k p P).2.2.2)
  | 0, p, P, hp, _ => ⟨(tkS_r f hp).2, fun h => by cases h⟩
  | k + 1, p, P, hp, hw => by
    cases hc : (clU f l (pnN P) (pnR P 0) p).1 with
    | true =>
      rw [rdU_t hc]
      have h1 := (clU_ok hp hc).2.2
      have h2 := dpU_wf hp hw hc
      have hs := tkS_r f h1
      by_cases ha : tkS f l (clU f l (pnN P) (pnR P 0) p).2.1 < l
      · by_cases hb : f (tkS f l (clU f l (pnN P) (pnR P 0) p).2.1) = 59 ∧ k ≠ 0
        · rw [rrU_g ha hb.1 hb.2]
          exact rdU_l0 f k _ _ (tkE_r f hs.2).2.1 h2
        · rw [rrU_b ha hb]; exact ⟨hs.2, fun h => by cases h⟩
      · rw [rrU_e ha]; exact ⟨hs.2, fun _ => h2⟩
    | false =>
      rw [rdU_f hc]
      refine ⟨?_, fun h => by cases h⟩
      show (clU f l (pnN P) (pnR P 0) p).2.1 ≤ l
      by_cases hw1 : wpU f l p = -1 ∨ (wpU f l p = 1 ∧ (pnN P : Int) = 10) ∨ (wpU f l p = 3 ∧ pnR P 0 = 6)
      · rw [clU_f hw1]; exact (tkS_r f hp).2
      · rw [clU_t hw1]
        have hr := wpU_r f l p
        exact rsU_le (tkE_r f (tkS_r f hp).2).2.1 (by omega)
theorem rdU_le (f : Nat → Int) {l : Nat} (hf : txU f l) (P : pnT) (hw : wfP P) : (rdU f l 24 0 P).2.1 ≤ 200 := Nat.le_trans (rdU_l0 f 24 0 P (Nat.zero_le _) hw).1 hf.1
set_option maxHeartbeats 4000000 in
set_option maxRecDepth 100000 in
theorem qX7_casting (σ α : St) (f_ : Nat → Int) (hfe_ : α 2 = f_) (l_ : Nat) (hl_ : σ 1 1 = l_) (hf_ : txU f_ l_) (P_ : pnT) (hP_ : pcU σ α 3 P_) (hwf_ : wfP P_) (hR10_ : (rdU f_ l_ 24 0 P_).1 = true → pnN (rdU f_ l_ 24 0 P_).2.2.2 ≤ 10) : CG 7 mX7_casting [vR 0] σ α (fun r' s' a' => r' = some (vI (if (rdU f_ l_ 24 0 P_).1 then ((rdU f_ l_ 24 0 P_).2.2.1 : Int) else -4)) ∧ ((rdU f_ l_ 24 0 P_).1 = false → fcR σ α s' a') ∧ ((rdU f_ l_ 24 0 P_).1 = true → pcU s' a' 3 (rdU f_ l_ 24 0 P_).2.2.2 ∧ ftU s' a' 22 (pnR (rdU f_ l_ 24 0 P_).2.2.2) ∧ s' 1 1 = 0 ∧ s' 27 2 = 0 ∧ (a' 70 0 = 0 ∧ a' 70 1 = 0) ∧ (∀ t, t < 3 → s' (89 + 2 * t) 1 = 1 ∧ s' (89 + 2 * t) 3 = 0 ∧ s' (89 + 2 * t) 2 = σ (89 + 2 * t) 2) ∧ s' 27 1 = σ 27 1 ∧ (∀ k, s' 95 k = σ 95 k) ∧ ∀ q, q = 2 ∨ 71 ≤ q → a' q = α q)) := by
  refine CG.of [some (vR 0)] (by decide) (by simp [lvA]) rfl ?_
  refine v_aload_n iX7_casting_0 rfl ?_
  refine v_getR iX7_casting_1 fX7_31 rfl rfl ?_
  refine v_aload_n iX7_casting_4 rfl ?_
  refine v_getR iX7_casting_5 fX7_19 rfl rfl ?_
  refine c_VQ (Mc := mX5_read) iX7_casting_8 lX7_81 kX5_read (qX5_read σ α f_ hfe_ l_ hl_ hf_ P_ hP_ hwf_) (by decide) rfl rfl rfl rfl (Nat.le_of_ble_eq_true rfl) ?_
  rintro s1_ a1_ ⟨hF_, hK_⟩
  try simp only [Int.toNat_natCast]
  refine v_iconst iX7_casting_11 ?_
  have hrl_ : (rdU f_ l_ 24 0 P_).2.1 ≤ 200 := rdU_le f_ hf_ P_ hwf_
  refine v_icmp_eq (tgt := 18) iX7_casting_12 (by decide) (by split <;> omega) (fun hb12_ => ?_) (fun hb12_ => ?_)
  · have hRt_ : (rdU f_ l_ 24 0 P_).1 = true := by
      cases hc_ : (rdU f_ l_ 24 0 P_).1 with
      | true => rfl
      | false => rw [hc_] at hb12_; exact absurd hb12_ (by simp)
    refine v_aload_n iX7_casting_18 rfl ?_
    refine v_getR iX7_casting_19 fX7_19 rfl rfl ?_
    refine v_aload_n iX7_casting_22 rfl ?_
    refine v_getR iX7_casting_23 fX7_23 rfl rfl ?_
    refine c_V0 (Mc := mX4_copyFrom) iX7_casting_26 lX7_85 kX4_copyFrom (qX4_copyFrom s1_ a1_ 3 12 isPlan_told isPlan_trial (by decide)) (by decide) rfl rfl rfl rfl (Nat.le_of_ble_eq_true rfl) ?_
    try simp only [Int.toNat_natCast]
    refine v_aload_n iX7_casting_29 rfl ?_
    refine v_getR iX7_casting_30 fX7_38 rfl rfl ?_
    refine v_aload_n iX7_casting_33 rfl ?_
    refine v_getR iX7_casting_34 fX7_19 rfl rfl ?_
    refine v_getR iX7_casting_37 fX7_89 rfl rfl ?_
    refine c_V0 (Mc := mX1_copyFrom) iX7_casting_40 lX7_92 kX1_copyFrom (qX1_copyFrom _ _ 22 7 isFit_now isPlan_told.2.2.2.2 (by decide)) (by decide) rfl rfl rfl rfl (Nat.le_of_ble_eq_true rfl) ?_
    try simp only [Int.toNat_natCast]
    refine v_aload_n iX7_casting_43 rfl ?_
    refine c_V0 (Mc := mX7_forgetAll) iX7_casting_44 lX7_95 kX7_forgetAll (qX7_forgetAll _ _) (by decide) rfl rfl rfl rfl (Nat.le_of_ble_eq_true rfl) ?_
    try simp only [Int.toNat_natCast]
    refine v_aload_n iX7_casting_47 rfl ?_
    refine v_getR iX7_casting_48 fX7_10 rfl rfl ?_
    refine v_iconst iX7_casting_51 ?_
    refine v_put iX7_casting_52 pX7_73 rfl rfl (by intro h; cases h) ?_
    refine v_aload_n iX7_casting_55 rfl ?_
    refine v_getR iX7_casting_56 fX7_31 rfl rfl ?_
    refine v_getI iX7_casting_59 fX7_98 rfl rfl (by exact (show _ = ((rdU f_ l_ 24 0 P_).2.2.1 : Int) by rw [uS_ne _ _ (by omega)]; simp [vnS, uS, fcS, pcS]; exact (hK_ hRt_).2)) ?_
    exact r_i iX7_casting_62 rfl (by
      obtain ⟨hK1_, hK2_⟩ := hK_ hRt_
      have hPn_ := hK1_.copy (p := 3) (hR10_ hRt_) (by decide)
      have hfn_ := (hPn_.2.2.2.2).copy (p := 22) (by decide)
      have hso_ : ∀ q k, q ≠ 27 → q ≠ 1 → q ≠ 89 → q ≠ 91 → q ≠ 93 → (uS (vnS (uS (fcS (pcS s1_ 3 12) 22 7) 27 2 0) 3) 1 1 0) q k = (fcS (pcS s1_ 3 12) 22 7) q k := fun q k h1_ h2_ h3_ h4_ h5_ => by
        rw [uS_ne _ _ (by omega)]
        show uS (uS (uS (uS (uS (uS (uS (fcS (pcS s1_ 3 12) 22 7) 27 2 0) 89 1 1) 89 3 0) 91 1 1) 91 3 0) 93 1 1) 93 3 0 q k = _
        rw [uS_ne _ _ (by omega), uS_ne _ _ (by omega), uS_ne _ _ (by omega), uS_ne _ _ (by omega), uS_ne _ _ (by omega), uS_ne _ _ (by omega), uS_ne _ _ (by omega)]
      refine ⟨cf_i (by rw [hRt_]; rfl), fun h_ => absurd (hRt_.symm.trans h_) (by decide), fun _ => ⟨?_, ?_, ?_, ?_, ⟨?_, ?_⟩, fun t ht_ => ?_, ?_, fun k => ?_, fun q hq_ => ?_⟩⟩
      · refine hPn_.go (fun q k hq_ => ?_) (fun q h1_ h2_ => ?_)
        · rw [hso_ q k (by omega) (by omega) (by omega) (by omega) (by omega), fcS_o _ (by omega)]
        · rw [uA_ne _ _ (by omega), fcA_o _ (by omega)]
      · refine hfn_.go (hso_ 22 4 (by decide) (by decide) (by decide) (by decide) (by decide)) ?_ ?_ ?_ ?_
        · rw [uA_ne _ _ (by omega)]
        · rw [uA_ne _ _ (by omega)]
        · rw [uA_ne _ _ (by omega)]
        · rw [uA_ne _ _ (by omega)]
      · rw [uS_eq]
      · simp [vnS, uS]
      · rw [uA_eq]; simp [cpA]
      · rw [uA_eq]; simp [cpA]
      · have hb2_ : s1_ (89 + 2 * t) 2 = σ (89 + 2 * t) 2 := hF_.1 _ 2 (by omega) (by omega) (by omega)
        rcases (show t = 0 ∨ t = 1 ∨ t = 2 by omega) with rfl | rfl | rfl
        · exact ⟨by simp [vnS, uS], by simp [vnS, uS], by rw [← hb2_]; simp [vnS, uS, fcS, pcS]⟩
        · exact ⟨by simp [vnS, uS], by simp [vnS, uS], by rw [← hb2_]; simp [vnS, uS, fcS, pcS]⟩
        · exact ⟨by simp [vnS, uS], by simp [vnS, uS], by rw [← hb2_]; simp [vnS, uS, fcS, pcS]⟩
      · rw [← hF_.1 27 1 (by omega) (by omega) (by omega)]; simp [vnS, uS, fcS, pcS]
      · rw [hso_ 95 k (by decide) (by decide) (by decide) (by decide) (by decide), fcS_o _ (by omega), pcS_o _ (by decide) (by decide)]
        exact hF_.1 95 k (by omega) (by omega) (by omega)
      · rw [uA_ne _ _ (by omega), fcA_o _ (by omega), pcA_o _ (by omega)]
        exact hF_.2 q (by omega))
  · have hRf_ : (rdU f_ l_ 24 0 P_).1 = false := by
      cases hc_ : (rdU f_ l_ 24 0 P_).1 with
      | false => rfl
      | true => rw [hc_] at hb12_; exact absurd rfl hb12_
    refine v_bipush iX7_casting_15 (by decide) ?_
    exact r_i iX7_casting_17 rfl (⟨cf_i (by rw [hRf_]; rfl), fun _ => hF_, fun h_ => absurd (hRf_.symm.trans h_) (by decide)⟩)
