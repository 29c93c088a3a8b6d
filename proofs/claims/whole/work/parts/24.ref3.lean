set_option maxHeartbeats 4000000 in
set_option maxRecDepth 100000 in
theorem qX8_drownedIn (σ α : St) {n : Nat} {V B N : Nat → Int} (hR : RV σ α n V B N) (hW : WF n V B N) {a b c : Int} (hU : RU σ a b c) (t : Nat) (ht : t < n) : CG 7 mX8_drownedIn [vR 95, vI (t : Int)] σ α (fun r' s' a' => r' = some (vI (drwR c V B N n t)) ∧ Sc σ s' ∧ a' = α) := by
  have h10 := hW.1
  have mt := pow10 h10 (msk_lt (topR V B N n) n)
  refine CG.of [some (vR 95), some (vI (t : Int)), none, none, none, none] (by decide) (by simp [lvA]) rfl ?_
  refine v_aload_n iX8_drownedIn_0 rfl ?_
  refine c_V1 (Mc := mX8_tops) iX8_drownedIn_1 lX8_172 kX8_tops (qX8_tops σ α hR hW) (by decide) rfl rfl rfl rfl (Nat.le_of_ble_eq_true rfl) ?_
  try simp only [Int.toNat_natCast]
  refine v_is2 iX8_drownedIn_4 ⟨rfl, rfl⟩ ?_
  refine v_iconst iX8_drownedIn_5 ?_
  refine v_is3 iX8_drownedIn_6 ⟨rfl, rfl⟩ ?_
  refine v_iconst iX8_drownedIn_7 ?_
  refine v_is4 iX8_drownedIn_8 ⟨rfl, rfl⟩ ?_
  have key := ind_up (P := fun k => ∀ σ1, Sc σ σ1 → VV 7 mX8_drownedIn [vR 95, vI (t : Int)] (fun r' s' a' => r' = some (vI (drwR c V B N n t)) ∧ Sc σ s' ∧ a' = α) σ1 α 10 [some (vR 95), some (vI (t : Int)), some (vI ((msk (topR V B N n) n : Nat) : Int)), some (vI ((msk (drwP c V B N n t) k : Nat) : Int)), some (vI (k : Int)), none] []) n ?_ 0 (by omega)
  · exact key σ (Sc.rf σ)
  intro k hk ih σ1 hs
  refine v_iload iX8_drownedIn_10 rfl ?_
  refine v_aload_n iX8_drownedIn_12 rfl ?_
  refine v_getI iX8_drownedIn_13 fX8_57 rfl rfl (by exact (hR.sc hs).1) ?_
  refine v_icmp_ge (tgt := 80) iX8_drownedIn_16 (by decide) (by omega) (fun h16 => ?_) (fun h16 => ?_)
  · have hkn : n = k := by omega
    subst hkn
    have hml := pow10 h10 (msk_lt (drwP c V B N n t) n)
    refine v_aload_n iX8_drownedIn_80 rfl ?_
    refine v_iload_n iX8_drownedIn_81 rfl ?_
    refine c_V1 (Mc := mX8_latest) iX8_drownedIn_82 lX8_157 kX8_latest (qX8_latest σ1 α (hR.sc hs) hW _ (by omega)) (by decide) rfl rfl rfl rfl (Nat.le_of_ble_eq_true rfl) ?_
    try simp only [Int.toNat_natCast]
    exact r_i iX8_drownedIn_85 rfl (⟨rfl, hs, rfl⟩)
  · have hkn : k < n := by omega
    refine v_iload_n iX8_drownedIn_19 rfl ?_
    refine v_iload iX8_drownedIn_20 rfl ?_
    refine c_S1 (Mc := mX8_has) iX8_drownedIn_22 lX8_151 kX8_has (qX8_has _ _ _ k (by omega) (by omega)) (by decide) rfl rfl (Nat.le_of_ble_eq_true rfl) ?_
    try simp only [Int.toNat_natCast]
    refine v_bif_eq (tgt := 74) iX8_drownedIn_25 (by decide) (fun h25 => ?_) (fun h25 => ?_)
    · try simp only [Int.toNat_natCast] at h25
      (try rw [hasB_msk hkn] at h25)
      refine v_in4 iX8_drownedIn_74 ⟨rfl, rfl⟩ ?_
      refine v_goto (tgt := 10) iX8_drownedIn_77 (by decide) ?_
      refine (ih (by omega) _ (by assumption)).asw rfl rfl ⟨rfl, rfl, rfl, ?_, rfl, trivial⟩ rfl
      first
        | (have e1 : drwP c V B N n t k = true := by simp [drwP, *]
           simp only [msk, e1, if_true, Int.toNat_natCast])
        | (have e1 : drwP c V B N n t k = false := by simp [drwP, *]
           simp only [msk, e1, Bool.false_eq_true, if_false, Int.toNat_natCast, Int.toNat_zero, Nat.or_zero])
    · try simp only [Int.toNat_natCast] at h25
      rw [hasB_msk hkn] at h25
      refine v_aload_n iX8_drownedIn_28 rfl ?_
      refine v_iload iX8_drownedIn_29 rfl ?_
      refine v_iload_n iX8_drownedIn_31 rfl ?_
      refine c_V1 (Mc := mX8_isLater) iX8_drownedIn_32 lX8_154 kX8_isLater (qX8_isLater σ1 α (hR.sc hs) hW k t (by omega) (by omega)) (by decide) rfl rfl rfl rfl (Nat.le_of_ble_eq_true rfl) ?_
      try simp only [Int.toNat_natCast]
      refine v_bif_eq (tgt := 74) iX8_drownedIn_35 (by decide) (fun h35 => ?_) (fun h35 => ?_)
      · try simp only [Int.toNat_natCast] at h35
        (try rw [hasB_msk hkn] at h25)
        refine v_in4 iX8_drownedIn_74 ⟨rfl, rfl⟩ ?_
        refine v_goto (tgt := 10) iX8_drownedIn_77 (by decide) ?_
        refine (ih (by omega) _ (by assumption)).asw rfl rfl ⟨rfl, rfl, rfl, ?_, rfl, trivial⟩ rfl
        first
          | (have e1 : drwP c V B N n t k = true := by simp [drwP, *]
             simp only [msk, e1, if_true, Int.toNat_natCast])
          | (have e1 : drwP c V B N n t k = false := by simp [drwP, *]
             simp only [msk, e1, Bool.false_eq_true, if_false, Int.toNat_natCast, Int.toNat_zero, Nat.or_zero])
      · try simp only [Int.toNat_natCast] at h35
        refine v_aload_n iX8_drownedIn_38 rfl ?_
        refine v_iload_n iX8_drownedIn_39 rfl ?_
        refine v_iload iX8_drownedIn_40 rfl ?_
        refine c_VQ (Mc := mX8_passOf) iX8_drownedIn_42 lX8_175 kX8_passOf (qX8_passOf σ1 α (hR.sc hs) hW t k (by omega) (by omega)) (by decide) rfl rfl rfl rfl (Nat.le_of_ble_eq_true rfl) ?_
        rintro σ2 a2 ⟨hs2, ha2⟩
        rw [ha2]
        replace hs2 := hs.tr hs2
        have hpr := passR_r V B N n t k
        try simp only [Int.toNat_natCast]
        refine v_is5 iX8_drownedIn_45 ⟨rfl, rfl⟩ ?_
        refine v_iload_n iX8_drownedIn_47 rfl ?_
        refine v_iload iX8_drownedIn_48 rfl ?_
        refine v_iconst iX8_drownedIn_50 ?_
        refine v_icmp_eq (tgt := 71) iX8_drownedIn_51 (by decide) (by omega) (fun h51 => ?_) (fun h51 => ?_)
        · refine v_iconst iX8_drownedIn_71 ?_
          refine v_ior iX8_drownedIn_72 (by refine ⟨?_, ?_⟩ <;> first | exact Int.natCast_nonneg _ | omega) ?_
          refine v_is3 iX8_drownedIn_73 ⟨rfl, rfl⟩ ?_
          (try rw [hasB_msk hkn] at h25)
          refine v_in4 iX8_drownedIn_74 ⟨rfl, rfl⟩ ?_
          refine v_goto (tgt := 10) iX8_drownedIn_77 (by decide) ?_
          refine (ih (by omega) _ (by assumption)).asw rfl rfl ⟨rfl, rfl, rfl, ?_, rfl, trivial⟩ rfl
          first
            | (have e1 : drwP c V B N n t k = true := by simp [drwP, *]
               simp only [msk, e1, if_true, Int.toNat_natCast])
            | (have e1 : drwP c V B N n t k = false := by simp [drwP, *]
               simp only [msk, e1, Bool.false_eq_true, if_false, Int.toNat_natCast, Int.toNat_zero, Nat.or_zero])
        · refine v_aload_n iX8_drownedIn_54 rfl ?_
          refine v_iload iX8_drownedIn_55 rfl ?_
          refine v_iload_n iX8_drownedIn_57 rfl ?_
          refine c_V1 (Mc := mX8_isHigh) iX8_drownedIn_58 lX8_179 kX8_isHigh (qX8_isHigh σ2 α (hR.sc hs2) hW c (hU.sc hs2).2.2.1 hU.2.2.2.2.2 _ t (by omega) (by omega)) (by decide) rfl rfl rfl rfl (Nat.le_of_ble_eq_true rfl) ?_
          try simp only [Int.toNat_natCast]
          refine v_bif_eq (tgt := 71) iX8_drownedIn_61 (by decide) (fun h61 => ?_) (fun h61 => ?_)
          · try simp only [Int.toNat_natCast] at h61
            refine v_iconst iX8_drownedIn_71 ?_
            refine v_ior iX8_drownedIn_72 (by refine ⟨?_, ?_⟩ <;> first | exact Int.natCast_nonneg _ | omega) ?_
            refine v_is3 iX8_drownedIn_73 ⟨rfl, rfl⟩ ?_
            (try rw [hasB_msk hkn] at h25)
            refine v_in4 iX8_drownedIn_74 ⟨rfl, rfl⟩ ?_
            refine v_goto (tgt := 10) iX8_drownedIn_77 (by decide) ?_
            refine (ih (by omega) _ (by assumption)).asw rfl rfl ⟨rfl, rfl, rfl, ?_, rfl, trivial⟩ rfl
            first
              | (have e1 : drwP c V B N n t k = true := by simp [drwP, *]
                 simp only [msk, e1, if_true, Int.toNat_natCast])
              | (have e1 : drwP c V B N n t k = false := by simp [drwP, *]
                 simp only [msk, e1, Bool.false_eq_true, if_false, Int.toNat_natCast, Int.toNat_zero, Nat.or_zero])
          · try simp only [Int.toNat_natCast] at h61
            refine v_iconst iX8_drownedIn_64 ?_
            refine v_iload iX8_drownedIn_65 rfl ?_
            refine v_ishl1 iX8_drownedIn_67 (by omega) ?_
            refine v_goto (tgt := 72) iX8_drownedIn_68 (by decide) ?_
            refine v_ior iX8_drownedIn_72 (by refine ⟨?_, ?_⟩ <;> first | exact Int.natCast_nonneg _ | omega) ?_
            refine v_is3 iX8_drownedIn_73 ⟨rfl, rfl⟩ ?_
            (try rw [hasB_msk hkn] at h25)
            refine v_in4 iX8_drownedIn_74 ⟨rfl, rfl⟩ ?_
            refine v_goto (tgt := 10) iX8_drownedIn_77 (by decide) ?_
            refine (ih (by omega) _ (by assumption)).asw rfl rfl ⟨rfl, rfl, rfl, ?_, rfl, trivial⟩ rfl
            first
              | (have e1 : drwP c V B N n t k = true := by simp [drwP, *]
                 simp only [msk, e1, if_true, Int.toNat_natCast])
              | (have e1 : drwP c V B N n t k = false := by simp [drwP, *]
                 simp only [msk, e1, Bool.false_eq_true, if_false, Int.toNat_natCast, Int.toNat_zero, Nat.or_zero])

set_option maxHeartbeats 4000000 in
set_option maxRecDepth 100000 in
theorem qX8_head (σ α : St) {n : Nat} {V B N : Nat → Int} (hR : RV σ α n V B N) (hW : WF n V B N) {a b c : Int} (hU : RU σ a b c) (t : Nat) (ht : t < n) : CG 8 mX8_head [vR 95, vI (t : Int)] σ α (fun r' s' a' => r' = some (vI (hdF c V B N n 10 t : Int)) ∧ Sc σ s' ∧ a' = α) := by
  have hn10 := hW.1
  refine CG.of [some (vR 95), some (vI (t : Int)), none, none] (by decide) (by simp [lvA]) rfl ?_
  refine v_iload_n iX8_head_0 rfl ?_
  refine v_is2 iX8_head_1 ⟨rfl, rfl⟩ ?_
  refine v_aload_n iX8_head_2 rfl ?_
  refine v_iload_n iX8_head_3 rfl ?_
  refine c_VQ (Mc := mX8_drownedIn) iX8_head_4 lX8_182 kX8_drownedIn (qX8_drownedIn σ α hR hW hU t ht) (by decide) rfl rfl rfl rfl (Nat.le_of_ble_eq_true rfl) ?_
  rintro σ1 a1 ⟨hs1, ha1⟩
  rw [ha1]
  try simp only [Int.toNat_natCast]
  refine v_is3 iX8_head_7 ⟨rfl, rfl⟩ ?_
  have key : ∀ (f a : Nat) (σ1 : St), Sc σ σ1 → a < n → rnk V B n a < f → hdF c V B N n 10 t = hdF c V B N n f a → VV 8 mX8_head [vR 95, vI (t : Int)] (fun r' s' a' => r' = some (vI (hdF c V B N n 10 t : Int)) ∧ Sc σ s' ∧ a' = α) σ1 α 8 [some (vR 95), some (vI (t : Int)), some (vI (a : Int)), some (vI (drwR c V B N n a))] [] := by
    intro f
    induction f with
    | zero => intro a σ1 _ _ h; exact absurd h (by omega)
    | succ f ih =>
      intro a σ1 hs ha hf e1
      have hdr := drwR_r c V B N n a
      refine v_iload_n iX8_head_8 rfl ?_
      refine v_iconst iX8_head_9 ?_
      refine v_icmp_eq (tgt := 24) iX8_head_10 (by decide) (by omega) (fun h10 => ?_) (fun h10 => ?_)
      · refine v_iload_n iX8_head_24 rfl ?_
        exact r_i iX8_head_25 rfl (⟨cf_i (by rw [e1, hdF_y h10]), hs, rfl⟩)
      · obtain ⟨b, hb, e, hl, -⟩ := drw_lt hW h10
        rw [e]
        refine v_iload_n iX8_head_13 rfl ?_
        refine v_is2 iX8_head_14 ⟨rfl, rfl⟩ ?_
        refine v_aload_n iX8_head_15 rfl ?_
        refine v_iload_n iX8_head_16 rfl ?_
        refine c_VQ (Mc := mX8_drownedIn) iX8_head_17 lX8_182 kX8_drownedIn (qX8_drownedIn σ1 α (hR.sc hs) hW (hU.sc hs) b hb) (by decide) rfl rfl rfl rfl (Nat.le_of_ble_eq_true rfl) ?_
        rintro σ2 a2 ⟨hs2, ha2⟩
        rw [ha2]
        try simp only [Int.toNat_natCast]
        refine v_is3 iX8_head_20 ⟨rfl, rfl⟩ ?_
        refine v_goto (tgt := 8) iX8_head_21 (by decide) ?_
        exact ih b σ2 (hs.tr hs2) hb (by have := rnk_lt hW ha hb hl; omega) (by rw [e1, hdF_n h10 e])
  exact key 10 t σ1 hs1 ht (rnk_n hW ht) rfl

set_option maxHeartbeats 4000000 in
set_option maxRecDepth 100000 in
theorem qX8_layHeads (σ α : St) {n : Nat} {V B N : Nat → Int} (hR : RV σ α n V B N) (hW : WF n V B N) {a b c : Int} (hU : RU σ a b c) : CG 9 mX8_layHeads [vR 95] σ α (fun r' s' a' => r' = none ∧ Sc σ s' ∧ a' = uA α 107 (hdsF c V B N n (α 107) n)) := by
  have h10 := hW.1
  refine CG.of [some (vR 95), none] (by decide) (by simp [lvA]) rfl ?_
  refine v_iconst iX8_layHeads_0 ?_
  refine v_is1 iX8_layHeads_1 ⟨rfl, rfl⟩ ?_
  have key := ind_up (P := fun k => ∀ σ1, Sc σ σ1 → VV 9 mX8_layHeads [vR 95] (fun r' s' a' => r' = none ∧ Sc σ s' ∧ a' = uA α 107 (hdsF c V B N n (α 107) n)) σ1 (uA α 107 (hdsF c V B N n (α 107) k)) 2 [some (vR 95), some (vI (k : Int))] []) n ?_ 0 (by omega)
  · exact (key σ (Sc.rf σ)).as rfl (by rw [hdsF_0, uA_id]) rfl rfl
  intro k hk ih σ1 hs
  refine v_iload_n iX8_layHeads_2 rfl ?_
  refine v_aload_n iX8_layHeads_3 rfl ?_
  refine v_getI iX8_layHeads_4 fX8_57 rfl rfl (by exact (hR.sc hs).1) ?_
  refine v_icmp_ge (tgt := 31) iX8_layHeads_7 (by decide) (by omega) (fun h7 => ?_) (fun h7 => ?_)
  · have hkn : n = k := by omega
    subst hkn
    exact r_v iX8_layHeads_31 rfl (⟨rfl, hs, rfl⟩)
  · refine v_aload_n iX8_layHeads_10 rfl ?_
    refine v_getR iX8_layHeads_11 fX8_54 rfl rfl ?_
    refine v_iload_n iX8_layHeads_14 rfl ?_
    refine v_aload_n iX8_layHeads_15 rfl ?_
    refine v_aload_n iX8_layHeads_16 rfl ?_
    refine v_iload_n iX8_layHeads_17 rfl ?_
    refine c_V1 (Mc := mX8_topOf) iX8_layHeads_18 lX8_166 kX8_topOf (qX8_topOf σ1 _ ((hR.sc hs).ua _) hW k (by omega)) (by decide) rfl rfl rfl rfl (Nat.le_of_ble_eq_true rfl) ?_
    try simp only [Int.toNat_natCast]
    refine c_VQ (Mc := mX8_head) iX8_layHeads_21 lX8_185 kX8_head (qX8_head _ _ ((hR.sc (hs.put _)).ua _) hW (hU.sc (hs.put _)) _ (clm_in hW 10 k (by omega))) (by decide) rfl rfl rfl rfl (Nat.le_of_ble_eq_true rfl) ?_
    rintro σ2 a2 ⟨hs2, ha2⟩
    rw [ha2]
    try simp only [Int.toNat_natCast]
    refine v_iastore iX8_layHeads_24 rfl (by omega) ?_
    refine v_in1 iX8_layHeads_25 ⟨rfl, rfl⟩ ?_
    refine v_goto (tgt := 2) iX8_layHeads_28 (by decide) ?_
    refine (ih (by omega) σ2 ((hs.put _).tr hs2)).as rfl ?_ rfl rfl
    rw [uA_eq, uA_uA, Int.toNat_natCast, ← hdsF_s]
    rfl

set_option maxHeartbeats 4000000 in
set_option maxRecDepth 100000 in
theorem qX8_feeder (σ α : St) {n : Nat} {V B N : Nat → Int} (hR : RV σ α n V B N) (hW : WF n V B N) {a b c : Int} (hU : RU σ a b c) {m : Nat} (hM : RR α n m) (hH : ∀ i, i < n → 0 ≤ α 107 i ∧ α 107 i ≤ 1000) (t : Nat) (ht : t < n) (set : Int) (hs : 0 ≤ set ∧ set ≤ 2147483647) : CF 2 mX8_feeder [vR 95, vI (t : Int), vI set] σ α (some (vI (fdrR a b V B (α 107) (fun r => α 96 (1 + r)) (fun r => α 96 (7 + r)) (fun r => α 96 (13 + r)) m set t))) (σ) (α) := by
  have h10 := hW.1
  have hm6 := hM.2.1
  refine CG.of [some (vR 95), some (vI (t : Int)), some (vI set), none] (by decide) (by simp [lvA]) rfl ?_
  refine v_iconst iX8_feeder_0 ?_
  refine v_is3 iX8_feeder_1 ⟨rfl, rfl⟩ ?_
  have key := ind_up (P := fun k => fdrR a b V B (α 107) (fun r => α 96 (1 + r)) (fun r => α 96 (7 + r)) (fun r => α 96 (13 + r)) m set t = fst1 (fdrP a b V B (α 107) (fun r => α 96 (1 + r)) (fun r => α 96 (7 + r)) (fun r => α 96 (13 + r)) set t) (m - k) k → VV 2 mX8_feeder [vR 95, vI (t : Int), vI set] (fun r' s' a' => r' = some (vI (fdrR a b V B (α 107) (fun r => α 96 (1 + r)) (fun r => α 96 (7 + r)) (fun r => α 96 (13 + r)) m set t)) ∧ s' = σ ∧ a' = α) σ α 2 [some (vR 95), some (vI (t : Int)), some (vI set), some (vI (k : Int))] []) m ?_ 0 (by omega)
  · exact key rfl
  intro k hk ih e1
  refine v_iload_n iX8_feeder_2 rfl ?_
  refine v_aload_n iX8_feeder_3 rfl ?_
  refine v_getR iX8_feeder_4 fX8_7 rfl rfl ?_
  refine v_iconst iX8_feeder_7 ?_
  refine v_iaload iX8_feeder_8 rfl (by omega) (by exact hM.1) ?_
  refine v_icmp_ge (tgt := 76) iX8_feeder_9 (by decide) (by omega) (fun h9 => ?_) (fun h9 => ?_)
  · rw [show m - k = 0 by omega] at e1
    refine v_iconst iX8_feeder_76 ?_
    exact r_i iX8_feeder_77 rfl (⟨cf_i (by simp only [fst1] at e1; exact e1.symm), rfl, rfl⟩)
  · have hkm : k < m := by omega
    have hr := hM.2.2 k hkm
    have hho := hH (α 96 (1 + k)).toNat (by omega)
    have hht := hH t ht
    rw [show m - k = (m - (k + 1)) + 1 by omega] at e1
    refine v_iload_n iX8_feeder_12 rfl ?_
    refine v_iload_n iX8_feeder_13 rfl ?_
    refine c_S1 (Mc := mX8_has) iX8_feeder_14 lX8_151 kX8_has (qX8_has _ _ set k (by omega) (by omega)) (by decide) rfl rfl (Nat.le_of_ble_eq_true rfl) ?_
    try simp only [Int.toNat_natCast]
    refine v_bif_eq (tgt := 70) iX8_feeder_17 (by decide) (fun h17 => ?_) (fun h17 => ?_)
    · try simp only [Int.toNat_natCast] at h17
      refine v_in3 iX8_feeder_70 ⟨rfl, rfl⟩ ?_
      refine v_goto (tgt := 2) iX8_feeder_73 (by decide) ?_
      have e2 : fdrP a b V B (α 107) (fun r => α 96 (1 + r)) (fun r => α 96 (7 + r)) (fun r => α 96 (13 + r)) set t k = false := by simp [fdrP, *]
      exact (ih (by omega) (by rw [e1, fst1_n e2])).as rfl rfl rfl rfl
    · try simp only [Int.toNat_natCast] at h17
      refine v_aload_n iX8_feeder_20 rfl ?_
      refine v_getR iX8_feeder_21 fX8_54 rfl rfl ?_
      refine v_aload_n iX8_feeder_24 rfl ?_
      refine v_getR iX8_feeder_25 fX8_7 rfl rfl ?_
      refine v_iconst iX8_feeder_28 ?_
      refine v_iload_n iX8_feeder_29 rfl ?_
      refine v_iadd iX8_feeder_30 ?_
      refine v_iaload iX8_feeder_31 rfl (by omega) (by exact congrArg (α 96) (show (1 + (k : Int)).toNat = 1 + k by omega)) ?_
      refine v_iaload iX8_feeder_32 rfl (by omega) rfl ?_
      refine v_aload_n iX8_feeder_33 rfl ?_
      refine v_getR iX8_feeder_34 fX8_54 rfl rfl ?_
      refine v_iload_n iX8_feeder_37 rfl ?_
      refine v_iaload iX8_feeder_38 rfl (by omega) (by exact congrArg (α 107) (Int.toNat_natCast t)) ?_
      refine v_icmp_ne (tgt := 70) iX8_feeder_39 (by decide) (by omega) (fun h39 => ?_) (fun h39 => ?_)
      · refine v_in3 iX8_feeder_70 ⟨rfl, rfl⟩ ?_
        refine v_goto (tgt := 2) iX8_feeder_73 (by decide) ?_
        have e2 : fdrP a b V B (α 107) (fun r => α 96 (1 + r)) (fun r => α 96 (7 + r)) (fun r => α 96 (13 + r)) set t k = false := by simp [fdrP, *]
        exact (ih (by omega) (by rw [e1, fst1_n e2])).as rfl rfl rfl rfl
      · refine v_aload_n iX8_feeder_42 rfl ?_
        refine v_aload_n iX8_feeder_43 rfl ?_
        refine v_getR iX8_feeder_44 fX8_7 rfl rfl ?_
        refine v_bipush iX8_feeder_47 (by decide) ?_
        refine v_iload_n iX8_feeder_49 rfl ?_
        refine v_iadd iX8_feeder_50 ?_
        refine v_iaload iX8_feeder_51 rfl (by omega) (by exact congrArg (α 96) (show (7 + (k : Int)).toNat = 7 + k by omega)) ?_
        refine v_aload_n iX8_feeder_52 rfl ?_
        refine v_getR iX8_feeder_53 fX8_7 rfl rfl ?_
        refine v_bipush iX8_feeder_56 (by decide) ?_
        refine v_iload_n iX8_feeder_58 rfl ?_
        refine v_iadd iX8_feeder_59 ?_
        refine v_iaload iX8_feeder_60 rfl (by omega) (by exact congrArg (α 96) (show (13 + (k : Int)).toNat = 13 + k by omega)) ?_
        refine v_iload_n iX8_feeder_61 rfl ?_
        refine c_V1 (Mc := mX8_outlasts) iX8_feeder_62 lX8_188 kX8_outlasts (qX8_outlasts σ α hR hW a b hU.1 hU.2.2.2.1 hU.2.1 hU.2.2.2.2.1 _ _ t (by omega) (by omega) (by omega)) (by decide) rfl rfl rfl rfl (Nat.le_of_ble_eq_true rfl) ?_
        try simp only [Int.toNat_natCast]
        refine v_bif_eq (tgt := 70) iX8_feeder_65 (by decide) (fun h65 => ?_) (fun h65 => ?_)
        · try simp only [Int.toNat_natCast] at h65
          refine v_in3 iX8_feeder_70 ⟨rfl, rfl⟩ ?_
          refine v_goto (tgt := 2) iX8_feeder_73 (by decide) ?_
          have e2 : fdrP a b V B (α 107) (fun r => α 96 (1 + r)) (fun r => α 96 (7 + r)) (fun r => α 96 (13 + r)) set t k = false := by simp [fdrP, *]
          exact (ih (by omega) (by rw [e1, fst1_n e2])).as rfl rfl rfl rfl
        · try simp only [Int.toNat_natCast] at h65
          refine v_iload_n iX8_feeder_68 rfl ?_
          exact r_i iX8_feeder_69 rfl (⟨cf_i (by have e2 : fdrP a b V B (α 107) (fun r => α 96 (1 + r)) (fun r => α 96 (7 + r)) (fun r => α 96 (13 + r)) set t k = true := (by simp [fdrP, *]); rw [fst1_y e2] at e1; exact e1.symm), rfl, rfl⟩)

set_option maxHeartbeats 4000000 in
set_option maxRecDepth 100000 in
theorem qX8_fedBy (σ α : St) {n : Nat} {V B N : Nat → Int} (hR : RV σ α n V B N) (hW : WF n V B N) {a b c : Int} (hU : RU σ a b c) {m : Nat} (hM : RR α n m) (hH : ∀ i, i < n → 0 ≤ α 107 i ∧ α 107 i ≤ 1000) (set : Int) (hs : 0 ≤ set ∧ set ≤ 2147483647) : CF 5 mX8_fedBy [vR 95, vI set] σ α (some (vI ((fedR a b V B N n (α 107) (fun r => α 96 (1 + r)) (fun r => α 96 (7 + r)) (fun r => α 96 (13 + r)) m set : Nat) : Int))) (σ) (α) := by
  have h10 := hW.1
  have hm6 := hM.2.1
  have mt := pow10 h10 (msk_lt (topR V B N n) n)
  refine CG.of [some (vR 95), some (vI set), none, none, none] (by decide) (by simp [lvA]) rfl ?_
  refine v_aload_n iX8_fedBy_0 rfl ?_
  refine c_V1 (Mc := mX8_tops) iX8_fedBy_1 lX8_172 kX8_tops (qX8_tops σ α hR hW) (by decide) rfl rfl rfl rfl (Nat.le_of_ble_eq_true rfl) ?_
  try simp only [Int.toNat_natCast]
  refine v_is2 iX8_fedBy_4 ⟨rfl, rfl⟩ ?_
  refine v_iconst iX8_fedBy_5 ?_
  refine v_is3 iX8_fedBy_6 ⟨rfl, rfl⟩ ?_
  refine v_iconst iX8_fedBy_7 ?_
  refine v_is4 iX8_fedBy_8 ⟨rfl, rfl⟩ ?_
  refine ind_up (P := fun k => VV 5 mX8_fedBy [vR 95, vI set] (fun r' s' a' => r' = some (vI ((fedR a b V B N n (α 107) (fun r => α 96 (1 + r)) (fun r => α 96 (7 + r)) (fun r => α 96 (13 + r)) m set : Nat) : Int)) ∧ s' = σ ∧ a' = α) σ α 10 [some (vR 95), some (vI set), some (vI ((msk (topR V B N n) n : Nat) : Int)), some (vI ((msk (fun i => topR V B N n i && decide (fdrR a b V B (α 107) (fun r => α 96 (1 + r)) (fun r => α 96 (7 + r)) (fun r => α 96 (13 + r)) m set i ≠ -1)) k : Nat) : Int)), some (vI (k : Int))] []) n ?_ 0 (by omega)
  intro k hk ih
  refine v_iload iX8_fedBy_10 rfl ?_
  refine v_aload_n iX8_fedBy_12 rfl ?_
  refine v_getI iX8_fedBy_13 fX8_57 rfl rfl (by exact hR.1) ?_
  refine v_icmp_ge (tgt := 56) iX8_fedBy_16 (by decide) (by omega) (fun h16 => ?_) (fun h16 => ?_)
  · have hkn : n = k := by omega
    subst hkn
    refine v_iload_n iX8_fedBy_56 rfl ?_
    exact r_i iX8_fedBy_57 rfl (⟨cf_i (by rfl), rfl, rfl⟩)
  · have hkn : k < n := by omega
    refine v_iload_n iX8_fedBy_19 rfl ?_
    refine v_iload_n iX8_fedBy_20 rfl ?_
    refine v_iload iX8_fedBy_21 rfl ?_
    refine c_S1 (Mc := mX8_has) iX8_fedBy_23 lX8_151 kX8_has (qX8_has _ _ _ k (by omega) (by omega)) (by decide) rfl rfl (Nat.le_of_ble_eq_true rfl) ?_
    try simp only [Int.toNat_natCast]
    refine v_bif_eq (tgt := 47) iX8_fedBy_26 (by decide) (fun h26 => ?_) (fun h26 => ?_)
    · try simp only [Int.toNat_natCast] at h26
      (try rw [hasB_msk hkn] at h26)
      refine v_iconst iX8_fedBy_47 ?_
      refine v_ior iX8_fedBy_48 (by refine ⟨?_, ?_⟩ <;> first | exact Int.natCast_nonneg _ | omega) ?_
      refine v_is3 iX8_fedBy_49 ⟨rfl, rfl⟩ ?_
      refine v_in4 iX8_fedBy_50 ⟨rfl, rfl⟩ ?_
      refine v_goto (tgt := 10) iX8_fedBy_53 (by decide) ?_
      refine (ih (by omega)).as rfl rfl ?_ rfl
      first
        | simp only [msk, h26, h37, ne_eq, not_true_eq_false, not_false_eq_true, decide_true, decide_false, Bool.and_true, Bool.and_false, Bool.false_eq_true, if_true, if_false, Int.toNat_natCast]
        | simp only [msk, h26, Bool.false_and, Bool.false_eq_true, if_false, Int.toNat_natCast]
      rfl
    · try simp only [Int.toNat_natCast] at h26
      rw [hasB_msk hkn] at h26
      have hfr := fdrR_r a b V B (α 107) (fun r => α 96 (1 + r)) (fun r => α 96 (7 + r)) (fun r => α 96 (13 + r)) m set k
      refine v_aload_n iX8_fedBy_29 rfl ?_
      refine v_iload iX8_fedBy_30 rfl ?_
      refine v_iload_n iX8_fedBy_32 rfl ?_
      refine c_V1 (Mc := mX8_feeder) iX8_fedBy_33 lX8_192 kX8_feeder (qX8_feeder σ α hR hW hU hM hH k (by omega) set hs) (by decide) rfl rfl rfl rfl (Nat.le_of_ble_eq_true rfl) ?_
      try simp only [Int.toNat_natCast]
      refine v_iconst iX8_fedBy_36 ?_
      refine v_icmp_eq (tgt := 47) iX8_fedBy_37 (by decide) (by omega) (fun h37 => ?_) (fun h37 => ?_)
      · (try rw [hasB_msk hkn] at h26)
        refine v_iconst iX8_fedBy_47 ?_
        refine v_ior iX8_fedBy_48 (by refine ⟨?_, ?_⟩ <;> first | exact Int.natCast_nonneg _ | omega) ?_
        refine v_is3 iX8_fedBy_49 ⟨rfl, rfl⟩ ?_
        refine v_in4 iX8_fedBy_50 ⟨rfl, rfl⟩ ?_
        refine v_goto (tgt := 10) iX8_fedBy_53 (by decide) ?_
        refine (ih (by omega)).as rfl rfl ?_ rfl
        first
          | simp only [msk, h26, h37, ne_eq, not_true_eq_false, not_false_eq_true, decide_true, decide_false, Bool.and_true, Bool.and_false, Bool.false_eq_true, if_true, if_false, Int.toNat_natCast]
          | simp only [msk, h26, Bool.false_and, Bool.false_eq_true, if_false, Int.toNat_natCast]
        rfl
      · refine v_iconst iX8_fedBy_40 ?_
        refine v_iload iX8_fedBy_41 rfl ?_
        refine v_ishl1 iX8_fedBy_43 (by omega) ?_
        refine v_goto (tgt := 48) iX8_fedBy_44 (by decide) ?_
        refine v_ior iX8_fedBy_48 (by refine ⟨?_, ?_⟩ <;> first | exact Int.natCast_nonneg _ | omega) ?_
        refine v_is3 iX8_fedBy_49 ⟨rfl, rfl⟩ ?_
        refine v_in4 iX8_fedBy_50 ⟨rfl, rfl⟩ ?_
        refine v_goto (tgt := 10) iX8_fedBy_53 (by decide) ?_
        refine (ih (by omega)).as rfl rfl ?_ rfl
        first
          | simp only [msk, h26, h37, ne_eq, not_true_eq_false, not_false_eq_true, decide_true, decide_false, Bool.and_true, Bool.and_false, Bool.false_eq_true, if_true, if_false, Int.toNat_natCast]
          | simp only [msk, h26, Bool.false_and, Bool.false_eq_true, if_false, Int.toNat_natCast]
        rfl

set_option maxHeartbeats 4000000 in
set_option maxRecDepth 100000 in
theorem qX8_allRisers (σ α : St) {n m : Nat} (hM : RR α n m) : CF 0 mX8_allRisers [vR 95] σ α (some (vI ((2 ^ m : Nat) - 1 : Int))) (σ) (α) := by
  have hm6 := hM.2.1
  refine CG.of [some (vR 95)] (by decide) (by simp [lvA]) rfl ?_
  refine v_iconst iX8_allRisers_0 ?_
  refine v_aload_n iX8_allRisers_1 rfl ?_
  refine v_getR iX8_allRisers_2 fX8_7 rfl rfl ?_
  refine v_iconst iX8_allRisers_5 ?_
  refine v_iaload iX8_allRisers_6 rfl (by omega) (by exact hM.1) ?_
  refine v_ishl1 iX8_allRisers_7 (by omega) ?_
  refine v_iconst iX8_allRisers_8 ?_
  refine v_isub iX8_allRisers_9 ?_
  exact r_i iX8_allRisers_10 rfl (⟨cf_i (by rfl), rfl, rfl⟩)

set_option maxHeartbeats 4000000 in
set_option maxRecDepth 100000 in
theorem qX8_isRiser (σ α : St) {n m : Nat} (hM : RR α n m) (r : Int) (hr : InR r) : CF 1 mX8_isRiser [vR 95, vI r] σ α (some (vI (b2i (decide (0 ≤ r ∧ r ≤ (m : Int) - 1))))) (σ) (α) := by
  have hm6 := hM.2.1
  refine CG.of [some (vR 95), some (vI r)] (by decide) (by simp [lvA]) rfl ?_
  refine v_iload_n iX8_isRiser_0 rfl ?_
  refine v_i2l iX8_isRiser_1 (by omega) ?_
  refine v_lconst (z := 0) iX8_isRiser_2 rfl ?_
  refine v_aload_n iX8_isRiser_3 rfl ?_
  refine v_getR iX8_isRiser_4 fX8_7 rfl rfl ?_
  refine v_iconst iX8_isRiser_7 ?_
  refine v_iaload iX8_isRiser_8 rfl (by omega) (by exact hM.1) ?_
  refine v_iconst iX8_isRiser_9 ?_
  refine v_isub iX8_isRiser_10 ?_
  refine v_i2l iX8_isRiser_11 (by omega) ?_
  refine c_S1 (Mc := mX8_in) iX8_isRiser_12 lX8_62 kX8_in (qX8_in _ _ _ _ _ hr (by decide) (by omega)) (by decide) rfl rfl (Nat.le_of_ble_eq_true rfl) ?_
  try simp only [Int.toNat_natCast]
  exact r_b iX8_isRiser_15 rfl (by first | exact b2i_01 _ | decide | omega) (⟨cf_i (by rfl), rfl, rfl⟩)

set_option maxHeartbeats 4000000 in
set_option maxRecDepth 100000 in
theorem qX8_divisor (σ α : St) (u w : Int) (hu : 0 ≤ u ∧ u ≤ 100000) (hw : 0 ≤ w ∧ w ≤ 100000) : CF 0 mX8_divisor [vI u, vI w] σ α (some (vI (Int.gcd u w : Int))) (σ) (α) := by
  refine CG.of [some (vI u), some (vI w), none, none, none] (by decide) (by simp [lvA]) rfl ?_
  refine v_iload_n iX8_divisor_0 rfl ?_
  refine v_is2 iX8_divisor_1 ⟨rfl, rfl⟩ ?_
  refine v_iload_n iX8_divisor_2 rfl ?_
  refine v_is3 iX8_divisor_3 ⟨rfl, rfl⟩ ?_
  have key := ind_me (S := Int × Int) (P := fun q => 0 ≤ q.1 ∧ q.1 ≤ 100000 → 0 ≤ q.2 ∧ q.2 ≤ 100000 → Int.gcd q.1 q.2 = Int.gcd u w → VV 0 mX8_divisor [vI u, vI w] (fun r' s' a' => r' = some (vI (Int.gcd u w : Int)) ∧ s' = σ ∧ a' = α) σ α 4 [some (vI u), some (vI w), some (vI q.1), some (vI q.2), none] []) (fun q => q.2.toNat) ?_
  · exact key (u, w) hu hw rfl
  rintro ⟨x, y⟩ ih hx hy hg
  dsimp only at hx hy hg ih ⊢
  refine v_iload_n iX8_divisor_4 rfl ?_
  refine v_if_eq (tgt := 21) iX8_divisor_5 (by decide) (by omega) (fun h5 => ?_) (fun h5 => ?_)
  · refine v_iload_n iX8_divisor_21 rfl ?_
    exact r_i iX8_divisor_22 rfl (⟨cf_i (by rw [← hg, h5, Int.gcd_zero_right]; omega), rfl, rfl⟩)
  · refine v_iload_n iX8_divisor_8 rfl ?_
    refine v_iload_n iX8_divisor_9 rfl ?_
    refine v_irem iX8_divisor_10 (by omega) (by omega) ?_
    refine v_is4 iX8_divisor_11 ⟨rfl, rfl⟩ ?_
    refine v_iload_n iX8_divisor_13 rfl ?_
    refine v_is2 iX8_divisor_14 ⟨rfl, rfl⟩ ?_
    refine v_iload iX8_divisor_15 rfl ?_
    refine v_is3 iX8_divisor_17 ⟨rfl, rfl⟩ ?_
    refine v_goto (tgt := 4) iX8_divisor_18 (by decide) ?_
    have e1 := Int.emod_lt_of_pos x (show (0 : Int) < y by omega)
    have e2 := Int.emod_nonneg x (show y ≠ 0 by omega)
    exact (ih (y, x % y) (by show (x % y).toNat < y.toNat; omega) (by omega) (by show 0 ≤ x % y ∧ x % y ≤ 100000; omega) (by show Int.gcd y (x % y) = _; rw [← gcd_step hx.1 (by omega)]; exact hg)).asw rfl rfl ⟨rfl, rfl, rfl, rfl, trivial⟩ rfl
