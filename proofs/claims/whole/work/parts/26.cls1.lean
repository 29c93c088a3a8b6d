set_option maxHeartbeats 4000000 in
set_option maxRecDepth 100000 in
theorem qX3_belowWith (σ α : St) (s c : Int) (hs : 0 ≤ s ∧ s < 10) : CF 0 mX3_belowWith [vR 71, vI s, vI c] σ α (some (vI (α 5 s.toNat + 10 * c))) (σ) (α) := by
  refine CG.of [some (vR 71), some (vI s), some (vI c)] (by decide) (by simp [lvA]) rfl ?_
  refine v_aload_n iX3_belowWith_0 rfl ?_
  refine v_getR iX3_belowWith_1 fX3_30 rfl rfl ?_
  refine v_getR iX3_belowWith_4 fX3_72 rfl rfl ?_
  refine v_iload_n iX3_belowWith_7 rfl ?_
  refine v_iaload iX3_belowWith_8 rfl (by omega) rfl ?_
  refine v_bipush iX3_belowWith_9 (by decide) ?_
  refine v_iload_n iX3_belowWith_11 rfl ?_
  refine v_imul iX3_belowWith_12 ?_
  refine v_iadd iX3_belowWith_13 ?_
  exact r_i iX3_belowWith_14 rfl (⟨cf_i (by rfl), rfl, rfl⟩)

set_option maxHeartbeats 4000000 in
set_option maxRecDepth 100000 in
theorem qX3_isNeighbour (σ α : St) {n : Nat} {V B N : Nat → Int} (hK : KV σ α n V B N) (hW : WF n V B N) (s t : Int) (hs : 0 ≤ s ∧ s < n) (ht : 0 ≤ t ∧ t < n) : CF 0 mX3_isNeighbour [vR 71, vI s, vI t] σ α (some (vI (b2i (hasB (N s.toNat) t)))) (σ) (α) := by
  have h10 := hW.1
  have hws := hW.2 s.toNat (by omega)
  refine CG.of [some (vR 71), some (vI s), some (vI t)] (by decide) (by simp [lvA]) rfl ?_
  refine v_aload_n iX3_isNeighbour_0 rfl ?_
  refine v_getR iX3_isNeighbour_1 fX3_30 rfl rfl ?_
  refine v_getR iX3_isNeighbour_4 fX3_75 rfl rfl ?_
  refine v_iload_n iX3_isNeighbour_7 rfl ?_
  refine v_iaload iX3_isNeighbour_8 rfl (by omega) (by exact (hK.2 s.toNat (by omega)).2.2) ?_
  refine v_iload_n iX3_isNeighbour_9 rfl ?_
  refine v_ishr iX3_isNeighbour_10 (by omega) (by omega) ?_
  refine v_iconst iX3_isNeighbour_11 ?_
  refine v_iand1 iX3_isNeighbour_12 (by exact div_pow_nn (by omega) _) ?_
  refine v_if_eq (tgt := 20) iX3_isNeighbour_13 (by decide) (by omega) (fun h13 => ?_) (fun h13 => ?_)
  · refine v_iconst iX3_isNeighbour_20 ?_
    exact r_b iX3_isNeighbour_21 rfl (by first | exact b2i_01 _ | decide | omega) (⟨cf_i (by first | (rw [(hasB_0 _ _).mpr h13]; rfl) | (rw [(hasB_iff _ _).mpr (by omega)]; rfl)), rfl, rfl⟩)
  · refine v_iconst iX3_isNeighbour_16 ?_
    refine v_goto (tgt := 21) iX3_isNeighbour_17 (by decide) ?_
    exact r_b iX3_isNeighbour_21 rfl (by first | exact b2i_01 _ | decide | omega) (⟨cf_i (by first | (rw [(hasB_0 _ _).mpr h13]; rfl) | (rw [(hasB_iff _ _).mpr (by omega)]; rfl)), rfl, rfl⟩)

set_option maxHeartbeats 4000000 in
set_option maxRecDepth 100000 in
theorem qX3_isSooner (σ α : St) {n : Nat} {V B N : Nat → Int} (hK : KV σ α n V B N) (hW : WF n V B N) (s t : Int) (hs : 0 ≤ s ∧ s < n) (ht : 0 ≤ t ∧ t < n) : CF 0 mX3_isSooner [vR 71, vI s, vI t] σ α (some (vI (b2i (ltr V B t.toNat s.toNat)))) (σ) (α) := by
  have h10 := hW.1
  have hwi := hW.2 s.toNat (by omega)
  have hwj := hW.2 t.toNat (by omega)
  have b1 := prod_b (x := V s.toNat) (y := B t.toNat) (a := 99) (b := 189) (by omega) (by omega)
  have b2 := prod_b (x := V t.toNat) (y := B s.toNat) (a := 99) (b := 189) (by omega) (by omega)
  refine CG.of [some (vR 71), some (vI s), some (vI t), none, none] (by decide) (by simp [lvA]) rfl ?_
  refine v_aload_n iX3_isSooner_0 rfl ?_
  refine v_getR iX3_isSooner_1 fX3_9 rfl rfl ?_
  refine v_iload_n iX3_isSooner_4 rfl ?_
  refine v_iaload iX3_isSooner_5 rfl (by omega) (by exact (hK.2 s.toNat (by omega)).1) ?_
  refine v_aload_n iX3_isSooner_6 rfl ?_
  refine v_getR iX3_isSooner_7 fX3_15 rfl rfl ?_
  refine v_iload_n iX3_isSooner_10 rfl ?_
  refine v_iaload iX3_isSooner_11 rfl (by omega) (by exact (hK.2 t.toNat (by omega)).2.1) ?_
  refine v_imul iX3_isSooner_12 ?_
  refine v_is3 iX3_isSooner_13 ⟨rfl, rfl⟩ ?_
  refine v_aload_n iX3_isSooner_14 rfl ?_
  refine v_getR iX3_isSooner_15 fX3_9 rfl rfl ?_
  refine v_iload_n iX3_isSooner_18 rfl ?_
  refine v_iaload iX3_isSooner_19 rfl (by omega) (by exact (hK.2 t.toNat (by omega)).1) ?_
  refine v_aload_n iX3_isSooner_20 rfl ?_
  refine v_getR iX3_isSooner_21 fX3_15 rfl rfl ?_
  refine v_iload_n iX3_isSooner_24 rfl ?_
  refine v_iaload iX3_isSooner_25 rfl (by omega) (by exact (hK.2 s.toNat (by omega)).2.1) ?_
  refine v_imul iX3_isSooner_26 ?_
  refine v_is4 iX3_isSooner_27 ⟨rfl, rfl⟩ ?_
  refine v_iload_n iX3_isSooner_29 rfl ?_
  refine v_iload iX3_isSooner_30 rfl ?_
  refine v_icmp_lt (tgt := 46) iX3_isSooner_32 (by decide) (by omega) (fun h32 => ?_) (fun h32 => ?_)
  · refine v_iconst iX3_isSooner_46 ?_
    refine v_goto (tgt := 51) iX3_isSooner_47 (by decide) ?_
    exact r_b iX3_isSooner_51 rfl (by first | exact b2i_01 _ | decide | omega) (⟨cf_i (by unfold ltr; first | exact (b2i_pos (by omega)).symm | exact (b2i_neg (by omega)).symm), rfl, rfl⟩)
  · refine v_iload_n iX3_isSooner_35 rfl ?_
    refine v_iload iX3_isSooner_36 rfl ?_
    refine v_icmp_ne (tgt := 50) iX3_isSooner_38 (by decide) (by omega) (fun h38 => ?_) (fun h38 => ?_)
    · refine v_iconst iX3_isSooner_50 ?_
      exact r_b iX3_isSooner_51 rfl (by first | exact b2i_01 _ | decide | omega) (⟨cf_i (by unfold ltr; first | exact (b2i_pos (by omega)).symm | exact (b2i_neg (by omega)).symm), rfl, rfl⟩)
    · refine v_iload_n iX3_isSooner_41 rfl ?_
      refine v_iload_n iX3_isSooner_42 rfl ?_
      refine v_icmp_le (tgt := 50) iX3_isSooner_43 (by decide) (by omega) (fun h43 => ?_) (fun h43 => ?_)
      · refine v_iconst iX3_isSooner_50 ?_
        exact r_b iX3_isSooner_51 rfl (by first | exact b2i_01 _ | decide | omega) (⟨cf_i (by unfold ltr; first | exact (b2i_pos (by omega)).symm | exact (b2i_neg (by omega)).symm), rfl, rfl⟩)
      · refine v_iconst iX3_isSooner_46 ?_
        refine v_goto (tgt := 51) iX3_isSooner_47 (by decide) ?_
        exact r_b iX3_isSooner_51 rfl (by first | exact b2i_01 _ | decide | omega) (⟨cf_i (by unfold ltr; first | exact (b2i_pos (by omega)).symm | exact (b2i_neg (by omega)).symm), rfl, rfl⟩)

set_option maxHeartbeats 4000000 in
set_option maxRecDepth 100000 in
theorem qX3_later (σ α : St) {n : Nat} {V B N : Nat → Int} (hK : KV σ α n V B N) (hW : WF n V B N) (s t : Int) (hs : -1 ≤ s ∧ s < n) (ht : -1 ≤ t ∧ t < n) : CF 1 mX3_later [vR 71, vI s, vI t] σ α (some (vI (laterF V B s t))) (σ) (α) := by
  have h10 := hW.1
  refine CG.of [some (vR 71), some (vI s), some (vI t)] (by decide) (by simp [lvA]) rfl ?_
  refine v_iload_n iX3_later_0 rfl ?_
  refine v_iconst iX3_later_1 ?_
  refine v_icmp_eq (tgt := 19) iX3_later_2 (by decide) (by omega) (fun h2 => ?_) (fun h2 => ?_)
  · refine v_iload_n iX3_later_19 rfl ?_
    refine v_goto (tgt := 24) iX3_later_20 (by decide) ?_
    exact r_i iX3_later_24 rfl (⟨cf_i (by simp [laterF, *]), rfl, rfl⟩)
  · refine v_iload_n iX3_later_5 rfl ?_
    refine v_iconst iX3_later_6 ?_
    refine v_icmp_eq (tgt := 23) iX3_later_7 (by decide) (by omega) (fun h7 => ?_) (fun h7 => ?_)
    · refine v_iload_n iX3_later_23 rfl ?_
      exact r_i iX3_later_24 rfl (⟨cf_i (by simp [laterF, *]), rfl, rfl⟩)
    · refine v_aload_n iX3_later_10 rfl ?_
      refine v_iload_n iX3_later_11 rfl ?_
      refine v_iload_n iX3_later_12 rfl ?_
      refine c_V1 (Mc := mX3_isSooner) iX3_later_13 lX3_78 kX3_isSooner (qX3_isSooner σ α hK hW s t (by omega) (by omega)) (by decide) rfl rfl rfl rfl (Nat.le_of_ble_eq_true rfl) ?_
      try simp only [Int.toNat_natCast]
      refine v_bif_eq (tgt := 23) iX3_later_16 (by decide) (fun h16 => ?_) (fun h16 => ?_)
      · try simp only [Int.toNat_natCast] at h16
        refine v_iload_n iX3_later_23 rfl ?_
        exact r_i iX3_later_24 rfl (⟨cf_i (by simp [laterF, *]), rfl, rfl⟩)
      · try simp only [Int.toNat_natCast] at h16
        refine v_iload_n iX3_later_19 rfl ?_
        refine v_goto (tgt := 24) iX3_later_20 (by decide) ?_
        exact r_i iX3_later_24 rfl (⟨cf_i (by simp [laterF, *]), rfl, rfl⟩)

set_option maxHeartbeats 4000000 in
set_option maxRecDepth 100000 in
theorem qX3_latestNeighbour (σ α : St) {n : Nat} {V B N : Nat → Int} (hK : KV σ α n V B N) (hW : WF n V B N) (s : Int) (hs : 0 ≤ s ∧ s < n) : CF 2 mX3_latestNeighbour [vR 71, vI s] σ α (some (vI (latU V B (N s.toNat) n))) (σ) (α) := by
  have h10 := hW.1
  refine CG.of [some (vR 71), some (vI s), none, none] (by decide) (by simp [lvA]) rfl ?_
  refine v_iconst iX3_latestNeighbour_0 ?_
  refine v_is2 iX3_latestNeighbour_1 ⟨rfl, rfl⟩ ?_
  refine v_iconst iX3_latestNeighbour_2 ?_
  refine v_is3 iX3_latestNeighbour_3 ⟨rfl, rfl⟩ ?_
  refine ind_up (P := fun k => VV 2 mX3_latestNeighbour [vR 71, vI s] (fun r' s' a' => r' = some (vI (latU V B (N s.toNat) n)) ∧ s' = σ ∧ a' = α) σ α 4 [some (vR 71), some (vI s), some (vI (latU V B (N s.toNat) k)), some (vI (k : Int))] []) n ?_ 0 (by omega)
  intro k hk ih
  refine v_iload_n iX3_latestNeighbour_4 rfl ?_
  refine v_aload_n iX3_latestNeighbour_5 rfl ?_
  refine v_getI iX3_latestNeighbour_6 fX3_44 rfl rfl (by exact hK.1) ?_
  refine v_icmp_ge (tgt := 34) iX3_latestNeighbour_9 (by decide) (by omega) (fun h9 => ?_) (fun h9 => ?_)
  · have hkn : n = k := by omega
    subst hkn
    refine v_iload_n iX3_latestNeighbour_34 rfl ?_
    exact r_i iX3_latestNeighbour_35 rfl (⟨cf_i (by rfl), rfl, rfl⟩)
  · have hr := latU_r V B (N s.toNat) k
    refine v_aload_n iX3_latestNeighbour_12 rfl ?_
    refine v_iload_n iX3_latestNeighbour_13 rfl ?_
    refine v_iload_n iX3_latestNeighbour_14 rfl ?_
    refine c_V1 (Mc := mX3_isNeighbour) iX3_latestNeighbour_15 lX3_82 kX3_isNeighbour (qX3_isNeighbour σ α hK hW s k (by omega) (by omega)) (by decide) rfl rfl rfl rfl (Nat.le_of_ble_eq_true rfl) ?_
    try simp only [Int.toNat_natCast]
    refine v_bif_eq (tgt := 28) iX3_latestNeighbour_18 (by decide) (fun h18 => ?_) (fun h18 => ?_)
    · try simp only [Int.toNat_natCast] at h18
      refine v_in3 iX3_latestNeighbour_28 ⟨rfl, rfl⟩ ?_
      refine v_goto (tgt := 4) iX3_latestNeighbour_31 (by decide) ?_
      exact (ih (by omega)).as rfl rfl (by simp [latU_s, *]) rfl
    · try simp only [Int.toNat_natCast] at h18
      refine v_aload_n iX3_latestNeighbour_21 rfl ?_
      refine v_iload_n iX3_latestNeighbour_22 rfl ?_
      refine v_iload_n iX3_latestNeighbour_23 rfl ?_
      refine c_V1 (Mc := mX3_later) iX3_latestNeighbour_24 lX3_85 kX3_later (qX3_later σ α hK hW _ k (by omega) (by omega)) (by decide) rfl rfl rfl rfl (Nat.le_of_ble_eq_true rfl) ?_
      try simp only [Int.toNat_natCast]
      refine v_is2 iX3_latestNeighbour_27 ⟨rfl, rfl⟩ ?_
      refine v_in3 iX3_latestNeighbour_28 ⟨rfl, rfl⟩ ?_
      refine v_goto (tgt := 4) iX3_latestNeighbour_31 (by decide) ?_
      exact (ih (by omega)).as rfl rfl (by simp [latU_s, *]) rfl

set_option maxHeartbeats 4000000 in
set_option maxRecDepth 100000 in
theorem qX3_isTop (σ α : St) {n : Nat} {V B N : Nat → Int} (hK : KV σ α n V B N) (hW : WF n V B N) (s : Int) (hs : 0 ≤ s ∧ s < n) : CF 1 mX3_isTop [vR 71, vI s] σ α (some (vI (b2i (topR V B N n s.toNat)))) (σ) (α) := by
  have h10 := hW.1
  refine CG.of [some (vR 71), some (vI s), none] (by decide) (by simp [lvA]) rfl ?_
  refine v_iconst iX3_isTop_0 ?_
  refine v_is2 iX3_isTop_1 ⟨rfl, rfl⟩ ?_
  have key := ind_up (P := fun k => (∀ j, j < k → hasB (N s.toNat) j = true → ltr V B j s.toNat = false) → VV 1 mX3_isTop [vR 71, vI s] (fun r' s' a' => r' = some (vI (b2i (topR V B N n s.toNat))) ∧ s' = σ ∧ a' = α) σ α 2 [some (vR 71), some (vI s), some (vI (k : Int))] []) n ?_ 0 (by omega)
  · exact key (fun j hj => by omega)
  intro k hk ih inv
  refine v_iload_n iX3_isTop_2 rfl ?_
  refine v_aload_n iX3_isTop_3 rfl ?_
  refine v_getI iX3_isTop_4 fX3_44 rfl rfl (by exact hK.1) ?_
  refine v_icmp_ge (tgt := 36) iX3_isTop_7 (by decide) (by omega) (fun h7 => ?_) (fun h7 => ?_)
  · have hkn : n = k := by omega
    subst hkn
    have hT : topR V B N n s.toNat = true := (topR_yes hW (by omega)).mpr inv
    refine v_iconst iX3_isTop_36 ?_
    exact r_b iX3_isTop_37 rfl (by first | exact b2i_01 _ | decide | omega) (⟨cf_i (by rw [hT]; rfl), rfl, rfl⟩)
  · refine v_aload_n iX3_isTop_10 rfl ?_
    refine v_iload_n iX3_isTop_11 rfl ?_
    refine v_iload_n iX3_isTop_12 rfl ?_
    refine c_V1 (Mc := mX3_isNeighbour) iX3_isTop_13 lX3_82 kX3_isNeighbour (qX3_isNeighbour σ α hK hW s k (by omega) (by omega)) (by decide) rfl rfl rfl rfl (Nat.le_of_ble_eq_true rfl) ?_
    try simp only [Int.toNat_natCast]
    refine v_bif_eq (tgt := 30) iX3_isTop_16 (by decide) (fun h16 => ?_) (fun h16 => ?_)
    · try simp only [Int.toNat_natCast] at h16
      refine v_in2 iX3_isTop_30 ⟨rfl, rfl⟩ ?_
      refine v_goto (tgt := 2) iX3_isTop_33 (by decide) ?_
      exact (ih (by omega) (by
        intro j hj hb
        by_cases hjk : j = k
        · subst hjk
          first | exact h25 | (rw [h16] at hb; cases hb)
        · exact inv j (by omega) hb)).as rfl rfl rfl rfl
    · try simp only [Int.toNat_natCast] at h16
      refine v_aload_n iX3_isTop_19 rfl ?_
      refine v_iload_n iX3_isTop_20 rfl ?_
      refine v_iload_n iX3_isTop_21 rfl ?_
      refine c_V1 (Mc := mX3_isSooner) iX3_isTop_22 lX3_78 kX3_isSooner (qX3_isSooner σ α hK hW s k (by omega) (by omega)) (by decide) rfl rfl rfl rfl (Nat.le_of_ble_eq_true rfl) ?_
      try simp only [Int.toNat_natCast]
      refine v_bif_eq (tgt := 30) iX3_isTop_25 (by decide) (fun h25 => ?_) (fun h25 => ?_)
      · try simp only [Int.toNat_natCast] at h25
        refine v_in2 iX3_isTop_30 ⟨rfl, rfl⟩ ?_
        refine v_goto (tgt := 2) iX3_isTop_33 (by decide) ?_
        exact (ih (by omega) (by
          intro j hj hb
          by_cases hjk : j = k
          · subst hjk
            first | exact h25 | (rw [h16] at hb; cases hb)
          · exact inv j (by omega) hb)).as rfl rfl rfl rfl
      · try simp only [Int.toNat_natCast] at h25
        have hT : topR V B N n s.toNat = false := by
          rw [← Bool.not_eq_true]
          intro hT
          have := (topR_yes hW (by omega)).mp hT k (by omega) h16
          rw [this] at h25; cases h25
        refine v_iconst iX3_isTop_28 ?_
        exact r_b iX3_isTop_29 rfl (by first | exact b2i_01 _ | decide | omega) (⟨cf_i (by rw [hT]; rfl), rfl, rfl⟩)

/-- the next step up; -1 from a top -/
def nupU (V B N : Nat → Int) (n a : Nat) : Int := if topR V B N n a then -1 else latU V B (N a) n
theorem nup_r (V B N : Nat → Int) (n a : Nat) : -1 ≤ nupU V B N n a ∧ nupU V B N n a < n := by
  have h_ := latU_r V B (N a) n
  unfold nupU
  split <;> omega
theorem nup_t {n : Nat} {V B N : Nat → Int} (hW : WF n V B N) {a : Nat} (ha : a < n) (h : ¬ latU V B (N a) n = -1) : topR V B N n a = !(ltr V B (latU V B (N a) n).toNat a) := by
  cases hT : topR V B N n a
  · obtain ⟨b, hb, e, hl⟩ := topR_no hW ha hT
    rw [e, Int.toNat_natCast, hl]; rfl
  · rcases latU_spec hW (N a) n (Nat.le_refl _) with ⟨e, -⟩ | ⟨b, hb, e, hh, -⟩
    · exact absurd e h
    · rw [e, Int.toNat_natCast, (topR_yes hW ha).mp hT b hb hh]; rfl
theorem nup_y {n : Nat} {V B N : Nat → Int} (hW : WF n V B N) {a : Nat} (ha : a < n) (h : nupU V B N n a = -1) : topR V B N n a = true := by
  cases hT : topR V B N n a
  · obtain ⟨b, hb, e, hl⟩ := topR_no hW ha hT
    simp only [nupU, hT, e, Bool.false_eq_true, if_false] at h
    omega
  · rfl
theorem nup_n {n : Nat} {V B N : Nat → Int} (hW : WF n V B N) {a : Nat} (ha : a < n) (h : ¬ nupU V B N n a = -1) : ∃ b : Nat, b < n ∧ latU V B (N a) n = b ∧ ltr V B b a = true ∧ topR V B N n a = false ∧ nupU V B N n a = b := by
  cases hT : topR V B N n a
  · obtain ⟨b, hb, e, hl⟩ := topR_no hW ha hT
    exact ⟨b, hb, e, hl, rfl, by simp only [nupU, hT, e, Bool.false_eq_true, if_false]⟩
  · exact absurd (by simp only [nupU, hT, if_true]) h

set_option maxHeartbeats 4000000 in
set_option maxRecDepth 100000 in
theorem qX3_nextUp (σ α : St) {n : Nat} {V B N : Nat → Int} (hK : KV σ α n V B N) (hW : WF n V B N) (s : Int) (hs : 0 ≤ s ∧ s < n) : CF 3 mX3_nextUp [vR 71, vI s] σ α (some (vI (nupU V B N n s.toNat))) (σ) (α) := by
  have h10 := hW.1
  have hr := latU_r V B (N s.toNat) n
  refine CG.of [some (vR 71), some (vI s), none] (by decide) (by simp [lvA]) rfl ?_
  refine v_aload_n iX3_nextUp_0 rfl ?_
  refine v_iload_n iX3_nextUp_1 rfl ?_
  refine c_V1 (Mc := mX3_latestNeighbour) iX3_nextUp_2 lX3_88 kX3_latestNeighbour (qX3_latestNeighbour σ α hK hW s (by omega)) (by decide) rfl rfl rfl rfl (Nat.le_of_ble_eq_true rfl) ?_
  try simp only [Int.toNat_natCast]
  refine v_is2 iX3_nextUp_5 ⟨rfl, rfl⟩ ?_
  refine v_iload_n iX3_nextUp_6 rfl ?_
  refine v_iconst iX3_nextUp_7 ?_
  refine v_icmp_eq (tgt := 24) iX3_nextUp_8 (by decide) (by omega) (fun h8 => ?_) (fun h8 => ?_)
  · refine v_iconst iX3_nextUp_24 ?_
    exact r_i iX3_nextUp_25 rfl (⟨cf_i (by first | (simp [nupU, nup_t hW (show s.toNat < n by omega) h8, h17]; done) | simp [nupU, topR, h8]), rfl, rfl⟩)
  · refine v_aload_n iX3_nextUp_11 rfl ?_
    refine v_iload_n iX3_nextUp_12 rfl ?_
    refine v_iload_n iX3_nextUp_13 rfl ?_
    refine c_V1 (Mc := mX3_isSooner) iX3_nextUp_14 lX3_78 kX3_isSooner (qX3_isSooner σ α hK hW s _ (by omega) (by omega)) (by decide) rfl rfl rfl rfl (Nat.le_of_ble_eq_true rfl) ?_
    try simp only [Int.toNat_natCast]
    refine v_bif_eq (tgt := 24) iX3_nextUp_17 (by decide) (fun h17 => ?_) (fun h17 => ?_)
    · try simp only [Int.toNat_natCast] at h17
      refine v_iconst iX3_nextUp_24 ?_
      exact r_i iX3_nextUp_25 rfl (⟨cf_i (by first | (simp [nupU, nup_t hW (show s.toNat < n by omega) h8, h17]; done) | simp [nupU, topR, h8]), rfl, rfl⟩)
    · try simp only [Int.toNat_natCast] at h17
      refine v_iload_n iX3_nextUp_20 rfl ?_
      refine v_goto (tgt := 25) iX3_nextUp_21 (by decide) ?_
      exact r_i iX3_nextUp_25 rfl (⟨cf_i (by first | (simp [nupU, nup_t hW (show s.toNat < n by omega) h8, h17]; done) | simp [nupU, topR, h8]), rfl, rfl⟩)

set_option maxHeartbeats 4000000 in
set_option maxRecDepth 100000 in
theorem qX3_climb (σ α : St) {n : Nat} {V B N : Nat → Int} (hK : KV σ α n V B N) (hW : WF n V B N) (s : Int) (hs : 0 ≤ s ∧ s < n) : CF 4 mX3_climb [vR 71, vI s] σ α (none) (σ) (uA (uA α 74 (uF (α 74) s.toNat ((clm V B N n 10 s.toNat).1 : Int))) 75 (uF (α 75) s.toNat ((clm V B N n 10 s.toNat).2 : Int))) := by
  have h10 := hW.1
  refine CG.of [some (vR 71), some (vI s), none, none, none] (by decide) (by simp [lvA]) rfl ?_
  refine v_iload_n iX3_climb_0 rfl ?_
  refine v_is2 iX3_climb_1 ⟨rfl, rfl⟩ ?_
  refine v_aload_n iX3_climb_2 rfl ?_
  refine v_iload_n iX3_climb_3 rfl ?_
  refine c_V1 (Mc := mX3_nextUp) iX3_climb_4 lX3_91 kX3_nextUp (qX3_nextUp σ α hK hW s (by omega)) (by decide) rfl rfl rfl rfl (Nat.le_of_ble_eq_true rfl) ?_
  try simp only [Int.toNat_natCast]
  refine v_is3 iX3_climb_7 ⟨rfl, rfl⟩ ?_
  refine v_iconst iX3_climb_8 ?_
  refine v_is4 iX3_climb_9 ⟨rfl, rfl⟩ ?_
  have key : ∀ (f a : Nat) (s0 : Int), a < n → rnk V B n a < f → 0 ≤ s0 ∧ s0 + f = 10 → (clm V B N n 10 s.toNat).1 = (clm V B N n f a).1 → ((clm V B N n 10 s.toNat).2 : Int) = s0 + (clm V B N n f a).2 → VV 4 mX3_climb [vR 71, vI s] (fun r' s' a' => r' = none ∧ s' = σ ∧ a' = uA (uA α 74 (uF (α 74) s.toNat ((clm V B N n 10 s.toNat).1 : Int))) 75 (uF (α 75) s.toNat ((clm V B N n 10 s.toNat).2 : Int))) σ α 11 [some (vR 71), some (vI s), some (vI (a : Int)), some (vI (nupU V B N n a)), some (vI s0)] [] := by
    intro f
    induction f with
    | zero => intro a s0 _ h; exact absurd h (by omega)
    | succ f ih =>
      intro a s0 ha hf hs0 e1 e2
      refine v_iload iX3_climb_11 rfl ?_
      refine v_bipush iX3_climb_13 (by decide) ?_
      refine v_icmp_ge (tgt := 37) iX3_climb_15 (by decide) (by omega) (fun h15_ => (by exfalso; omega)) (fun h15_ => ?_)
      have hr := nup_r V B N n a
      refine v_iload_n iX3_climb_18 rfl ?_
      refine v_iconst iX3_climb_19 ?_
      refine v_icmp_eq (tgt := 37) iX3_climb_20 (by decide) (by omega) (fun h20 => ?_) (fun h20 => ?_)
      · rw [clm_y (nup_y hW ha h20)] at e1 e2
        refine v_aload_n iX3_climb_37 rfl ?_
        refine v_getR iX3_climb_38 fX3_18 rfl rfl ?_
        refine v_iload_n iX3_climb_41 rfl ?_
        refine v_iload_n iX3_climb_42 rfl ?_
        refine v_iastore iX3_climb_43 rfl (by omega) ?_
        refine v_aload_n iX3_climb_44 rfl ?_
        refine v_getR iX3_climb_45 fX3_21 rfl rfl ?_
        refine v_iload_n iX3_climb_48 rfl ?_
        refine v_iload iX3_climb_49 rfl ?_
        refine v_iastore iX3_climb_51 rfl (by omega) ?_
        exact r_v iX3_climb_52 rfl (⟨rfl, rfl, by rw [uA_ne _ _ (by decide), e1, show ((clm V B N n 10 s.toNat).2 : Int) = s0 by rw [e2]; omega]⟩)
      · obtain ⟨b, hb, e, hl, h15, e3⟩ := nup_n hW ha h20
        rw [clm_n h15 e] at e1 e2
        rw [e3]
        refine v_iload_n iX3_climb_23 rfl ?_
        refine v_is2 iX3_climb_24 ⟨rfl, rfl⟩ ?_
        refine v_aload_n iX3_climb_25 rfl ?_
        refine v_iload_n iX3_climb_26 rfl ?_
        refine c_V1 (Mc := mX3_nextUp) iX3_climb_27 lX3_91 kX3_nextUp (qX3_nextUp σ α hK hW b (by omega)) (by decide) rfl rfl rfl rfl (Nat.le_of_ble_eq_true rfl) ?_
        try simp only [Int.toNat_natCast]
        refine v_is3 iX3_climb_30 ⟨rfl, rfl⟩ ?_
        refine v_in4 iX3_climb_31 ⟨rfl, rfl⟩ ?_
        refine v_goto (tgt := 11) iX3_climb_34 (by decide) ?_
        exact (ih b (s0 + 1) hb (by have := rnk_lt hW ha hb hl; omega) (by omega) e1 (by rw [e2]; omega)).as rfl rfl rfl rfl
  exact (key 10 s.toNat 0 (by omega) (rnk_n hW (by omega)) (by omega) rfl (by omega)).as rfl rfl (by simp; omega) rfl

set_option maxHeartbeats 4000000 in
set_option maxRecDepth 100000 in
theorem qX3_basin (σ α : St) {n : Nat} {V B N : Nat → Int} (hK : KV σ α n V B N) (hW : WF n V B N) (hS : ∀ i, i < n → α 74 i = ((clm V B N n 10 i).1 : Int)) (t : Int) (ht : InR t) : CF 0 mX3_basin [vR 71, vI t] σ α (some (vI ((msk (fun j => decide (((clm V B N n 10 j).1 : Int) = t)) n : Nat) : Int))) (σ) (α) := by
  have h10 := hW.1
  refine CG.of [some (vR 71), some (vI t), none, none] (by decide) (by simp [lvA]) rfl ?_
  refine v_iconst iX3_basin_0 ?_
  refine v_is2 iX3_basin_1 ⟨rfl, rfl⟩ ?_
  refine v_iconst iX3_basin_2 ?_
  refine v_is3 iX3_basin_3 ⟨rfl, rfl⟩ ?_
  refine ind_up (P := fun k => VV 0 mX3_basin [vR 71, vI t] (fun r' s' a' => r' = some (vI ((msk (fun j => decide (((clm V B N n 10 j).1 : Int) = t)) n : Nat) : Int)) ∧ s' = σ ∧ a' = α) σ α 4 [some (vR 71), some (vI t), some (vI ((msk (fun j => decide (((clm V B N n 10 j).1 : Int) = t)) k : Nat) : Int)), some (vI (k : Int))] []) n ?_ 0 (by omega)
  intro k hk ih
  refine v_iload_n iX3_basin_4 rfl ?_
  refine v_aload_n iX3_basin_5 rfl ?_
  refine v_getI iX3_basin_6 fX3_44 rfl rfl (by exact hK.1) ?_
  refine v_icmp_ge (tgt := 34) iX3_basin_9 (by decide) (by omega) (fun h9 => ?_) (fun h9 => ?_)
  · have hkn : n = k := by omega
    subst hkn
    refine v_iload_n iX3_basin_34 rfl ?_
    exact r_i iX3_basin_35 rfl (⟨cf_i (by rfl), rfl, rfl⟩)
  · refine v_aload_n iX3_basin_12 rfl ?_
    refine v_getR iX3_basin_13 fX3_18 rfl rfl ?_
    refine v_iload_n iX3_basin_16 rfl ?_
    refine v_iaload iX3_basin_17 rfl (by omega) (by exact hS k (by omega)) ?_
    refine v_iload_n iX3_basin_18 rfl ?_
    refine v_icmp_ne (tgt := 28) iX3_basin_19 (by decide) (by have := clm_in hW 10 k (by omega); exact ⟨⟨by omega, by omega⟩, ht⟩) (fun h19 => ?_) (fun h19 => ?_)
    · refine v_in3 iX3_basin_28 ⟨rfl, rfl⟩ ?_
      refine v_goto (tgt := 4) iX3_basin_31 (by decide) ?_
      refine (ih (by omega)).as rfl rfl ?_ rfl
      simp only [msk, h19, decide_true, decide_false, Bool.false_eq_true, if_true, if_false, Int.toNat_natCast, Nat.or_zero]; rfl
    · refine v_iload_n iX3_basin_22 rfl ?_
      refine v_iconst iX3_basin_23 ?_
      refine v_iload_n iX3_basin_24 rfl ?_
      refine v_ishl1 iX3_basin_25 (by omega) ?_
      refine v_ior iX3_basin_26 (by refine ⟨?_, ?_⟩ <;> first | exact Int.natCast_nonneg _ | omega) ?_
      refine v_is2 iX3_basin_27 ⟨rfl, rfl⟩ ?_
      refine v_in3 iX3_basin_28 ⟨rfl, rfl⟩ ?_
      refine v_goto (tgt := 4) iX3_basin_31 (by decide) ?_
      refine (ih (by omega)).as rfl rfl ?_ rfl
      simp only [msk, h19, decide_true, decide_false, Bool.false_eq_true, if_true, if_false, Int.toNat_natCast, Nat.or_zero]; rfl

theorem inc2_r (V B : Nat → Int) (c : Nat → Nat → Bool) (e : Nat → Nat → Nat) {n i : Nat} (he : ∀ i j, i < n → j < n → e i j < n) (hi : i < n) {a : Int} (ha : -1 ≤ a ∧ a < n) : ∀ k, k ≤ n → -1 ≤ inc2 V B c e i a k ∧ inc2 V B c e i a k < n
  | 0, _ => ha
  | k + 1, hk => by
    have ih := inc2_r V B c e he hi ha k (by omega)
    have hek := he i k hi (by omega)
    unfold inc2
    split
    · exact laterF_r ih (by omega)
    · exact ih
theorem inc1_r (V B : Nat → Int) (c : Nat → Nat → Bool) (e : Nat → Nat → Nat) {n : Nat} (he : ∀ i j, i < n → j < n → e i j < n) : ∀ k, k ≤ n → -1 ≤ inc1 V B c e n k ∧ inc1 V B c e n k < n
  | 0, _ => by simp [inc1]; omega
  | k + 1, hk => inc2_r V B c e he (by omega) (inc1_r V B c e he k (by omega)) n (Nat.le_refl _)

set_option maxHeartbeats 4000000 in
set_option maxRecDepth 100000 in
theorem qX3_passBetween (σ α : St) {n : Nat} {V B N : Nat → Int} (hK : KV σ α n V B N) (hW : WF n V B N) (hS : ∀ i, i < n → α 74 i = ((clm V B N n 10 i).1 : Int)) (one other : Int) (h1 : InR one) (h2 : InR other) : CF 2 mX3_passBetween [vR 71, vI one, vI other] σ α (some (vI (pasB V B N n one other))) (σ) (α) := by
  have h10 := hW.1
  refine CG.of [some (vR 71), some (vI one), some (vI other), none, none, none] (by decide) (by simp [lvA]) rfl ?_
  refine v_iconst iX3_passBetween_0 ?_
  refine v_is3 iX3_passBetween_1 ⟨rfl, rfl⟩ ?_
  refine v_iload_n iX3_passBetween_2 rfl ?_
  refine v_iload_n iX3_passBetween_3 rfl ?_
  refine v_icmp_ne (tgt := 9) iX3_passBetween_4 (by decide) (by omega) (fun h4 => ?_) (fun h4 => ?_)
  · refine v_iconst iX3_passBetween_9 ?_
    refine v_is4 iX3_passBetween_10 ⟨rfl, rfl⟩ ?_
    refine ind_up (P := fun k => VV 2 mX3_passBetween [vR 71, vI one, vI other] (fun r' s' a' => r' = some (vI (pasB V B N n one other)) ∧ s' = σ ∧ a' = α) σ α 12 [some (vR 71), some (vI one), some (vI other), some (vI (inc1 V B (pasC V B N n one other) (sooK V B) n k)), some (vI (k : Int)), none] []) n ?_ 0 (by omega)
    intro k hk ih
    refine v_iload iX3_passBetween_12 rfl ?_
    refine v_aload_n iX3_passBetween_14 rfl ?_
    refine v_getI iX3_passBetween_15 fX3_44 rfl rfl (by exact hK.1) ?_
    refine v_icmp_ge (tgt := 102) iX3_passBetween_18 (by decide) (by omega) (fun h18 => ?_) (fun h18 => ?_)
    · have hkn : n = k := by omega
      subst hkn
      refine v_iload_n iX3_passBetween_102 rfl ?_
      exact r_i iX3_passBetween_103 rfl (⟨cf_i (by rw [pasB, if_neg h4]), rfl, rfl⟩)
    · have hkn : k < n := by omega
      refine v_iconst iX3_passBetween_21 ?_
      refine v_is5 iX3_passBetween_22 ⟨rfl, rfl⟩ ?_
      refine ind_up (P := fun j => VV 2 mX3_passBetween [vR 71, vI one, vI other] (fun r' s' a' => r' = some (vI (pasB V B N n one other)) ∧ s' = σ ∧ a' = α) σ α 24 [some (vR 71), some (vI one), some (vI other), some (vI (inc2 V B (pasC V B N n one other) (sooK V B) k (inc1 V B (pasC V B N n one other) (sooK V B) n k) j)), some (vI (k : Int)), some (vI (j : Int))] []) n ?_ 0 (by omega)
      intro j hj ihj
      refine v_iload iX3_passBetween_24 rfl ?_
      refine v_aload_n iX3_passBetween_26 rfl ?_
      refine v_getI iX3_passBetween_27 fX3_44 rfl rfl (by exact hK.1) ?_
      refine v_icmp_ge (tgt := 96) iX3_passBetween_30 (by decide) (by omega) (fun h30 => ?_) (fun h30 => ?_)
      · have hjn : n = j := by omega
        subst hjn
        refine v_in4 iX3_passBetween_96 ⟨rfl, rfl⟩ ?_
        refine v_goto (tgt := 12) iX3_passBetween_99 (by decide) ?_
        exact (ih (by omega)).asw rfl rfl ⟨rfl, rfl, rfl, rfl, rfl, trivial⟩ rfl
      · have hjn : j < n := by omega
        have hkn : k < n := by omega
        have hr := inc2_r V B (pasC V B N n one other) (sooK V B) (sooK_in V B) hkn (inc1_r V B (pasC V B N n one other) (sooK V B) (sooK_in V B) k (by omega)) j hj
        refine v_aload_n iX3_passBetween_33 rfl ?_
        refine v_getR iX3_passBetween_34 fX3_18 rfl rfl ?_
        refine v_iload iX3_passBetween_37 rfl ?_
        refine v_iaload iX3_passBetween_39 rfl (by omega) (by exact hS k (by omega)) ?_
        refine v_iload_n iX3_passBetween_40 rfl ?_
        refine v_icmp_ne (tgt := 90) iX3_passBetween_41 (by decide) (by have := clm_in hW 10 k (by omega); exact ⟨⟨by omega, by omega⟩, h1⟩) (fun h41 => ?_) (fun h41 => ?_)
        · refine v_in5 iX3_passBetween_90 ⟨rfl, rfl⟩ ?_
          refine v_goto (tgt := 24) iX3_passBetween_93 (by decide) ?_
          refine (ihj (by omega)).as rfl rfl ?_ rfl
          first
            | (have e1 : pasC V B N n one other k j = true := by simp [pasC, *]
               simp only [inc2, e1, if_true, sooK, h76, Bool.false_eq_true, if_false]; rfl)
            | (have e1 : pasC V B N n one other k j = false := by simp [pasC, *]
               simp only [inc2, e1, Bool.false_eq_true, if_false]; rfl)
        · refine v_aload_n iX3_passBetween_44 rfl ?_
          refine v_getR iX3_passBetween_45 fX3_18 rfl rfl ?_
          refine v_iload iX3_passBetween_48 rfl ?_
          refine v_iaload iX3_passBetween_50 rfl (by omega) (by exact hS j (by omega)) ?_
          refine v_iload_n iX3_passBetween_51 rfl ?_
          refine v_icmp_ne (tgt := 90) iX3_passBetween_52 (by decide) (by have := clm_in hW 10 j (by omega); exact ⟨⟨by omega, by omega⟩, h2⟩) (fun h52 => ?_) (fun h52 => ?_)
          · refine v_in5 iX3_passBetween_90 ⟨rfl, rfl⟩ ?_
            refine v_goto (tgt := 24) iX3_passBetween_93 (by decide) ?_
            refine (ihj (by omega)).as rfl rfl ?_ rfl
            first
              | (have e1 : pasC V B N n one other k j = true := by simp [pasC, *]
                 simp only [inc2, e1, if_true, sooK, h76, Bool.false_eq_true, if_false]; rfl)
              | (have e1 : pasC V B N n one other k j = false := by simp [pasC, *]
                 simp only [inc2, e1, Bool.false_eq_true, if_false]; rfl)
          · refine v_aload_n iX3_passBetween_55 rfl ?_
            refine v_iload iX3_passBetween_56 rfl ?_
            refine v_iload iX3_passBetween_58 rfl ?_
            refine c_V1 (Mc := mX3_isNeighbour) iX3_passBetween_60 lX3_82 kX3_isNeighbour (qX3_isNeighbour σ α hK hW k j (by omega) (by omega)) (by decide) rfl rfl rfl rfl (Nat.le_of_ble_eq_true rfl) ?_
            try simp only [Int.toNat_natCast]
            refine v_bif_eq (tgt := 90) iX3_passBetween_63 (by decide) (fun h63 => ?_) (fun h63 => ?_)
            · try simp only [Int.toNat_natCast] at h63
              refine v_in5 iX3_passBetween_90 ⟨rfl, rfl⟩ ?_
              refine v_goto (tgt := 24) iX3_passBetween_93 (by decide) ?_
              refine (ihj (by omega)).as rfl rfl ?_ rfl
              first
                | (have e1 : pasC V B N n one other k j = true := by simp [pasC, *]
                   simp only [inc2, e1, if_true, sooK, h76, Bool.false_eq_true, if_false]; rfl)
                | (have e1 : pasC V B N n one other k j = false := by simp [pasC, *]
                   simp only [inc2, e1, Bool.false_eq_true, if_false]; rfl)
            · try simp only [Int.toNat_natCast] at h63
              refine v_aload_n iX3_passBetween_66 rfl ?_
              refine v_iload_n iX3_passBetween_67 rfl ?_
              refine v_aload_n iX3_passBetween_68 rfl ?_
              refine v_iload iX3_passBetween_69 rfl ?_
              refine v_iload iX3_passBetween_71 rfl ?_
              refine c_V1 (Mc := mX3_isSooner) iX3_passBetween_73 lX3_78 kX3_isSooner (qX3_isSooner σ α hK hW k j (by omega) (by omega)) (by decide) rfl rfl rfl rfl (Nat.le_of_ble_eq_true rfl) ?_
              try simp only [Int.toNat_natCast]
              refine v_bif_eq (tgt := 84) iX3_passBetween_76 (by decide) (fun h76 => ?_) (fun h76 => ?_)
              · try simp only [Int.toNat_natCast] at h76
                refine v_iload iX3_passBetween_84 rfl ?_
                refine c_V1 (Mc := mX3_later) iX3_passBetween_86 lX3_85 kX3_later (qX3_later σ α hK hW _ _ hr (by omega)) (by decide) rfl rfl rfl rfl (Nat.le_of_ble_eq_true rfl) ?_
                try simp only [Int.toNat_natCast]
                refine v_is3 iX3_passBetween_89 ⟨rfl, rfl⟩ ?_
                refine v_in5 iX3_passBetween_90 ⟨rfl, rfl⟩ ?_
                refine v_goto (tgt := 24) iX3_passBetween_93 (by decide) ?_
                refine (ihj (by omega)).as rfl rfl ?_ rfl
                first
                  | (have e1 : pasC V B N n one other k j = true := by simp [pasC, *]
                     simp only [inc2, e1, if_true, sooK, h76, Bool.false_eq_true, if_false]; rfl)
                  | (have e1 : pasC V B N n one other k j = false := by simp [pasC, *]
                     simp only [inc2, e1, Bool.false_eq_true, if_false]; rfl)
              · try simp only [Int.toNat_natCast] at h76
                refine v_iload iX3_passBetween_79 rfl ?_
                refine v_goto (tgt := 86) iX3_passBetween_81 (by decide) ?_
                refine c_V1 (Mc := mX3_later) iX3_passBetween_86 lX3_85 kX3_later (qX3_later σ α hK hW _ _ hr (by omega)) (by decide) rfl rfl rfl rfl (Nat.le_of_ble_eq_true rfl) ?_
                try simp only [Int.toNat_natCast]
                refine v_is3 iX3_passBetween_89 ⟨rfl, rfl⟩ ?_
                refine v_in5 iX3_passBetween_90 ⟨rfl, rfl⟩ ?_
                refine v_goto (tgt := 24) iX3_passBetween_93 (by decide) ?_
                refine (ihj (by omega)).as rfl rfl ?_ rfl
                first
                  | (have e1 : pasC V B N n one other k j = true := by simp [pasC, *]
                     simp only [inc2, e1, if_true, sooK, h76, Bool.false_eq_true, if_false]; rfl)
                  | (have e1 : pasC V B N n one other k j = false := by simp [pasC, *]
                     simp only [inc2, e1, Bool.false_eq_true, if_false]; rfl)
  · refine v_iload_n iX3_passBetween_7 rfl ?_
    exact r_i iX3_passBetween_8 rfl (⟨cf_i (by rw [pasB, if_pos h4]), rfl, rfl⟩)

set_option maxHeartbeats 4000000 in
set_option maxRecDepth 100000 in
theorem qX3_drowns (σ α : St) {n : Nat} {V B N : Nat → Int} (hK : KV σ α n V B N) (hW : WF n V B N) (c : Int) (hc : σ 3 7 = c) (hc2 : 0 ≤ c ∧ c ≤ 100) (t p : Int) (ht : 0 ≤ t ∧ t < n) (hp : -1 ≤ p ∧ p < n) : CF 0 mX3_drowns [vR 71, vI t, vI p] σ α (some (vI (b2i (decide (p ≠ -1) && high c V B p.toNat t.toNat)))) (σ) (α) := by
  have h10 := hW.1
  have hwt := hW.2 t.toNat (by omega)
  refine CG.of [some (vR 71), some (vI t), some (vI p)] (by decide) (by simp [lvA]) rfl ?_
  refine v_iload_n iX3_drowns_0 rfl ?_
  refine v_iconst iX3_drowns_1 ?_
  refine v_icmp_eq (tgt := 49) iX3_drowns_2 (by decide) (by omega) (fun h2 => ?_) (fun h2 => ?_)
  · refine v_iconst iX3_drowns_49 ?_
    exact r_b iX3_drowns_50 rfl (by first | exact b2i_01 _ | decide | omega) (⟨cf_i (by first | (simp [h2, b2i]; done) | (rw [show (decide (p ≠ -1)) = true by simp [h2], Bool.true_and]; unfold high; rw [Int.mul_comm (V p.toNat) 100]; first | exact (b2i_pos (by omega)).symm | exact (b2i_neg (by omega)).symm)), rfl, rfl⟩)
  · have hwp := hW.2 p.toNat (by omega)
    have b1 := prod_b (x := 100 * V p.toNat) (y := B t.toNat) (a := 9900) (b := 189) (by omega) (by omega)
    have b0 := prod_b (x := c) (y := V t.toNat) (a := 100) (b := 99) (by omega) (by omega)
    have b2 := prod_b (x := c * V t.toNat) (y := B p.toNat) (a := 9900) (b := 189) (by omega) (by omega)
    refine v_bipush iX3_drowns_5 (by decide) ?_
    refine v_aload_n iX3_drowns_7 rfl ?_
    refine v_getR iX3_drowns_8 fX3_9 rfl rfl ?_
    refine v_iload_n iX3_drowns_11 rfl ?_
    refine v_iaload iX3_drowns_12 rfl (by omega) (by exact (hK.2 p.toNat (by omega)).1) ?_
    refine v_imul iX3_drowns_13 ?_
    refine v_aload_n iX3_drowns_14 rfl ?_
    refine v_getR iX3_drowns_15 fX3_15 rfl rfl ?_
    refine v_iload_n iX3_drowns_18 rfl ?_
    refine v_iaload iX3_drowns_19 rfl (by omega) (by exact (hK.2 t.toNat (by omega)).2.1) ?_
    refine v_imul iX3_drowns_20 ?_
    refine v_aload_n iX3_drowns_21 rfl ?_
    refine v_getR iX3_drowns_22 fX3_30 rfl rfl ?_
    refine v_getI iX3_drowns_25 fX3_100 rfl rfl (by exact hc) ?_
    refine v_aload_n iX3_drowns_28 rfl ?_
    refine v_getR iX3_drowns_29 fX3_9 rfl rfl ?_
    refine v_iload_n iX3_drowns_32 rfl ?_
    refine v_iaload iX3_drowns_33 rfl (by omega) (by exact (hK.2 t.toNat (by omega)).1) ?_
    refine v_imul iX3_drowns_34 ?_
    refine v_aload_n iX3_drowns_35 rfl ?_
    refine v_getR iX3_drowns_36 fX3_15 rfl rfl ?_
    refine v_iload_n iX3_drowns_39 rfl ?_
    refine v_iaload iX3_drowns_40 rfl (by omega) (by exact (hK.2 p.toNat (by omega)).2.1) ?_
    refine v_imul iX3_drowns_41 ?_
    refine v_icmp_lt (tgt := 49) iX3_drowns_42 (by decide) (by omega) (fun h42 => ?_) (fun h42 => ?_)
    · refine v_iconst iX3_drowns_49 ?_
      exact r_b iX3_drowns_50 rfl (by first | exact b2i_01 _ | decide | omega) (⟨cf_i (by first | (simp [h2, b2i]; done) | (rw [show (decide (p ≠ -1)) = true by simp [h2], Bool.true_and]; unfold high; rw [Int.mul_comm (V p.toNat) 100]; first | exact (b2i_pos (by omega)).symm | exact (b2i_neg (by omega)).symm)), rfl, rfl⟩)
    · refine v_iconst iX3_drowns_45 ?_
      refine v_goto (tgt := 50) iX3_drowns_46 (by decide) ?_
      exact r_b iX3_drowns_50 rfl (by first | exact b2i_01 _ | decide | omega) (⟨cf_i (by first | (simp [h2, b2i]; done) | (rw [show (decide (p ≠ -1)) = true by simp [h2], Bool.true_and]; unfold high; rw [Int.mul_comm (V p.toNat) 100]; first | exact (b2i_pos (by omega)).symm | exact (b2i_neg (by omega)).symm)), rfl, rfl⟩)

set_option maxHeartbeats 4000000 in
set_option maxRecDepth 100000 in
theorem qX3_drowner (σ α : St) {n : Nat} {V B N : Nat → Int} (hK : KV σ α n V B N) (hW : WF n V B N) (hS : ∀ i, i < n → α 74 i = ((clm V B N n 10 i).1 : Int)) (c : Int) (hc : σ 3 7 = c) (hc2 : 0 ≤ c ∧ c ≤ 100) (t : Nat) (ht : t < n) : CF 3 mX3_drowner [vR 71, vI (t : Int)] σ α (some (vI (drwR c V B N n t))) (σ) (α) := by
  have h10 := hW.1
  refine CG.of [some (vR 71), some (vI (t : Int)), none, none] (by decide) (by simp [lvA]) rfl ?_
  refine v_iconst iX3_drowner_0 ?_
  refine v_is2 iX3_drowner_1 ⟨rfl, rfl⟩ ?_
  refine v_iconst iX3_drowner_2 ?_
  refine v_is3 iX3_drowner_3 ⟨rfl, rfl⟩ ?_
  refine ind_up (P := fun k => VV 3 mX3_drowner [vR 71, vI (t : Int)] (fun r' s' a' => r' = some (vI (drwR c V B N n t)) ∧ s' = σ ∧ a' = α) σ α 4 [some (vR 71), some (vI (t : Int)), some (vI (latU V B ((msk (drwP c V B N n t) n : Nat) : Int) k)), some (vI (k : Int))] []) n ?_ 0 (by omega)
  intro k hk ih
  refine v_iload_n iX3_drowner_4 rfl ?_
  refine v_aload_n iX3_drowner_5 rfl ?_
  refine v_getI iX3_drowner_6 fX3_44 rfl rfl (by exact hK.1) ?_
  refine v_icmp_ge (tgt := 56) iX3_drowner_9 (by decide) (by omega) (fun h9 => ?_) (fun h9 => ?_)
  · have hkn : n = k := by omega
    subst hkn
    refine v_iload_n iX3_drowner_56 rfl ?_
    exact r_i iX3_drowner_57 rfl (⟨cf_i (by rfl), rfl, rfl⟩)
  · have hkn : k < n := by omega
    have hr := latU_r V B ((msk (drwP c V B N n t) n : Nat) : Int) k
    refine v_aload_n iX3_drowner_12 rfl ?_
    refine v_iload_n iX3_drowner_13 rfl ?_
    refine c_V1 (Mc := mX3_isTop) iX3_drowner_14 lX3_61 kX3_isTop (qX3_isTop σ α hK hW k (by omega)) (by decide) rfl rfl rfl rfl (Nat.le_of_ble_eq_true rfl) ?_
    try simp only [Int.toNat_natCast]
    refine v_bif_eq (tgt := 50) iX3_drowner_17 (by decide) (fun h17 => ?_) (fun h17 => ?_)
    · try simp only [Int.toNat_natCast] at h17
      refine v_in3 iX3_drowner_50 ⟨rfl, rfl⟩ ?_
      refine v_goto (tgt := 4) iX3_drowner_53 (by decide) ?_
      refine (ih (by omega)).as rfl rfl ?_ rfl
      first
        | (have e1 : drwP c V B N n t k = true := by simp only [drwP, h17, h26, h40, Bool.and_true]
           rw [latU_s, hasB_msk hkn, e1]; rfl)
        | (have e1 : drwP c V B N n t k = false := by simp [drwP, *]
           rw [latU_s, hasB_msk hkn, e1]; rfl)
        | (have e1 : drwP c V B N n t k = false := by simp only [drwP, h17, h26, h40, Bool.and_false]
           rw [latU_s, hasB_msk hkn, e1]; rfl)
    · try simp only [Int.toNat_natCast] at h17
      refine v_aload_n iX3_drowner_20 rfl ?_
      refine v_iload_n iX3_drowner_21 rfl ?_
      refine v_iload_n iX3_drowner_22 rfl ?_
      refine c_V1 (Mc := mX3_isSooner) iX3_drowner_23 lX3_78 kX3_isSooner (qX3_isSooner σ α hK hW t k (by omega) (by omega)) (by decide) rfl rfl rfl rfl (Nat.le_of_ble_eq_true rfl) ?_
      try simp only [Int.toNat_natCast]
      refine v_bif_eq (tgt := 50) iX3_drowner_26 (by decide) (fun h26 => ?_) (fun h26 => ?_)
      · try simp only [Int.toNat_natCast] at h26
        refine v_in3 iX3_drowner_50 ⟨rfl, rfl⟩ ?_
        refine v_goto (tgt := 4) iX3_drowner_53 (by decide) ?_
        refine (ih (by omega)).as rfl rfl ?_ rfl
        first
          | (have e1 : drwP c V B N n t k = true := by simp only [drwP, h17, h26, h40, Bool.and_true]
             rw [latU_s, hasB_msk hkn, e1]; rfl)
          | (have e1 : drwP c V B N n t k = false := by simp [drwP, *]
             rw [latU_s, hasB_msk hkn, e1]; rfl)
          | (have e1 : drwP c V B N n t k = false := by simp only [drwP, h17, h26, h40, Bool.and_false]
             rw [latU_s, hasB_msk hkn, e1]; rfl)
      · try simp only [Int.toNat_natCast] at h26
        have htk : (t : Int) ≠ (k : Int) := by
          intro h
          have h : t = k := by omega
          subst h
          rw [ltr_irr] at h26; cases h26
        refine v_aload_n iX3_drowner_29 rfl ?_
        refine v_iload_n iX3_drowner_30 rfl ?_
        refine v_aload_n iX3_drowner_31 rfl ?_
        refine v_iload_n iX3_drowner_32 rfl ?_
        refine v_iload_n iX3_drowner_33 rfl ?_
        refine c_V1 (Mc := mX3_passBetween) iX3_drowner_34 lX3_94 kX3_passBetween (qX3_passBetween σ α hK hW hS t k (by omega) (by omega)) (by decide) rfl rfl rfl rfl (Nat.le_of_ble_eq_true rfl) ?_
        try simp only [Int.toNat_natCast]
        rw [pasB_eq hW htk]
        have hpr := passR_r V B N n t k
        refine c_V1 (Mc := mX3_drowns) iX3_drowner_37 lX3_97 kX3_drowns (qX3_drowns σ α hK hW c hc hc2 t _ (by omega) (by omega)) (by decide) rfl rfl rfl rfl (Nat.le_of_ble_eq_true rfl) ?_
        try simp only [Int.toNat_natCast]
        refine v_bif_eq (tgt := 50) iX3_drowner_40 (by decide) (fun h40 => ?_) (fun h40 => ?_)
        · try simp only [Int.toNat_natCast] at h40
          refine v_in3 iX3_drowner_50 ⟨rfl, rfl⟩ ?_
          refine v_goto (tgt := 4) iX3_drowner_53 (by decide) ?_
          refine (ih (by omega)).as rfl rfl ?_ rfl
          first
            | (have e1 : drwP c V B N n t k = true := by simp only [drwP, h17, h26, h40, Bool.and_true]
               rw [latU_s, hasB_msk hkn, e1]; rfl)
            | (have e1 : drwP c V B N n t k = false := by simp [drwP, *]
               rw [latU_s, hasB_msk hkn, e1]; rfl)
            | (have e1 : drwP c V B N n t k = false := by simp only [drwP, h17, h26, h40, Bool.and_false]
               rw [latU_s, hasB_msk hkn, e1]; rfl)
        · try simp only [Int.toNat_natCast] at h40
          refine v_aload_n iX3_drowner_43 rfl ?_
          refine v_iload_n iX3_drowner_44 rfl ?_
          refine v_iload_n iX3_drowner_45 rfl ?_
          refine c_V1 (Mc := mX3_later) iX3_drowner_46 lX3_85 kX3_later (qX3_later σ α hK hW _ k (by omega) (by omega)) (by decide) rfl rfl rfl rfl (Nat.le_of_ble_eq_true rfl) ?_
          try simp only [Int.toNat_natCast]
          refine v_is2 iX3_drowner_49 ⟨rfl, rfl⟩ ?_
          refine v_in3 iX3_drowner_50 ⟨rfl, rfl⟩ ?_
          refine v_goto (tgt := 4) iX3_drowner_53 (by decide) ?_
          refine (ih (by omega)).as rfl rfl ?_ rfl
          first
            | (have e1 : drwP c V B N n t k = true := by simp only [drwP, h17, h26, h40, Bool.and_true]
               rw [latU_s, hasB_msk hkn, e1]; rfl)
            | (have e1 : drwP c V B N n t k = false := by simp [drwP, *]
               rw [latU_s, hasB_msk hkn, e1]; rfl)
            | (have e1 : drwP c V B N n t k = false := by simp only [drwP, h17, h26, h40, Bool.and_false]
               rw [latU_s, hasB_msk hkn, e1]; rfl)

set_option maxHeartbeats 4000000 in
set_option maxRecDepth 100000 in
theorem qX3_headOf (σ α : St) {n : Nat} {V B N : Nat → Int} (hK : KV σ α n V B N) (hW : WF n V B N) (c : Int) (hDI : ∀ i, i < n → α 76 i = dIn c V B N n i) (s : Nat) (hs : s < n) : CF 0 mX3_headOf [vR 71, vI (s : Int)] σ α (some (vI (hdC c V B N n 10 s : Int))) (σ) (α) := by
  have h10 := hW.1
  refine CG.of [some (vR 71), some (vI (s : Int)), none, none] (by decide) (by simp [lvA]) rfl ?_
  refine v_iload_n iX3_headOf_0 rfl ?_
  refine v_is2 iX3_headOf_1 ⟨rfl, rfl⟩ ?_
  refine v_iconst iX3_headOf_2 ?_
  refine v_is3 iX3_headOf_3 ⟨rfl, rfl⟩ ?_
  have key : ∀ (f a : Nat) (s0 : Int), a < n → rnk V B n a < f → 0 ≤ s0 ∧ s0 + f = 10 → hdC c V B N n 10 s = hdC c V B N n f a → VV 0 mX3_headOf [vR 71, vI (s : Int)] (fun r' s' a' => r' = some (vI (hdC c V B N n 10 s : Int)) ∧ s' = σ ∧ a' = α) σ α 4 [some (vR 71), some (vI (s : Int)), some (vI (a : Int)), some (vI s0)] [] := by
    intro f
    induction f with
    | zero => intro a s0 _ h; exact absurd h (by omega)
    | succ f ih =>
      intro a s0 ha hf hs0 e1
      refine v_iload_n iX3_headOf_4 rfl ?_
      refine v_bipush iX3_headOf_5 (by decide) ?_
      refine v_icmp_ge (tgt := 33) iX3_headOf_7 (by decide) (by omega) (fun h7 => (by exfalso; omega)) (fun h7 => ?_)
      have hdr := dIn_r c V B N n a
      refine v_aload_n iX3_headOf_10 rfl ?_
      refine v_getR iX3_headOf_11 fX3_24 rfl rfl ?_
      refine v_iload_n iX3_headOf_14 rfl ?_
      refine v_iaload iX3_headOf_15 rfl (by omega) (by exact hDI a ha) ?_
      refine v_iconst iX3_headOf_16 ?_
      refine v_icmp_eq (tgt := 33) iX3_headOf_17 (by decide) (by omega) (fun h17 => ?_) (fun h17 => ?_)
      · refine v_iload_n iX3_headOf_33 rfl ?_
        exact r_i iX3_headOf_34 rfl (⟨cf_i (by rw [e1, hdC_y h17]), rfl, rfl⟩)
      · obtain ⟨b, hb, e, hl⟩ := dIn_lt hW h17
        refine v_aload_n iX3_headOf_20 rfl ?_
        refine v_getR iX3_headOf_21 fX3_24 rfl rfl ?_
        refine v_iload_n iX3_headOf_24 rfl ?_
        refine v_iaload iX3_headOf_25 rfl (by omega) (by exact hDI a ha) ?_
        rw [e]
        refine v_is2 iX3_headOf_26 ⟨rfl, rfl⟩ ?_
        refine v_in3 iX3_headOf_27 ⟨rfl, rfl⟩ ?_
        refine v_goto (tgt := 4) iX3_headOf_30 (by decide) ?_
        exact (ih b (s0 + 1) hb (by have := rnk_lt hW ha hb hl; omega) (by omega) (by rw [e1, hdC_n h17 e])).as rfl rfl rfl rfl
  exact key 10 s 0 hs (rnk_n hW hs) (by omega) rfl
