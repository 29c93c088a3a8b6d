theorem putAt_same (F : Nat → Int) {b : Nat} {f : Nat → Int} (h : ∀ j, j < 8 → F (b + j) = f j) : putAt F b f = F := by
  funext i
  unfold putAt
  split
  · rename_i hi
    rw [← h (i - b) (by omega), show b + (i - b) = i by omega]
  · rfl

set_option maxHeartbeats 4000000 in
set_option maxRecDepth 100000 in
theorem qX8_sort (σ α : St) (k : Nat) (hk : k < 3) {z kd : Int} {f : Nat → Int} (hB : RB α k z kd f) : CG 2 mX8_sort [vR 95, vI (k : Int)] σ α (fun r' s' a' => r' = some (vI (if z < 0 then -11 else z)) ∧ s' = σ ∧ RB a' k (z) (kd) (if z < 0 then f else srtU f (z - 1).toNat) ∧ FrR k α a') := by
  obtain ⟨hz, hzr, hkd, hkr, hf⟩ := id hB
  refine CG.of [some (vR 95), some (vI (k : Int)), none, none, none] (by decide) (by simp [lvA]) rfl ?_
  refine v_iload_n iX8_sort_0 rfl ?_
  refine c_S1 (Mc := mX8_isBin) iX8_sort_1 lX8_230 kX8_isBin (qX8_isBin σ α _ (by omega)) (by decide) rfl rfl (Nat.le_of_ble_eq_true rfl) ?_
  try simp only [Int.toNat_natCast]
  refine v_bif_ne (tgt := 10) iX8_sort_4 (by decide) (fun h4 => ?_) (fun h4 => (by exfalso; simp at h4; omega))
  refine v_aload_n iX8_sort_10 rfl ?_
  refine v_getR iX8_sort_11 fX8_39 rfl rfl ?_
  refine v_iload_n iX8_sort_14 rfl ?_
  refine v_iaload iX8_sort_15 rfl (by omega) (by exact hz) ?_
  refine v_if_ge (tgt := 22) iX8_sort_16 (by decide) (by omega) (fun h16 => ?_) (fun h16 => ?_)
  · refine v_bipush iX8_sort_22 (by decide) ?_
    refine v_iload_n iX8_sort_24 rfl ?_
    refine v_imul iX8_sort_25 ?_
    refine v_iconst iX8_sort_26 ?_
    refine v_iadd iX8_sort_27 ?_
    refine v_is2 iX8_sort_28 ⟨rfl, rfl⟩ ?_
    refine V.asw (ind_up (P := fun q => VV 2 mX8_sort [vR 95, vI (k : Int)] (fun r' s' a' => r' = some (vI (if z < 0 then -11 else z)) ∧ s' = σ ∧ RB a' k (z) (kd) (if z < 0 then f else srtU f (z - 1).toNat) ∧ FrR k α a') σ (uA α 104 (putAt (α 104) (8 * k) (srtU f q))) 29 [some (vR 95), some (vI (k : Int)), some (vI (8 * (k : Int) + ((q + 1 : Nat) : Int))), none, none] []) (z - 1).toNat ?_ 0 (by omega)) rfl (by rw [srtU, putAt_same _ (fun j hj => (hf j hj).1), uA_id]) ⟨rfl, rfl, cf_i (by omega), trivial⟩ rfl
    intro q hq ih
    refine v_iload_n iX8_sort_29 rfl ?_
    refine v_bipush iX8_sort_30 (by decide) ?_
    refine v_iload_n iX8_sort_32 rfl ?_
    refine v_imul iX8_sort_33 ?_
    refine v_aload_n iX8_sort_34 rfl ?_
    refine v_getR iX8_sort_35 fX8_39 rfl rfl ?_
    refine v_iload_n iX8_sort_38 rfl ?_
    refine v_iaload iX8_sort_39 rfl (by omega) (by exact (show _ = z by rw [uA_ne _ _ (by decide)]; exact hz)) ?_
    refine v_iadd iX8_sort_40 ?_
    refine v_icmp_ge (tgt := 112) iX8_sort_41 (by decide) (by omega) (fun h41 => ?_) (fun h41 => ?_)
    · have hqz : (z - 1).toNat = q := by omega
      refine v_aload_n iX8_sort_112 rfl ?_
      refine v_getR iX8_sort_113 fX8_39 rfl rfl ?_
      refine v_iload_n iX8_sort_116 rfl ?_
      refine v_iaload iX8_sort_117 rfl (by omega) (by exact (show _ = z by rw [uA_ne _ _ (by decide)]; exact hz)) ?_
      exact r_i iX8_sort_118 rfl (⟨cf_i (by rw [if_neg (by omega)]), rfl, by rw [if_neg (by omega), hqz]; exact hB.put (srtU_r f (fun i hi => (hf i hi).2) q (by omega)), (FrR.rf _ _).put _⟩)
    · have hsr := srtU_r f (fun i hi => (hf i hi).2) q (by omega)
      have hsv := hsr (q + 1) (by omega)
      refine v_aload_n iX8_sort_44 rfl ?_
      refine v_getR iX8_sort_45 fX8_45 rfl rfl ?_
      refine v_iload_n iX8_sort_48 rfl ?_
      refine v_iaload iX8_sort_49 rfl (by omega) (by exact (show _ = srtU f q (q + 1) by rw [uA_eq, show (8 * (k : Int) + ((q + 1 : Nat) : Int)).toNat = 8 * k + (q + 1) by omega, putAt_at _ (by omega)])) ?_
      refine v_is3 iX8_sort_50 ⟨rfl, rfl⟩ ?_
      refine v_iload_n iX8_sort_51 rfl ?_
      refine v_is4 iX8_sort_52 ⟨rfl, rfl⟩ ?_
      have keyj : ∀ (j : Nat) (g : Nat → Int), (∀ i, i < 8 → 0 ≤ g i ∧ g i ≤ 30000) → j < 8 → insU (srtU f q (q + 1)) (q + 1) (srtU f q) = insU (srtU f q (q + 1)) j g → VV 2 mX8_sort [vR 95, vI (k : Int)] (fun r' s' a' => r' = some (vI (if z < 0 then -11 else z)) ∧ s' = σ ∧ RB a' k (z) (kd) (if z < 0 then f else srtU f (z - 1).toNat) ∧ FrR k α a') σ (uA α 104 (putAt (α 104) (8 * k) g)) 54 [some (vR 95), some (vI (k : Int)), some (vI (8 * (k : Int) + ((q + 1 : Nat) : Int))), some (vI (srtU f q (q + 1))), some (vI (8 * (k : Int) + (j : Int)))] [] := by
        intro j
        induction j with
        | zero =>
          intro g hg hj e1
          refine v_iload iX8_sort_54 rfl ?_
          refine v_bipush iX8_sort_56 (by decide) ?_
          refine v_iload_n iX8_sort_58 rfl ?_
          refine v_imul iX8_sort_59 ?_
          refine v_icmp_le (tgt := 98) iX8_sort_60 (by decide) (by omega) (fun h60 => ?_) (fun h60 => absurd (by omega) h60)
          refine v_aload_n iX8_sort_98 rfl ?_
          refine v_getR iX8_sort_99 fX8_45 rfl rfl ?_
          refine v_iload iX8_sort_102 rfl ?_
          refine v_iload_n iX8_sort_104 rfl ?_
          refine v_iastore iX8_sort_105 rfl (by omega) ?_
          refine v_in2 iX8_sort_106 ⟨rfl, rfl⟩ ?_
          refine v_goto (tgt := 29) iX8_sort_109 (by decide) ?_
          exact (ih (by omega)).asw rfl (by rw [uA_eq, uA_uA, show (8 * (k : Int) + ((0 : Nat) : Int)).toNat = 8 * k + 0 by omega, putAt_uF _ (by omega), srtU, e1, insU]) ⟨rfl, rfl, cf_i (by omega), trivial⟩ rfl
        | succ j ihj =>
          intro g hg hj e1
          refine v_iload iX8_sort_54 rfl ?_
          refine v_bipush iX8_sort_56 (by decide) ?_
          refine v_iload_n iX8_sort_58 rfl ?_
          refine v_imul iX8_sort_59 ?_
          refine v_icmp_le (tgt := 98) iX8_sort_60 (by decide) (by omega) (fun h60 => (by exfalso; omega)) (fun h60 => ?_)
          have hgj := hg j (by omega)
          refine v_aload_n iX8_sort_63 rfl ?_
          refine v_getR iX8_sort_64 fX8_45 rfl rfl ?_
          refine v_iload iX8_sort_67 rfl ?_
          refine v_iconst iX8_sort_69 ?_
          refine v_isub iX8_sort_70 ?_
          refine v_iaload iX8_sort_71 rfl (by omega) (by exact (show _ = g j by rw [uA_eq, show (8 * (k : Int) + ((j + 1 : Nat) : Int) - 1).toNat = 8 * k + j by omega, putAt_at _ (by omega)])) ?_
          refine v_iload_n iX8_sort_72 rfl ?_
          refine v_icmp_le (tgt := 98) iX8_sort_73 (by decide) (by omega) (fun h73 => ?_) (fun h73 => ?_)
          · refine v_aload_n iX8_sort_98 rfl ?_
            refine v_getR iX8_sort_99 fX8_45 rfl rfl ?_
            refine v_iload iX8_sort_102 rfl ?_
            refine v_iload_n iX8_sort_104 rfl ?_
            refine v_iastore iX8_sort_105 rfl (by omega) ?_
            refine v_in2 iX8_sort_106 ⟨rfl, rfl⟩ ?_
            refine v_goto (tgt := 29) iX8_sort_109 (by decide) ?_
            exact (ih (by omega)).asw rfl (by rw [uA_eq, uA_uA, show (8 * (k : Int) + ((j + 1 : Nat) : Int)).toNat = 8 * k + (j + 1) by omega, putAt_uF _ (by omega), srtU, e1, insU, if_neg (by omega)]) ⟨rfl, rfl, cf_i (by omega), trivial⟩ rfl
          · refine v_aload_n iX8_sort_76 rfl ?_
            refine v_getR iX8_sort_77 fX8_45 rfl rfl ?_
            refine v_iload iX8_sort_80 rfl ?_
            refine v_aload_n iX8_sort_82 rfl ?_
            refine v_getR iX8_sort_83 fX8_45 rfl rfl ?_
            refine v_iload iX8_sort_86 rfl ?_
            refine v_iconst iX8_sort_88 ?_
            refine v_isub iX8_sort_89 ?_
            refine v_iaload iX8_sort_90 rfl (by omega) (by exact (show _ = g j by rw [uA_eq, show (8 * (k : Int) + ((j + 1 : Nat) : Int) - 1).toNat = 8 * k + j by omega, putAt_at _ (by omega)])) ?_
            refine v_iastore iX8_sort_91 rfl (by omega) ?_
            refine v_in4 iX8_sort_92 ⟨rfl, rfl⟩ ?_
            refine v_goto (tgt := 54) iX8_sort_95 (by decide) ?_
            exact (ihj (uF g (j + 1) (g j)) (by
              intro i hi
              unfold uF
              split
              · exact hgj
              · exact hg i hi) (by omega) (by rw [e1, insU, if_pos (by omega)])).asw rfl (by rw [uA_eq, uA_uA, show (8 * (k : Int) + ((j + 1 : Nat) : Int)).toNat = 8 * k + (j + 1) by omega, putAt_uF _ (by omega)]) ⟨rfl, rfl, rfl, rfl, cf_i (by omega), trivial⟩ rfl
      exact (keyj (q + 1) _ hsr (by omega) rfl).as rfl rfl rfl rfl
  · refine v_bipush iX8_sort_19 (by decide) ?_
    exact r_i iX8_sort_21 rfl (⟨cf_i (by rw [if_pos (by omega)]), rfl, by rw [if_pos (by omega)]; exact hB, FrR.rf _ _⟩)
