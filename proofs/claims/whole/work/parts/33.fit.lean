set_option maxHeartbeats 4000000 in
set_option maxRecDepth 100000 in
theorem qJ7_fill_53178 (σ α : St) (q L : Nat) (hq : LA[q]? = some (yA 0 L)) (hL : L ≤ 1000) (v : Int) : CF 0 mJ7_fill_53178 [vR q, vI v] σ α (none) (σ) (uA α q (cpA (fun _ => v) (α q) L)) := by
  refine CG.of [some (vR q), some (vI v), none, none] (by decide) (by simp [lvA]) rfl ?_
  refine v_iconst iJ7_fill_53178_0 ?_
  refine v_is2 iJ7_fill_53178_1 ⟨rfl, rfl⟩ ?_
  refine v_aload_n iJ7_fill_53178_2 rfl ?_
  refine v_alen iJ7_fill_53178_3 (by assumption) rfl (by omega) ?_
  refine v_is3 iJ7_fill_53178_4 ⟨rfl, rfl⟩ ?_
  have key := ind_up (P := fun k => VV 0 mJ7_fill_53178 [vR q, vI v] (fun r' s' a' => r' = none ∧ s' = σ ∧ a' = uA α q (cpA (fun _ => v) (α q) L)) σ (uA α q (cpA (fun _ => v) (α q) k)) 5 [some (vR q), some (vI v), some (vI (k : Int)), some (vI (L : Int))] []) L ?_ 0 (by omega)
  · exact key.as rfl (by rw [show cpA (fun _ => v) (α q) 0 = α q by funext i; simp [cpA], uA_id]) rfl rfl
  intro k hk ih
  refine v_iload_n iJ7_fill_53178_5 rfl ?_
  refine v_iload_n iJ7_fill_53178_6 rfl ?_
  refine v_icmp_ge (tgt := 20) iJ7_fill_53178_7 (by decide) (by omega) (fun h7 => ?_) (fun h7 => ?_)
  · have hkn : L = k := by omega
    subst hkn
    exact r_v iJ7_fill_53178_20 rfl (⟨rfl, rfl, rfl⟩)
  · refine v_aload_n iJ7_fill_53178_10 rfl ?_
    refine v_iload_n iJ7_fill_53178_11 rfl ?_
    refine v_iload_n iJ7_fill_53178_12 rfl ?_
    refine v_iastore iJ7_fill_53178_13 (by assumption) (by omega) ?_
    refine v_in2 iJ7_fill_53178_14 ⟨rfl, rfl⟩ ?_
    refine v_goto (tgt := 5) iJ7_fill_53178_17 (by decide) ?_
    exact (ih (by omega)).as rfl (by
      rw [uA_eq, uA_uA, Int.toNat_natCast]
      congr 1
      funext i
      by_cases h : i = k
      · subst h; simp [uF, cpA]
      · by_cases h2 : i < k
        · simp [uF, cpA, h, h2]; omega
        · have : ¬ i < k + 1 := by omega
          simp [uF, cpA, h, h2, this]) rfl rfl

set_option maxHeartbeats 4000000 in
set_option maxRecDepth 100000 in
theorem qX1_clear (σ α : St) (p : Nat) (hp : isFit p) : CF 1 mX1_clear [vR p] σ α (none) (uS σ p 4 0) (uA α (p + 1) (cpA (fun _ => 0) (α (p + 1)) 10)) := by
  obtain ⟨p0, p1, p2, p3, p4⟩ := hp
  refine CG.of [some (vR p)] (by decide) (by simp [lvA]) rfl ?_
  refine v_aload_n iX1_clear_0 rfl ?_
  refine v_getR iX1_clear_1 fX1_9 (by assumption) rfl ?_
  refine v_iconst iX1_clear_4 ?_
  refine c_S0 (Mc := mJ7_fill_53178) iX1_clear_5 lX1_24 kJ7_fill_53178 (qJ7_fill_53178 σ α (p + 1) 10 p1 (by omega) 0) (by decide) rfl rfl (Nat.le_of_ble_eq_true rfl) ?_
  try simp only [Int.toNat_natCast]
  refine v_aload_n iX1_clear_8 rfl ?_
  refine v_iconst iX1_clear_9 ?_
  refine v_put iX1_clear_10 pX1_30 (by assumption) rfl (by intro h; cases h) ?_
  exact r_v iX1_clear_13 rfl (⟨rfl, rfl, rfl⟩)

set_option maxHeartbeats 4000000 in
set_option maxRecDepth 100000 in
theorem qX1_copyFrom (σ α : St) (p q : Nat) (hp : isFit p) (hq : isFit q) (hpq : p + 5 ≤ q ∨ q + 5 ≤ p) : CF 2 mX1_copyFrom [vR p, vR q] σ α (none) (fcS σ p q) (fcA α p q) := by
  obtain ⟨p0, p1, p2, p3, p4⟩ := hp
  obtain ⟨q0, q1, q2, q3, q4⟩ := hq
  refine CG.of [some (vR p), some (vR q)] (by decide) (by simp [lvA]) rfl ?_
  refine v_aload_n iX1_copyFrom_0 rfl ?_
  refine v_getR iX1_copyFrom_1 fX1_9 (by assumption) rfl ?_
  refine v_iconst iX1_copyFrom_4 ?_
  refine v_aload_n iX1_copyFrom_5 rfl ?_
  refine v_getR iX1_copyFrom_6 fX1_9 (by assumption) rfl ?_
  refine v_iconst iX1_copyFrom_9 ?_
  refine v_bipush iX1_copyFrom_10 (by decide) ?_
  refine v_copy (f := α (q + 1)) (g := α (p + 1)) iX1_copyFrom_12 (gw_t 298 (by decide +kernel) rfl) (by assumption) (by assumption) (by omega) (by decide) (Nat.le_of_ble_eq_true rfl) (by first | rfl | (repeat rw [uA_ne _ _ (by omega)])) (by first | rfl | (repeat rw [uA_ne _ _ (by omega)])) ?_
  refine v_aload_n iX1_copyFrom_15 rfl ?_
  refine v_getR iX1_copyFrom_16 fX1_15 (by assumption) rfl ?_
  refine v_iconst iX1_copyFrom_19 ?_
  refine v_aload_n iX1_copyFrom_20 rfl ?_
  refine v_getR iX1_copyFrom_21 fX1_15 (by assumption) rfl ?_
  refine v_iconst iX1_copyFrom_24 ?_
  refine v_bipush iX1_copyFrom_25 (by decide) ?_
  refine v_copy (f := α (q + 2)) (g := α (p + 2)) iX1_copyFrom_27 (gw_t 298 (by decide +kernel) rfl) (by assumption) (by assumption) (by omega) (by decide) (Nat.le_of_ble_eq_true rfl) (by first | rfl | (repeat rw [uA_ne _ _ (by omega)])) (by first | rfl | (repeat rw [uA_ne _ _ (by omega)])) ?_
  refine v_aload_n iX1_copyFrom_30 rfl ?_
  refine v_getR iX1_copyFrom_31 fX1_18 (by assumption) rfl ?_
  refine v_iconst iX1_copyFrom_34 ?_
  refine v_aload_n iX1_copyFrom_35 rfl ?_
  refine v_getR iX1_copyFrom_36 fX1_18 (by assumption) rfl ?_
  refine v_iconst iX1_copyFrom_39 ?_
  refine v_bipush iX1_copyFrom_40 (by decide) ?_
  refine v_copy (f := α (q + 3)) (g := α (p + 3)) iX1_copyFrom_42 (gw_t 298 (by decide +kernel) rfl) (by assumption) (by assumption) (by omega) (by decide) (Nat.le_of_ble_eq_true rfl) (by first | rfl | (repeat rw [uA_ne _ _ (by omega)])) (by first | rfl | (repeat rw [uA_ne _ _ (by omega)])) ?_
  refine v_aload_n iX1_copyFrom_45 rfl ?_
  refine v_getR iX1_copyFrom_46 fX1_21 (by assumption) rfl ?_
  refine v_iconst iX1_copyFrom_49 ?_
  refine v_aload_n iX1_copyFrom_50 rfl ?_
  refine v_getR iX1_copyFrom_51 fX1_21 (by assumption) rfl ?_
  refine v_iconst iX1_copyFrom_54 ?_
  refine v_bipush iX1_copyFrom_55 (by decide) ?_
  refine v_copy (f := α (q + 4)) (g := α (p + 4)) iX1_copyFrom_57 (gw_t 298 (by decide +kernel) rfl) (by assumption) (by assumption) (by omega) (by decide) (Nat.le_of_ble_eq_true rfl) (by first | rfl | (repeat rw [uA_ne _ _ (by omega)])) (by first | rfl | (repeat rw [uA_ne _ _ (by omega)])) ?_
  refine v_aload_n iX1_copyFrom_60 rfl ?_
  refine v_aload_n iX1_copyFrom_61 rfl ?_
  refine v_getI iX1_copyFrom_62 fX1_30 (by assumption) rfl rfl ?_
  refine v_put iX1_copyFrom_65 pX1_30 (by assumption) rfl (by intro h; cases h) ?_
  exact r_v iX1_copyFrom_68 rfl (⟨rfl, rfl, by simp only [show (0 : Int).toNat = 0 from rfl, show (10 : Int).toNat = 10 from rfl, show (6 : Int).toNat = 6 from rfl, cpy0]; rfl⟩)

set_option maxHeartbeats 4000000 in
set_option maxRecDepth 100000 in
theorem qX1_addRiser (σ α : St) (p : Nat) (hp : isFit p) (m : Nat) (hm : σ p 4 = m) (hm6 : m < 6) (on vo sk : Int) : CF 0 mX1_addRiser [vR p, vI on, vI vo, vI sk] σ α (none) (uS σ p 4 (m + 1)) (uA (uA (uA α (p + 2) (uF (α (p + 2)) m on)) (p + 3) (uF (α (p + 3)) m vo)) (p + 4) (uF (α (p + 4)) m sk)) := by
  obtain ⟨p0, p1, p2, p3, p4⟩ := hp
  refine CG.of [some (vR p), some (vI on), some (vI vo), some (vI sk)] (by decide) (by simp [lvA]) rfl ?_
  refine v_aload_n iX1_addRiser_0 rfl ?_
  refine v_getI iX1_addRiser_1 fX1_30 (by assumption) rfl (by exact hm) ?_
  refine v_bipush iX1_addRiser_4 (by decide) ?_
  refine v_icmp_lt (tgt := 10) iX1_addRiser_6 (by decide) (by omega) (fun h6 => ?_) (fun h6 => (by exfalso; omega))
  refine v_aload_n iX1_addRiser_10 rfl ?_
  refine v_getR iX1_addRiser_11 fX1_15 (by assumption) rfl ?_
  refine v_aload_n iX1_addRiser_14 rfl ?_
  refine v_getI iX1_addRiser_15 fX1_30 (by assumption) rfl (by exact hm) ?_
  refine v_iload_n iX1_addRiser_18 rfl ?_
  refine v_iastore iX1_addRiser_19 (by assumption) (by omega) ?_
  refine v_aload_n iX1_addRiser_20 rfl ?_
  refine v_getR iX1_addRiser_21 fX1_18 (by assumption) rfl ?_
  refine v_aload_n iX1_addRiser_24 rfl ?_
  refine v_getI iX1_addRiser_25 fX1_30 (by assumption) rfl (by exact hm) ?_
  refine v_iload_n iX1_addRiser_28 rfl ?_
  refine v_iastore iX1_addRiser_29 (by assumption) (by omega) ?_
  refine v_aload_n iX1_addRiser_30 rfl ?_
  refine v_getR iX1_addRiser_31 fX1_21 (by assumption) rfl ?_
  refine v_aload_n iX1_addRiser_34 rfl ?_
  refine v_getI iX1_addRiser_35 fX1_30 (by assumption) rfl (by exact hm) ?_
  refine v_iload_n iX1_addRiser_38 rfl ?_
  refine v_iastore iX1_addRiser_39 (by assumption) (by omega) ?_
  refine v_aload_n iX1_addRiser_40 rfl ?_
  refine v_dup iX1_addRiser_41 (by intro z h; cases h) ?_
  refine v_getI iX1_addRiser_42 fX1_30 (by assumption) rfl (by exact hm) ?_
  refine v_iconst iX1_addRiser_45 ?_
  refine v_iadd iX1_addRiser_46 ?_
  refine v_put iX1_addRiser_47 pX1_30 (by assumption) rfl (by intro h; cases h) ?_
  exact r_v iX1_addRiser_50 rfl (⟨rfl, rfl, by rw [uA_ne α _ (show p + 3 ≠ p + 2 by omega), uA_ne (uA _ _ _) _ (show p + 4 ≠ p + 3 by omega), uA_ne α _ (show p + 4 ≠ p + 2 by omega), Int.toNat_natCast]⟩)

set_option maxHeartbeats 4000000 in
set_option maxRecDepth 100000 in
theorem qX4_setRule (σ α : St) (p : Nat) (hp : isPlan p) (a b c : Int) : CF 0 mX4_setRule [vR p, vI a, vI b, vI c] σ α (none) (uS (uS (uS σ p 5 a) p 6 b) p 7 c) (α) := by
  obtain ⟨p0, p1, p2, p3, p4⟩ := hp
  refine CG.of [some (vR p), some (vI a), some (vI b), some (vI c)] (by decide) (by simp [lvA]) rfl ?_
  refine v_aload_n iX4_setRule_0 rfl ?_
  refine v_iload_n iX4_setRule_1 rfl ?_
  refine v_put iX4_setRule_2 pX4_28 (by assumption) rfl (by intro h; cases h) ?_
  refine v_aload_n iX4_setRule_5 rfl ?_
  refine v_iload_n iX4_setRule_6 rfl ?_
  refine v_put iX4_setRule_7 pX4_32 (by assumption) rfl (by intro h; cases h) ?_
  refine v_aload_n iX4_setRule_10 rfl ?_
  refine v_iload_n iX4_setRule_11 rfl ?_
  refine v_put iX4_setRule_12 pX4_35 (by assumption) rfl (by intro h; cases h) ?_
  exact r_v iX4_setRule_15 rfl (⟨rfl, rfl, rfl⟩)

set_option maxHeartbeats 4000000 in
set_option maxRecDepth 100000 in
theorem qX4_clear (σ α : St) (p : Nat) (hp : isPlan p) : CF 2 mX4_clear [vR p] σ α (none) (uS (uS (uS (uS (uS σ p 4 0) (p + 4) 4 0) p 5 6) p 6 5) p 7 50) (uA α (p + 5) (cpA (fun _ => 0) (α (p + 5)) 10)) := by
  have hp2 := hp
  obtain ⟨p0, p1, p2, p3, p4⟩ := hp
  have f0 := p4.1
  refine CG.of [some (vR p)] (by decide) (by simp [lvA]) rfl ?_
  refine v_aload_n iX4_clear_0 rfl ?_
  refine v_iconst iX4_clear_1 ?_
  refine v_put iX4_clear_2 pX4_38 (by assumption) rfl (by intro h; cases h) ?_
  refine v_aload_n iX4_clear_5 rfl ?_
  refine v_getR iX4_clear_6 fX4_24 (by assumption) rfl ?_
  refine c_V0 (Mc := mX1_clear) iX4_clear_9 lX4_41 kX1_clear (qX1_clear _ _ (p + 4) p4) (by decide) rfl (by assumption) rfl rfl (Nat.le_of_ble_eq_true rfl) ?_
  try simp only [Int.toNat_natCast]
  refine v_aload_n iX4_clear_12 rfl ?_
  refine v_bipush iX4_clear_13 (by decide) ?_
  refine v_iconst iX4_clear_15 ?_
  refine v_bipush iX4_clear_16 (by decide) ?_
  refine c_V0 (Mc := mX4_setRule) iX4_clear_18 lX4_44 kX4_setRule (qX4_setRule _ _ p hp2 6 5 50) (by decide) rfl (by assumption) rfl rfl (Nat.le_of_ble_eq_true rfl) ?_
  try simp only [Int.toNat_natCast]
  exact r_v iX4_clear_21 rfl (⟨rfl, rfl, rfl⟩)

def pcA (α : St) (p q : Nat) : St := fcA (uA (uA (uA α (p + 1) (cpA (α (q + 1)) (α (p + 1)) 10)) (p + 2) (cpA (α (q + 2)) (α (p + 2)) 10)) (p + 3) (cpA (α (q + 3)) (α (p + 3)) 10)) (p + 4) (q + 4)
def pcS (σ : St) (p q : Nat) : St := uS (uS (uS (uS (fcS σ (p + 4) (q + 4)) p 4 (σ q 4)) p 5 (σ q 5)) p 6 (σ q 6)) p 7 (σ q 7)
theorem uS_ne (σ : St) {q k q' k' : Nat} (v : Int) (h : ¬ (q' = q ∧ k' = k)) : uS σ q k v q' k' = σ q' k' := by simp [uS, h]

set_option maxHeartbeats 4000000 in
set_option maxRecDepth 100000 in
theorem qX4_copyFrom (σ α : St) (p q : Nat) (hp : isPlan p) (hq : isPlan q) (hpq : p + 9 ≤ q ∨ q + 9 ≤ p) : CF 3 mX4_copyFrom [vR p, vR q] σ α (none) (pcS σ p q) (pcA α p q) := by
  have hp2 := hp
  obtain ⟨p0, p1, p2, p3, p4⟩ := hp
  obtain ⟨q0, q1, q2, q3, q4⟩ := hq
  have f0 := p4.1
  have f1 := q4.1
  refine CG.of [some (vR p), some (vR q)] (by decide) (by simp [lvA]) rfl ?_
  refine v_aload_n iX4_copyFrom_0 rfl ?_
  refine v_getR iX4_copyFrom_1 fX4_9 (by assumption) rfl ?_
  refine v_iconst iX4_copyFrom_4 ?_
  refine v_aload_n iX4_copyFrom_5 rfl ?_
  refine v_getR iX4_copyFrom_6 fX4_9 (by assumption) rfl ?_
  refine v_iconst iX4_copyFrom_9 ?_
  refine v_bipush iX4_copyFrom_10 (by decide) ?_
  refine v_copy (f := α (q + 1)) (g := α (p + 1)) iX4_copyFrom_12 (gw_t 291 (by decide +kernel) rfl) (by assumption) (by assumption) (by omega) (by decide) (Nat.le_of_ble_eq_true rfl) (by first | rfl | (repeat rw [uA_ne _ _ (by omega)])) (by first | rfl | (repeat rw [uA_ne _ _ (by omega)])) ?_
  refine v_aload_n iX4_copyFrom_15 rfl ?_
  refine v_getR iX4_copyFrom_16 fX4_15 (by assumption) rfl ?_
  refine v_iconst iX4_copyFrom_19 ?_
  refine v_aload_n iX4_copyFrom_20 rfl ?_
  refine v_getR iX4_copyFrom_21 fX4_15 (by assumption) rfl ?_
  refine v_iconst iX4_copyFrom_24 ?_
  refine v_bipush iX4_copyFrom_25 (by decide) ?_
  refine v_copy (f := α (q + 2)) (g := α (p + 2)) iX4_copyFrom_27 (gw_t 291 (by decide +kernel) rfl) (by assumption) (by assumption) (by omega) (by decide) (Nat.le_of_ble_eq_true rfl) (by first | rfl | (repeat rw [uA_ne _ _ (by omega)])) (by first | rfl | (repeat rw [uA_ne _ _ (by omega)])) ?_
  refine v_aload_n iX4_copyFrom_30 rfl ?_
  refine v_getR iX4_copyFrom_31 fX4_18 (by assumption) rfl ?_
  refine v_iconst iX4_copyFrom_34 ?_
  refine v_aload_n iX4_copyFrom_35 rfl ?_
  refine v_getR iX4_copyFrom_36 fX4_18 (by assumption) rfl ?_
  refine v_iconst iX4_copyFrom_39 ?_
  refine v_bipush iX4_copyFrom_40 (by decide) ?_
  refine v_copy (f := α (q + 3)) (g := α (p + 3)) iX4_copyFrom_42 (gw_t 291 (by decide +kernel) rfl) (by assumption) (by assumption) (by omega) (by decide) (Nat.le_of_ble_eq_true rfl) (by first | rfl | (repeat rw [uA_ne _ _ (by omega)])) (by first | rfl | (repeat rw [uA_ne _ _ (by omega)])) ?_
  refine v_aload_n iX4_copyFrom_45 rfl ?_
  refine v_getR iX4_copyFrom_46 fX4_24 (by assumption) rfl ?_
  refine v_aload_n iX4_copyFrom_49 rfl ?_
  refine v_getR iX4_copyFrom_50 fX4_24 (by assumption) rfl ?_
  refine c_V0 (Mc := mX1_copyFrom) iX4_copyFrom_53 lX4_54 kX1_copyFrom (qX1_copyFrom _ _ (p + 4) (q + 4) p4 q4 (by omega)) (by decide) rfl (by assumption) rfl rfl (Nat.le_of_ble_eq_true rfl) ?_
  try simp only [Int.toNat_natCast]
  refine v_aload_n iX4_copyFrom_56 rfl ?_
  refine v_aload_n iX4_copyFrom_57 rfl ?_
  refine v_getI iX4_copyFrom_58 fX4_38 (by assumption) rfl (by show _ = σ q 4; unfold fcS; (repeat rw [uS_ne _ _ (by omega)])) ?_
  refine v_put iX4_copyFrom_61 pX4_38 (by assumption) rfl (by intro h; cases h) ?_
  refine v_aload_n iX4_copyFrom_64 rfl ?_
  refine v_aload_n iX4_copyFrom_65 rfl ?_
  refine v_getI iX4_copyFrom_66 fX4_28 (by assumption) rfl (by show _ = σ q 5; unfold fcS; (repeat rw [uS_ne _ _ (by omega)])) ?_
  refine v_aload_n iX4_copyFrom_69 rfl ?_
  refine v_getI iX4_copyFrom_70 fX4_32 (by assumption) rfl (by show _ = σ q 6; unfold fcS; (repeat rw [uS_ne _ _ (by omega)])) ?_
  refine v_aload_n iX4_copyFrom_73 rfl ?_
  refine v_getI iX4_copyFrom_74 fX4_35 (by assumption) rfl (by show _ = σ q 7; unfold fcS; (repeat rw [uS_ne _ _ (by omega)])) ?_
  refine c_V0 (Mc := mX4_setRule) iX4_copyFrom_77 lX4_44 kX4_setRule (qX4_setRule _ _ p hp2 _ _ _) (by decide) rfl (by assumption) rfl rfl (Nat.le_of_ble_eq_true rfl) ?_
  try simp only [Int.toNat_natCast]
  exact r_v iX4_copyFrom_80 rfl (⟨rfl, rfl, by simp only [show (0 : Int).toNat = 0 from rfl, show (10 : Int).toNat = 10 from rfl, cpy0]; rfl⟩)
