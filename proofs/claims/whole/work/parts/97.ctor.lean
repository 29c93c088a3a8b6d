theorem ge_app {L : List Ly} {p : Nat} {y : Ly} (h : L[p]? = some y) (z : Ly) : (L ++ [z])[p]? = some y := by rw [List.getElem?_append_left (List.getElem?_eq_some_iff.mp h).1]; exact h
theorem ge_set {L : List Ly} {p : Nat} {y : Ly} (h : L[p]? = some y) (z : Ly) : (L.set p z)[p]? = some z := by rw [List.getElem?_set, if_pos rfl, if_pos (List.getElem?_eq_some_iff.mp h).1]
theorem ge_lt {L : List Ly} {p : Nat} {y : Ly} (h : L[p]? = some y) : p < L.length := (List.getElem?_eq_some_iff.mp h).1
theorem ge_last (L : List Ly) (z : Ly) : (L ++ [z])[L.length]? = some z := by rw [List.getElem?_append_right (Nat.le_refl _), Nat.sub_self]; rfl
def fitL (L_ : List Ly) (p_ : Nat) : List Ly := ((((((L_ ++ [yA 0 10]).set p_ (yO 1 [(L_.length + 0) + 2, 1, 1, 1, 0])) ++ [yA 0 6]).set p_ (yO 1 [(L_.length + 0) + 2, (L_.length + 1) + 2, 1, 1, 0])) ++ [yA 0 6]).set p_ (yO 1 [(L_.length + 0) + 2, (L_.length + 1) + 2, (L_.length + 2) + 2, 1, 0]) ++ [yA 0 6]).set p_ (yO 1 [(L_.length + 0) + 2, (L_.length + 1) + 2, (L_.length + 2) + 2, (L_.length + 3) + 2, 0])
theorem fitL_len (L : List Ly) (p : Nat) : (fitL L p).length = L.length + 4 := by simp [fitL]
theorem fitL_o {L : List Ly} {p q : Nat} {y : Ly} (h : L[q]? = some y) (hpq : q ≠ p) : (fitL L p)[q]? = some y := by
  unfold fitL
  rw [List.getElem?_set, if_neg (Ne.symm hpq)]
  refine ge_app ?_ _
  rw [List.getElem?_set, if_neg (Ne.symm hpq)]
  refine ge_app ?_ _
  rw [List.getElem?_set, if_neg (Ne.symm hpq)]
  refine ge_app ?_ _
  rw [List.getElem?_set, if_neg (Ne.symm hpq)]
  exact ge_app h _
theorem ge_lastN (L : List Ly) (z : Ly) {n : Nat} (h : L.length = n) : (L ++ [z])[n]? = some z := by rw [← h]; exact ge_last L z
theorem ffX1_9 : FF RX1 9 1 0 := ⟨RX1, TX1, 5, (.array .int), rfl, by decide, uw1, (gw_t 55 (by decide +kernel) rfl), rfl, rfl, ⟨tyX1, tyX1_ok⟩, nmX1, by decide +kernel, fun a => ⟨rfl, rfl⟩⟩
theorem ffX1_15 : FF RX1 15 1 1 := ⟨RX1, TX1, 5, (.array .int), rfl, by decide, uw1, (gw_t 59 (by decide +kernel) rfl), rfl, rfl, ⟨tyX1, tyX1_ok⟩, nmX1, by decide +kernel, fun a => ⟨rfl, rfl⟩⟩
theorem ffX1_18 : FF RX1 18 1 2 := ⟨RX1, TX1, 5, (.array .int), rfl, by decide, uw1, (gw_t 62 (by decide +kernel) rfl), rfl, rfl, ⟨tyX1, tyX1_ok⟩, nmX1, by decide +kernel, fun a => ⟨rfl, rfl⟩⟩
theorem ffX1_21 : FF RX1 21 1 3 := ⟨RX1, TX1, 5, (.array .int), rfl, by decide, uw1, (gw_t 65 (by decide +kernel) rfl), rfl, rfl, ⟨tyX1, tyX1_ok⟩, nmX1, by decide +kernel, fun a => ⟨rfl, rfl⟩⟩
theorem ffX6_9 : FF RX6 9 6 0 := ⟨RX6, TX6, 2, (.array .int), rfl, by decide, uw6, (gw_t 32 (by decide +kernel) rfl), rfl, rfl, ⟨tyX6, tyX6_ok⟩, nmX6, by decide +kernel, fun a => ⟨rfl, rfl⟩⟩
theorem ffX0_9 : FF RX0 9 0 0 := ⟨RX0, TX0, 4, (.array .int), rfl, by decide, uw0, (gw_t 224 (by decide +kernel) rfl), rfl, rfl, ⟨tyX0, tyX0_ok⟩, nmX0, by decide +kernel, fun a => ⟨rfl, rfl⟩⟩
theorem ffX5_9 : FF RX5 9 5 0 := ⟨RX5, TX5, 7, (.object RX6), rfl, by decide, uw5, (gw_t 131 (by decide +kernel) rfl), rfl, rfl, ⟨tyX5, tyX5_ok⟩, nmX5, by decide +kernel, fun a => ⟨rfl, rfl⟩⟩
theorem ffX5_15 : FF RX5 15 5 1 := ⟨RX5, TX5, 7, (.object RX4), rfl, by decide, uw5, (gw_t 132 (by decide +kernel) rfl), rfl, rfl, ⟨tyX5, tyX5_ok⟩, nmX5, by decide +kernel, fun a => ⟨rfl, rfl⟩⟩
theorem ffX3_9 : FF RX3 9 3 0 := ⟨RX3, TX3, 9, (.array .int), rfl, by decide, uw3, (gw_t 182 (by decide +kernel) rfl), rfl, rfl, ⟨tyX3, tyX3_ok⟩, nmX3, by decide +kernel, fun a => ⟨rfl, rfl⟩⟩
theorem ffX3_15 : FF RX3 15 3 1 := ⟨RX3, TX3, 9, (.array .int), rfl, by decide, uw3, (gw_t 184 (by decide +kernel) rfl), rfl, rfl, ⟨tyX3, tyX3_ok⟩, nmX3, by decide +kernel, fun a => ⟨rfl, rfl⟩⟩
theorem ffX3_18 : FF RX3 18 3 2 := ⟨RX3, TX3, 9, (.array .int), rfl, by decide, uw3, (gw_t 186 (by decide +kernel) rfl), rfl, rfl, ⟨tyX3, tyX3_ok⟩, nmX3, by decide +kernel, fun a => ⟨rfl, rfl⟩⟩
theorem ffX3_21 : FF RX3 21 3 3 := ⟨RX3, TX3, 9, (.array .int), rfl, by decide, uw3, (gw_t 188 (by decide +kernel) rfl), rfl, rfl, ⟨tyX3, tyX3_ok⟩, nmX3, by decide +kernel, fun a => ⟨rfl, rfl⟩⟩
theorem ffX3_24 : FF RX3 24 3 4 := ⟨RX3, TX3, 9, (.array .int), rfl, by decide, uw3, (gw_t 190 (by decide +kernel) rfl), rfl, rfl, ⟨tyX3, tyX3_ok⟩, nmX3, by decide +kernel, fun a => ⟨rfl, rfl⟩⟩
theorem ffX3_27 : FF RX3 27 3 5 := ⟨RX3, TX3, 9, (.array .int), rfl, by decide, uw3, (gw_t 192 (by decide +kernel) rfl), rfl, rfl, ⟨tyX3, tyX3_ok⟩, nmX3, by decide +kernel, fun a => ⟨rfl, rfl⟩⟩
theorem ffX3_30 : FF RX3 30 3 6 := ⟨RX3, TX3, 9, (.object RX4), rfl, by decide, uw3, (gw_t 194 (by decide +kernel) rfl), rfl, rfl, ⟨tyX3, tyX3_ok⟩, nmX3, by decide +kernel, fun a => ⟨rfl, rfl⟩⟩
theorem ffX3_34 : FF RX3 34 3 7 := ⟨RX3, TX3, 9, (.object RX1), rfl, by decide, uw3, (gw_t 195 (by decide +kernel) rfl), rfl, rfl, ⟨tyX3, tyX3_ok⟩, nmX3, by decide +kernel, fun a => ⟨rfl, rfl⟩⟩
theorem ffX4_9 : FF RX4 9 4 0 := ⟨RX4, TX4, 8, (.array .int), rfl, by decide, uw4, (gw_t 83 (by decide +kernel) rfl), rfl, rfl, ⟨tyX4, tyX4_ok⟩, nmX4, by decide +kernel, fun a => ⟨rfl, rfl⟩⟩
theorem ffX4_15 : FF RX4 15 4 1 := ⟨RX4, TX4, 8, (.array .int), rfl, by decide, uw4, (gw_t 86 (by decide +kernel) rfl), rfl, rfl, ⟨tyX4, tyX4_ok⟩, nmX4, by decide +kernel, fun a => ⟨rfl, rfl⟩⟩
theorem ffX4_18 : FF RX4 18 4 2 := ⟨RX4, TX4, 8, (.array .int), rfl, by decide, uw4, (gw_t 89 (by decide +kernel) rfl), rfl, rfl, ⟨tyX4, tyX4_ok⟩, nmX4, by decide +kernel, fun a => ⟨rfl, rfl⟩⟩
theorem nfX1 : ([1, 1, 1, 1, 0] : List Nat).length = 5 ∧ (∀ c ∈ ([1, 1, 1, 1, 0] : List Nat), c < 2) ∧ ∀ j, j < 5 → defaultValue (tyX1 j) = if ([1, 1, 1, 1, 0] : List Nat).getD j 1 = 0 then .int 0 else .null := ⟨rfl, by decide, by decide +kernel⟩
theorem ffX4_24 : FF RX4 24 4 3 := ⟨RX4, TX4, 8, (.object RX1), rfl, by decide, uw4, (gw_t 92 (by decide +kernel) rfl), rfl, rfl, ⟨tyX4, tyX4_ok⟩, nmX4, by decide +kernel, fun a => ⟨rfl, rfl⟩⟩
set_option maxHeartbeats 4000000 in
set_option maxRecDepth 100000 in
theorem qX1_init (L_ : List Ly) (σ α : St) (p_ : Nat) (hp_ : L_[p_]? = some (yO 1 [1, 1, 1, 1, 0])) (hw_ : wfL L_) (hzs_ : ∀ q, L_.length ≤ q → ∀ j, σ q j = 0) (hz_ : ∀ q, L_.length ≤ q → ∀ j, α q j = 0) : SS 1 mX1_init 4 28 [vR p_] L_ σ α (fun r' L' s' a' => r' = none ∧ L' = fitL L_ p_ ∧ wfL L' ∧ s' = σ ∧ a' = α) := by
  have hpl_ := ge_lt hp_
  refine SS.of (by decide) (by simp [lvA]) (lv := [some (vR p_)]) rfl ?_
  refine v_aload_n iX1_init_0 rfl ?_
  refine v_objI iX1_init_1 (gw_t 54 (by decide +kernel) rfl) (by decide) (Nat.le_of_ble_eq_true rfl) ?_
  refine v_aload_n iX1_init_4 rfl ?_
  refine v_bipush iX1_init_5 (by decide) ?_
  refine v_newI (N := (L_.length + 0)) (len := 10) iX1_init_7 hw_ rfl ⟨rfl, by decide⟩ (fun j_ => hz_ _ (by omega) j_) ⟨(by show _ ≤ (4 : Nat); omega), (by show _ ≤ (28 : Nat); omega)⟩ (by refine ⟨?_, ?_⟩ <;> simp only [okL, okS, okV, and_true, true_and] <;> omega) (fun hw_ => ?_)
  have hp_ := ge_app hp_ (yA 0 10)
  refine v_putR iX1_init_9 ffX1_9 rfl hw_ hp_ (Nat.le_of_ble_eq_true rfl) (by simp only [List.length_append, List.length_set, List.length_cons, List.length_nil, fitL_len] <;> omega) rfl (fun hw_ => ?_)
  have hp_ := ge_set hp_ (yO 1 [(L_.length + 0) + 2, 1, 1, 1, 0])
  refine v_aload_n iX1_init_12 rfl ?_
  refine v_bipush iX1_init_13 (by decide) ?_
  refine v_newI (N := (L_.length + 1)) (len := 6) iX1_init_15 hw_ (by simp only [List.length_append, List.length_set, List.length_cons, List.length_nil, fitL_len] <;> omega) ⟨rfl, by decide⟩ (fun j_ => hz_ _ (by omega) j_) ⟨(by show _ ≤ (4 : Nat); omega), (by show _ ≤ (28 : Nat); omega)⟩ (by refine ⟨?_, ?_⟩ <;> simp only [okL, okS, okV, and_true, true_and] <;> omega) (fun hw_ => ?_)
  have hp_ := ge_app hp_ (yA 0 6)
  refine v_putR iX1_init_17 ffX1_15 rfl hw_ hp_ (Nat.le_of_ble_eq_true rfl) (by simp only [List.length_append, List.length_set, List.length_cons, List.length_nil, fitL_len] <;> omega) rfl (fun hw_ => ?_)
  have hp_ := ge_set hp_ (yO 1 [(L_.length + 0) + 2, (L_.length + 1) + 2, 1, 1, 0])
  refine v_aload_n iX1_init_20 rfl ?_
  refine v_bipush iX1_init_21 (by decide) ?_
  refine v_newI (N := (L_.length + 2)) (len := 6) iX1_init_23 hw_ (by simp only [List.length_append, List.length_set, List.length_cons, List.length_nil, fitL_len] <;> omega) ⟨rfl, by decide⟩ (fun j_ => hz_ _ (by omega) j_) ⟨(by show _ ≤ (4 : Nat); omega), (by show _ ≤ (28 : Nat); omega)⟩ (by refine ⟨?_, ?_⟩ <;> simp only [okL, okS, okV, and_true, true_and] <;> omega) (fun hw_ => ?_)
  have hp_ := ge_app hp_ (yA 0 6)
  refine v_putR iX1_init_25 ffX1_18 rfl hw_ hp_ (Nat.le_of_ble_eq_true rfl) (by simp only [List.length_append, List.length_set, List.length_cons, List.length_nil, fitL_len] <;> omega) rfl (fun hw_ => ?_)
  have hp_ := ge_set hp_ (yO 1 [(L_.length + 0) + 2, (L_.length + 1) + 2, (L_.length + 2) + 2, 1, 0])
  refine v_aload_n iX1_init_28 rfl ?_
  refine v_bipush iX1_init_29 (by decide) ?_
  refine v_newI (N := (L_.length + 3)) (len := 6) iX1_init_31 hw_ (by simp only [List.length_append, List.length_set, List.length_cons, List.length_nil, fitL_len] <;> omega) ⟨rfl, by decide⟩ (fun j_ => hz_ _ (by omega) j_) ⟨(by show _ ≤ (4 : Nat); omega), (by show _ ≤ (28 : Nat); omega)⟩ (by refine ⟨?_, ?_⟩ <;> simp only [okL, okS, okV, and_true, true_and] <;> omega) (fun hw_ => ?_)
  have hp_ := ge_app hp_ (yA 0 6)
  refine v_putR iX1_init_33 ffX1_21 rfl hw_ hp_ (Nat.le_of_ble_eq_true rfl) (by simp only [List.length_append, List.length_set, List.length_cons, List.length_nil, fitL_len] <;> omega) rfl (fun hw_ => ?_)
  have hp_ := ge_set hp_ (yO 1 [(L_.length + 0) + 2, (L_.length + 1) + 2, (L_.length + 2) + 2, (L_.length + 3) + 2, 0])
  exact v_vret iX1_init_36 rfl ⟨(by show _ ≤ (4 : Nat); omega), (by show _ ≤ (28 : Nat); omega)⟩ ⟨rfl, rfl, hw_, rfl, rfl⟩

set_option maxHeartbeats 4000000 in
set_option maxRecDepth 100000 in
theorem qX6_init (L_ : List Ly) (σ α : St) (p_ : Nat) (hp_ : L_[p_]? = some (yO 6 [1, 0])) (hw_ : wfL L_) (hzs_ : ∀ q, L_.length ≤ q → ∀ j, σ q j = 0) (hz_ : ∀ q, L_.length ≤ q → ∀ j, α q j = 0) : SS 1 mX6_init 1 200 [vR p_] L_ σ α (fun r' L' s' a' => r' = none ∧ L' = (L_ ++ [yA 0 200]).set p_ (yO 6 [(L_.length + 0) + 2, 0]) ∧ wfL L' ∧ s' = σ ∧ a' = α) := by
  have hpl_ := ge_lt hp_
  refine SS.of (by decide) (by simp [lvA]) (lv := [some (vR p_)]) rfl ?_
  refine v_aload_n iX6_init_0 rfl ?_
  refine v_objI iX6_init_1 (gw_t 31 (by decide +kernel) rfl) (by decide) (Nat.le_of_ble_eq_true rfl) ?_
  refine v_aload_n iX6_init_4 rfl ?_
  refine v_sipush iX6_init_5 (by decide) ?_
  refine v_newI (N := (L_.length + 0)) (len := 200) iX6_init_8 hw_ rfl ⟨rfl, by decide⟩ (fun j_ => hz_ _ (by omega) j_) ⟨(by show _ ≤ (1 : Nat); omega), (by show _ ≤ (200 : Nat); omega)⟩ (by refine ⟨?_, ?_⟩ <;> simp only [okL, okS, okV, and_true, true_and] <;> omega) (fun hw_ => ?_)
  have hp_ := ge_app hp_ (yA 0 200)
  refine v_putR iX6_init_10 ffX6_9 rfl hw_ hp_ (Nat.le_of_ble_eq_true rfl) (by simp only [List.length_append, List.length_set, List.length_cons, List.length_nil, fitL_len] <;> omega) rfl (fun hw_ => ?_)
  have hp_ := ge_set hp_ (yO 6 [(L_.length + 0) + 2, 0])
  exact v_vret iX6_init_13 rfl ⟨(by show _ ≤ (1 : Nat); omega), (by show _ ≤ (200 : Nat); omega)⟩ ⟨rfl, rfl, hw_, rfl, rfl⟩

set_option maxHeartbeats 4000000 in
set_option maxRecDepth 100000 in
theorem qX0_init (L_ : List Ly) (σ α : St) (p_ : Nat) (hp_ : L_[p_]? = some (yO 0 [1, 0, 0, 0])) (hw_ : wfL L_) (hzs_ : ∀ q, L_.length ≤ q → ∀ j, σ q j = 0) (hz_ : ∀ q, L_.length ≤ q → ∀ j, α q j = 0) : SS 1 mX0_init 1 8 [vR p_] L_ σ α (fun r' L' s' a' => r' = none ∧ L' = (L_ ++ [yA 0 8]).set p_ (yO 0 [(L_.length + 0) + 2, 0, 0, 0]) ∧ wfL L' ∧ s' = uS σ p_ 1 1 ∧ a' = α) := by
  have hpl_ := ge_lt hp_
  refine SS.of (by decide) (by simp [lvA]) (lv := [some (vR p_)]) rfl ?_
  refine v_aload_n iX0_init_0 rfl ?_
  refine v_objI iX0_init_1 (gw_t 223 (by decide +kernel) rfl) (by decide) (Nat.le_of_ble_eq_true rfl) ?_
  refine v_aload_n iX0_init_4 rfl ?_
  refine v_bipush iX0_init_5 (by decide) ?_
  refine v_newI (N := (L_.length + 0)) (len := 8) iX0_init_7 hw_ rfl ⟨rfl, by decide⟩ (fun j_ => hz_ _ (by omega) j_) ⟨(by show _ ≤ (1 : Nat); omega), (by show _ ≤ (8 : Nat); omega)⟩ (by refine ⟨?_, ?_⟩ <;> simp only [okL, okS, okV, and_true, true_and] <;> omega) (fun hw_ => ?_)
  have hp_ := ge_app hp_ (yA 0 8)
  refine v_putR iX0_init_9 ffX0_9 rfl hw_ hp_ (Nat.le_of_ble_eq_true rfl) (by simp only [List.length_append, List.length_set, List.length_cons, List.length_nil, fitL_len] <;> omega) rfl (fun hw_ => ?_)
  have hp_ := ge_set hp_ (yO 0 [(L_.length + 0) + 2, 0, 0, 0])
  refine v_aload_n iX0_init_12 rfl ?_
  refine v_iconst iX0_init_13 ?_
  refine v_put iX0_init_14 pX0_15 hp_ rfl (fun _ => by omega) ?_
  exact v_vret iX0_init_17 rfl ⟨(by show _ ≤ (1 : Nat); omega), (by show _ ≤ (8 : Nat); omega)⟩ ⟨rfl, rfl, hw_, rfl, rfl⟩

set_option maxHeartbeats 4000000 in
set_option maxRecDepth 100000 in
theorem qX5_init (L_ : List Ly) (σ α : St) (p_ : Nat) (t_ f_ : Nat) (htl0_ : t_ < L_.length) (hfl0_ : f_ < L_.length) (hp_ : L_[p_]? = some (yO 5 [1, 1, 0, 0, 0, 0, 0])) (hw_ : wfL L_) (hzs_ : ∀ q, L_.length ≤ q → ∀ j, σ q j = 0) (hz_ : ∀ q, L_.length ≤ q → ∀ j, α q j = 0) : SS 1 mX5_init 0 0 [vR p_, vR t_, vR f_] L_ σ α (fun r' L' s' a' => r' = none ∧ L' = (L_.set p_ (yO 5 [t_ + 2, 1, 0, 0, 0, 0, 0])).set p_ (yO 5 [t_ + 2, f_ + 2, 0, 0, 0, 0, 0]) ∧ wfL L' ∧ s' = σ ∧ a' = α) := by
  have hpl_ := ge_lt hp_
  refine SS.of (by decide) (by simp [lvA]) (lv := [some (vR p_), some (vR t_), some (vR f_)]) rfl ?_
  refine v_aload_n iX5_init_0 rfl ?_
  refine v_objI iX5_init_1 (gw_t 130 (by decide +kernel) rfl) (by decide) (Nat.le_of_ble_eq_true rfl) ?_
  refine v_aload_n iX5_init_4 rfl ?_
  refine v_aload_n iX5_init_5 rfl ?_
  refine v_putR iX5_init_6 ffX5_9 rfl hw_ hp_ (Nat.le_of_ble_eq_true rfl) (by (try simp only [List.length_set]); omega) rfl (fun hw_ => ?_)
  have hp_ := ge_set hp_ (yO 5 [t_ + 2, 1, 0, 0, 0, 0, 0])
  refine v_aload_n iX5_init_9 rfl ?_
  refine v_aload_n iX5_init_10 rfl ?_
  refine v_putR iX5_init_11 ffX5_15 rfl hw_ hp_ (Nat.le_of_ble_eq_true rfl) (by (try simp only [List.length_set]); omega) rfl (fun hw_ => ?_)
  have hp_ := ge_set hp_ (yO 5 [t_ + 2, f_ + 2, 0, 0, 0, 0, 0])
  exact v_vret iX5_init_14 rfl ⟨(by show _ ≤ (0 : Nat); omega), (by show _ ≤ (0 : Nat); omega)⟩ ⟨rfl, rfl, hw_, rfl, rfl⟩

set_option maxHeartbeats 4000000 in
set_option maxRecDepth 100000 in
theorem qX3_init (L_ : List Ly) (σ α : St) (p_ : Nat) (t_ f_ : Nat) (htl0_ : t_ < L_.length) (hfl0_ : f_ < L_.length) (hp_ : L_[p_]? = some (yO 3 [1, 1, 1, 1, 1, 1, 1, 1, 0])) (hw_ : wfL L_) (hzs_ : ∀ q, L_.length ≤ q → ∀ j, σ q j = 0) (hz_ : ∀ q, L_.length ≤ q → ∀ j, α q j = 0) : SS 1 mX3_init 6 60 [vR p_, vR t_, vR f_] L_ σ α (fun r' L' s' a' => r' = none ∧ L' = ((((((((L_ ++ [yA 0 10]).set p_ (yO 3 [(L_.length + 0) + 2, 1, 1, 1, 1, 1, 1, 1, 0]) ++ [yA 0 10]).set p_ (yO 3 [(L_.length + 0) + 2, (L_.length + 1) + 2, 1, 1, 1, 1, 1, 1, 0]) ++ [yA 0 10]).set p_ (yO 3 [(L_.length + 0) + 2, (L_.length + 1) + 2, (L_.length + 2) + 2, 1, 1, 1, 1, 1, 0]) ++ [yA 0 10]).set p_ (yO 3 [(L_.length + 0) + 2, (L_.length + 1) + 2, (L_.length + 2) + 2, (L_.length + 3) + 2, 1, 1, 1, 1, 0]) ++ [yA 0 10]).set p_ (yO 3 [(L_.length + 0) + 2, (L_.length + 1) + 2, (L_.length + 2) + 2, (L_.length + 3) + 2, (L_.length + 4) + 2, 1, 1, 1, 0]) ++ [yA 0 10]).set p_ (yO 3 [(L_.length + 0) + 2, (L_.length + 1) + 2, (L_.length + 2) + 2, (L_.length + 3) + 2, (L_.length + 4) + 2, (L_.length + 5) + 2, 1, 1, 0])).set p_ (yO 3 [(L_.length + 0) + 2, (L_.length + 1) + 2, (L_.length + 2) + 2, (L_.length + 3) + 2, (L_.length + 4) + 2, (L_.length + 5) + 2, t_ + 2, 1, 0])).set p_ (yO 3 [(L_.length + 0) + 2, (L_.length + 1) + 2, (L_.length + 2) + 2, (L_.length + 3) + 2, (L_.length + 4) + 2, (L_.length + 5) + 2, t_ + 2, f_ + 2, 0]) ∧ wfL L' ∧ s' = σ ∧ a' = α) := by
  have hpl_ := ge_lt hp_
  refine SS.of (by decide) (by simp [lvA]) (lv := [some (vR p_), some (vR t_), some (vR f_)]) rfl ?_
  refine v_aload_n iX3_init_0 rfl ?_
  refine v_objI iX3_init_1 (gw_t 181 (by decide +kernel) rfl) (by decide) (Nat.le_of_ble_eq_true rfl) ?_
  refine v_aload_n iX3_init_4 rfl ?_
  refine v_bipush iX3_init_5 (by decide) ?_
  refine v_newI (N := (L_.length + 0)) (len := 10) iX3_init_7 hw_ rfl ⟨rfl, by decide⟩ (fun j_ => hz_ _ (by omega) j_) ⟨(by show _ ≤ (6 : Nat); omega), (by show _ ≤ (60 : Nat); omega)⟩ (by refine ⟨?_, ?_⟩ <;> simp only [okL, okS, okV, and_true, true_and] <;> omega) (fun hw_ => ?_)
  have hp_ := ge_app hp_ (yA 0 10)
  refine v_putR iX3_init_9 ffX3_9 rfl hw_ hp_ (Nat.le_of_ble_eq_true rfl) (by simp only [List.length_append, List.length_set, List.length_cons, List.length_nil, fitL_len] <;> omega) rfl (fun hw_ => ?_)
  have hp_ := ge_set hp_ (yO 3 [(L_.length + 0) + 2, 1, 1, 1, 1, 1, 1, 1, 0])
  refine v_aload_n iX3_init_12 rfl ?_
  refine v_bipush iX3_init_13 (by decide) ?_
  refine v_newI (N := (L_.length + 1)) (len := 10) iX3_init_15 hw_ (by simp only [List.length_append, List.length_set, List.length_cons, List.length_nil, fitL_len] <;> omega) ⟨rfl, by decide⟩ (fun j_ => hz_ _ (by omega) j_) ⟨(by show _ ≤ (6 : Nat); omega), (by show _ ≤ (60 : Nat); omega)⟩ (by refine ⟨?_, ?_⟩ <;> simp only [okL, okS, okV, and_true, true_and] <;> omega) (fun hw_ => ?_)
  have hp_ := ge_app hp_ (yA 0 10)
  refine v_putR iX3_init_17 ffX3_15 rfl hw_ hp_ (Nat.le_of_ble_eq_true rfl) (by simp only [List.length_append, List.length_set, List.length_cons, List.length_nil, fitL_len] <;> omega) rfl (fun hw_ => ?_)
  have hp_ := ge_set hp_ (yO 3 [(L_.length + 0) + 2, (L_.length + 1) + 2, 1, 1, 1, 1, 1, 1, 0])
  refine v_aload_n iX3_init_20 rfl ?_
  refine v_bipush iX3_init_21 (by decide) ?_
  refine v_newI (N := (L_.length + 2)) (len := 10) iX3_init_23 hw_ (by simp only [List.length_append, List.length_set, List.length_cons, List.length_nil, fitL_len] <;> omega) ⟨rfl, by decide⟩ (fun j_ => hz_ _ (by omega) j_) ⟨(by show _ ≤ (6 : Nat); omega), (by show _ ≤ (60 : Nat); omega)⟩ (by refine ⟨?_, ?_⟩ <;> simp only [okL, okS, okV, and_true, true_and] <;> omega) (fun hw_ => ?_)
  have hp_ := ge_app hp_ (yA 0 10)
  refine v_putR iX3_init_25 ffX3_18 rfl hw_ hp_ (Nat.le_of_ble_eq_true rfl) (by simp only [List.length_append, List.length_set, List.length_cons, List.length_nil, fitL_len] <;> omega) rfl (fun hw_ => ?_)
  have hp_ := ge_set hp_ (yO 3 [(L_.length + 0) + 2, (L_.length + 1) + 2, (L_.length + 2) + 2, 1, 1, 1, 1, 1, 0])
  refine v_aload_n iX3_init_28 rfl ?_
  refine v_bipush iX3_init_29 (by decide) ?_
  refine v_newI (N := (L_.length + 3)) (len := 10) iX3_init_31 hw_ (by simp only [List.length_append, List.length_set, List.length_cons, List.length_nil, fitL_len] <;> omega) ⟨rfl, by decide⟩ (fun j_ => hz_ _ (by omega) j_) ⟨(by show _ ≤ (6 : Nat); omega), (by show _ ≤ (60 : Nat); omega)⟩ (by refine ⟨?_, ?_⟩ <;> simp only [okL, okS, okV, and_true, true_and] <;> omega) (fun hw_ => ?_)
  have hp_ := ge_app hp_ (yA 0 10)
  refine v_putR iX3_init_33 ffX3_21 rfl hw_ hp_ (Nat.le_of_ble_eq_true rfl) (by simp only [List.length_append, List.length_set, List.length_cons, List.length_nil, fitL_len] <;> omega) rfl (fun hw_ => ?_)
  have hp_ := ge_set hp_ (yO 3 [(L_.length + 0) + 2, (L_.length + 1) + 2, (L_.length + 2) + 2, (L_.length + 3) + 2, 1, 1, 1, 1, 0])
  refine v_aload_n iX3_init_36 rfl ?_
  refine v_bipush iX3_init_37 (by decide) ?_
  refine v_newI (N := (L_.length + 4)) (len := 10) iX3_init_39 hw_ (by simp only [List.length_append, List.length_set, List.length_cons, List.length_nil, fitL_len] <;> omega) ⟨rfl, by decide⟩ (fun j_ => hz_ _ (by omega) j_) ⟨(by show _ ≤ (6 : Nat); omega), (by show _ ≤ (60 : Nat); omega)⟩ (by refine ⟨?_, ?_⟩ <;> simp only [okL, okS, okV, and_true, true_and] <;> omega) (fun hw_ => ?_)
  have hp_ := ge_app hp_ (yA 0 10)
  refine v_putR iX3_init_41 ffX3_24 rfl hw_ hp_ (Nat.le_of_ble_eq_true rfl) (by simp only [List.length_append, List.length_set, List.length_cons, List.length_nil, fitL_len] <;> omega) rfl (fun hw_ => ?_)
  have hp_ := ge_set hp_ (yO 3 [(L_.length + 0) + 2, (L_.length + 1) + 2, (L_.length + 2) + 2, (L_.length + 3) + 2, (L_.length + 4) + 2, 1, 1, 1, 0])
  refine v_aload_n iX3_init_44 rfl ?_
  refine v_bipush iX3_init_45 (by decide) ?_
  refine v_newI (N := (L_.length + 5)) (len := 10) iX3_init_47 hw_ (by simp only [List.length_append, List.length_set, List.length_cons, List.length_nil, fitL_len] <;> omega) ⟨rfl, by decide⟩ (fun j_ => hz_ _ (by omega) j_) ⟨(by show _ ≤ (6 : Nat); omega), (by show _ ≤ (60 : Nat); omega)⟩ (by refine ⟨?_, ?_⟩ <;> simp only [okL, okS, okV, and_true, true_and] <;> omega) (fun hw_ => ?_)
  have hp_ := ge_app hp_ (yA 0 10)
  refine v_putR iX3_init_49 ffX3_27 rfl hw_ hp_ (Nat.le_of_ble_eq_true rfl) (by simp only [List.length_append, List.length_set, List.length_cons, List.length_nil, fitL_len] <;> omega) rfl (fun hw_ => ?_)
  have hp_ := ge_set hp_ (yO 3 [(L_.length + 0) + 2, (L_.length + 1) + 2, (L_.length + 2) + 2, (L_.length + 3) + 2, (L_.length + 4) + 2, (L_.length + 5) + 2, 1, 1, 0])
  refine v_aload_n iX3_init_52 rfl ?_
  refine v_aload_n iX3_init_53 rfl ?_
  refine v_putR iX3_init_54 ffX3_30 rfl hw_ hp_ (Nat.le_of_ble_eq_true rfl) (by simp only [List.length_append, List.length_set, List.length_cons, List.length_nil] <;> omega) rfl (fun hw_ => ?_)
  have hp_ := ge_set hp_ (yO 3 [(L_.length + 0) + 2, (L_.length + 1) + 2, (L_.length + 2) + 2, (L_.length + 3) + 2, (L_.length + 4) + 2, (L_.length + 5) + 2, t_ + 2, 1, 0])
  refine v_aload_n iX3_init_57 rfl ?_
  refine v_aload_n iX3_init_58 rfl ?_
  refine v_putR iX3_init_59 ffX3_34 rfl hw_ hp_ (Nat.le_of_ble_eq_true rfl) (by simp only [List.length_append, List.length_set, List.length_cons, List.length_nil] <;> omega) rfl (fun hw_ => ?_)
  have hp_ := ge_set hp_ (yO 3 [(L_.length + 0) + 2, (L_.length + 1) + 2, (L_.length + 2) + 2, (L_.length + 3) + 2, (L_.length + 4) + 2, (L_.length + 5) + 2, t_ + 2, f_ + 2, 0])
  exact v_vret iX3_init_62 rfl ⟨(by show _ ≤ (6 : Nat); omega), (by show _ ≤ (60 : Nat); omega)⟩ ⟨rfl, rfl, hw_, rfl, rfl⟩

set_option maxHeartbeats 4000000 in
set_option maxRecDepth 100000 in
theorem qX4_init (L_ : List Ly) (σ α : St) (p_ : Nat) (hp_ : L_[p_]? = some (yO 4 [1, 1, 1, 1, 0, 0, 0, 0])) (hw_ : wfL L_) (hzs_ : ∀ q, L_.length ≤ q → ∀ j, σ q j = 0) (hz_ : ∀ q, L_.length ≤ q → ∀ j, α q j = 0) : SS 2 mX4_init 8 63 [vR p_] L_ σ α (fun r' L' s' a' => r' = none ∧ L' = (fitL ((((L_ ++ [yA 0 10]).set p_ (yO 4 [(L_.length + 0) + 2, 1, 1, 1, 0, 0, 0, 0]) ++ [yA 0 10]).set p_ (yO 4 [(L_.length + 0) + 2, (L_.length + 1) + 2, 1, 1, 0, 0, 0, 0]) ++ [yA 0 10]).set p_ (yO 4 [(L_.length + 0) + 2, (L_.length + 1) + 2, (L_.length + 2) + 2, 1, 0, 0, 0, 0]) ++ [yO 1 [1, 1, 1, 1, 0]]) (L_.length + 3)).set p_ (yO 4 [(L_.length + 0) + 2, (L_.length + 1) + 2, (L_.length + 2) + 2, (L_.length + 3) + 2, 0, 0, 0, 0]) ∧ wfL L' ∧ s' = uS (uS (uS σ p_ 5 6) p_ 6 5) p_ 7 50 ∧ a' = α) := by
  have hpl_ := ge_lt hp_
  refine SS.of (by decide) (by simp [lvA]) (lv := [some (vR p_)]) rfl ?_
  refine v_aload_n iX4_init_0 rfl ?_
  refine v_objI iX4_init_1 (gw_t 48 (by decide +kernel) rfl) (by decide) (Nat.le_of_ble_eq_true rfl) ?_
  refine v_aload_n iX4_init_4 rfl ?_
  refine v_bipush iX4_init_5 (by decide) ?_
  refine v_newI (N := (L_.length + 0)) (len := 10) iX4_init_7 hw_ rfl ⟨rfl, by decide⟩ (fun j_ => hz_ _ (by omega) j_) ⟨(by show _ ≤ (8 : Nat); omega), (by show _ ≤ (63 : Nat); omega)⟩ (by refine ⟨?_, ?_⟩ <;> simp only [okL, okS, okV, and_true, true_and] <;> omega) (fun hw_ => ?_)
  have hp_ := ge_app hp_ (yA 0 10)
  refine v_putR iX4_init_9 ffX4_9 rfl hw_ hp_ (Nat.le_of_ble_eq_true rfl) (by simp only [List.length_append, List.length_set, List.length_cons, List.length_nil, fitL_len] <;> omega) rfl (fun hw_ => ?_)
  have hp_ := ge_set hp_ (yO 4 [(L_.length + 0) + 2, 1, 1, 1, 0, 0, 0, 0])
  refine v_aload_n iX4_init_12 rfl ?_
  refine v_bipush iX4_init_13 (by decide) ?_
  refine v_newI (N := (L_.length + 1)) (len := 10) iX4_init_15 hw_ (by simp only [List.length_append, List.length_set, List.length_cons, List.length_nil, fitL_len] <;> omega) ⟨rfl, by decide⟩ (fun j_ => hz_ _ (by omega) j_) ⟨(by show _ ≤ (8 : Nat); omega), (by show _ ≤ (63 : Nat); omega)⟩ (by refine ⟨?_, ?_⟩ <;> simp only [okL, okS, okV, and_true, true_and] <;> omega) (fun hw_ => ?_)
  have hp_ := ge_app hp_ (yA 0 10)
  refine v_putR iX4_init_17 ffX4_15 rfl hw_ hp_ (Nat.le_of_ble_eq_true rfl) (by simp only [List.length_append, List.length_set, List.length_cons, List.length_nil, fitL_len] <;> omega) rfl (fun hw_ => ?_)
  have hp_ := ge_set hp_ (yO 4 [(L_.length + 0) + 2, (L_.length + 1) + 2, 1, 1, 0, 0, 0, 0])
  refine v_aload_n iX4_init_20 rfl ?_
  refine v_bipush iX4_init_21 (by decide) ?_
  refine v_newI (N := (L_.length + 2)) (len := 10) iX4_init_23 hw_ (by simp only [List.length_append, List.length_set, List.length_cons, List.length_nil, fitL_len] <;> omega) ⟨rfl, by decide⟩ (fun j_ => hz_ _ (by omega) j_) ⟨(by show _ ≤ (8 : Nat); omega), (by show _ ≤ (63 : Nat); omega)⟩ (by refine ⟨?_, ?_⟩ <;> simp only [okL, okS, okV, and_true, true_and] <;> omega) (fun hw_ => ?_)
  have hp_ := ge_app hp_ (yA 0 10)
  refine v_putR iX4_init_25 ffX4_18 rfl hw_ hp_ (Nat.le_of_ble_eq_true rfl) (by simp only [List.length_append, List.length_set, List.length_cons, List.length_nil, fitL_len] <;> omega) rfl (fun hw_ => ?_)
  have hp_ := ge_set hp_ (yO 4 [(L_.length + 0) + 2, (L_.length + 1) + 2, (L_.length + 2) + 2, 1, 0, 0, 0, 0])
  refine v_aload_n iX4_init_28 rfl ?_
  refine v_new (N := (L_.length + 3)) (ci := 1) (cs := [1, 1, 1, 1, 0]) tyX1 iX4_init_29 rfl uw1 tyX1_ok (gw_t 49 (by decide +kernel) rfl) (gw_t 50 (by decide +kernel) rfl) (gw_t 4 (by decide +kernel) rfl) nfX1 hw_ (by simp only [List.length_append, List.length_set, List.length_cons, List.length_nil, fitL_len] <;> omega) (fun j_ => hzs_ _ (by omega) j_) ⟨(by show _ ≤ (8 : Nat); omega), (by show _ ≤ (63 : Nat); omega)⟩ (by refine ⟨?_, ?_⟩ <;> simp only [okL, okS, okV, and_true, true_and] <;> omega) (fun hw_ => ?_)
  have hp_ := ge_app hp_ (yO 1 [1, 1, 1, 1, 0])
  refine v_dup iX4_init_32 (by intro z h; cases h) ?_
  refine v_callI (y := yX1_init) (b := cX1_init) (ml := 1) (N := L_.length + 4) iX4_init_33 lX4_23 kX1_init rfl (qX1_init _ σ α (L_.length + 3) (ge_lastN _ _ (by simp only [List.length_append, List.length_set, List.length_cons, List.length_nil] <;> omega)) hw_ (fun q hq j => hzs_ q (by simp only [List.length_append, List.length_set, List.length_cons, List.length_nil] at hq; omega) j) (fun q hq j => hz_ q (by simp only [List.length_append, List.length_set, List.length_cons, List.length_nil] at hq; omega) j)) (by decide) rfl rfl (Nat.le_of_ble_eq_true rfl) ⟨(by show _ ≤ (8 : Nat); omega), (by show _ ≤ (63 : Nat); omega)⟩ (by simp only [List.length_append, List.length_set, List.length_cons, List.length_nil, fitL_len] <;> omega) (by refine ⟨?_, ?_⟩ <;> simp only [okL, okS, okV, and_true, true_and] <;> omega) ?_
  rintro r9_ L9_ s9_ a9_ ⟨rfl, rfl, hw_, rfl, rfl⟩
  have hp_ := fitL_o (p := L_.length + 3) hp_ (by omega)
  refine v_putR iX4_init_36 ffX4_24 rfl hw_ hp_ (Nat.le_of_ble_eq_true rfl) (by simp only [List.length_append, List.length_set, List.length_cons, List.length_nil, fitL_len] <;> omega) rfl (fun hw_ => ?_)
  have hp_ := ge_set hp_ (yO 4 [(L_.length + 0) + 2, (L_.length + 1) + 2, (L_.length + 2) + 2, (L_.length + 3) + 2, 0, 0, 0, 0])
  refine v_aload_n iX4_init_39 rfl ?_
  refine v_bipush iX4_init_40 (by decide) ?_
  refine v_put iX4_init_42 pX4_28 hp_ rfl (by intro h; cases h) ?_
  refine v_aload_n iX4_init_45 rfl ?_
  refine v_iconst iX4_init_46 ?_
  refine v_put iX4_init_47 pX4_32 hp_ rfl (by intro h; cases h) ?_
  refine v_aload_n iX4_init_50 rfl ?_
  refine v_bipush iX4_init_51 (by decide) ?_
  refine v_put iX4_init_53 pX4_35 hp_ rfl (by intro h; cases h) ?_
  exact v_vret iX4_init_56 rfl ⟨(by show _ ≤ (8 : Nat); omega), (by show _ ≤ (63 : Nat); omega)⟩ ⟨rfl, rfl, hw_, rfl, rfl⟩
