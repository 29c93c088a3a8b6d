/-- nothing yet -/
def zz : St := fun _ _ => 0
def zq (σ : St) (n : Nat) : Prop := ∀ q, n ≤ q → ∀ j, σ q j = 0
theorem zq.u {σ : St} {n : Nat} (h : zq σ n) {p : Nat} (hp : p < n) (k : Nat) (v : Int) : zq (uS σ p k v) n := fun q hq j => by rw [uS_ne _ _ (by omega)]; exact h q hq j
theorem zq.m {σ : St} {n n' : Nat} (h : zq σ n) (hn : n ≤ n') : zq σ n' := fun q hq j => h q (by omega) j
/-- the class's cells while it is being made -/
def lyF (c q3 q2 : List Nat) (k : Nat) : List Ly := (((LA.take k).set 0 (yO 7 c)).set 69 (yQ 3 q3)).set 78 (yQ 2 q2)
def lyM (c : List Nat) (k : Nat) : List Ly := (LA.take k).set 95 (yO 8 c)
def wdF (k : Nat) : Nat → Int := fun j => if j < k then wrd j else 0
def szF (k : Nat) : Nat → Int := fun j => if j < k then -1 else 0
theorem st_F (A : St) (q : Nat) (F : Nat → Nat → Int) (k : Nat) (x : Int) (h : uF (F k) k x = F (k + 1)) : uA (uA A q (F k)) q (uF ((uA A q (F k)) q) k x) = uA A q (F (k + 1)) := by rw [uA_eq, uA_uA, h]
theorem wdF_s (k : Nat) (x : Int) (h : x = wrd k) : uF (wdF k) k x = wdF (k + 1) := by
  funext j
  unfold uF wdF
  by_cases hj : j = k
  · subst hj; rw [if_pos rfl, if_pos (by omega), h]
  · rw [if_neg hj]
    by_cases h2 : j < k
    · rw [if_pos h2, if_pos (by omega)]
    · rw [if_neg h2, if_neg (by omega)]
theorem szF_s (k : Nat) : uF (szF k) k (-1) = szF (k + 1) := by
  funext j
  unfold uF szF
  by_cases hj : j = k
  · subst hj; rw [if_pos rfl, if_pos (by omega)]
  · rw [if_neg hj]
    by_cases h2 : j < k
    · rw [if_pos h2, if_pos (by omega)]
    · rw [if_neg h2, if_neg (by omega)]
theorem F_0 (A : St) (q : Nat) (F : Nat → Nat → Int) (h : A q = F 0) : A = uA A q (F 0) := by rw [← h, uA_id]
theorem ffX2_11 : FF RX2 11 2 0 := ⟨RX2, TX2, 3, (.array (.object RX1)), rfl, by decide, uw2, (gw_t 165 (by decide +kernel) rfl), rfl, rfl, ⟨tyX2, tyX2_ok⟩, nmX2, by decide +kernel, fun a => ⟨rfl, rfl⟩⟩
theorem nfX6 : ([1, 0] : List Nat).length = 2 ∧ (∀ c ∈ ([1, 0] : List Nat), c < 2) ∧ ∀ j, j < 2 → defaultValue (tyX6 j) = if ([1, 0] : List Nat).getD j 1 = 0 then .int 0 else .null := ⟨rfl, by decide, by decide +kernel⟩
theorem ffX7_10 : FF RX7 10 7 0 := ⟨RX7, TX7, 10, (.object RX6), rfl, by decide, uw7, (gw_t 240 (by decide +kernel) rfl), rfl, rfl, ⟨tyX7, tyX7_ok⟩, nmX7, by decide +kernel, fun a => ⟨rfl, rfl⟩⟩
theorem nfX4 : ([1, 1, 1, 1, 0, 0, 0, 0] : List Nat).length = 8 ∧ (∀ c ∈ ([1, 1, 1, 1, 0, 0, 0, 0] : List Nat), c < 2) ∧ ∀ j, j < 8 → defaultValue (tyX4 j) = if ([1, 1, 1, 1, 0, 0, 0, 0] : List Nat).getD j 1 = 0 then .int 0 else .null := ⟨rfl, by decide, by decide +kernel⟩
theorem ffX7_19 : FF RX7 19 7 1 := ⟨RX7, TX7, 10, (.object RX4), rfl, by decide, uw7, (gw_t 241 (by decide +kernel) rfl), rfl, rfl, ⟨tyX7, tyX7_ok⟩, nmX7, by decide +kernel, fun a => ⟨rfl, rfl⟩⟩
theorem ffX7_23 : FF RX7 23 7 2 := ⟨RX7, TX7, 10, (.object RX4), rfl, by decide, uw7, (gw_t 242 (by decide +kernel) rfl), rfl, rfl, ⟨tyX7, tyX7_ok⟩, nmX7, by decide +kernel, fun a => ⟨rfl, rfl⟩⟩
theorem nfX5 : ([1, 1, 0, 0, 0, 0, 0] : List Nat).length = 7 ∧ (∀ c ∈ ([1, 1, 0, 0, 0, 0, 0] : List Nat), c < 2) ∧ ∀ j, j < 7 → defaultValue (tyX5 j) = if ([1, 1, 0, 0, 0, 0, 0] : List Nat).getD j 1 = 0 then .int 0 else .null := ⟨rfl, by decide, by decide +kernel⟩
theorem ffX7_31 : FF RX7 31 7 3 := ⟨RX7, TX7, 10, (.object RX5), rfl, by decide, uw7, (gw_t 243 (by decide +kernel) rfl), rfl, rfl, ⟨tyX7, tyX7_ok⟩, nmX7, by decide +kernel, fun a => ⟨rfl, rfl⟩⟩
theorem ffX7_38 : FF RX7 38 7 4 := ⟨RX7, TX7, 10, (.object RX1), rfl, by decide, uw7, (gw_t 244 (by decide +kernel) rfl), rfl, rfl, ⟨tyX7, tyX7_ok⟩, nmX7, by decide +kernel, fun a => ⟨rfl, rfl⟩⟩
theorem nfX2 : ([1, 0, 0] : List Nat).length = 3 ∧ (∀ c ∈ ([1, 0, 0] : List Nat), c < 2) ∧ ∀ j, j < 3 → defaultValue (tyX2 j) = if ([1, 0, 0] : List Nat).getD j 1 = 0 then .int 0 else .null := ⟨rfl, by decide, by decide +kernel⟩
theorem ffX7_45 : FF RX7 45 7 5 := ⟨RX7, TX7, 10, (.object RX2), rfl, by decide, uw7, (gw_t 245 (by decide +kernel) rfl), rfl, rfl, ⟨tyX7, tyX7_ok⟩, nmX7, by decide +kernel, fun a => ⟨rfl, rfl⟩⟩
theorem ffX7_49 : FF RX7 49 7 6 := ⟨RX7, TX7, 10, (.array (.object RX1)), rfl, by decide, uw7, (gw_t 246 (by decide +kernel) rfl), rfl, rfl, ⟨tyX7, tyX7_ok⟩, nmX7, by decide +kernel, fun a => ⟨rfl, rfl⟩⟩
theorem ffX7_53 : FF RX7 53 7 7 := ⟨RX7, TX7, 10, (.array .boolean), rfl, by decide, uw7, (gw_t 247 (by decide +kernel) rfl), rfl, rfl, ⟨tyX7, tyX7_ok⟩, nmX7, by decide +kernel, fun a => ⟨rfl, rfl⟩⟩
theorem nfX3 : ([1, 1, 1, 1, 1, 1, 1, 1, 0] : List Nat).length = 9 ∧ (∀ c ∈ ([1, 1, 1, 1, 1, 1, 1, 1, 0] : List Nat), c < 2) ∧ ∀ j, j < 9 → defaultValue (tyX3 j) = if ([1, 1, 1, 1, 1, 1, 1, 1, 0] : List Nat).getD j 1 = 0 then .int 0 else .null := ⟨rfl, by decide, by decide +kernel⟩
theorem ffX7_62 : FF RX7 62 7 8 := ⟨RX7, TX7, 10, (.object RX3), rfl, by decide, uw7, (gw_t 248 (by decide +kernel) rfl), rfl, rfl, ⟨tyX7, tyX7_ok⟩, nmX7, by decide +kernel, fun a => ⟨rfl, rfl⟩⟩
theorem ffX7_68 : FF RX7 68 7 9 := ⟨RX7, TX7, 10, (.array (.object RX0)), rfl, by decide, uw7, (gw_t 249 (by decide +kernel) rfl), rfl, rfl, ⟨tyX7, tyX7_ok⟩, nmX7, by decide +kernel, fun a => ⟨rfl, rfl⟩⟩
theorem nfX0 : ([1, 0, 0, 0] : List Nat).length = 4 ∧ (∀ c ∈ ([1, 0, 0, 0] : List Nat), c < 2) ∧ ∀ j, j < 4 → defaultValue (tyX0 j) = if ([1, 0, 0, 0] : List Nat).getD j 1 = 0 then .int 0 else .null := ⟨rfl, by decide, by decide +kernel⟩
theorem ffX8_7 : FF RX8 7 8 0 := ⟨RX8, TX8, 25, (.array .int), rfl, by decide, uw8, (gw_t 765 (by decide +kernel) rfl), rfl, rfl, ⟨tyX8, tyX8_ok⟩, nmX8, by decide +kernel, fun a => ⟨rfl, rfl⟩⟩
theorem ffX8_13 : FF RX8 13 8 2 := ⟨RX8, TX8, 25, (.array .int), rfl, by decide, uw8, (gw_t 767 (by decide +kernel) rfl), rfl, rfl, ⟨tyX8, tyX8_ok⟩, nmX8, by decide +kernel, fun a => ⟨rfl, rfl⟩⟩
theorem ffX8_16 : FF RX8 16 8 3 := ⟨RX8, TX8, 25, (.array .int), rfl, by decide, uw8, (gw_t 768 (by decide +kernel) rfl), rfl, rfl, ⟨tyX8, tyX8_ok⟩, nmX8, by decide +kernel, fun a => ⟨rfl, rfl⟩⟩
theorem ffX8_19 : FF RX8 19 8 4 := ⟨RX8, TX8, 25, (.array .int), rfl, by decide, uw8, (gw_t 769 (by decide +kernel) rfl), rfl, rfl, ⟨tyX8, tyX8_ok⟩, nmX8, by decide +kernel, fun a => ⟨rfl, rfl⟩⟩
theorem ffX8_32 : FF RX8 32 8 9 := ⟨RX8, TX8, 25, (.array .boolean), rfl, by decide, uw8, (gw_t 774 (by decide +kernel) rfl), rfl, rfl, ⟨tyX8, tyX8_ok⟩, nmX8, by decide +kernel, fun a => ⟨rfl, rfl⟩⟩
theorem ffX8_36 : FF RX8 36 8 10 := ⟨RX8, TX8, 25, (.array .int), rfl, by decide, uw8, (gw_t 775 (by decide +kernel) rfl), rfl, rfl, ⟨tyX8, tyX8_ok⟩, nmX8, by decide +kernel, fun a => ⟨rfl, rfl⟩⟩
theorem ffX8_39 : FF RX8 39 8 12 := ⟨RX8, TX8, 25, (.array .int), rfl, by decide, uw8, (gw_t 777 (by decide +kernel) rfl), rfl, rfl, ⟨tyX8, tyX8_ok⟩, nmX8, by decide +kernel, fun a => ⟨rfl, rfl⟩⟩
theorem ffX8_42 : FF RX8 42 8 13 := ⟨RX8, TX8, 25, (.array .int), rfl, by decide, uw8, (gw_t 778 (by decide +kernel) rfl), rfl, rfl, ⟨tyX8, tyX8_ok⟩, nmX8, by decide +kernel, fun a => ⟨rfl, rfl⟩⟩
theorem ffX8_45 : FF RX8 45 8 14 := ⟨RX8, TX8, 25, (.array .int), rfl, by decide, uw8, (gw_t 779 (by decide +kernel) rfl), rfl, rfl, ⟨tyX8, tyX8_ok⟩, nmX8, by decide +kernel, fun a => ⟨rfl, rfl⟩⟩
theorem ffX8_48 : FF RX8 48 8 21 := ⟨RX8, TX8, 25, (.array .int), rfl, by decide, uw8, (gw_t 786 (by decide +kernel) rfl), rfl, rfl, ⟨tyX8, tyX8_ok⟩, nmX8, by decide +kernel, fun a => ⟨rfl, rfl⟩⟩
theorem ffX8_51 : FF RX8 51 8 22 := ⟨RX8, TX8, 25, (.array .int), rfl, by decide, uw8, (gw_t 787 (by decide +kernel) rfl), rfl, rfl, ⟨tyX8, tyX8_ok⟩, nmX8, by decide +kernel, fun a => ⟨rfl, rfl⟩⟩
theorem ffX8_54 : FF RX8 54 8 24 := ⟨RX8, TX8, 25, (.array .int), rfl, by decide, uw8, (gw_t 789 (by decide +kernel) rfl), rfl, rfl, ⟨tyX8, tyX8_ok⟩, nmX8, by decide +kernel, fun a => ⟨rfl, rfl⟩⟩
set_option maxHeartbeats 8000000 in
set_option maxRecDepth 100000 in
theorem qX2_init (σ α : St) (hw_ : wfL (lyF [3, 5, 14, 23, 24, 1, 1, 1, 1, 1] [81, 86] [91, 93, 95] 27 ++ [yO 2 [1, 0, 0]])) (hzs_ : zq σ 28) (hz_ : zq α 28) : SS 2 mX2_init 41 272 [vR 27] (lyF [3, 5, 14, 23, 24, 1, 1, 1, 1, 1] [81, 86] [91, 93, 95] 27 ++ [yO 2 [1, 0, 0]]) σ α (fun r' L' s' a' => r' = none ∧ L' = lyF [3, 5, 14, 23, 24, 1, 1, 1, 1, 1] [81, 86] [91, 93, 95] 69 ∧ wfL L' ∧ s' = σ ∧ a' = α) := by
  refine SS.of (by decide) (by simp [lvA]) (lv := [some (vR 27), none]) rfl ?_
  change V _ _ _ _ _ [yO 7 [3, 5, 14, 23, 24, 1, 1, 1, 1, 1], yO 6 [4, 0], yA 0 200, yO 4 [6, 7, 8, 9, 0, 0, 0, 0], yA 0 10, yA 0 10, yA 0 10, yO 1 [10, 11, 12, 13, 0], yA 0 10, yA 0 6, yA 0 6, yA 0 6, yO 4 [15, 16, 17, 18, 0, 0, 0, 0], yA 0 10, yA 0 10, yA 0 10, yO 1 [19, 20, 21, 22, 0], yA 0 10, yA 0 6, yA 0 6, yA 0 6, yO 5 [3, 14, 0, 0, 0, 0, 0], yO 1 [25, 26, 27, 28, 0], yA 0 10, yA 0 6, yA 0 6, yA 0 6, yO 2 [1, 0, 0]] _ _ _ _ _
  change wfL [yO 7 [3, 5, 14, 23, 24, 1, 1, 1, 1, 1], yO 6 [4, 0], yA 0 200, yO 4 [6, 7, 8, 9, 0, 0, 0, 0], yA 0 10, yA 0 10, yA 0 10, yO 1 [10, 11, 12, 13, 0], yA 0 10, yA 0 6, yA 0 6, yA 0 6, yO 4 [15, 16, 17, 18, 0, 0, 0, 0], yA 0 10, yA 0 10, yA 0 10, yO 1 [19, 20, 21, 22, 0], yA 0 10, yA 0 6, yA 0 6, yA 0 6, yO 5 [3, 14, 0, 0, 0, 0, 0], yO 1 [25, 26, 27, 28, 0], yA 0 10, yA 0 6, yA 0 6, yA 0 6, yO 2 [1, 0, 0]] at hw_
  refine v_aload_n iX2_init_0 rfl ?_
  refine v_objI iX2_init_1 (gw_t 161 (by decide +kernel) rfl) (by decide) (Nat.le_of_ble_eq_true rfl) ?_
  refine v_aload_n iX2_init_4 rfl ?_
  refine v_bipush iX2_init_5 (by decide) ?_
  refine v_newQ (N := 28) (len := 8) (t := 3) (C0 := RX1) iX2_init_7 (by right; exact ⟨rfl, rfl⟩) (gw_t 162 (by decide +kernel) rfl) hw_ rfl ⟨rfl, by decide⟩ ⟨(by show _ ≤ (41 : Nat); omega), (by show _ ≤ (272 : Nat); omega)⟩ (by refine ⟨?_, ?_⟩ <;> simp only [okL, okS, okV, and_true, true_and] <;> omega) (fun hw_ => ?_)
  change V _ _ _ _ _ [yO 7 [3, 5, 14, 23, 24, 1, 1, 1, 1, 1], yO 6 [4, 0], yA 0 200, yO 4 [6, 7, 8, 9, 0, 0, 0, 0], yA 0 10, yA 0 10, yA 0 10, yO 1 [10, 11, 12, 13, 0], yA 0 10, yA 0 6, yA 0 6, yA 0 6, yO 4 [15, 16, 17, 18, 0, 0, 0, 0], yA 0 10, yA 0 10, yA 0 10, yO 1 [19, 20, 21, 22, 0], yA 0 10, yA 0 6, yA 0 6, yA 0 6, yO 5 [3, 14, 0, 0, 0, 0, 0], yO 1 [25, 26, 27, 28, 0], yA 0 10, yA 0 6, yA 0 6, yA 0 6, yO 2 [1, 0, 0], yQ 3 [1, 1, 1, 1, 1, 1, 1, 1]] _ _ _ _ _
  change wfL [yO 7 [3, 5, 14, 23, 24, 1, 1, 1, 1, 1], yO 6 [4, 0], yA 0 200, yO 4 [6, 7, 8, 9, 0, 0, 0, 0], yA 0 10, yA 0 10, yA 0 10, yO 1 [10, 11, 12, 13, 0], yA 0 10, yA 0 6, yA 0 6, yA 0 6, yO 4 [15, 16, 17, 18, 0, 0, 0, 0], yA 0 10, yA 0 10, yA 0 10, yO 1 [19, 20, 21, 22, 0], yA 0 10, yA 0 6, yA 0 6, yA 0 6, yO 5 [3, 14, 0, 0, 0, 0, 0], yO 1 [25, 26, 27, 28, 0], yA 0 10, yA 0 6, yA 0 6, yA 0 6, yO 2 [1, 0, 0], yQ 3 [1, 1, 1, 1, 1, 1, 1, 1]] at hw_
  refine v_putR iX2_init_10 ffX2_11 rfl hw_ rfl (Nat.le_of_ble_eq_true rfl) (by decide) rfl (fun hw_ => ?_)
  change V _ _ _ _ _ [yO 7 [3, 5, 14, 23, 24, 1, 1, 1, 1, 1], yO 6 [4, 0], yA 0 200, yO 4 [6, 7, 8, 9, 0, 0, 0, 0], yA 0 10, yA 0 10, yA 0 10, yO 1 [10, 11, 12, 13, 0], yA 0 10, yA 0 6, yA 0 6, yA 0 6, yO 4 [15, 16, 17, 18, 0, 0, 0, 0], yA 0 10, yA 0 10, yA 0 10, yO 1 [19, 20, 21, 22, 0], yA 0 10, yA 0 6, yA 0 6, yA 0 6, yO 5 [3, 14, 0, 0, 0, 0, 0], yO 1 [25, 26, 27, 28, 0], yA 0 10, yA 0 6, yA 0 6, yA 0 6, yO 2 [30, 0, 0], yQ 3 [1, 1, 1, 1, 1, 1, 1, 1]] _ _ _ _ _
  change wfL [yO 7 [3, 5, 14, 23, 24, 1, 1, 1, 1, 1], yO 6 [4, 0], yA 0 200, yO 4 [6, 7, 8, 9, 0, 0, 0, 0], yA 0 10, yA 0 10, yA 0 10, yO 1 [10, 11, 12, 13, 0], yA 0 10, yA 0 6, yA 0 6, yA 0 6, yO 4 [15, 16, 17, 18, 0, 0, 0, 0], yA 0 10, yA 0 10, yA 0 10, yO 1 [19, 20, 21, 22, 0], yA 0 10, yA 0 6, yA 0 6, yA 0 6, yO 5 [3, 14, 0, 0, 0, 0, 0], yO 1 [25, 26, 27, 28, 0], yA 0 10, yA 0 6, yA 0 6, yA 0 6, yO 2 [30, 0, 0], yQ 3 [1, 1, 1, 1, 1, 1, 1, 1]] at hw_
  refine v_iconst iX2_init_13 ?_
  refine v_is1 iX2_init_14 ⟨rfl, rfl⟩ ?_
  refine v_iload_n iX2_init_15 rfl ?_
  refine v_bipush iX2_init_16 (by decide) ?_
  refine v_icmp_ge (tgt := 40) iX2_init_18 (by decide) (by decide) (fun h_ => absurd h_ (by decide)) (fun h_ => ?_)
  refine v_aload_n iX2_init_21 rfl ?_
  refine v_getR iX2_init_22 fX2_11 rfl rfl ?_
  refine v_iload_n iX2_init_25 rfl ?_
  refine v_new (N := 29) (ci := 1) (cs := [1, 1, 1, 1, 0]) tyX1 iX2_init_26 rfl uw1 tyX1_ok (gw_t 162 (by decide +kernel) rfl) (gw_t 50 (by decide +kernel) rfl) (gw_t 4 (by decide +kernel) rfl) nfX1 hw_ rfl (fun j_ => hzs_ _ (by decide) j_) ⟨(by show _ ≤ (41 : Nat); omega), (by show _ ≤ (272 : Nat); omega)⟩ (by refine ⟨?_, ?_⟩ <;> simp only [okL, okS, okV, and_true, true_and] <;> omega) (fun hw_ => ?_)
  change V _ _ _ _ _ [yO 7 [3, 5, 14, 23, 24, 1, 1, 1, 1, 1], yO 6 [4, 0], yA 0 200, yO 4 [6, 7, 8, 9, 0, 0, 0, 0], yA 0 10, yA 0 10, yA 0 10, yO 1 [10, 11, 12, 13, 0], yA 0 10, yA 0 6, yA 0 6, yA 0 6, yO 4 [15, 16, 17, 18, 0, 0, 0, 0], yA 0 10, yA 0 10, yA 0 10, yO 1 [19, 20, 21, 22, 0], yA 0 10, yA 0 6, yA 0 6, yA 0 6, yO 5 [3, 14, 0, 0, 0, 0, 0], yO 1 [25, 26, 27, 28, 0], yA 0 10, yA 0 6, yA 0 6, yA 0 6, yO 2 [30, 0, 0], yQ 3 [1, 1, 1, 1, 1, 1, 1, 1], yO 1 [1, 1, 1, 1, 0]] _ _ _ _ _
  change wfL [yO 7 [3, 5, 14, 23, 24, 1, 1, 1, 1, 1], yO 6 [4, 0], yA 0 200, yO 4 [6, 7, 8, 9, 0, 0, 0, 0], yA 0 10, yA 0 10, yA 0 10, yO 1 [10, 11, 12, 13, 0], yA 0 10, yA 0 6, yA 0 6, yA 0 6, yO 4 [15, 16, 17, 18, 0, 0, 0, 0], yA 0 10, yA 0 10, yA 0 10, yO 1 [19, 20, 21, 22, 0], yA 0 10, yA 0 6, yA 0 6, yA 0 6, yO 5 [3, 14, 0, 0, 0, 0, 0], yO 1 [25, 26, 27, 28, 0], yA 0 10, yA 0 6, yA 0 6, yA 0 6, yO 2 [30, 0, 0], yQ 3 [1, 1, 1, 1, 1, 1, 1, 1], yO 1 [1, 1, 1, 1, 0]] at hw_
  refine v_dup iX2_init_29 (by intro z h; cases h) ?_
  refine v_callI (y := yX1_init) (b := cX1_init) (ml := 1) (N := 30) iX2_init_30 lX2_17 kX1_init rfl (qX1_init _ _ _ 29 rfl hw_ (hzs_.m (by decide)) (hz_.m (by decide))) (by decide) rfl rfl (Nat.le_of_ble_eq_true rfl) ⟨(by show _ ≤ (41 : Nat); omega), (by show _ ≤ (272 : Nat); omega)⟩ rfl (by refine ⟨?_, ?_⟩ <;> simp only [okL, okS, okV, and_true, true_and] <;> omega) ?_
  rintro r9_ L9_ s9_ a9_ ⟨rfl, rfl, hw_, rfl, rfl⟩
  change V _ _ _ _ _ [yO 7 [3, 5, 14, 23, 24, 1, 1, 1, 1, 1], yO 6 [4, 0], yA 0 200, yO 4 [6, 7, 8, 9, 0, 0, 0, 0], yA 0 10, yA 0 10, yA 0 10, yO 1 [10, 11, 12, 13, 0], yA 0 10, yA 0 6, yA 0 6, yA 0 6, yO 4 [15, 16, 17, 18, 0, 0, 0, 0], yA 0 10, yA 0 10, yA 0 10, yO 1 [19, 20, 21, 22, 0], yA 0 10, yA 0 6, yA 0 6, yA 0 6, yO 5 [3, 14, 0, 0, 0, 0, 0], yO 1 [25, 26, 27, 28, 0], yA 0 10, yA 0 6, yA 0 6, yA 0 6, yO 2 [30, 0, 0], yQ 3 [1, 1, 1, 1, 1, 1, 1, 1], yO 1 [32, 33, 34, 35, 0], yA 0 10, yA 0 6, yA 0 6, yA 0 6] _ _ _ _ _
  change wfL [yO 7 [3, 5, 14, 23, 24, 1, 1, 1, 1, 1], yO 6 [4, 0], yA 0 200, yO 4 [6, 7, 8, 9, 0, 0, 0, 0], yA 0 10, yA 0 10, yA 0 10, yO 1 [10, 11, 12, 13, 0], yA 0 10, yA 0 6, yA 0 6, yA 0 6, yO 4 [15, 16, 17, 18, 0, 0, 0, 0], yA 0 10, yA 0 10, yA 0 10, yO 1 [19, 20, 21, 22, 0], yA 0 10, yA 0 6, yA 0 6, yA 0 6, yO 5 [3, 14, 0, 0, 0, 0, 0], yO 1 [25, 26, 27, 28, 0], yA 0 10, yA 0 6, yA 0 6, yA 0 6, yO 2 [30, 0, 0], yQ 3 [1, 1, 1, 1, 1, 1, 1, 1], yO 1 [32, 33, 34, 35, 0], yA 0 10, yA 0 6, yA 0 6, yA 0 6] at hw_
  refine v_aast (t := 3) iX2_init_33 hw_ rfl (by right; exact ⟨rfl, rfl⟩) rfl (by decide) rfl (fun hw_ => ?_)
  change V _ _ _ _ _ [yO 7 [3, 5, 14, 23, 24, 1, 1, 1, 1, 1], yO 6 [4, 0], yA 0 200, yO 4 [6, 7, 8, 9, 0, 0, 0, 0], yA 0 10, yA 0 10, yA 0 10, yO 1 [10, 11, 12, 13, 0], yA 0 10, yA 0 6, yA 0 6, yA 0 6, yO 4 [15, 16, 17, 18, 0, 0, 0, 0], yA 0 10, yA 0 10, yA 0 10, yO 1 [19, 20, 21, 22, 0], yA 0 10, yA 0 6, yA 0 6, yA 0 6, yO 5 [3, 14, 0, 0, 0, 0, 0], yO 1 [25, 26, 27, 28, 0], yA 0 10, yA 0 6, yA 0 6, yA 0 6, yO 2 [30, 0, 0], yQ 3 [31, 1, 1, 1, 1, 1, 1, 1], yO 1 [32, 33, 34, 35, 0], yA 0 10, yA 0 6, yA 0 6, yA 0 6] _ _ _ _ _
  change wfL [yO 7 [3, 5, 14, 23, 24, 1, 1, 1, 1, 1], yO 6 [4, 0], yA 0 200, yO 4 [6, 7, 8, 9, 0, 0, 0, 0], yA 0 10, yA 0 10, yA 0 10, yO 1 [10, 11, 12, 13, 0], yA 0 10, yA 0 6, yA 0 6, yA 0 6, yO 4 [15, 16, 17, 18, 0, 0, 0, 0], yA 0 10, yA 0 10, yA 0 10, yO 1 [19, 20, 21, 22, 0], yA 0 10, yA 0 6, yA 0 6, yA 0 6, yO 5 [3, 14, 0, 0, 0, 0, 0], yO 1 [25, 26, 27, 28, 0], yA 0 10, yA 0 6, yA 0 6, yA 0 6, yO 2 [30, 0, 0], yQ 3 [31, 1, 1, 1, 1, 1, 1, 1], yO 1 [32, 33, 34, 35, 0], yA 0 10, yA 0 6, yA 0 6, yA 0 6] at hw_
  refine v_in1 iX2_init_34 ⟨rfl, rfl⟩ ?_
  refine v_goto (tgt := 15) iX2_init_37 (by decide) ?_
  refine v_iload_n iX2_init_15 rfl ?_
  refine v_bipush iX2_init_16 (by decide) ?_
  refine v_icmp_ge (tgt := 40) iX2_init_18 (by decide) (by decide) (fun h_ => absurd h_ (by decide)) (fun h_ => ?_)
  refine v_aload_n iX2_init_21 rfl ?_
  refine v_getR iX2_init_22 fX2_11 rfl rfl ?_
  refine v_iload_n iX2_init_25 rfl ?_
  refine v_new (N := 34) (ci := 1) (cs := [1, 1, 1, 1, 0]) tyX1 iX2_init_26 rfl uw1 tyX1_ok (gw_t 162 (by decide +kernel) rfl) (gw_t 50 (by decide +kernel) rfl) (gw_t 4 (by decide +kernel) rfl) nfX1 hw_ rfl (fun j_ => hzs_ _ (by decide) j_) ⟨(by show _ ≤ (41 : Nat); omega), (by show _ ≤ (272 : Nat); omega)⟩ (by refine ⟨?_, ?_⟩ <;> simp only [okL, okS, okV, and_true, true_and] <;> omega) (fun hw_ => ?_)
  change V _ _ _ _ _ [yO 7 [3, 5, 14, 23, 24, 1, 1, 1, 1, 1], yO 6 [4, 0], yA 0 200, yO 4 [6, 7, 8, 9, 0, 0, 0, 0], yA 0 10, yA 0 10, yA 0 10, yO 1 [10, 11, 12, 13, 0], yA 0 10, yA 0 6, yA 0 6, yA 0 6, yO 4 [15, 16, 17, 18, 0, 0, 0, 0], yA 0 10, yA 0 10, yA 0 10, yO 1 [19, 20, 21, 22, 0], yA 0 10, yA 0 6, yA 0 6, yA 0 6, yO 5 [3, 14, 0, 0, 0, 0, 0], yO 1 [25, 26, 27, 28, 0], yA 0 10, yA 0 6, yA 0 6, yA 0 6, yO 2 [30, 0, 0], yQ 3 [31, 1, 1, 1, 1, 1, 1, 1], yO 1 [32, 33, 34, 35, 0], yA 0 10, yA 0 6, yA 0 6, yA 0 6, yO 1 [1, 1, 1, 1, 0]] _ _ _ _ _
  change wfL [yO 7 [3, 5, 14, 23, 24, 1, 1, 1, 1, 1], yO 6 [4, 0], yA 0 200, yO 4 [6, 7, 8, 9, 0, 0, 0, 0], yA 0 10, yA 0 10, yA 0 10, yO 1 [10, 11, 12, 13, 0], yA 0 10, yA 0 6, yA 0 6, yA 0 6, yO 4 [15, 16, 17, 18, 0, 0, 0, 0], yA 0 10, yA 0 10, yA 0 10, yO 1 [19, 20, 21, 22, 0], yA 0 10, yA 0 6, yA 0 6, yA 0 6, yO 5 [3, 14, 0, 0, 0, 0, 0], yO 1 [25, 26, 27, 28, 0], yA 0 10, yA 0 6, yA 0 6, yA 0 6, yO 2 [30, 0, 0], yQ 3 [31, 1, 1, 1, 1, 1, 1, 1], yO 1 [32, 33, 34, 35, 0], yA 0 10, yA 0 6, yA 0 6, yA 0 6, yO 1 [1, 1, 1, 1, 0]] at hw_
  refine v_dup iX2_init_29 (by intro z h; cases h) ?_
  refine v_callI (y := yX1_init) (b := cX1_init) (ml := 1) (N := 35) iX2_init_30 lX2_17 kX1_init rfl (qX1_init _ _ _ 34 rfl hw_ (hzs_.m (by decide)) (hz_.m (by decide))) (by decide) rfl rfl (Nat.le_of_ble_eq_true rfl) ⟨(by show _ ≤ (41 : Nat); omega), (by show _ ≤ (272 : Nat); omega)⟩ rfl (by refine ⟨?_, ?_⟩ <;> simp only [okL, okS, okV, and_true, true_and] <;> omega) ?_
  rintro r9_ L9_ s9_ a9_ ⟨rfl, rfl, hw_, rfl, rfl⟩
  change V _ _ _ _ _ [yO 7 [3, 5, 14, 23, 24, 1, 1, 1, 1, 1], yO 6 [4, 0], yA 0 200, yO 4 [6, 7, 8, 9, 0, 0, 0, 0], yA 0 10, yA 0 10, yA 0 10, yO 1 [10, 11, 12, 13, 0], yA 0 10, yA 0 6, yA 0 6, yA 0 6, yO 4 [15, 16, 17, 18, 0, 0, 0, 0], yA 0 10, yA 0 10, yA 0 10, yO 1 [19, 20, 21, 22, 0], yA 0 10, yA 0 6, yA 0 6, yA 0 6, yO 5 [3, 14, 0, 0, 0, 0, 0], yO 1 [25, 26, 27, 28, 0], yA 0 10, yA 0 6, yA 0 6, yA 0 6, yO 2 [30, 0, 0], yQ 3 [31, 1, 1, 1, 1, 1, 1, 1], yO 1 [32, 33, 34, 35, 0], yA 0 10, yA 0 6, yA 0 6, yA 0 6, yO 1 [37, 38, 39, 40, 0], yA 0 10, yA 0 6, yA 0 6, yA 0 6] _ _ _ _ _
  change wfL [yO 7 [3, 5, 14, 23, 24, 1, 1, 1, 1, 1], yO 6 [4, 0], yA 0 200, yO 4 [6, 7, 8, 9, 0, 0, 0, 0], yA 0 10, yA 0 10, yA 0 10, yO 1 [10, 11, 12, 13, 0], yA 0 10, yA 0 6, yA 0 6, yA 0 6, yO 4 [15, 16, 17, 18, 0, 0, 0, 0], yA 0 10, yA 0 10, yA 0 10, yO 1 [19, 20, 21, 22, 0], yA 0 10, yA 0 6, yA 0 6, yA 0 6, yO 5 [3, 14, 0, 0, 0, 0, 0], yO 1 [25, 26, 27, 28, 0], yA 0 10, yA 0 6, yA 0 6, yA 0 6, yO 2 [30, 0, 0], yQ 3 [31, 1, 1, 1, 1, 1, 1, 1], yO 1 [32, 33, 34, 35, 0], yA 0 10, yA 0 6, yA 0 6, yA 0 6, yO 1 [37, 38, 39, 40, 0], yA 0 10, yA 0 6, yA 0 6, yA 0 6] at hw_
  refine v_aast (t := 3) iX2_init_33 hw_ rfl (by right; exact ⟨rfl, rfl⟩) rfl (by decide) rfl (fun hw_ => ?_)
  change V _ _ _ _ _ [yO 7 [3, 5, 14, 23, 24, 1, 1, 1, 1, 1], yO 6 [4, 0], yA 0 200, yO 4 [6, 7, 8, 9, 0, 0, 0, 0], yA 0 10, yA 0 10, yA 0 10, yO 1 [10, 11, 12, 13, 0], yA 0 10, yA 0 6, yA 0 6, yA 0 6, yO 4 [15, 16, 17, 18, 0, 0, 0, 0], yA 0 10, yA 0 10, yA 0 10, yO 1 [19, 20, 21, 22, 0], yA 0 10, yA 0 6, yA 0 6, yA 0 6, yO 5 [3, 14, 0, 0, 0, 0, 0], yO 1 [25, 26, 27, 28, 0], yA 0 10, yA 0 6, yA 0 6, yA 0 6, yO 2 [30, 0, 0], yQ 3 [31, 36, 1, 1, 1, 1, 1, 1], yO 1 [32, 33, 34, 35, 0], yA 0 10, yA 0 6, yA 0 6, yA 0 6, yO 1 [37, 38, 39, 40, 0], yA 0 10, yA 0 6, yA 0 6, yA 0 6] _ _ _ _ _
  change wfL [yO 7 [3, 5, 14, 23, 24, 1, 1, 1, 1, 1], yO 6 [4, 0], yA 0 200, yO 4 [6, 7, 8, 9, 0, 0, 0, 0], yA 0 10, yA 0 10, yA 0 10, yO 1 [10, 11, 12, 13, 0], yA 0 10, yA 0 6, yA 0 6, yA 0 6, yO 4 [15, 16, 17, 18, 0, 0, 0, 0], yA 0 10, yA 0 10, yA 0 10, yO 1 [19, 20, 21, 22, 0], yA 0 10, yA 0 6, yA 0 6, yA 0 6, yO 5 [3, 14, 0, 0, 0, 0, 0], yO 1 [25, 26, 27, 28, 0], yA 0 10, yA 0 6, yA 0 6, yA 0 6, yO 2 [30, 0, 0], yQ 3 [31, 36, 1, 1, 1, 1, 1, 1], yO 1 [32, 33, 34, 35, 0], yA 0 10, yA 0 6, yA 0 6, yA 0 6, yO 1 [37, 38, 39, 40, 0], yA 0 10, yA 0 6, yA 0 6, yA 0 6] at hw_
  refine v_in1 iX2_init_34 ⟨rfl, rfl⟩ ?_
  refine v_goto (tgt := 15) iX2_init_37 (by decide) ?_
  refine v_iload_n iX2_init_15 rfl ?_
  refine v_bipush iX2_init_16 (by decide) ?_
  refine v_icmp_ge (tgt := 40) iX2_init_18 (by decide) (by decide) (fun h_ => absurd h_ (by decide)) (fun h_ => ?_)
  refine v_aload_n iX2_init_21 rfl ?_
  refine v_getR iX2_init_22 fX2_11 rfl rfl ?_
  refine v_iload_n iX2_init_25 rfl ?_
  refine v_new (N := 39) (ci := 1) (cs := [1, 1, 1, 1, 0]) tyX1 iX2_init_26 rfl uw1 tyX1_ok (gw_t 162 (by decide +kernel) rfl) (gw_t 50 (by decide +kernel) rfl) (gw_t 4 (by decide +kernel) rfl) nfX1 hw_ rfl (fun j_ => hzs_ _ (by decide) j_) ⟨(by show _ ≤ (41 : Nat); omega), (by show _ ≤ (272 : Nat); omega)⟩ (by refine ⟨?_, ?_⟩ <;> simp only [okL, okS, okV, and_true, true_and] <;> omega) (fun hw_ => ?_)
  change V _ _ _ _ _ [yO 7 [3, 5, 14, 23, 24, 1, 1, 1, 1, 1], yO 6 [4, 0], yA 0 200, yO 4 [6, 7, 8, 9, 0, 0, 0, 0], yA 0 10, yA 0 10, yA 0 10, yO 1 [10, 11, 12, 13, 0], yA 0 10, yA 0 6, yA 0 6, yA 0 6, yO 4 [15, 16, 17, 18, 0, 0, 0, 0], yA 0 10, yA 0 10, yA 0 10, yO 1 [19, 20, 21, 22, 0], yA 0 10, yA 0 6, yA 0 6, yA 0 6, yO 5 [3, 14, 0, 0, 0, 0, 0], yO 1 [25, 26, 27, 28, 0], yA 0 10, yA 0 6, yA 0 6, yA 0 6, yO 2 [30, 0, 0], yQ 3 [31, 36, 1, 1, 1, 1, 1, 1], yO 1 [32, 33, 34, 35, 0], yA 0 10, yA 0 6, yA 0 6, yA 0 6, yO 1 [37, 38, 39, 40, 0], yA 0 10, yA 0 6, yA 0 6, yA 0 6, yO 1 [1, 1, 1, 1, 0]] _ _ _ _ _
  change wfL [yO 7 [3, 5, 14, 23, 24, 1, 1, 1, 1, 1], yO 6 [4, 0], yA 0 200, yO 4 [6, 7, 8, 9, 0, 0, 0, 0], yA 0 10, yA 0 10, yA 0 10, yO 1 [10, 11, 12, 13, 0], yA 0 10, yA 0 6, yA 0 6, yA 0 6, yO 4 [15, 16, 17, 18, 0, 0, 0, 0], yA 0 10, yA 0 10, yA 0 10, yO 1 [19, 20, 21, 22, 0], yA 0 10, yA 0 6, yA 0 6, yA 0 6, yO 5 [3, 14, 0, 0, 0, 0, 0], yO 1 [25, 26, 27, 28, 0], yA 0 10, yA 0 6, yA 0 6, yA 0 6, yO 2 [30, 0, 0], yQ 3 [31, 36, 1, 1, 1, 1, 1, 1], yO 1 [32, 33, 34, 35, 0], yA 0 10, yA 0 6, yA 0 6, yA 0 6, yO 1 [37, 38, 39, 40, 0], yA 0 10, yA 0 6, yA 0 6, yA 0 6, yO 1 [1, 1, 1, 1, 0]] at hw_
  refine v_dup iX2_init_29 (by intro z h; cases h) ?_
  refine v_callI (y := yX1_init) (b := cX1_init) (ml := 1) (N := 40) iX2_init_30 lX2_17 kX1_init rfl (qX1_init _ _ _ 39 rfl hw_ (hzs_.m (by decide)) (hz_.m (by decide))) (by decide) rfl rfl (Nat.le_of_ble_eq_true rfl) ⟨(by show _ ≤ (41 : Nat); omega), (by show _ ≤ (272 : Nat); omega)⟩ rfl (by refine ⟨?_, ?_⟩ <;> simp only [okL, okS, okV, and_true, true_and] <;> omega) ?_
  rintro r9_ L9_ s9_ a9_ ⟨rfl, rfl, hw_, rfl, rfl⟩
  change V _ _ _ _ _ [yO 7 [3, 5, 14, 23, 24, 1, 1, 1, 1, 1], yO 6 [4, 0], yA 0 200, yO 4 [6, 7, 8, 9, 0, 0, 0, 0], yA 0 10, yA 0 10, yA 0 10, yO 1 [10, 11, 12, 13, 0], yA 0 10, yA 0 6, yA 0 6, yA 0 6, yO 4 [15, 16, 17, 18, 0, 0, 0, 0], yA 0 10, yA 0 10, yA 0 10, yO 1 [19, 20, 21, 22, 0], yA 0 10, yA 0 6, yA 0 6, yA 0 6, yO 5 [3, 14, 0, 0, 0, 0, 0], yO 1 [25, 26, 27, 28, 0], yA 0 10, yA 0 6, yA 0 6, yA 0 6, yO 2 [30, 0, 0], yQ 3 [31, 36, 1, 1, 1, 1, 1, 1], yO 1 [32, 33, 34, 35, 0], yA 0 10, yA 0 6, yA 0 6, yA 0 6, yO 1 [37, 38, 39, 40, 0], yA 0 10, yA 0 6, yA 0 6, yA 0 6, yO 1 [42, 43, 44, 45, 0], yA 0 10, yA 0 6, yA 0 6, yA 0 6] _ _ _ _ _
  change wfL [yO 7 [3, 5, 14, 23, 24, 1, 1, 1, 1, 1], yO 6 [4, 0], yA 0 200, yO 4 [6, 7, 8, 9, 0, 0, 0, 0], yA 0 10, yA 0 10, yA 0 10, yO 1 [10, 11, 12, 13, 0], yA 0 10, yA 0 6, yA 0 6, yA 0 6, yO 4 [15, 16, 17, 18, 0, 0, 0, 0], yA 0 10, yA 0 10, yA 0 10, yO 1 [19, 20, 21, 22, 0], yA 0 10, yA 0 6, yA 0 6, yA 0 6, yO 5 [3, 14, 0, 0, 0, 0, 0], yO 1 [25, 26, 27, 28, 0], yA 0 10, yA 0 6, yA 0 6, yA 0 6, yO 2 [30, 0, 0], yQ 3 [31, 36, 1, 1, 1, 1, 1, 1], yO 1 [32, 33, 34, 35, 0], yA 0 10, yA 0 6, yA 0 6, yA 0 6, yO 1 [37, 38, 39, 40, 0], yA 0 10, yA 0 6, yA 0 6, yA 0 6, yO 1 [42, 43, 44, 45, 0], yA 0 10, yA 0 6, yA 0 6, yA 0 6] at hw_
  refine v_aast (t := 3) iX2_init_33 hw_ rfl (by right; exact ⟨rfl, rfl⟩) rfl (by decide) rfl (fun hw_ => ?_)
  change V _ _ _ _ _ [yO 7 [3, 5, 14, 23, 24, 1, 1, 1, 1, 1], yO 6 [4, 0], yA 0 200, yO 4 [6, 7, 8, 9, 0, 0, 0, 0], yA 0 10, yA 0 10, yA 0 10, yO 1 [10, 11, 12, 13, 0], yA 0 10, yA 0 6, yA 0 6, yA 0 6, yO 4 [15, 16, 17, 18, 0, 0, 0, 0], yA 0 10, yA 0 10, yA 0 10, yO 1 [19, 20, 21, 22, 0], yA 0 10, yA 0 6, yA 0 6, yA 0 6, yO 5 [3, 14, 0, 0, 0, 0, 0], yO 1 [25, 26, 27, 28, 0], yA 0 10, yA 0 6, yA 0 6, yA 0 6, yO 2 [30, 0, 0], yQ 3 [31, 36, 41, 1, 1, 1, 1, 1], yO 1 [32, 33, 34, 35, 0], yA 0 10, yA 0 6, yA 0 6, yA 0 6, yO 1 [37, 38, 39, 40, 0], yA 0 10, yA 0 6, yA 0 6, yA 0 6, yO 1 [42, 43, 44, 45, 0], yA 0 10, yA 0 6, yA 0 6, yA 0 6] _ _ _ _ _
  change wfL [yO 7 [3, 5, 14, 23, 24, 1, 1, 1, 1, 1], yO 6 [4, 0], yA 0 200, yO 4 [6, 7, 8, 9, 0, 0, 0, 0], yA 0 10, yA 0 10, yA 0 10, yO 1 [10, 11, 12, 13, 0], yA 0 10, yA 0 6, yA 0 6, yA 0 6, yO 4 [15, 16, 17, 18, 0, 0, 0, 0], yA 0 10, yA 0 10, yA 0 10, yO 1 [19, 20, 21, 22, 0], yA 0 10, yA 0 6, yA 0 6, yA 0 6, yO 5 [3, 14, 0, 0, 0, 0, 0], yO 1 [25, 26, 27, 28, 0], yA 0 10, yA 0 6, yA 0 6, yA 0 6, yO 2 [30, 0, 0], yQ 3 [31, 36, 41, 1, 1, 1, 1, 1], yO 1 [32, 33, 34, 35, 0], yA 0 10, yA 0 6, yA 0 6, yA 0 6, yO 1 [37, 38, 39, 40, 0], yA 0 10, yA 0 6, yA 0 6, yA 0 6, yO 1 [42, 43, 44, 45, 0], yA 0 10, yA 0 6, yA 0 6, yA 0 6] at hw_
  refine v_in1 iX2_init_34 ⟨rfl, rfl⟩ ?_
  refine v_goto (tgt := 15) iX2_init_37 (by decide) ?_
  refine v_iload_n iX2_init_15 rfl ?_
  refine v_bipush iX2_init_16 (by decide) ?_
  refine v_icmp_ge (tgt := 40) iX2_init_18 (by decide) (by decide) (fun h_ => absurd h_ (by decide)) (fun h_ => ?_)
  refine v_aload_n iX2_init_21 rfl ?_
  refine v_getR iX2_init_22 fX2_11 rfl rfl ?_
  refine v_iload_n iX2_init_25 rfl ?_
  refine v_new (N := 44) (ci := 1) (cs := [1, 1, 1, 1, 0]) tyX1 iX2_init_26 rfl uw1 tyX1_ok (gw_t 162 (by decide +kernel) rfl) (gw_t 50 (by decide +kernel) rfl) (gw_t 4 (by decide +kernel) rfl) nfX1 hw_ rfl (fun j_ => hzs_ _ (by decide) j_) ⟨(by show _ ≤ (41 : Nat); omega), (by show _ ≤ (272 : Nat); omega)⟩ (by refine ⟨?_, ?_⟩ <;> simp only [okL, okS, okV, and_true, true_and] <;> omega) (fun hw_ => ?_)
  change V _ _ _ _ _ [yO 7 [3, 5, 14, 23, 24, 1, 1, 1, 1, 1], yO 6 [4, 0], yA 0 200, yO 4 [6, 7, 8, 9, 0, 0, 0, 0], yA 0 10, yA 0 10, yA 0 10, yO 1 [10, 11, 12, 13, 0], yA 0 10, yA 0 6, yA 0 6, yA 0 6, yO 4 [15, 16, 17, 18, 0, 0, 0, 0], yA 0 10, yA 0 10, yA 0 10, yO 1 [19, 20, 21, 22, 0], yA 0 10, yA 0 6, yA 0 6, yA 0 6, yO 5 [3, 14, 0, 0, 0, 0, 0], yO 1 [25, 26, 27, 28, 0], yA 0 10, yA 0 6, yA 0 6, yA 0 6, yO 2 [30, 0, 0], yQ 3 [31, 36, 41, 1, 1, 1, 1, 1], yO 1 [32, 33, 34, 35, 0], yA 0 10, yA 0 6, yA 0 6, yA 0 6, yO 1 [37, 38, 39, 40, 0], yA 0 10, yA 0 6, yA 0 6, yA 0 6, yO 1 [42, 43, 44, 45, 0], yA 0 10, yA 0 6, yA 0 6, yA 0 6, yO 1 [1, 1, 1, 1, 0]] _ _ _ _ _
  change wfL [yO 7 [3, 5, 14, 23, 24, 1, 1, 1, 1, 1], yO 6 [4, 0], yA 0 200, yO 4 [6, 7, 8, 9, 0, 0, 0, 0], yA 0 10, yA 0 10, yA 0 10, yO 1 [10, 11, 12, 13, 0], yA 0 10, yA 0 6, yA 0 6, yA 0 6, yO 4 [15, 16, 17, 18, 0, 0, 0, 0], yA 0 10, yA 0 10, yA 0 10, yO 1 [19, 20, 21, 22, 0], yA 0 10, yA 0 6, yA 0 6, yA 0 6, yO 5 [3, 14, 0, 0, 0, 0, 0], yO 1 [25, 26, 27, 28, 0], yA 0 10, yA 0 6, yA 0 6, yA 0 6, yO 2 [30, 0, 0], yQ 3 [31, 36, 41, 1, 1, 1, 1, 1], yO 1 [32, 33, 34, 35, 0], yA 0 10, yA 0 6, yA 0 6, yA 0 6, yO 1 [37, 38, 39, 40, 0], yA 0 10, yA 0 6, yA 0 6, yA 0 6, yO 1 [42, 43, 44, 45, 0], yA 0 10, yA 0 6, yA 0 6, yA 0 6, yO 1 [1, 1, 1, 1, 0]] at hw_
  refine v_dup iX2_init_29 (by intro z h; cases h) ?_
  refine v_callI (y := yX1_init) (b := cX1_init) (ml := 1) (N := 45) iX2_init_30 lX2_17 kX1_init rfl (qX1_init _ _ _ 44 rfl hw_ (hzs_.m (by decide)) (hz_.m (by decide))) (by decide) rfl rfl (Nat.le_of_ble_eq_true rfl) ⟨(by show _ ≤ (41 : Nat); omega), (by show _ ≤ (272 : Nat); omega)⟩ rfl (by refine ⟨?_, ?_⟩ <;> simp only [okL, okS, okV, and_true, true_and] <;> omega) ?_
  rintro r9_ L9_ s9_ a9_ ⟨rfl, rfl, hw_, rfl, rfl⟩
  change V _ _ _ _ _ [yO 7 [3, 5, 14, 23, 24, 1, 1, 1, 1, 1], yO 6 [4, 0], yA 0 200, yO 4 [6, 7, 8, 9, 0, 0, 0, 0], yA 0 10, yA 0 10, yA 0 10, yO 1 [10, 11, 12, 13, 0], yA 0 10, yA 0 6, yA 0 6, yA 0 6, yO 4 [15, 16, 17, 18, 0, 0, 0, 0], yA 0 10, yA 0 10, yA 0 10, yO 1 [19, 20, 21, 22, 0], yA 0 10, yA 0 6, yA 0 6, yA 0 6, yO 5 [3, 14, 0, 0, 0, 0, 0], yO 1 [25, 26, 27, 28, 0], yA 0 10, yA 0 6, yA 0 6, yA 0 6, yO 2 [30, 0, 0], yQ 3 [31, 36, 41, 1, 1, 1, 1, 1], yO 1 [32, 33, 34, 35, 0], yA 0 10, yA 0 6, yA 0 6, yA 0 6, yO 1 [37, 38, 39, 40, 0], yA 0 10, yA 0 6, yA 0 6, yA 0 6, yO 1 [42, 43, 44, 45, 0], yA 0 10, yA 0 6, yA 0 6, yA 0 6, yO 1 [47, 48, 49, 50, 0], yA 0 10, yA 0 6, yA 0 6, yA 0 6] _ _ _ _ _
  change wfL [yO 7 [3, 5, 14, 23, 24, 1, 1, 1, 1, 1], yO 6 [4, 0], yA 0 200, yO 4 [6, 7, 8, 9, 0, 0, 0, 0], yA 0 10, yA 0 10, yA 0 10, yO 1 [10, 11, 12, 13, 0], yA 0 10, yA 0 6, yA 0 6, yA 0 6, yO 4 [15, 16, 17, 18, 0, 0, 0, 0], yA 0 10, yA 0 10, yA 0 10, yO 1 [19, 20, 21, 22, 0], yA 0 10, yA 0 6, yA 0 6, yA 0 6, yO 5 [3, 14, 0, 0, 0, 0, 0], yO 1 [25, 26, 27, 28, 0], yA 0 10, yA 0 6, yA 0 6, yA 0 6, yO 2 [30, 0, 0], yQ 3 [31, 36, 41, 1, 1, 1, 1, 1], yO 1 [32, 33, 34, 35, 0], yA 0 10, yA 0 6, yA 0 6, yA 0 6, yO 1 [37, 38, 39, 40, 0], yA 0 10, yA 0 6, yA 0 6, yA 0 6, yO 1 [42, 43, 44, 45, 0], yA 0 10, yA 0 6, yA 0 6, yA 0 6, yO 1 [47, 48, 49, 50, 0], yA 0 10, yA 0 6, yA 0 6, yA 0 6] at hw_
  refine v_aast (t := 3) iX2_init_33 hw_ rfl (by right; exact ⟨rfl, rfl⟩) rfl (by decide) rfl (fun hw_ => ?_)
  change V _ _ _ _ _ [yO 7 [3, 5, 14, 23, 24, 1, 1, 1, 1, 1], yO 6 [4, 0], yA 0 200, yO 4 [6, 7, 8, 9, 0, 0, 0, 0], yA 0 10, yA 0 10, yA 0 10, yO 1 [10, 11, 12, 13, 0], yA 0 10, yA 0 6, yA 0 6, yA 0 6, yO 4 [15, 16, 17, 18, 0, 0, 0, 0], yA 0 10, yA 0 10, yA 0 10, yO 1 [19, 20, 21, 22, 0], yA 0 10, yA 0 6, yA 0 6, yA 0 6, yO 5 [3, 14, 0, 0, 0, 0, 0], yO 1 [25, 26, 27, 28, 0], yA 0 10, yA 0 6, yA 0 6, yA 0 6, yO 2 [30, 0, 0], yQ 3 [31, 36, 41, 46, 1, 1, 1, 1], yO 1 [32, 33, 34, 35, 0], yA 0 10, yA 0 6, yA 0 6, yA 0 6, yO 1 [37, 38, 39, 40, 0], yA 0 10, yA 0 6, yA 0 6, yA 0 6, yO 1 [42, 43, 44, 45, 0], yA 0 10, yA 0 6, yA 0 6, yA 0 6, yO 1 [47, 48, 49, 50, 0], yA 0 10, yA 0 6, yA 0 6, yA 0 6] _ _ _ _ _
  change wfL [yO 7 [3, 5, 14, 23, 24, 1, 1, 1, 1, 1], yO 6 [4, 0], yA 0 200, yO 4 [6, 7, 8, 9, 0, 0, 0, 0], yA 0 10, yA 0 10, yA 0 10, yO 1 [10, 11, 12, 13, 0], yA 0 10, yA 0 6, yA 0 6, yA 0 6, yO 4 [15, 16, 17, 18, 0, 0, 0, 0], yA 0 10, yA 0 10, yA 0 10, yO 1 [19, 20, 21, 22, 0], yA 0 10, yA 0 6, yA 0 6, yA 0 6, yO 5 [3, 14, 0, 0, 0, 0, 0], yO 1 [25, 26, 27, 28, 0], yA 0 10, yA 0 6, yA 0 6, yA 0 6, yO 2 [30, 0, 0], yQ 3 [31, 36, 41, 46, 1, 1, 1, 1], yO 1 [32, 33, 34, 35, 0], yA 0 10, yA 0 6, yA 0 6, yA 0 6, yO 1 [37, 38, 39, 40, 0], yA 0 10, yA 0 6, yA 0 6, yA 0 6, yO 1 [42, 43, 44, 45, 0], yA 0 10, yA 0 6, yA 0 6, yA 0 6, yO 1 [47, 48, 49, 50, 0], yA 0 10, yA 0 6, yA 0 6, yA 0 6] at hw_
  refine v_in1 iX2_init_34 ⟨rfl, rfl⟩ ?_
  refine v_goto (tgt := 15) iX2_init_37 (by decide) ?_
  refine v_iload_n iX2_init_15 rfl ?_
  refine v_bipush iX2_init_16 (by decide) ?_
  refine v_icmp_ge (tgt := 40) iX2_init_18 (by decide) (by decide) (fun h_ => absurd h_ (by decide)) (fun h_ => ?_)
  refine v_aload_n iX2_init_21 rfl ?_
  refine v_getR iX2_init_22 fX2_11 rfl rfl ?_
  refine v_iload_n iX2_init_25 rfl ?_
  refine v_new (N := 49) (ci := 1) (cs := [1, 1, 1, 1, 0]) tyX1 iX2_init_26 rfl uw1 tyX1_ok (gw_t 162 (by decide +kernel) rfl) (gw_t 50 (by decide +kernel) rfl) (gw_t 4 (by decide +kernel) rfl) nfX1 hw_ rfl (fun j_ => hzs_ _ (by decide) j_) ⟨(by show _ ≤ (41 : Nat); omega), (by show _ ≤ (272 : Nat); omega)⟩ (by refine ⟨?_, ?_⟩ <;> simp only [okL, okS, okV, and_true, true_and] <;> omega) (fun hw_ => ?_)
  change V _ _ _ _ _ [yO 7 [3, 5, 14, 23, 24, 1, 1, 1, 1, 1], yO 6 [4, 0], yA 0 200, yO 4 [6, 7, 8, 9, 0, 0, 0, 0], yA 0 10, yA 0 10, yA 0 10, yO 1 [10, 11, 12, 13, 0], yA 0 10, yA 0 6, yA 0 6, yA 0 6, yO 4 [15, 16, 17, 18, 0, 0, 0, 0], yA 0 10, yA 0 10, yA 0 10, yO 1 [19, 20, 21, 22, 0], yA 0 10, yA 0 6, yA 0 6, yA 0 6, yO 5 [3, 14, 0, 0, 0, 0, 0], yO 1 [25, 26, 27, 28, 0], yA 0 10, yA 0 6, yA 0 6, yA 0 6, yO 2 [30, 0, 0], yQ 3 [31, 36, 41, 46, 1, 1, 1, 1], yO 1 [32, 33, 34, 35, 0], yA 0 10, yA 0 6, yA 0 6, yA 0 6, yO 1 [37, 38, 39, 40, 0], yA 0 10, yA 0 6, yA 0 6, yA 0 6, yO 1 [42, 43, 44, 45, 0], yA 0 10, yA 0 6, yA 0 6, yA 0 6, yO 1 [47, 48, 49, 50, 0], yA 0 10, yA 0 6, yA 0 6, yA 0 6, yO 1 [1, 1, 1, 1, 0]] _ _ _ _ _
  change wfL [yO 7 [3, 5, 14, 23, 24, 1, 1, 1, 1, 1], yO 6 [4, 0], yA 0 200, yO 4 [6, 7, 8, 9, 0, 0, 0, 0], yA 0 10, yA 0 10, yA 0 10, yO 1 [10, 11, 12, 13, 0], yA 0 10, yA 0 6, yA 0 6, yA 0 6, yO 4 [15, 16, 17, 18, 0, 0, 0, 0], yA 0 10, yA 0 10, yA 0 10, yO 1 [19, 20, 21, 22, 0], yA 0 10, yA 0 6, yA 0 6, yA 0 6, yO 5 [3, 14, 0, 0, 0, 0, 0], yO 1 [25, 26, 27, 28, 0], yA 0 10, yA 0 6, yA 0 6, yA 0 6, yO 2 [30, 0, 0], yQ 3 [31, 36, 41, 46, 1, 1, 1, 1], yO 1 [32, 33, 34, 35, 0], yA 0 10, yA 0 6, yA 0 6, yA 0 6, yO 1 [37, 38, 39, 40, 0], yA 0 10, yA 0 6, yA 0 6, yA 0 6, yO 1 [42, 43, 44, 45, 0], yA 0 10, yA 0 6, yA 0 6, yA 0 6, yO 1 [47, 48, 49, 50, 0], yA 0 10, yA 0 6, yA 0 6, yA 0 6, yO 1 [1, 1, 1, 1, 0]] at hw_
  refine v_dup iX2_init_29 (by intro z h; cases h) ?_
  refine v_callI (y := yX1_init) (b := cX1_init) (ml := 1) (N := 50) iX2_init_30 lX2_17 kX1_init rfl (qX1_init _ _ _ 49 rfl hw_ (hzs_.m (by decide)) (hz_.m (by decide))) (by decide) rfl rfl (Nat.le_of_ble_eq_true rfl) ⟨(by show _ ≤ (41 : Nat); omega), (by show _ ≤ (272 : Nat); omega)⟩ rfl (by refine ⟨?_, ?_⟩ <;> simp only [okL, okS, okV, and_true, true_and] <;> omega) ?_
  rintro r9_ L9_ s9_ a9_ ⟨rfl, rfl, hw_, rfl, rfl⟩
  change V _ _ _ _ _ [yO 7 [3, 5, 14, 23, 24, 1, 1, 1, 1, 1], yO 6 [4, 0], yA 0 200, yO 4 [6, 7, 8, 9, 0, 0, 0, 0], yA 0 10, yA 0 10, yA 0 10, yO 1 [10, 11, 12, 13, 0], yA 0 10, yA 0 6, yA 0 6, yA 0 6, yO 4 [15, 16, 17, 18, 0, 0, 0, 0], yA 0 10, yA 0 10, yA 0 10, yO 1 [19, 20, 21, 22, 0], yA 0 10, yA 0 6, yA 0 6, yA 0 6, yO 5 [3, 14, 0, 0, 0, 0, 0], yO 1 [25, 26, 27, 28, 0], yA 0 10, yA 0 6, yA 0 6, yA 0 6, yO 2 [30, 0, 0], yQ 3 [31, 36, 41, 46, 1, 1, 1, 1], yO 1 [32, 33, 34, 35, 0], yA 0 10, yA 0 6, yA 0 6, yA 0 6, yO 1 [37, 38, 39, 40, 0], yA 0 10, yA 0 6, yA 0 6, yA 0 6, yO 1 [42, 43, 44, 45, 0], yA 0 10, yA 0 6, yA 0 6, yA 0 6, yO 1 [47, 48, 49, 50, 0], yA 0 10, yA 0 6, yA 0 6, yA 0 6, yO 1 [52, 53, 54, 55, 0], yA 0 10, yA 0 6, yA 0 6, yA 0 6] _ _ _ _ _
  change wfL [yO 7 [3, 5, 14, 23, 24, 1, 1, 1, 1, 1], yO 6 [4, 0], yA 0 200, yO 4 [6, 7, 8, 9, 0, 0, 0, 0], yA 0 10, yA 0 10, yA 0 10, yO 1 [10, 11, 12, 13, 0], yA 0 10, yA 0 6, yA 0 6, yA 0 6, yO 4 [15, 16, 17, 18, 0, 0, 0, 0], yA 0 10, yA 0 10, yA 0 10, yO 1 [19, 20, 21, 22, 0], yA 0 10, yA 0 6, yA 0 6, yA 0 6, yO 5 [3, 14, 0, 0, 0, 0, 0], yO 1 [25, 26, 27, 28, 0], yA 0 10, yA 0 6, yA 0 6, yA 0 6, yO 2 [30, 0, 0], yQ 3 [31, 36, 41, 46, 1, 1, 1, 1], yO 1 [32, 33, 34, 35, 0], yA 0 10, yA 0 6, yA 0 6, yA 0 6, yO 1 [37, 38, 39, 40, 0], yA 0 10, yA 0 6, yA 0 6, yA 0 6, yO 1 [42, 43, 44, 45, 0], yA 0 10, yA 0 6, yA 0 6, yA 0 6, yO 1 [47, 48, 49, 50, 0], yA 0 10, yA 0 6, yA 0 6, yA 0 6, yO 1 [52, 53, 54, 55, 0], yA 0 10, yA 0 6, yA 0 6, yA 0 6] at hw_
  refine v_aast (t := 3) iX2_init_33 hw_ rfl (by right; exact ⟨rfl, rfl⟩) rfl (by decide) rfl (fun hw_ => ?_)
  change V _ _ _ _ _ [yO 7 [3, 5, 14, 23, 24, 1, 1, 1, 1, 1], yO 6 [4, 0], yA 0 200, yO 4 [6, 7, 8, 9, 0, 0, 0, 0], yA 0 10, yA 0 10, yA 0 10, yO 1 [10, 11, 12, 13, 0], yA 0 10, yA 0 6, yA 0 6, yA 0 6, yO 4 [15, 16, 17, 18, 0, 0, 0, 0], yA 0 10, yA 0 10, yA 0 10, yO 1 [19, 20, 21, 22, 0], yA 0 10, yA 0 6, yA 0 6, yA 0 6, yO 5 [3, 14, 0, 0, 0, 0, 0], yO 1 [25, 26, 27, 28, 0], yA 0 10, yA 0 6, yA 0 6, yA 0 6, yO 2 [30, 0, 0], yQ 3 [31, 36, 41, 46, 51, 1, 1, 1], yO 1 [32, 33, 34, 35, 0], yA 0 10, yA 0 6, yA 0 6, yA 0 6, yO 1 [37, 38, 39, 40, 0], yA 0 10, yA 0 6, yA 0 6, yA 0 6, yO 1 [42, 43, 44, 45, 0], yA 0 10, yA 0 6, yA 0 6, yA 0 6, yO 1 [47, 48, 49, 50, 0], yA 0 10, yA 0 6, yA 0 6, yA 0 6, yO 1 [52, 53, 54, 55, 0], yA 0 10, yA 0 6, yA 0 6, yA 0 6] _ _ _ _ _
  change wfL [yO 7 [3, 5, 14, 23, 24, 1, 1, 1, 1, 1], yO 6 [4, 0], yA 0 200, yO 4 [6, 7, 8, 9, 0, 0, 0, 0], yA 0 10, yA 0 10, yA 0 10, yO 1 [10, 11, 12, 13, 0], yA 0 10, yA 0 6, yA 0 6, yA 0 6, yO 4 [15, 16, 17, 18, 0, 0, 0, 0], yA 0 10, yA 0 10, yA 0 10, yO 1 [19, 20, 21, 22, 0], yA 0 10, yA 0 6, yA 0 6, yA 0 6, yO 5 [3, 14, 0, 0, 0, 0, 0], yO 1 [25, 26, 27, 28, 0], yA 0 10, yA 0 6, yA 0 6, yA 0 6, yO 2 [30, 0, 0], yQ 3 [31, 36, 41, 46, 51, 1, 1, 1], yO 1 [32, 33, 34, 35, 0], yA 0 10, yA 0 6, yA 0 6, yA 0 6, yO 1 [37, 38, 39, 40, 0], yA 0 10, yA 0 6, yA 0 6, yA 0 6, yO 1 [42, 43, 44, 45, 0], yA 0 10, yA 0 6, yA 0 6, yA 0 6, yO 1 [47, 48, 49, 50, 0], yA 0 10, yA 0 6, yA 0 6, yA 0 6, yO 1 [52, 53, 54, 55, 0], yA 0 10, yA 0 6, yA 0 6, yA 0 6] at hw_
  refine v_in1 iX2_init_34 ⟨rfl, rfl⟩ ?_
  refine v_goto (tgt := 15) iX2_init_37 (by decide) ?_
  refine v_iload_n iX2_init_15 rfl ?_
  refine v_bipush iX2_init_16 (by decide) ?_
  refine v_icmp_ge (tgt := 40) iX2_init_18 (by decide) (by decide) (fun h_ => absurd h_ (by decide)) (fun h_ => ?_)
  refine v_aload_n iX2_init_21 rfl ?_
  refine v_getR iX2_init_22 fX2_11 rfl rfl ?_
  refine v_iload_n iX2_init_25 rfl ?_
  refine v_new (N := 54) (ci := 1) (cs := [1, 1, 1, 1, 0]) tyX1 iX2_init_26 rfl uw1 tyX1_ok (gw_t 162 (by decide +kernel) rfl) (gw_t 50 (by decide +kernel) rfl) (gw_t 4 (by decide +kernel) rfl) nfX1 hw_ rfl (fun j_ => hzs_ _ (by decide) j_) ⟨(by show _ ≤ (41 : Nat); omega), (by show _ ≤ (272 : Nat); omega)⟩ (by refine ⟨?_, ?_⟩ <;> simp only [okL, okS, okV, and_true, true_and] <;> omega) (fun hw_ => ?_)
  change V _ _ _ _ _ [yO 7 [3, 5, 14, 23, 24, 1, 1, 1, 1, 1], yO 6 [4, 0], yA 0 200, yO 4 [6, 7, 8, 9, 0, 0, 0, 0], yA 0 10, yA 0 10, yA 0 10, yO 1 [10, 11, 12, 13, 0], yA 0 10, yA 0 6, yA 0 6, yA 0 6, yO 4 [15, 16, 17, 18, 0, 0, 0, 0], yA 0 10, yA 0 10, yA 0 10, yO 1 [19, 20, 21, 22, 0], yA 0 10, yA 0 6, yA 0 6, yA 0 6, yO 5 [3, 14, 0, 0, 0, 0, 0], yO 1 [25, 26, 27, 28, 0], yA 0 10, yA 0 6, yA 0 6, yA 0 6, yO 2 [30, 0, 0], yQ 3 [31, 36, 41, 46, 51, 1, 1, 1], yO 1 [32, 33, 34, 35, 0], yA 0 10, yA 0 6, yA 0 6, yA 0 6, yO 1 [37, 38, 39, 40, 0], yA 0 10, yA 0 6, yA 0 6, yA 0 6, yO 1 [42, 43, 44, 45, 0], yA 0 10, yA 0 6, yA 0 6, yA 0 6, yO 1 [47, 48, 49, 50, 0], yA 0 10, yA 0 6, yA 0 6, yA 0 6, yO 1 [52, 53, 54, 55, 0], yA 0 10, yA 0 6, yA 0 6, yA 0 6, yO 1 [1, 1, 1, 1, 0]] _ _ _ _ _
  change wfL [yO 7 [3, 5, 14, 23, 24, 1, 1, 1, 1, 1], yO 6 [4, 0], yA 0 200, yO 4 [6, 7, 8, 9, 0, 0, 0, 0], yA 0 10, yA 0 10, yA 0 10, yO 1 [10, 11, 12, 13, 0], yA 0 10, yA 0 6, yA 0 6, yA 0 6, yO 4 [15, 16, 17, 18, 0, 0, 0, 0], yA 0 10, yA 0 10, yA 0 10, yO 1 [19, 20, 21, 22, 0], yA 0 10, yA 0 6, yA 0 6, yA 0 6, yO 5 [3, 14, 0, 0, 0, 0, 0], yO 1 [25, 26, 27, 28, 0], yA 0 10, yA 0 6, yA 0 6, yA 0 6, yO 2 [30, 0, 0], yQ 3 [31, 36, 41, 46, 51, 1, 1, 1], yO 1 [32, 33, 34, 35, 0], yA 0 10, yA 0 6, yA 0 6, yA 0 6, yO 1 [37, 38, 39, 40, 0], yA 0 10, yA 0 6, yA 0 6, yA 0 6, yO 1 [42, 43, 44, 45, 0], yA 0 10, yA 0 6, yA 0 6, yA 0 6, yO 1 [47, 48, 49, 50, 0], yA 0 10, yA 0 6, yA 0 6, yA 0 6, yO 1 [52, 53, 54, 55, 0], yA 0 10, yA 0 6, yA 0 6, yA 0 6, yO 1 [1, 1, 1, 1, 0]] at hw_
  refine v_dup iX2_init_29 (by intro z h; cases h) ?_
  refine v_callI (y := yX1_init) (b := cX1_init) (ml := 1) (N := 55) iX2_init_30 lX2_17 kX1_init rfl (qX1_init _ _ _ 54 rfl hw_ (hzs_.m (by decide)) (hz_.m (by decide))) (by decide) rfl rfl (Nat.le_of_ble_eq_true rfl) ⟨(by show _ ≤ (41 : Nat); omega), (by show _ ≤ (272 : Nat); omega)⟩ rfl (by refine ⟨?_, ?_⟩ <;> simp only [okL, okS, okV, and_true, true_and] <;> omega) ?_
  rintro r9_ L9_ s9_ a9_ ⟨rfl, rfl, hw_, rfl, rfl⟩
  change V _ _ _ _ _ [yO 7 [3, 5, 14, 23, 24, 1, 1, 1, 1, 1], yO 6 [4, 0], yA 0 200, yO 4 [6, 7, 8, 9, 0, 0, 0, 0], yA 0 10, yA 0 10, yA 0 10, yO 1 [10, 11, 12, 13, 0], yA 0 10, yA 0 6, yA 0 6, yA 0 6, yO 4 [15, 16, 17, 18, 0, 0, 0, 0], yA 0 10, yA 0 10, yA 0 10, yO 1 [19, 20, 21, 22, 0], yA 0 10, yA 0 6, yA 0 6, yA 0 6, yO 5 [3, 14, 0, 0, 0, 0, 0], yO 1 [25, 26, 27, 28, 0], yA 0 10, yA 0 6, yA 0 6, yA 0 6, yO 2 [30, 0, 0], yQ 3 [31, 36, 41, 46, 51, 1, 1, 1], yO 1 [32, 33, 34, 35, 0], yA 0 10, yA 0 6, yA 0 6, yA 0 6, yO 1 [37, 38, 39, 40, 0], yA 0 10, yA 0 6, yA 0 6, yA 0 6, yO 1 [42, 43, 44, 45, 0], yA 0 10, yA 0 6, yA 0 6, yA 0 6, yO 1 [47, 48, 49, 50, 0], yA 0 10, yA 0 6, yA 0 6, yA 0 6, yO 1 [52, 53, 54, 55, 0], yA 0 10, yA 0 6, yA 0 6, yA 0 6, yO 1 [57, 58, 59, 60, 0], yA 0 10, yA 0 6, yA 0 6, yA 0 6] _ _ _ _ _
  change wfL [yO 7 [3, 5, 14, 23, 24, 1, 1, 1, 1, 1], yO 6 [4, 0], yA 0 200, yO 4 [6, 7, 8, 9, 0, 0, 0, 0], yA 0 10, yA 0 10, yA 0 10, yO 1 [10, 11, 12, 13, 0], yA 0 10, yA 0 6, yA 0 6, yA 0 6, yO 4 [15, 16, 17, 18, 0, 0, 0, 0], yA 0 10, yA 0 10, yA 0 10, yO 1 [19, 20, 21, 22, 0], yA 0 10, yA 0 6, yA 0 6, yA 0 6, yO 5 [3, 14, 0, 0, 0, 0, 0], yO 1 [25, 26, 27, 28, 0], yA 0 10, yA 0 6, yA 0 6, yA 0 6, yO 2 [30, 0, 0], yQ 3 [31, 36, 41, 46, 51, 1, 1, 1], yO 1 [32, 33, 34, 35, 0], yA 0 10, yA 0 6, yA 0 6, yA 0 6, yO 1 [37, 38, 39, 40, 0], yA 0 10, yA 0 6, yA 0 6, yA 0 6, yO 1 [42, 43, 44, 45, 0], yA 0 10, yA 0 6, yA 0 6, yA 0 6, yO 1 [47, 48, 49, 50, 0], yA 0 10, yA 0 6, yA 0 6, yA 0 6, yO 1 [52, 53, 54, 55, 0], yA 0 10, yA 0 6, yA 0 6, yA 0 6, yO 1 [57, 58, 59, 60, 0], yA 0 10, yA 0 6, yA 0 6, yA 0 6] at hw_
  refine v_aast (t := 3) iX2_init_33 hw_ rfl (by right; exact ⟨rfl, rfl⟩) rfl (by decide) rfl (fun hw_ => ?_)
  change V _ _ _ _ _ [yO 7 [3, 5, 14, 23, 24, 1, 1, 1, 1, 1], yO 6 [4, 0], yA 0 200, yO 4 [6, 7, 8, 9, 0, 0, 0, 0], yA 0 10, yA 0 10, yA 0 10, yO 1 [10, 11, 12, 13, 0], yA 0 10, yA 0 6, yA 0 6, yA 0 6, yO 4 [15, 16, 17, 18, 0, 0, 0, 0], yA 0 10, yA 0 10, yA 0 10, yO 1 [19, 20, 21, 22, 0], yA 0 10, yA 0 6, yA 0 6, yA 0 6, yO 5 [3, 14, 0, 0, 0, 0, 0], yO 1 [25, 26, 27, 28, 0], yA 0 10, yA 0 6, yA 0 6, yA 0 6, yO 2 [30, 0, 0], yQ 3 [31, 36, 41, 46, 51, 56, 1, 1], yO 1 [32, 33, 34, 35, 0], yA 0 10, yA 0 6, yA 0 6, yA 0 6, yO 1 [37, 38, 39, 40, 0], yA 0 10, yA 0 6, yA 0 6, yA 0 6, yO 1 [42, 43, 44, 45, 0], yA 0 10, yA 0 6, yA 0 6, yA 0 6, yO 1 [47, 48, 49, 50, 0], yA 0 10, yA 0 6, yA 0 6, yA 0 6, yO 1 [52, 53, 54, 55, 0], yA 0 10, yA 0 6, yA 0 6, yA 0 6, yO 1 [57, 58, 59, 60, 0], yA 0 10, yA 0 6, yA 0 6, yA 0 6] _ _ _ _ _
  change wfL [yO 7 [3, 5, 14, 23, 24, 1, 1, 1, 1, 1], yO 6 [4, 0], yA 0 200, yO 4 [6, 7, 8, 9, 0, 0, 0, 0], yA 0 10, yA 0 10, yA 0 10, yO 1 [10, 11, 12, 13, 0], yA 0 10, yA 0 6, yA 0 6, yA 0 6, yO 4 [15, 16, 17, 18, 0, 0, 0, 0], yA 0 10, yA 0 10, yA 0 10, yO 1 [19, 20, 21, 22, 0], yA 0 10, yA 0 6, yA 0 6, yA 0 6, yO 5 [3, 14, 0, 0, 0, 0, 0], yO 1 [25, 26, 27, 28, 0], yA 0 10, yA 0 6, yA 0 6, yA 0 6, yO 2 [30, 0, 0], yQ 3 [31, 36, 41, 46, 51, 56, 1, 1], yO 1 [32, 33, 34, 35, 0], yA 0 10, yA 0 6, yA 0 6, yA 0 6, yO 1 [37, 38, 39, 40, 0], yA 0 10, yA 0 6, yA 0 6, yA 0 6, yO 1 [42, 43, 44, 45, 0], yA 0 10, yA 0 6, yA 0 6, yA 0 6, yO 1 [47, 48, 49, 50, 0], yA 0 10, yA 0 6, yA 0 6, yA 0 6, yO 1 [52, 53, 54, 55, 0], yA 0 10, yA 0 6, yA 0 6, yA 0 6, yO 1 [57, 58, 59, 60, 0], yA 0 10, yA 0 6, yA 0 6, yA 0 6] at hw_
  refine v_in1 iX2_init_34 ⟨rfl, rfl⟩ ?_
  refine v_goto (tgt := 15) iX2_init_37 (by decide) ?_
  refine v_iload_n iX2_init_15 rfl ?_
  refine v_bipush iX2_init_16 (by decide) ?_
  refine v_icmp_ge (tgt := 40) iX2_init_18 (by decide) (by decide) (fun h_ => absurd h_ (by decide)) (fun h_ => ?_)
  refine v_aload_n iX2_init_21 rfl ?_
  refine v_getR iX2_init_22 fX2_11 rfl rfl ?_
  refine v_iload_n iX2_init_25 rfl ?_
  refine v_new (N := 59) (ci := 1) (cs := [1, 1, 1, 1, 0]) tyX1 iX2_init_26 rfl uw1 tyX1_ok (gw_t 162 (by decide +kernel) rfl) (gw_t 50 (by decide +kernel) rfl) (gw_t 4 (by decide +kernel) rfl) nfX1 hw_ rfl (fun j_ => hzs_ _ (by decide) j_) ⟨(by show _ ≤ (41 : Nat); omega), (by show _ ≤ (272 : Nat); omega)⟩ (by refine ⟨?_, ?_⟩ <;> simp only [okL, okS, okV, and_true, true_and] <;> omega) (fun hw_ => ?_)
  change V _ _ _ _ _ [yO 7 [3, 5, 14, 23, 24, 1, 1, 1, 1, 1], yO 6 [4, 0], yA 0 200, yO 4 [6, 7, 8, 9, 0, 0, 0, 0], yA 0 10, yA 0 10, yA 0 10, yO 1 [10, 11, 12, 13, 0], yA 0 10, yA 0 6, yA 0 6, yA 0 6, yO 4 [15, 16, 17, 18, 0, 0, 0, 0], yA 0 10, yA 0 10, yA 0 10, yO 1 [19, 20, 21, 22, 0], yA 0 10, yA 0 6, yA 0 6, yA 0 6, yO 5 [3, 14, 0, 0, 0, 0, 0], yO 1 [25, 26, 27, 28, 0], yA 0 10, yA 0 6, yA 0 6, yA 0 6, yO 2 [30, 0, 0], yQ 3 [31, 36, 41, 46, 51, 56, 1, 1], yO 1 [32, 33, 34, 35, 0], yA 0 10, yA 0 6, yA 0 6, yA 0 6, yO 1 [37, 38, 39, 40, 0], yA 0 10, yA 0 6, yA 0 6, yA 0 6, yO 1 [42, 43, 44, 45, 0], yA 0 10, yA 0 6, yA 0 6, yA 0 6, yO 1 [47, 48, 49, 50, 0], yA 0 10, yA 0 6, yA 0 6, yA 0 6, yO 1 [52, 53, 54, 55, 0], yA 0 10, yA 0 6, yA 0 6, yA 0 6, yO 1 [57, 58, 59, 60, 0], yA 0 10, yA 0 6, yA 0 6, yA 0 6, yO 1 [1, 1, 1, 1, 0]] _ _ _ _ _
  change wfL [yO 7 [3, 5, 14, 23, 24, 1, 1, 1, 1, 1], yO 6 [4, 0], yA 0 200, yO 4 [6, 7, 8, 9, 0, 0, 0, 0], yA 0 10, yA 0 10, yA 0 10, yO 1 [10, 11, 12, 13, 0], yA 0 10, yA 0 6, yA 0 6, yA 0 6, yO 4 [15, 16, 17, 18, 0, 0, 0, 0], yA 0 10, yA 0 10, yA 0 10, yO 1 [19, 20, 21, 22, 0], yA 0 10, yA 0 6, yA 0 6, yA 0 6, yO 5 [3, 14, 0, 0, 0, 0, 0], yO 1 [25, 26, 27, 28, 0], yA 0 10, yA 0 6, yA 0 6, yA 0 6, yO 2 [30, 0, 0], yQ 3 [31, 36, 41, 46, 51, 56, 1, 1], yO 1 [32, 33, 34, 35, 0], yA 0 10, yA 0 6, yA 0 6, yA 0 6, yO 1 [37, 38, 39, 40, 0], yA 0 10, yA 0 6, yA 0 6, yA 0 6, yO 1 [42, 43, 44, 45, 0], yA 0 10, yA 0 6, yA 0 6, yA 0 6, yO 1 [47, 48, 49, 50, 0], yA 0 10, yA 0 6, yA 0 6, yA 0 6, yO 1 [52, 53, 54, 55, 0], yA 0 10, yA 0 6, yA 0 6, yA 0 6, yO 1 [57, 58, 59, 60, 0], yA 0 10, yA 0 6, yA 0 6, yA 0 6, yO 1 [1, 1, 1, 1, 0]] at hw_
  refine v_dup iX2_init_29 (by intro z h; cases h) ?_
  refine v_callI (y := yX1_init) (b := cX1_init) (ml := 1) (N := 60) iX2_init_30 lX2_17 kX1_init rfl (qX1_init _ _ _ 59 rfl hw_ (hzs_.m (by decide)) (hz_.m (by decide))) (by decide) rfl rfl (Nat.le_of_ble_eq_true rfl) ⟨(by show _ ≤ (41 : Nat); omega), (by show _ ≤ (272 : Nat); omega)⟩ rfl (by refine ⟨?_, ?_⟩ <;> simp only [okL, okS, okV, and_true, true_and] <;> omega) ?_
  rintro r9_ L9_ s9_ a9_ ⟨rfl, rfl, hw_, rfl, rfl⟩
  change V _ _ _ _ _ [yO 7 [3, 5, 14, 23, 24, 1, 1, 1, 1, 1], yO 6 [4, 0], yA 0 200, yO 4 [6, 7, 8, 9, 0, 0, 0, 0], yA 0 10, yA 0 10, yA 0 10, yO 1 [10, 11, 12, 13, 0], yA 0 10, yA 0 6, yA 0 6, yA 0 6, yO 4 [15, 16, 17, 18, 0, 0, 0, 0], yA 0 10, yA 0 10, yA 0 10, yO 1 [19, 20, 21, 22, 0], yA 0 10, yA 0 6, yA 0 6, yA 0 6, yO 5 [3, 14, 0, 0, 0, 0, 0], yO 1 [25, 26, 27, 28, 0], yA 0 10, yA 0 6, yA 0 6, yA 0 6, yO 2 [30, 0, 0], yQ 3 [31, 36, 41, 46, 51, 56, 1, 1], yO 1 [32, 33, 34, 35, 0], yA 0 10, yA 0 6, yA 0 6, yA 0 6, yO 1 [37, 38, 39, 40, 0], yA 0 10, yA 0 6, yA 0 6, yA 0 6, yO 1 [42, 43, 44, 45, 0], yA 0 10, yA 0 6, yA 0 6, yA 0 6, yO 1 [47, 48, 49, 50, 0], yA 0 10, yA 0 6, yA 0 6, yA 0 6, yO 1 [52, 53, 54, 55, 0], yA 0 10, yA 0 6, yA 0 6, yA 0 6, yO 1 [57, 58, 59, 60, 0], yA 0 10, yA 0 6, yA 0 6, yA 0 6, yO 1 [62, 63, 64, 65, 0], yA 0 10, yA 0 6, yA 0 6, yA 0 6] _ _ _ _ _
  change wfL [yO 7 [3, 5, 14, 23, 24, 1, 1, 1, 1, 1], yO 6 [4, 0], yA 0 200, yO 4 [6, 7, 8, 9, 0, 0, 0, 0], yA 0 10, yA 0 10, yA 0 10, yO 1 [10, 11, 12, 13, 0], yA 0 10, yA 0 6, yA 0 6, yA 0 6, yO 4 [15, 16, 17, 18, 0, 0, 0, 0], yA 0 10, yA 0 10, yA 0 10, yO 1 [19, 20, 21, 22, 0], yA 0 10, yA 0 6, yA 0 6, yA 0 6, yO 5 [3, 14, 0, 0, 0, 0, 0], yO 1 [25, 26, 27, 28, 0], yA 0 10, yA 0 6, yA 0 6, yA 0 6, yO 2 [30, 0, 0], yQ 3 [31, 36, 41, 46, 51, 56, 1, 1], yO 1 [32, 33, 34, 35, 0], yA 0 10, yA 0 6, yA 0 6, yA 0 6, yO 1 [37, 38, 39, 40, 0], yA 0 10, yA 0 6, yA 0 6, yA 0 6, yO 1 [42, 43, 44, 45, 0], yA 0 10, yA 0 6, yA 0 6, yA 0 6, yO 1 [47, 48, 49, 50, 0], yA 0 10, yA 0 6, yA 0 6, yA 0 6, yO 1 [52, 53, 54, 55, 0], yA 0 10, yA 0 6, yA 0 6, yA 0 6, yO 1 [57, 58, 59, 60, 0], yA 0 10, yA 0 6, yA 0 6, yA 0 6, yO 1 [62, 63, 64, 65, 0], yA 0 10, yA 0 6, yA 0 6, yA 0 6] at hw_
  refine v_aast (t := 3) iX2_init_33 hw_ rfl (by right; exact ⟨rfl, rfl⟩) rfl (by decide) rfl (fun hw_ => ?_)
  change V _ _ _ _ _ [yO 7 [3, 5, 14, 23, 24, 1, 1, 1, 1, 1], yO 6 [4, 0], yA 0 200, yO 4 [6, 7, 8, 9, 0, 0, 0, 0], yA 0 10, yA 0 10, yA 0 10, yO 1 [10, 11, 12, 13, 0], yA 0 10, yA 0 6, yA 0 6, yA 0 6, yO 4 [15, 16, 17, 18, 0, 0, 0, 0], yA 0 10, yA 0 10, yA 0 10, yO 1 [19, 20, 21, 22, 0], yA 0 10, yA 0 6, yA 0 6, yA 0 6, yO 5 [3, 14, 0, 0, 0, 0, 0], yO 1 [25, 26, 27, 28, 0], yA 0 10, yA 0 6, yA 0 6, yA 0 6, yO 2 [30, 0, 0], yQ 3 [31, 36, 41, 46, 51, 56, 61, 1], yO 1 [32, 33, 34, 35, 0], yA 0 10, yA 0 6, yA 0 6, yA 0 6, yO 1 [37, 38, 39, 40, 0], yA 0 10, yA 0 6, yA 0 6, yA 0 6, yO 1 [42, 43, 44, 45, 0], yA 0 10, yA 0 6, yA 0 6, yA 0 6, yO 1 [47, 48, 49, 50, 0], yA 0 10, yA 0 6, yA 0 6, yA 0 6, yO 1 [52, 53, 54, 55, 0], yA 0 10, yA 0 6, yA 0 6, yA 0 6, yO 1 [57, 58, 59, 60, 0], yA 0 10, yA 0 6, yA 0 6, yA 0 6, yO 1 [62, 63, 64, 65, 0], yA 0 10, yA 0 6, yA 0 6, yA 0 6] _ _ _ _ _
  change wfL [yO 7 [3, 5, 14, 23, 24, 1, 1, 1, 1, 1], yO 6 [4, 0], yA 0 200, yO 4 [6, 7, 8, 9, 0, 0, 0, 0], yA 0 10, yA 0 10, yA 0 10, yO 1 [10, 11, 12, 13, 0], yA 0 10, yA 0 6, yA 0 6, yA 0 6, yO 4 [15, 16, 17, 18, 0, 0, 0, 0], yA 0 10, yA 0 10, yA 0 10, yO 1 [19, 20, 21, 22, 0], yA 0 10, yA 0 6, yA 0 6, yA 0 6, yO 5 [3, 14, 0, 0, 0, 0, 0], yO 1 [25, 26, 27, 28, 0], yA 0 10, yA 0 6, yA 0 6, yA 0 6, yO 2 [30, 0, 0], yQ 3 [31, 36, 41, 46, 51, 56, 61, 1], yO 1 [32, 33, 34, 35, 0], yA 0 10, yA 0 6, yA 0 6, yA 0 6, yO 1 [37, 38, 39, 40, 0], yA 0 10, yA 0 6, yA 0 6, yA 0 6, yO 1 [42, 43, 44, 45, 0], yA 0 10, yA 0 6, yA 0 6, yA 0 6, yO 1 [47, 48, 49, 50, 0], yA 0 10, yA 0 6, yA 0 6, yA 0 6, yO 1 [52, 53, 54, 55, 0], yA 0 10, yA 0 6, yA 0 6, yA 0 6, yO 1 [57, 58, 59, 60, 0], yA 0 10, yA 0 6, yA 0 6, yA 0 6, yO 1 [62, 63, 64, 65, 0], yA 0 10, yA 0 6, yA 0 6, yA 0 6] at hw_
  refine v_in1 iX2_init_34 ⟨rfl, rfl⟩ ?_
  refine v_goto (tgt := 15) iX2_init_37 (by decide) ?_
  refine v_iload_n iX2_init_15 rfl ?_
  refine v_bipush iX2_init_16 (by decide) ?_
  refine v_icmp_ge (tgt := 40) iX2_init_18 (by decide) (by decide) (fun h_ => absurd h_ (by decide)) (fun h_ => ?_)
  refine v_aload_n iX2_init_21 rfl ?_
  refine v_getR iX2_init_22 fX2_11 rfl rfl ?_
  refine v_iload_n iX2_init_25 rfl ?_
  refine v_new (N := 64) (ci := 1) (cs := [1, 1, 1, 1, 0]) tyX1 iX2_init_26 rfl uw1 tyX1_ok (gw_t 162 (by decide +kernel) rfl) (gw_t 50 (by decide +kernel) rfl) (gw_t 4 (by decide +kernel) rfl) nfX1 hw_ rfl (fun j_ => hzs_ _ (by decide) j_) ⟨(by show _ ≤ (41 : Nat); omega), (by show _ ≤ (272 : Nat); omega)⟩ (by refine ⟨?_, ?_⟩ <;> simp only [okL, okS, okV, and_true, true_and] <;> omega) (fun hw_ => ?_)
  change V _ _ _ _ _ [yO 7 [3, 5, 14, 23, 24, 1, 1, 1, 1, 1], yO 6 [4, 0], yA 0 200, yO 4 [6, 7, 8, 9, 0, 0, 0, 0], yA 0 10, yA 0 10, yA 0 10, yO 1 [10, 11, 12, 13, 0], yA 0 10, yA 0 6, yA 0 6, yA 0 6, yO 4 [15, 16, 17, 18, 0, 0, 0, 0], yA 0 10, yA 0 10, yA 0 10, yO 1 [19, 20, 21, 22, 0], yA 0 10, yA 0 6, yA 0 6, yA 0 6, yO 5 [3, 14, 0, 0, 0, 0, 0], yO 1 [25, 26, 27, 28, 0], yA 0 10, yA 0 6, yA 0 6, yA 0 6, yO 2 [30, 0, 0], yQ 3 [31, 36, 41, 46, 51, 56, 61, 1], yO 1 [32, 33, 34, 35, 0], yA 0 10, yA 0 6, yA 0 6, yA 0 6, yO 1 [37, 38, 39, 40, 0], yA 0 10, yA 0 6, yA 0 6, yA 0 6, yO 1 [42, 43, 44, 45, 0], yA 0 10, yA 0 6, yA 0 6, yA 0 6, yO 1 [47, 48, 49, 50, 0], yA 0 10, yA 0 6, yA 0 6, yA 0 6, yO 1 [52, 53, 54, 55, 0], yA 0 10, yA 0 6, yA 0 6, yA 0 6, yO 1 [57, 58, 59, 60, 0], yA 0 10, yA 0 6, yA 0 6, yA 0 6, yO 1 [62, 63, 64, 65, 0], yA 0 10, yA 0 6, yA 0 6, yA 0 6, yO 1 [1, 1, 1, 1, 0]] _ _ _ _ _
  change wfL [yO 7 [3, 5, 14, 23, 24, 1, 1, 1, 1, 1], yO 6 [4, 0], yA 0 200, yO 4 [6, 7, 8, 9, 0, 0, 0, 0], yA 0 10, yA 0 10, yA 0 10, yO 1 [10, 11, 12, 13, 0], yA 0 10, yA 0 6, yA 0 6, yA 0 6, yO 4 [15, 16, 17, 18, 0, 0, 0, 0], yA 0 10, yA 0 10, yA 0 10, yO 1 [19, 20, 21, 22, 0], yA 0 10, yA 0 6, yA 0 6, yA 0 6, yO 5 [3, 14, 0, 0, 0, 0, 0], yO 1 [25, 26, 27, 28, 0], yA 0 10, yA 0 6, yA 0 6, yA 0 6, yO 2 [30, 0, 0], yQ 3 [31, 36, 41, 46, 51, 56, 61, 1], yO 1 [32, 33, 34, 35, 0], yA 0 10, yA 0 6, yA 0 6, yA 0 6, yO 1 [37, 38, 39, 40, 0], yA 0 10, yA 0 6, yA 0 6, yA 0 6, yO 1 [42, 43, 44, 45, 0], yA 0 10, yA 0 6, yA 0 6, yA 0 6, yO 1 [47, 48, 49, 50, 0], yA 0 10, yA 0 6, yA 0 6, yA 0 6, yO 1 [52, 53, 54, 55, 0], yA 0 10, yA 0 6, yA 0 6, yA 0 6, yO 1 [57, 58, 59, 60, 0], yA 0 10, yA 0 6, yA 0 6, yA 0 6, yO 1 [62, 63, 64, 65, 0], yA 0 10, yA 0 6, yA 0 6, yA 0 6, yO 1 [1, 1, 1, 1, 0]] at hw_
  refine v_dup iX2_init_29 (by intro z h; cases h) ?_
  refine v_callI (y := yX1_init) (b := cX1_init) (ml := 1) (N := 65) iX2_init_30 lX2_17 kX1_init rfl (qX1_init _ _ _ 64 rfl hw_ (hzs_.m (by decide)) (hz_.m (by decide))) (by decide) rfl rfl (Nat.le_of_ble_eq_true rfl) ⟨(by show _ ≤ (41 : Nat); omega), (by show _ ≤ (272 : Nat); omega)⟩ rfl (by refine ⟨?_, ?_⟩ <;> simp only [okL, okS, okV, and_true, true_and] <;> omega) ?_
  rintro r9_ L9_ s9_ a9_ ⟨rfl, rfl, hw_, rfl, rfl⟩
  change V _ _ _ _ _ [yO 7 [3, 5, 14, 23, 24, 1, 1, 1, 1, 1], yO 6 [4, 0], yA 0 200, yO 4 [6, 7, 8, 9, 0, 0, 0, 0], yA 0 10, yA 0 10, yA 0 10, yO 1 [10, 11, 12, 13, 0], yA 0 10, yA 0 6, yA 0 6, yA 0 6, yO 4 [15, 16, 17, 18, 0, 0, 0, 0], yA 0 10, yA 0 10, yA 0 10, yO 1 [19, 20, 21, 22, 0], yA 0 10, yA 0 6, yA 0 6, yA 0 6, yO 5 [3, 14, 0, 0, 0, 0, 0], yO 1 [25, 26, 27, 28, 0], yA 0 10, yA 0 6, yA 0 6, yA 0 6, yO 2 [30, 0, 0], yQ 3 [31, 36, 41, 46, 51, 56, 61, 1], yO 1 [32, 33, 34, 35, 0], yA 0 10, yA 0 6, yA 0 6, yA 0 6, yO 1 [37, 38, 39, 40, 0], yA 0 10, yA 0 6, yA 0 6, yA 0 6, yO 1 [42, 43, 44, 45, 0], yA 0 10, yA 0 6, yA 0 6, yA 0 6, yO 1 [47, 48, 49, 50, 0], yA 0 10, yA 0 6, yA 0 6, yA 0 6, yO 1 [52, 53, 54, 55, 0], yA 0 10, yA 0 6, yA 0 6, yA 0 6, yO 1 [57, 58, 59, 60, 0], yA 0 10, yA 0 6, yA 0 6, yA 0 6, yO 1 [62, 63, 64, 65, 0], yA 0 10, yA 0 6, yA 0 6, yA 0 6, yO 1 [67, 68, 69, 70, 0], yA 0 10, yA 0 6, yA 0 6, yA 0 6] _ _ _ _ _
  change wfL [yO 7 [3, 5, 14, 23, 24, 1, 1, 1, 1, 1], yO 6 [4, 0], yA 0 200, yO 4 [6, 7, 8, 9, 0, 0, 0, 0], yA 0 10, yA 0 10, yA 0 10, yO 1 [10, 11, 12, 13, 0], yA 0 10, yA 0 6, yA 0 6, yA 0 6, yO 4 [15, 16, 17, 18, 0, 0, 0, 0], yA 0 10, yA 0 10, yA 0 10, yO 1 [19, 20, 21, 22, 0], yA 0 10, yA 0 6, yA 0 6, yA 0 6, yO 5 [3, 14, 0, 0, 0, 0, 0], yO 1 [25, 26, 27, 28, 0], yA 0 10, yA 0 6, yA 0 6, yA 0 6, yO 2 [30, 0, 0], yQ 3 [31, 36, 41, 46, 51, 56, 61, 1], yO 1 [32, 33, 34, 35, 0], yA 0 10, yA 0 6, yA 0 6, yA 0 6, yO 1 [37, 38, 39, 40, 0], yA 0 10, yA 0 6, yA 0 6, yA 0 6, yO 1 [42, 43, 44, 45, 0], yA 0 10, yA 0 6, yA 0 6, yA 0 6, yO 1 [47, 48, 49, 50, 0], yA 0 10, yA 0 6, yA 0 6, yA 0 6, yO 1 [52, 53, 54, 55, 0], yA 0 10, yA 0 6, yA 0 6, yA 0 6, yO 1 [57, 58, 59, 60, 0], yA 0 10, yA 0 6, yA 0 6, yA 0 6, yO 1 [62, 63, 64, 65, 0], yA 0 10, yA 0 6, yA 0 6, yA 0 6, yO 1 [67, 68, 69, 70, 0], yA 0 10, yA 0 6, yA 0 6, yA 0 6] at hw_
  refine v_aast (t := 3) iX2_init_33 hw_ rfl (by right; exact ⟨rfl, rfl⟩) rfl (by decide) rfl (fun hw_ => ?_)
  change V _ _ _ _ _ [yO 7 [3, 5, 14, 23, 24, 1, 1, 1, 1, 1], yO 6 [4, 0], yA 0 200, yO 4 [6, 7, 8, 9, 0, 0, 0, 0], yA 0 10, yA 0 10, yA 0 10, yO 1 [10, 11, 12, 13, 0], yA 0 10, yA 0 6, yA 0 6, yA 0 6, yO 4 [15, 16, 17, 18, 0, 0, 0, 0], yA 0 10, yA 0 10, yA 0 10, yO 1 [19, 20, 21, 22, 0], yA 0 10, yA 0 6, yA 0 6, yA 0 6, yO 5 [3, 14, 0, 0, 0, 0, 0], yO 1 [25, 26, 27, 28, 0], yA 0 10, yA 0 6, yA 0 6, yA 0 6, yO 2 [30, 0, 0], yQ 3 [31, 36, 41, 46, 51, 56, 61, 66], yO 1 [32, 33, 34, 35, 0], yA 0 10, yA 0 6, yA 0 6, yA 0 6, yO 1 [37, 38, 39, 40, 0], yA 0 10, yA 0 6, yA 0 6, yA 0 6, yO 1 [42, 43, 44, 45, 0], yA 0 10, yA 0 6, yA 0 6, yA 0 6, yO 1 [47, 48, 49, 50, 0], yA 0 10, yA 0 6, yA 0 6, yA 0 6, yO 1 [52, 53, 54, 55, 0], yA 0 10, yA 0 6, yA 0 6, yA 0 6, yO 1 [57, 58, 59, 60, 0], yA 0 10, yA 0 6, yA 0 6, yA 0 6, yO 1 [62, 63, 64, 65, 0], yA 0 10, yA 0 6, yA 0 6, yA 0 6, yO 1 [67, 68, 69, 70, 0], yA 0 10, yA 0 6, yA 0 6, yA 0 6] _ _ _ _ _
  change wfL [yO 7 [3, 5, 14, 23, 24, 1, 1, 1, 1, 1], yO 6 [4, 0], yA 0 200, yO 4 [6, 7, 8, 9, 0, 0, 0, 0], yA 0 10, yA 0 10, yA 0 10, yO 1 [10, 11, 12, 13, 0], yA 0 10, yA 0 6, yA 0 6, yA 0 6, yO 4 [15, 16, 17, 18, 0, 0, 0, 0], yA 0 10, yA 0 10, yA 0 10, yO 1 [19, 20, 21, 22, 0], yA 0 10, yA 0 6, yA 0 6, yA 0 6, yO 5 [3, 14, 0, 0, 0, 0, 0], yO 1 [25, 26, 27, 28, 0], yA 0 10, yA 0 6, yA 0 6, yA 0 6, yO 2 [30, 0, 0], yQ 3 [31, 36, 41, 46, 51, 56, 61, 66], yO 1 [32, 33, 34, 35, 0], yA 0 10, yA 0 6, yA 0 6, yA 0 6, yO 1 [37, 38, 39, 40, 0], yA 0 10, yA 0 6, yA 0 6, yA 0 6, yO 1 [42, 43, 44, 45, 0], yA 0 10, yA 0 6, yA 0 6, yA 0 6, yO 1 [47, 48, 49, 50, 0], yA 0 10, yA 0 6, yA 0 6, yA 0 6, yO 1 [52, 53, 54, 55, 0], yA 0 10, yA 0 6, yA 0 6, yA 0 6, yO 1 [57, 58, 59, 60, 0], yA 0 10, yA 0 6, yA 0 6, yA 0 6, yO 1 [62, 63, 64, 65, 0], yA 0 10, yA 0 6, yA 0 6, yA 0 6, yO 1 [67, 68, 69, 70, 0], yA 0 10, yA 0 6, yA 0 6, yA 0 6] at hw_
  refine v_in1 iX2_init_34 ⟨rfl, rfl⟩ ?_
  refine v_goto (tgt := 15) iX2_init_37 (by decide) ?_
  refine v_iload_n iX2_init_15 rfl ?_
  refine v_bipush iX2_init_16 (by decide) ?_
  refine v_icmp_ge (tgt := 40) iX2_init_18 (by decide) (by decide) (fun h_ => ?_) (fun h_ => absurd h_ (by decide))
  exact v_vret iX2_init_40 rfl ⟨(by show _ ≤ (41 : Nat); omega), (by show _ ≤ (272 : Nat); omega)⟩ ⟨rfl, rfl, hw_, rfl, rfl⟩

set_option maxHeartbeats 8000000 in
set_option maxRecDepth 100000 in
theorem qX7_init (hw_ : wfL [yO 7 [1, 1, 1, 1, 1, 1, 1, 1, 1, 1]]) : SS 3 mX7_init 94 837 [vR 0] [yO 7 [1, 1, 1, 1, 1, 1, 1, 1, 1, 1]] zz zz (fun r' L' s' a' => r' = none ∧ L' = LA.take 95 ∧ wfL L' ∧ s' = (uS (uS (uS (uS (uS (uS (uS (uS (uS zz 3 5 6) 3 6 5) 3 7 50) 12 5 6) 12 6 5) 12 7 50) 89 1 1) 91 1 1) 93 1 1) ∧ a' = zz) := by
  have hzs_ : zq zz 1 := fun _ _ _ => rfl
  have hz_ : zq zz 1 := fun _ _ _ => rfl
  refine SS.of (by decide) (by simp [lvA]) (lv := [some (vR 0), none]) rfl ?_
  refine v_aload_n iX7_init_0 rfl ?_
  refine v_objI iX7_init_1 (gw_t 23 (by decide +kernel) rfl) (by decide) (Nat.le_of_ble_eq_true rfl) ?_
  refine v_aload_n iX7_init_4 rfl ?_
  refine v_new (N := 1) (ci := 6) (cs := [1, 0]) tyX6 iX7_init_5 rfl uw6 tyX6_ok (gw_t 26 (by decide +kernel) rfl) (gw_t 27 (by decide +kernel) rfl) (gw_t 2 (by decide +kernel) rfl) nfX6 hw_ rfl (fun j_ => hzs_ _ (by decide) j_) ⟨(by show _ ≤ (94 : Nat); omega), (by show _ ≤ (837 : Nat); omega)⟩ (by refine ⟨?_, ?_⟩ <;> simp only [okL, okS, okV, and_true, true_and] <;> omega) (fun hw_ => ?_)
  refine v_dup iX7_init_8 (by intro z h; cases h) ?_
  refine v_callI (y := yX6_init) (b := cX6_init) (ml := 1) (N := 2) iX7_init_9 lX7_9 kX6_init rfl (qX6_init _ _ _ 1 rfl hw_ (hzs_.m (by decide)) (hz_.m (by decide))) (by decide) rfl rfl (Nat.le_of_ble_eq_true rfl) ⟨(by show _ ≤ (94 : Nat); omega), (by show _ ≤ (837 : Nat); omega)⟩ rfl (by refine ⟨?_, ?_⟩ <;> simp only [okL, okS, okV, and_true, true_and] <;> omega) ?_
  rintro r9_ L9_ s9_ a9_ ⟨rfl, rfl, hw_, rfl, rfl⟩
  change V _ _ _ _ _ (lyF [1, 1, 1, 1, 1, 1, 1, 1, 1, 1] [81, 86] [91, 93, 95] 3) _ _ _ _ _
  change wfL (lyF [1, 1, 1, 1, 1, 1, 1, 1, 1, 1] [81, 86] [91, 93, 95] 3) at hw_
  refine v_putR iX7_init_12 ffX7_10 rfl hw_ rfl (Nat.le_of_ble_eq_true rfl) (by decide) rfl (fun hw_ => ?_)
  change V _ _ _ _ _ (lyF [3, 1, 1, 1, 1, 1, 1, 1, 1, 1] [81, 86] [91, 93, 95] 3) _ _ _ _ _
  change wfL (lyF [3, 1, 1, 1, 1, 1, 1, 1, 1, 1] [81, 86] [91, 93, 95] 3) at hw_
  refine v_aload_n iX7_init_15 rfl ?_
  refine v_new (N := 3) (ci := 4) (cs := [1, 1, 1, 1, 0, 0, 0, 0]) tyX4 iX7_init_16 rfl uw4 tyX4_ok (gw_t 43 (by decide +kernel) rfl) (gw_t 44 (by decide +kernel) rfl) (gw_t 3 (by decide +kernel) rfl) nfX4 hw_ rfl (fun j_ => hzs_ _ (by decide) j_) ⟨(by show _ ≤ (94 : Nat); omega), (by show _ ≤ (837 : Nat); omega)⟩ (by refine ⟨?_, ?_⟩ <;> simp only [okL, okS, okV, and_true, true_and] <;> omega) (fun hw_ => ?_)
  refine v_dup iX7_init_19 (by intro z h; cases h) ?_
  refine v_callI (y := yX4_init) (b := cX4_init) (ml := 1) (N := 4) iX7_init_20 lX7_18 kX4_init rfl (qX4_init _ _ _ 3 rfl hw_ (hzs_.m (by decide)) (hz_.m (by decide))) (by decide) rfl rfl (Nat.le_of_ble_eq_true rfl) ⟨(by show _ ≤ (94 : Nat); omega), (by show _ ≤ (837 : Nat); omega)⟩ rfl (by refine ⟨?_, ?_⟩ <;> simp only [okL, okS, okV, and_true, true_and] <;> omega) ?_
  rintro r9_ L9_ s9_ a9_ ⟨rfl, rfl, hw_, rfl, rfl⟩
  have hzs_ := (((hzs_.m (show _ ≤ 4 by decide)).u (show 3 < 4 by decide) 5 6).u (show 3 < 4 by decide) 6 5).u (show 3 < 4 by decide) 7 50
  change V _ _ _ _ _ (lyF [3, 1, 1, 1, 1, 1, 1, 1, 1, 1] [81, 86] [91, 93, 95] 12) _ _ _ _ _
  change wfL (lyF [3, 1, 1, 1, 1, 1, 1, 1, 1, 1] [81, 86] [91, 93, 95] 12) at hw_
  refine v_putR iX7_init_23 ffX7_19 rfl hw_ rfl (Nat.le_of_ble_eq_true rfl) (by decide) rfl (fun hw_ => ?_)
  change V _ _ _ _ _ (lyF [3, 5, 1, 1, 1, 1, 1, 1, 1, 1] [81, 86] [91, 93, 95] 12) _ _ _ _ _
  change wfL (lyF [3, 5, 1, 1, 1, 1, 1, 1, 1, 1] [81, 86] [91, 93, 95] 12) at hw_
  refine v_aload_n iX7_init_26 rfl ?_
  refine v_new (N := 12) (ci := 4) (cs := [1, 1, 1, 1, 0, 0, 0, 0]) tyX4 iX7_init_27 rfl uw4 tyX4_ok (gw_t 43 (by decide +kernel) rfl) (gw_t 44 (by decide +kernel) rfl) (gw_t 3 (by decide +kernel) rfl) nfX4 hw_ rfl (fun j_ => hzs_ _ (by decide) j_) ⟨(by show _ ≤ (94 : Nat); omega), (by show _ ≤ (837 : Nat); omega)⟩ (by refine ⟨?_, ?_⟩ <;> simp only [okL, okS, okV, and_true, true_and] <;> omega) (fun hw_ => ?_)
  refine v_dup iX7_init_30 (by intro z h; cases h) ?_
  refine v_callI (y := yX4_init) (b := cX4_init) (ml := 1) (N := 13) iX7_init_31 lX7_18 kX4_init rfl (qX4_init _ _ _ 12 rfl hw_ (hzs_.m (by decide)) (hz_.m (by decide))) (by decide) rfl rfl (Nat.le_of_ble_eq_true rfl) ⟨(by show _ ≤ (94 : Nat); omega), (by show _ ≤ (837 : Nat); omega)⟩ rfl (by refine ⟨?_, ?_⟩ <;> simp only [okL, okS, okV, and_true, true_and] <;> omega) ?_
  rintro r9_ L9_ s9_ a9_ ⟨rfl, rfl, hw_, rfl, rfl⟩
  have hzs_ := (((hzs_.m (show _ ≤ 13 by decide)).u (show 12 < 13 by decide) 5 6).u (show 12 < 13 by decide) 6 5).u (show 12 < 13 by decide) 7 50
  change V _ _ _ _ _ (lyF [3, 5, 1, 1, 1, 1, 1, 1, 1, 1] [81, 86] [91, 93, 95] 21) _ _ _ _ _
  change wfL (lyF [3, 5, 1, 1, 1, 1, 1, 1, 1, 1] [81, 86] [91, 93, 95] 21) at hw_
  refine v_putR iX7_init_34 ffX7_23 rfl hw_ rfl (Nat.le_of_ble_eq_true rfl) (by decide) rfl (fun hw_ => ?_)
  change V _ _ _ _ _ (lyF [3, 5, 14, 1, 1, 1, 1, 1, 1, 1] [81, 86] [91, 93, 95] 21) _ _ _ _ _
  change wfL (lyF [3, 5, 14, 1, 1, 1, 1, 1, 1, 1] [81, 86] [91, 93, 95] 21) at hw_
  refine v_aload_n iX7_init_37 rfl ?_
  refine v_new (N := 21) (ci := 5) (cs := [1, 1, 0, 0, 0, 0, 0]) tyX5 iX7_init_38 rfl uw5 tyX5_ok (gw_t 125 (by decide +kernel) rfl) (gw_t 126 (by decide +kernel) rfl) (gw_t 5 (by decide +kernel) rfl) nfX5 hw_ rfl (fun j_ => hzs_ _ (by decide) j_) ⟨(by show _ ≤ (94 : Nat); omega), (by show _ ≤ (837 : Nat); omega)⟩ (by refine ⟨?_, ?_⟩ <;> simp only [okL, okS, okV, and_true, true_and] <;> omega) (fun hw_ => ?_)
  refine v_dup iX7_init_41 (by intro z h; cases h) ?_
  refine v_aload_n iX7_init_42 rfl ?_
  refine v_getR iX7_init_43 fX7_10 rfl rfl ?_
  refine v_aload_n iX7_init_46 rfl ?_
  refine v_getR iX7_init_47 fX7_23 rfl rfl ?_
  refine v_callI (y := yX5_init) (b := cX5_init) (ml := 3) (N := 22) iX7_init_50 lX7_28 kX5_init rfl (qX5_init _ _ _ 21 1 12 (by decide) (by decide) rfl hw_ (hzs_.m (by decide)) (hz_.m (by decide))) (by decide) rfl rfl (Nat.le_of_ble_eq_true rfl) ⟨(by show _ ≤ (94 : Nat); omega), (by show _ ≤ (837 : Nat); omega)⟩ rfl (by refine ⟨?_, ?_⟩ <;> simp only [okL, okS, okV, and_true, true_and] <;> omega) ?_
  rintro r9_ L9_ s9_ a9_ ⟨rfl, rfl, hw_, rfl, rfl⟩
  change V _ _ _ _ _ (lyF [3, 5, 14, 1, 1, 1, 1, 1, 1, 1] [81, 86] [91, 93, 95] 22) _ _ _ _ _
  change wfL (lyF [3, 5, 14, 1, 1, 1, 1, 1, 1, 1] [81, 86] [91, 93, 95] 22) at hw_
  refine v_putR iX7_init_53 ffX7_31 rfl hw_ rfl (Nat.le_of_ble_eq_true rfl) (by decide) rfl (fun hw_ => ?_)
  change V _ _ _ _ _ (lyF [3, 5, 14, 23, 1, 1, 1, 1, 1, 1] [81, 86] [91, 93, 95] 22) _ _ _ _ _
  change wfL (lyF [3, 5, 14, 23, 1, 1, 1, 1, 1, 1] [81, 86] [91, 93, 95] 22) at hw_
  refine v_aload_n iX7_init_56 rfl ?_
  refine v_new (N := 22) (ci := 1) (cs := [1, 1, 1, 1, 0]) tyX1 iX7_init_57 rfl uw1 tyX1_ok (gw_t 154 (by decide +kernel) rfl) (gw_t 50 (by decide +kernel) rfl) (gw_t 4 (by decide +kernel) rfl) nfX1 hw_ rfl (fun j_ => hzs_ _ (by decide) j_) ⟨(by show _ ≤ (94 : Nat); omega), (by show _ ≤ (837 : Nat); omega)⟩ (by refine ⟨?_, ?_⟩ <;> simp only [okL, okS, okV, and_true, true_and] <;> omega) (fun hw_ => ?_)
  refine v_dup iX7_init_60 (by intro z h; cases h) ?_
  refine v_callI (y := yX1_init) (b := cX1_init) (ml := 1) (N := 23) iX7_init_61 lX7_37 kX1_init rfl (qX1_init _ _ _ 22 rfl hw_ (hzs_.m (by decide)) (hz_.m (by decide))) (by decide) rfl rfl (Nat.le_of_ble_eq_true rfl) ⟨(by show _ ≤ (94 : Nat); omega), (by show _ ≤ (837 : Nat); omega)⟩ rfl (by refine ⟨?_, ?_⟩ <;> simp only [okL, okS, okV, and_true, true_and] <;> omega) ?_
  rintro r9_ L9_ s9_ a9_ ⟨rfl, rfl, hw_, rfl, rfl⟩
  change V _ _ _ _ _ (lyF [3, 5, 14, 23, 1, 1, 1, 1, 1, 1] [81, 86] [91, 93, 95] 27) _ _ _ _ _
  change wfL (lyF [3, 5, 14, 23, 1, 1, 1, 1, 1, 1] [81, 86] [91, 93, 95] 27) at hw_
  refine v_putR iX7_init_64 ffX7_38 rfl hw_ rfl (Nat.le_of_ble_eq_true rfl) (by decide) rfl (fun hw_ => ?_)
  change V _ _ _ _ _ (lyF [3, 5, 14, 23, 24, 1, 1, 1, 1, 1] [81, 86] [91, 93, 95] 27) _ _ _ _ _
  change wfL (lyF [3, 5, 14, 23, 24, 1, 1, 1, 1, 1] [81, 86] [91, 93, 95] 27) at hw_
  refine v_aload_n iX7_init_67 rfl ?_
  refine v_new (N := 27) (ci := 2) (cs := [1, 0, 0]) tyX2 iX7_init_68 rfl uw2 tyX2_ok (gw_t 156 (by decide +kernel) rfl) (gw_t 157 (by decide +kernel) rfl) (gw_t 6 (by decide +kernel) rfl) nfX2 hw_ rfl (fun j_ => hzs_ _ (by decide) j_) ⟨(by show _ ≤ (94 : Nat); omega), (by show _ ≤ (837 : Nat); omega)⟩ (by refine ⟨?_, ?_⟩ <;> simp only [okL, okS, okV, and_true, true_and] <;> omega) (fun hw_ => ?_)
  refine v_dup iX7_init_71 (by intro z h; cases h) ?_
  refine v_callI (y := yX2_init) (b := cX2_init) (ml := 2) (N := 28) iX7_init_72 lX7_44 kX2_init rfl (qX2_init _ _ hw_ (hzs_.m (by decide)) (hz_.m (by decide))) (by decide) rfl rfl (Nat.le_of_ble_eq_true rfl) ⟨(by show _ ≤ (94 : Nat); omega), (by show _ ≤ (837 : Nat); omega)⟩ rfl (by refine ⟨?_, ?_⟩ <;> simp only [okL, okS, okV, and_true, true_and] <;> omega) ?_
  rintro r9_ L9_ s9_ a9_ ⟨rfl, rfl, hw_, rfl, rfl⟩
  change V _ _ _ _ _ (lyF [3, 5, 14, 23, 24, 1, 1, 1, 1, 1] [81, 86] [91, 93, 95] 69) _ _ _ _ _
  change wfL (lyF [3, 5, 14, 23, 24, 1, 1, 1, 1, 1] [81, 86] [91, 93, 95] 69) at hw_
  refine v_putR iX7_init_75 ffX7_45 rfl hw_ rfl (Nat.le_of_ble_eq_true rfl) (by decide) rfl (fun hw_ => ?_)
  change V _ _ _ _ _ (lyF [3, 5, 14, 23, 24, 29, 1, 1, 1, 1] [81, 86] [91, 93, 95] 69) _ _ _ _ _
  change wfL (lyF [3, 5, 14, 23, 24, 29, 1, 1, 1, 1] [81, 86] [91, 93, 95] 69) at hw_
  refine v_aload_n iX7_init_78 rfl ?_
  refine v_iconst iX7_init_79 ?_
  refine v_newQ (N := 69) (len := 2) (t := 3) (C0 := RX1) iX7_init_80 (by right; exact ⟨rfl, rfl⟩) (gw_t 154 (by decide +kernel) rfl) hw_ rfl ⟨rfl, by decide⟩ ⟨(by show _ ≤ (94 : Nat); omega), (by show _ ≤ (837 : Nat); omega)⟩ (by refine ⟨?_, ?_⟩ <;> simp only [okL, okS, okV, and_true, true_and] <;> omega) (fun hw_ => ?_)
  change V _ _ _ _ _ (lyF [3, 5, 14, 23, 24, 29, 1, 1, 1, 1] [1, 1] [91, 93, 95] 70) _ _ _ _ _
  change wfL (lyF [3, 5, 14, 23, 24, 29, 1, 1, 1, 1] [1, 1] [91, 93, 95] 70) at hw_
  refine v_putR iX7_init_83 ffX7_49 rfl hw_ rfl (Nat.le_of_ble_eq_true rfl) (by decide) rfl (fun hw_ => ?_)
  change V _ _ _ _ _ (lyF [3, 5, 14, 23, 24, 29, 71, 1, 1, 1] [1, 1] [91, 93, 95] 70) _ _ _ _ _
  change wfL (lyF [3, 5, 14, 23, 24, 29, 71, 1, 1, 1] [1, 1] [91, 93, 95] 70) at hw_
  refine v_aload_n iX7_init_86 rfl ?_
  refine v_iconst iX7_init_87 ?_
  refine v_newZ (N := 70) (len := 2) iX7_init_88 hw_ rfl ⟨rfl, by decide⟩ (fun j_ => hz_ _ (by decide) j_) ⟨(by show _ ≤ (94 : Nat); omega), (by show _ ≤ (837 : Nat); omega)⟩ (by refine ⟨?_, ?_⟩ <;> simp only [okL, okS, okV, and_true, true_and] <;> omega) (fun hw_ => ?_)
  change V _ _ _ _ _ (lyF [3, 5, 14, 23, 24, 29, 71, 1, 1, 1] [1, 1] [91, 93, 95] 71) _ _ _ _ _
  change wfL (lyF [3, 5, 14, 23, 24, 29, 71, 1, 1, 1] [1, 1] [91, 93, 95] 71) at hw_
  refine v_putR iX7_init_90 ffX7_53 rfl hw_ rfl (Nat.le_of_ble_eq_true rfl) (by decide) rfl (fun hw_ => ?_)
  change V _ _ _ _ _ (lyF [3, 5, 14, 23, 24, 29, 71, 72, 1, 1] [1, 1] [91, 93, 95] 71) _ _ _ _ _
  change wfL (lyF [3, 5, 14, 23, 24, 29, 71, 72, 1, 1] [1, 1] [91, 93, 95] 71) at hw_
  refine v_aload_n iX7_init_93 rfl ?_
  refine v_new (N := 71) (ci := 3) (cs := [1, 1, 1, 1, 1, 1, 1, 1, 0]) tyX3 iX7_init_94 rfl uw3 tyX3_ok (gw_t 176 (by decide +kernel) rfl) (gw_t 177 (by decide +kernel) rfl) (gw_t 7 (by decide +kernel) rfl) nfX3 hw_ rfl (fun j_ => hzs_ _ (by decide) j_) ⟨(by show _ ≤ (94 : Nat); omega), (by show _ ≤ (837 : Nat); omega)⟩ (by refine ⟨?_, ?_⟩ <;> simp only [okL, okS, okV, and_true, true_and] <;> omega) (fun hw_ => ?_)
  refine v_dup iX7_init_97 (by intro z h; cases h) ?_
  refine v_aload_n iX7_init_98 rfl ?_
  refine v_getR iX7_init_99 fX7_19 rfl rfl ?_
  refine v_aload_n iX7_init_102 rfl ?_
  refine v_getR iX7_init_103 fX7_38 rfl rfl ?_
  refine v_callI (y := yX3_init) (b := cX3_init) (ml := 3) (N := 72) iX7_init_106 lX7_59 kX3_init rfl (qX3_init _ _ _ 71 3 22 (by decide) (by decide) rfl hw_ (hzs_.m (by decide)) (hz_.m (by decide))) (by decide) rfl rfl (Nat.le_of_ble_eq_true rfl) ⟨(by show _ ≤ (94 : Nat); omega), (by show _ ≤ (837 : Nat); omega)⟩ rfl (by refine ⟨?_, ?_⟩ <;> simp only [okL, okS, okV, and_true, true_and] <;> omega) ?_
  rintro r9_ L9_ s9_ a9_ ⟨rfl, rfl, hw_, rfl, rfl⟩
  change V _ _ _ _ _ (lyF [3, 5, 14, 23, 24, 29, 71, 72, 1, 1] [1, 1] [91, 93, 95] 78) _ _ _ _ _
  change wfL (lyF [3, 5, 14, 23, 24, 29, 71, 72, 1, 1] [1, 1] [91, 93, 95] 78) at hw_
  refine v_putR iX7_init_109 ffX7_62 rfl hw_ rfl (Nat.le_of_ble_eq_true rfl) (by decide) rfl (fun hw_ => ?_)
  change V _ _ _ _ _ (lyF [3, 5, 14, 23, 24, 29, 71, 72, 73, 1] [1, 1] [91, 93, 95] 78) _ _ _ _ _
  change wfL (lyF [3, 5, 14, 23, 24, 29, 71, 72, 73, 1] [1, 1] [91, 93, 95] 78) at hw_
  refine v_aload_n iX7_init_112 rfl ?_
  refine v_iconst iX7_init_113 ?_
  refine v_newQ (N := 78) (len := 3) (t := 2) (C0 := RX0) iX7_init_114 (by left; exact ⟨rfl, rfl⟩) (gw_t 217 (by decide +kernel) rfl) hw_ rfl ⟨rfl, by decide⟩ ⟨(by show _ ≤ (94 : Nat); omega), (by show _ ≤ (837 : Nat); omega)⟩ (by refine ⟨?_, ?_⟩ <;> simp only [okL, okS, okV, and_true, true_and] <;> omega) (fun hw_ => ?_)
  change V _ _ _ _ _ (lyF [3, 5, 14, 23, 24, 29, 71, 72, 73, 1] [1, 1] [1, 1, 1] 79) _ _ _ _ _
  change wfL (lyF [3, 5, 14, 23, 24, 29, 71, 72, 73, 1] [1, 1] [1, 1, 1] 79) at hw_
  refine v_putR iX7_init_117 ffX7_68 rfl hw_ rfl (Nat.le_of_ble_eq_true rfl) (by decide) rfl (fun hw_ => ?_)
  change V _ _ _ _ _ (lyF [3, 5, 14, 23, 24, 29, 71, 72, 73, 80] [1, 1] [1, 1, 1] 79) _ _ _ _ _
  change wfL (lyF [3, 5, 14, 23, 24, 29, 71, 72, 73, 80] [1, 1] [1, 1, 1] 79) at hw_
  refine v_iconst iX7_init_120 ?_
  refine v_is1 iX7_init_121 ⟨rfl, rfl⟩ ?_
  refine v_iload_n iX7_init_122 rfl ?_
  refine v_iconst iX7_init_123 ?_
  refine v_icmp_ge (tgt := 146) iX7_init_124 (by decide) (by decide) (fun h_ => absurd h_ (by decide)) (fun h_ => ?_)
  refine v_aload_n iX7_init_127 rfl ?_
  refine v_getR iX7_init_128 fX7_49 rfl rfl ?_
  refine v_iload_n iX7_init_131 rfl ?_
  refine v_new (N := 79) (ci := 1) (cs := [1, 1, 1, 1, 0]) tyX1 iX7_init_132 rfl uw1 tyX1_ok (gw_t 154 (by decide +kernel) rfl) (gw_t 50 (by decide +kernel) rfl) (gw_t 4 (by decide +kernel) rfl) nfX1 hw_ rfl (fun j_ => hzs_ _ (by decide) j_) ⟨(by show _ ≤ (94 : Nat); omega), (by show _ ≤ (837 : Nat); omega)⟩ (by refine ⟨?_, ?_⟩ <;> simp only [okL, okS, okV, and_true, true_and] <;> omega) (fun hw_ => ?_)
  refine v_dup iX7_init_135 (by intro z h; cases h) ?_
  refine v_callI (y := yX1_init) (b := cX1_init) (ml := 1) (N := 80) iX7_init_136 lX7_37 kX1_init rfl (qX1_init _ _ _ 79 rfl hw_ (hzs_.m (by decide)) (hz_.m (by decide))) (by decide) rfl rfl (Nat.le_of_ble_eq_true rfl) ⟨(by show _ ≤ (94 : Nat); omega), (by show _ ≤ (837 : Nat); omega)⟩ rfl (by refine ⟨?_, ?_⟩ <;> simp only [okL, okS, okV, and_true, true_and] <;> omega) ?_
  rintro r9_ L9_ s9_ a9_ ⟨rfl, rfl, hw_, rfl, rfl⟩
  change V _ _ _ _ _ (lyF [3, 5, 14, 23, 24, 29, 71, 72, 73, 80] [1, 1] [1, 1, 1] 84) _ _ _ _ _
  change wfL (lyF [3, 5, 14, 23, 24, 29, 71, 72, 73, 80] [1, 1] [1, 1, 1] 84) at hw_
  refine v_aast (t := 3) iX7_init_139 hw_ rfl (by right; exact ⟨rfl, rfl⟩) rfl (by decide) rfl (fun hw_ => ?_)
  change V _ _ _ _ _ (lyF [3, 5, 14, 23, 24, 29, 71, 72, 73, 80] [81, 1] [1, 1, 1] 84) _ _ _ _ _
  change wfL (lyF [3, 5, 14, 23, 24, 29, 71, 72, 73, 80] [81, 1] [1, 1, 1] 84) at hw_
  refine v_in1 iX7_init_140 ⟨rfl, rfl⟩ ?_
  refine v_goto (tgt := 122) iX7_init_143 (by decide) ?_
  refine v_iload_n iX7_init_122 rfl ?_
  refine v_iconst iX7_init_123 ?_
  refine v_icmp_ge (tgt := 146) iX7_init_124 (by decide) (by decide) (fun h_ => absurd h_ (by decide)) (fun h_ => ?_)
  refine v_aload_n iX7_init_127 rfl ?_
  refine v_getR iX7_init_128 fX7_49 rfl rfl ?_
  refine v_iload_n iX7_init_131 rfl ?_
  refine v_new (N := 84) (ci := 1) (cs := [1, 1, 1, 1, 0]) tyX1 iX7_init_132 rfl uw1 tyX1_ok (gw_t 154 (by decide +kernel) rfl) (gw_t 50 (by decide +kernel) rfl) (gw_t 4 (by decide +kernel) rfl) nfX1 hw_ rfl (fun j_ => hzs_ _ (by decide) j_) ⟨(by show _ ≤ (94 : Nat); omega), (by show _ ≤ (837 : Nat); omega)⟩ (by refine ⟨?_, ?_⟩ <;> simp only [okL, okS, okV, and_true, true_and] <;> omega) (fun hw_ => ?_)
  refine v_dup iX7_init_135 (by intro z h; cases h) ?_
  refine v_callI (y := yX1_init) (b := cX1_init) (ml := 1) (N := 85) iX7_init_136 lX7_37 kX1_init rfl (qX1_init _ _ _ 84 rfl hw_ (hzs_.m (by decide)) (hz_.m (by decide))) (by decide) rfl rfl (Nat.le_of_ble_eq_true rfl) ⟨(by show _ ≤ (94 : Nat); omega), (by show _ ≤ (837 : Nat); omega)⟩ rfl (by refine ⟨?_, ?_⟩ <;> simp only [okL, okS, okV, and_true, true_and] <;> omega) ?_
  rintro r9_ L9_ s9_ a9_ ⟨rfl, rfl, hw_, rfl, rfl⟩
  change V _ _ _ _ _ (lyF [3, 5, 14, 23, 24, 29, 71, 72, 73, 80] [81, 1] [1, 1, 1] 89) _ _ _ _ _
  change wfL (lyF [3, 5, 14, 23, 24, 29, 71, 72, 73, 80] [81, 1] [1, 1, 1] 89) at hw_
  refine v_aast (t := 3) iX7_init_139 hw_ rfl (by right; exact ⟨rfl, rfl⟩) rfl (by decide) rfl (fun hw_ => ?_)
  change V _ _ _ _ _ (lyF [3, 5, 14, 23, 24, 29, 71, 72, 73, 80] [81, 86] [1, 1, 1] 89) _ _ _ _ _
  change wfL (lyF [3, 5, 14, 23, 24, 29, 71, 72, 73, 80] [81, 86] [1, 1, 1] 89) at hw_
  refine v_in1 iX7_init_140 ⟨rfl, rfl⟩ ?_
  refine v_goto (tgt := 122) iX7_init_143 (by decide) ?_
  refine v_iload_n iX7_init_122 rfl ?_
  refine v_iconst iX7_init_123 ?_
  refine v_icmp_ge (tgt := 146) iX7_init_124 (by decide) (by decide) (fun h_ => ?_) (fun h_ => absurd h_ (by decide))
  refine v_iconst iX7_init_146 ?_
  refine v_is1 iX7_init_147 ⟨rfl, rfl⟩ ?_
  refine v_iload_n iX7_init_148 rfl ?_
  refine v_iconst iX7_init_149 ?_
  refine v_icmp_ge (tgt := 172) iX7_init_150 (by decide) (by decide) (fun h_ => absurd h_ (by decide)) (fun h_ => ?_)
  refine v_aload_n iX7_init_153 rfl ?_
  refine v_getR iX7_init_154 fX7_68 rfl rfl ?_
  refine v_iload_n iX7_init_157 rfl ?_
  refine v_new (N := 89) (ci := 0) (cs := [1, 0, 0, 0]) tyX0 iX7_init_158 rfl uw0 tyX0_ok (gw_t 217 (by decide +kernel) rfl) (gw_t 219 (by decide +kernel) rfl) (gw_t 8 (by decide +kernel) rfl) nfX0 hw_ rfl (fun j_ => hzs_ _ (by decide) j_) ⟨(by show _ ≤ (94 : Nat); omega), (by show _ ≤ (837 : Nat); omega)⟩ (by refine ⟨?_, ?_⟩ <;> simp only [okL, okS, okV, and_true, true_and] <;> omega) (fun hw_ => ?_)
  refine v_dup iX7_init_161 (by intro z h; cases h) ?_
  refine v_callI (y := yX0_init) (b := cX0_init) (ml := 1) (N := 90) iX7_init_162 lX7_72 kX0_init rfl (qX0_init _ _ _ 89 rfl hw_ (hzs_.m (by decide)) (hz_.m (by decide))) (by decide) rfl rfl (Nat.le_of_ble_eq_true rfl) ⟨(by show _ ≤ (94 : Nat); omega), (by show _ ≤ (837 : Nat); omega)⟩ rfl (by refine ⟨?_, ?_⟩ <;> simp only [okL, okS, okV, and_true, true_and] <;> omega) ?_
  rintro r9_ L9_ s9_ a9_ ⟨rfl, rfl, hw_, rfl, rfl⟩
  have hzs_ := (hzs_.m (show _ ≤ 90 by decide)).u (show 89 < 90 by decide) 1 1
  change V _ _ _ _ _ (lyF [3, 5, 14, 23, 24, 29, 71, 72, 73, 80] [81, 86] [1, 1, 1] 91) _ _ _ _ _
  change wfL (lyF [3, 5, 14, 23, 24, 29, 71, 72, 73, 80] [81, 86] [1, 1, 1] 91) at hw_
  refine v_aast (t := 2) iX7_init_165 hw_ rfl (by left; exact ⟨rfl, rfl⟩) rfl (by decide) rfl (fun hw_ => ?_)
  change V _ _ _ _ _ (lyF [3, 5, 14, 23, 24, 29, 71, 72, 73, 80] [81, 86] [91, 1, 1] 91) _ _ _ _ _
  change wfL (lyF [3, 5, 14, 23, 24, 29, 71, 72, 73, 80] [81, 86] [91, 1, 1] 91) at hw_
  refine v_in1 iX7_init_166 ⟨rfl, rfl⟩ ?_
  refine v_goto (tgt := 148) iX7_init_169 (by decide) ?_
  refine v_iload_n iX7_init_148 rfl ?_
  refine v_iconst iX7_init_149 ?_
  refine v_icmp_ge (tgt := 172) iX7_init_150 (by decide) (by decide) (fun h_ => absurd h_ (by decide)) (fun h_ => ?_)
  refine v_aload_n iX7_init_153 rfl ?_
  refine v_getR iX7_init_154 fX7_68 rfl rfl ?_
  refine v_iload_n iX7_init_157 rfl ?_
  refine v_new (N := 91) (ci := 0) (cs := [1, 0, 0, 0]) tyX0 iX7_init_158 rfl uw0 tyX0_ok (gw_t 217 (by decide +kernel) rfl) (gw_t 219 (by decide +kernel) rfl) (gw_t 8 (by decide +kernel) rfl) nfX0 hw_ rfl (fun j_ => hzs_ _ (by decide) j_) ⟨(by show _ ≤ (94 : Nat); omega), (by show _ ≤ (837 : Nat); omega)⟩ (by refine ⟨?_, ?_⟩ <;> simp only [okL, okS, okV, and_true, true_and] <;> omega) (fun hw_ => ?_)
  refine v_dup iX7_init_161 (by intro z h; cases h) ?_
  refine v_callI (y := yX0_init) (b := cX0_init) (ml := 1) (N := 92) iX7_init_162 lX7_72 kX0_init rfl (qX0_init _ _ _ 91 rfl hw_ (hzs_.m (by decide)) (hz_.m (by decide))) (by decide) rfl rfl (Nat.le_of_ble_eq_true rfl) ⟨(by show _ ≤ (94 : Nat); omega), (by show _ ≤ (837 : Nat); omega)⟩ rfl (by refine ⟨?_, ?_⟩ <;> simp only [okL, okS, okV, and_true, true_and] <;> omega) ?_
  rintro r9_ L9_ s9_ a9_ ⟨rfl, rfl, hw_, rfl, rfl⟩
  have hzs_ := (hzs_.m (show _ ≤ 92 by decide)).u (show 91 < 92 by decide) 1 1
  change V _ _ _ _ _ (lyF [3, 5, 14, 23, 24, 29, 71, 72, 73, 80] [81, 86] [91, 1, 1] 93) _ _ _ _ _
  change wfL (lyF [3, 5, 14, 23, 24, 29, 71, 72, 73, 80] [81, 86] [91, 1, 1] 93) at hw_
  refine v_aast (t := 2) iX7_init_165 hw_ rfl (by left; exact ⟨rfl, rfl⟩) rfl (by decide) rfl (fun hw_ => ?_)
  change V _ _ _ _ _ (lyF [3, 5, 14, 23, 24, 29, 71, 72, 73, 80] [81, 86] [91, 93, 1] 93) _ _ _ _ _
  change wfL (lyF [3, 5, 14, 23, 24, 29, 71, 72, 73, 80] [81, 86] [91, 93, 1] 93) at hw_
  refine v_in1 iX7_init_166 ⟨rfl, rfl⟩ ?_
  refine v_goto (tgt := 148) iX7_init_169 (by decide) ?_
  refine v_iload_n iX7_init_148 rfl ?_
  refine v_iconst iX7_init_149 ?_
  refine v_icmp_ge (tgt := 172) iX7_init_150 (by decide) (by decide) (fun h_ => absurd h_ (by decide)) (fun h_ => ?_)
  refine v_aload_n iX7_init_153 rfl ?_
  refine v_getR iX7_init_154 fX7_68 rfl rfl ?_
  refine v_iload_n iX7_init_157 rfl ?_
  refine v_new (N := 93) (ci := 0) (cs := [1, 0, 0, 0]) tyX0 iX7_init_158 rfl uw0 tyX0_ok (gw_t 217 (by decide +kernel) rfl) (gw_t 219 (by decide +kernel) rfl) (gw_t 8 (by decide +kernel) rfl) nfX0 hw_ rfl (fun j_ => hzs_ _ (by decide) j_) ⟨(by show _ ≤ (94 : Nat); omega), (by show _ ≤ (837 : Nat); omega)⟩ (by refine ⟨?_, ?_⟩ <;> simp only [okL, okS, okV, and_true, true_and] <;> omega) (fun hw_ => ?_)
  refine v_dup iX7_init_161 (by intro z h; cases h) ?_
  refine v_callI (y := yX0_init) (b := cX0_init) (ml := 1) (N := 94) iX7_init_162 lX7_72 kX0_init rfl (qX0_init _ _ _ 93 rfl hw_ (hzs_.m (by decide)) (hz_.m (by decide))) (by decide) rfl rfl (Nat.le_of_ble_eq_true rfl) ⟨(by show _ ≤ (94 : Nat); omega), (by show _ ≤ (837 : Nat); omega)⟩ rfl (by refine ⟨?_, ?_⟩ <;> simp only [okL, okS, okV, and_true, true_and] <;> omega) ?_
  rintro r9_ L9_ s9_ a9_ ⟨rfl, rfl, hw_, rfl, rfl⟩
  have hzs_ := (hzs_.m (show _ ≤ 94 by decide)).u (show 93 < 94 by decide) 1 1
  change V _ _ _ _ _ (lyF [3, 5, 14, 23, 24, 29, 71, 72, 73, 80] [81, 86] [91, 93, 1] 95) _ _ _ _ _
  change wfL (lyF [3, 5, 14, 23, 24, 29, 71, 72, 73, 80] [81, 86] [91, 93, 1] 95) at hw_
  refine v_aast (t := 2) iX7_init_165 hw_ rfl (by left; exact ⟨rfl, rfl⟩) rfl (by decide) rfl (fun hw_ => ?_)
  change V _ _ _ _ _ (lyF [3, 5, 14, 23, 24, 29, 71, 72, 73, 80] [81, 86] [91, 93, 95] 95) _ _ _ _ _
  change wfL (lyF [3, 5, 14, 23, 24, 29, 71, 72, 73, 80] [81, 86] [91, 93, 95] 95) at hw_
  refine v_in1 iX7_init_166 ⟨rfl, rfl⟩ ?_
  refine v_goto (tgt := 148) iX7_init_169 (by decide) ?_
  refine v_iload_n iX7_init_148 rfl ?_
  refine v_iconst iX7_init_149 ?_
  refine v_icmp_ge (tgt := 172) iX7_init_150 (by decide) (by decide) (fun h_ => ?_) (fun h_ => absurd h_ (by decide))
  exact v_vret iX7_init_172 rfl ⟨(by show _ ≤ (94 : Nat); omega), (by show _ ≤ (837 : Nat); omega)⟩ ⟨rfl, rfl, hw_, rfl, rfl⟩

set_option maxHeartbeats 8000000 in
set_option maxRecDepth 100000 in
theorem qX8_init (σ : St) (hw_ : wfL (lyM [1, 0, 1, 1, 1, 0, 0, 0, 0, 1, 1, 0, 1, 1, 1, 0, 0, 0, 0, 0, 0, 1, 1, 0, 1] 96)) (hzs_ : zq σ 96) : SS 1 mX8_init 12 665 [vR 95] (lyM [1, 0, 1, 1, 1, 0, 0, 0, 0, 1, 1, 0, 1, 1, 1, 0, 0, 0, 0, 0, 0, 1, 1, 0, 1] 96) σ zz (fun r' L' s' a' => r' = none ∧ L' = LA ∧ wfL L' ∧ s' = uS (uS (uS σ 95 5 6) 95 6 5) 95 7 50 ∧ a' = uA (uA zz 102 (szF 3)) 106 (wdF 42)) := by
  have hz_ : zq zz 1 := fun _ _ _ => rfl
  refine SS.of (by decide) (by simp [lvA]) (lv := [some (vR 95)]) rfl ?_
  refine v_aload_n iX8_init_0 rfl ?_
  refine v_objI iX8_init_1 (gw_t 764 (by decide +kernel) rfl) (by decide) (Nat.le_of_ble_eq_true rfl) ?_
  refine v_aload_n iX8_init_4 rfl ?_
  refine v_sipush iX8_init_5 (by decide) ?_
  refine v_newI (N := 96) (len := 348) iX8_init_8 hw_ rfl ⟨rfl, by decide⟩ (fun j_ => hz_ _ (by decide) j_) ⟨(by show _ ≤ (12 : Nat); omega), (by show _ ≤ (665 : Nat); omega)⟩ (by refine ⟨?_, ?_⟩ <;> simp only [okL, okS, okV, and_true, true_and] <;> omega) (fun hw_ => ?_)
  change V _ _ _ _ _ (lyM [1, 0, 1, 1, 1, 0, 0, 0, 0, 1, 1, 0, 1, 1, 1, 0, 0, 0, 0, 0, 0, 1, 1, 0, 1] 97) _ _ _ _ _
  change wfL (lyM [1, 0, 1, 1, 1, 0, 0, 0, 0, 1, 1, 0, 1, 1, 1, 0, 0, 0, 0, 0, 0, 1, 1, 0, 1] 97) at hw_
  refine v_putR iX8_init_10 ffX8_7 rfl hw_ rfl (Nat.le_of_ble_eq_true rfl) (by decide) rfl (fun hw_ => ?_)
  change V _ _ _ _ _ (lyM [98, 0, 1, 1, 1, 0, 0, 0, 0, 1, 1, 0, 1, 1, 1, 0, 0, 0, 0, 0, 0, 1, 1, 0, 1] 97) _ _ _ _ _
  change wfL (lyM [98, 0, 1, 1, 1, 0, 0, 0, 0, 1, 1, 0, 1, 1, 1, 0, 0, 0, 0, 0, 0, 1, 1, 0, 1] 97) at hw_
  refine v_aload_n iX8_init_13 rfl ?_
  refine v_bipush iX8_init_14 (by decide) ?_
  refine v_newI (N := 97) (len := 10) iX8_init_16 hw_ rfl ⟨rfl, by decide⟩ (fun j_ => hz_ _ (by decide) j_) ⟨(by show _ ≤ (12 : Nat); omega), (by show _ ≤ (665 : Nat); omega)⟩ (by refine ⟨?_, ?_⟩ <;> simp only [okL, okS, okV, and_true, true_and] <;> omega) (fun hw_ => ?_)
  change V _ _ _ _ _ (lyM [98, 0, 1, 1, 1, 0, 0, 0, 0, 1, 1, 0, 1, 1, 1, 0, 0, 0, 0, 0, 0, 1, 1, 0, 1] 98) _ _ _ _ _
  change wfL (lyM [98, 0, 1, 1, 1, 0, 0, 0, 0, 1, 1, 0, 1, 1, 1, 0, 0, 0, 0, 0, 0, 1, 1, 0, 1] 98) at hw_
  refine v_putR iX8_init_18 ffX8_13 rfl hw_ rfl (Nat.le_of_ble_eq_true rfl) (by decide) rfl (fun hw_ => ?_)
  change V _ _ _ _ _ (lyM [98, 0, 99, 1, 1, 0, 0, 0, 0, 1, 1, 0, 1, 1, 1, 0, 0, 0, 0, 0, 0, 1, 1, 0, 1] 98) _ _ _ _ _
  change wfL (lyM [98, 0, 99, 1, 1, 0, 0, 0, 0, 1, 1, 0, 1, 1, 1, 0, 0, 0, 0, 0, 0, 1, 1, 0, 1] 98) at hw_
  refine v_aload_n iX8_init_21 rfl ?_
  refine v_bipush iX8_init_22 (by decide) ?_
  refine v_newI (N := 98) (len := 10) iX8_init_24 hw_ rfl ⟨rfl, by decide⟩ (fun j_ => hz_ _ (by decide) j_) ⟨(by show _ ≤ (12 : Nat); omega), (by show _ ≤ (665 : Nat); omega)⟩ (by refine ⟨?_, ?_⟩ <;> simp only [okL, okS, okV, and_true, true_and] <;> omega) (fun hw_ => ?_)
  change V _ _ _ _ _ (lyM [98, 0, 99, 1, 1, 0, 0, 0, 0, 1, 1, 0, 1, 1, 1, 0, 0, 0, 0, 0, 0, 1, 1, 0, 1] 99) _ _ _ _ _
  change wfL (lyM [98, 0, 99, 1, 1, 0, 0, 0, 0, 1, 1, 0, 1, 1, 1, 0, 0, 0, 0, 0, 0, 1, 1, 0, 1] 99) at hw_
  refine v_putR iX8_init_26 ffX8_16 rfl hw_ rfl (Nat.le_of_ble_eq_true rfl) (by decide) rfl (fun hw_ => ?_)
  change V _ _ _ _ _ (lyM [98, 0, 99, 100, 1, 0, 0, 0, 0, 1, 1, 0, 1, 1, 1, 0, 0, 0, 0, 0, 0, 1, 1, 0, 1] 99) _ _ _ _ _
  change wfL (lyM [98, 0, 99, 100, 1, 0, 0, 0, 0, 1, 1, 0, 1, 1, 1, 0, 0, 0, 0, 0, 0, 1, 1, 0, 1] 99) at hw_
  refine v_aload_n iX8_init_29 rfl ?_
  refine v_bipush iX8_init_30 (by decide) ?_
  refine v_newI (N := 99) (len := 10) iX8_init_32 hw_ rfl ⟨rfl, by decide⟩ (fun j_ => hz_ _ (by decide) j_) ⟨(by show _ ≤ (12 : Nat); omega), (by show _ ≤ (665 : Nat); omega)⟩ (by refine ⟨?_, ?_⟩ <;> simp only [okL, okS, okV, and_true, true_and] <;> omega) (fun hw_ => ?_)
  change V _ _ _ _ _ (lyM [98, 0, 99, 100, 1, 0, 0, 0, 0, 1, 1, 0, 1, 1, 1, 0, 0, 0, 0, 0, 0, 1, 1, 0, 1] 100) _ _ _ _ _
  change wfL (lyM [98, 0, 99, 100, 1, 0, 0, 0, 0, 1, 1, 0, 1, 1, 1, 0, 0, 0, 0, 0, 0, 1, 1, 0, 1] 100) at hw_
  refine v_putR iX8_init_34 ffX8_19 rfl hw_ rfl (Nat.le_of_ble_eq_true rfl) (by decide) rfl (fun hw_ => ?_)
  change V _ _ _ _ _ (lyM [98, 0, 99, 100, 101, 0, 0, 0, 0, 1, 1, 0, 1, 1, 1, 0, 0, 0, 0, 0, 0, 1, 1, 0, 1] 100) _ _ _ _ _
  change wfL (lyM [98, 0, 99, 100, 101, 0, 0, 0, 0, 1, 1, 0, 1, 1, 1, 0, 0, 0, 0, 0, 0, 1, 1, 0, 1] 100) at hw_
  refine v_aload_n iX8_init_37 rfl ?_
  refine v_bipush iX8_init_38 (by decide) ?_
  refine v_put iX8_init_40 pX8_22 rfl rfl (by intro h; cases h) ?_
  refine v_aload_n iX8_init_43 rfl ?_
  refine v_iconst iX8_init_44 ?_
  refine v_put iX8_init_45 pX8_26 rfl rfl (by intro h; cases h) ?_
  refine v_aload_n iX8_init_48 rfl ?_
  refine v_bipush iX8_init_49 (by decide) ?_
  refine v_put iX8_init_51 pX8_29 rfl rfl (by intro h; cases h) ?_
  refine v_aload_n iX8_init_54 rfl ?_
  refine v_iconst iX8_init_55 ?_
  refine v_newZ (N := 100) (len := 2) iX8_init_56 hw_ rfl ⟨rfl, by decide⟩ (fun j_ => hz_ _ (by decide) j_) ⟨(by show _ ≤ (12 : Nat); omega), (by show _ ≤ (665 : Nat); omega)⟩ (by refine ⟨?_, ?_⟩ <;> simp only [okL, okS, okV, and_true, true_and] <;> omega) (fun hw_ => ?_)
  change V _ _ _ _ _ (lyM [98, 0, 99, 100, 101, 0, 0, 0, 0, 1, 1, 0, 1, 1, 1, 0, 0, 0, 0, 0, 0, 1, 1, 0, 1] 101) _ _ _ _ _
  change wfL (lyM [98, 0, 99, 100, 101, 0, 0, 0, 0, 1, 1, 0, 1, 1, 1, 0, 0, 0, 0, 0, 0, 1, 1, 0, 1] 101) at hw_
  refine v_putR iX8_init_58 ffX8_32 rfl hw_ rfl (Nat.le_of_ble_eq_true rfl) (by decide) rfl (fun hw_ => ?_)
  change V _ _ _ _ _ (lyM [98, 0, 99, 100, 101, 0, 0, 0, 0, 102, 1, 0, 1, 1, 1, 0, 0, 0, 0, 0, 0, 1, 1, 0, 1] 101) _ _ _ _ _
  change wfL (lyM [98, 0, 99, 100, 101, 0, 0, 0, 0, 102, 1, 0, 1, 1, 1, 0, 0, 0, 0, 0, 0, 1, 1, 0, 1] 101) at hw_
  refine v_aload_n iX8_init_61 rfl ?_
  refine v_sipush iX8_init_62 (by decide) ?_
  refine v_newI (N := 101) (len := 200) iX8_init_65 hw_ rfl ⟨rfl, by decide⟩ (fun j_ => hz_ _ (by decide) j_) ⟨(by show _ ≤ (12 : Nat); omega), (by show _ ≤ (665 : Nat); omega)⟩ (by refine ⟨?_, ?_⟩ <;> simp only [okL, okS, okV, and_true, true_and] <;> omega) (fun hw_ => ?_)
  change V _ _ _ _ _ (lyM [98, 0, 99, 100, 101, 0, 0, 0, 0, 102, 1, 0, 1, 1, 1, 0, 0, 0, 0, 0, 0, 1, 1, 0, 1] 102) _ _ _ _ _
  change wfL (lyM [98, 0, 99, 100, 101, 0, 0, 0, 0, 102, 1, 0, 1, 1, 1, 0, 0, 0, 0, 0, 0, 1, 1, 0, 1] 102) at hw_
  refine v_putR iX8_init_67 ffX8_36 rfl hw_ rfl (Nat.le_of_ble_eq_true rfl) (by decide) rfl (fun hw_ => ?_)
  change V _ _ _ _ _ (lyM [98, 0, 99, 100, 101, 0, 0, 0, 0, 102, 103, 0, 1, 1, 1, 0, 0, 0, 0, 0, 0, 1, 1, 0, 1] 102) _ _ _ _ _
  change wfL (lyM [98, 0, 99, 100, 101, 0, 0, 0, 0, 102, 103, 0, 1, 1, 1, 0, 0, 0, 0, 0, 0, 1, 1, 0, 1] 102) at hw_
  refine v_aload_n iX8_init_70 rfl ?_
  refine v_iconst iX8_init_71 ?_
  refine v_newI (N := 102) (len := 3) iX8_init_72 hw_ rfl ⟨rfl, by decide⟩ (fun j_ => hz_ _ (by decide) j_) ⟨(by show _ ≤ (12 : Nat); omega), (by show _ ≤ (665 : Nat); omega)⟩ (by refine ⟨?_, ?_⟩ <;> simp only [okL, okS, okV, and_true, true_and] <;> omega) (fun hw_ => ?_)
  change V _ _ _ _ _ (lyM [98, 0, 99, 100, 101, 0, 0, 0, 0, 102, 103, 0, 1, 1, 1, 0, 0, 0, 0, 0, 0, 1, 1, 0, 1] 103) _ _ _ _ _
  change wfL (lyM [98, 0, 99, 100, 101, 0, 0, 0, 0, 102, 103, 0, 1, 1, 1, 0, 0, 0, 0, 0, 0, 1, 1, 0, 1] 103) at hw_
  refine v_dup iX8_init_74 (by intro z h; cases h) ?_
  refine v_iconst iX8_init_75 ?_
  refine v_iconst iX8_init_76 ?_
  refine V.as (α' := uA zz 102 (szF 0)) ?_ rfl (F_0 zz 102 szF (by funext j_; simp [zz, szF])) rfl rfl
  refine v_iastore iX8_init_77 rfl (by decide) ?_
  refine V.as (α' := uA zz 102 (szF 1)) ?_ rfl (st_F zz 102 szF 0 (-1) (szF_s 0)) rfl rfl
  refine v_dup iX8_init_78 (by intro z h; cases h) ?_
  refine v_iconst iX8_init_79 ?_
  refine v_iconst iX8_init_80 ?_
  refine v_iastore iX8_init_81 rfl (by decide) ?_
  refine V.as (α' := uA zz 102 (szF 2)) ?_ rfl (st_F zz 102 szF 1 (-1) (szF_s 1)) rfl rfl
  refine v_dup iX8_init_82 (by intro z h; cases h) ?_
  refine v_iconst iX8_init_83 ?_
  refine v_iconst iX8_init_84 ?_
  refine v_iastore iX8_init_85 rfl (by decide) ?_
  refine V.as (α' := uA zz 102 (szF 3)) ?_ rfl (st_F zz 102 szF 2 (-1) (szF_s 2)) rfl rfl
  have hz_ : zq (uA zz 102 (szF 3)) 103 := fun q hq j => by rw [uA_ne _ _ (by omega)]; rfl
  refine v_putR iX8_init_86 ffX8_39 rfl hw_ rfl (Nat.le_of_ble_eq_true rfl) (by decide) rfl (fun hw_ => ?_)
  change V _ _ _ _ _ (lyM [98, 0, 99, 100, 101, 0, 0, 0, 0, 102, 103, 0, 104, 1, 1, 0, 0, 0, 0, 0, 0, 1, 1, 0, 1] 103) _ _ _ _ _
  change wfL (lyM [98, 0, 99, 100, 101, 0, 0, 0, 0, 102, 103, 0, 104, 1, 1, 0, 0, 0, 0, 0, 0, 1, 1, 0, 1] 103) at hw_
  refine v_aload_n iX8_init_89 rfl ?_
  refine v_iconst iX8_init_90 ?_
  refine v_newI (N := 103) (len := 3) iX8_init_91 hw_ rfl ⟨rfl, by decide⟩ (fun j_ => hz_ _ (by decide) j_) ⟨(by show _ ≤ (12 : Nat); omega), (by show _ ≤ (665 : Nat); omega)⟩ (by refine ⟨?_, ?_⟩ <;> simp only [okL, okS, okV, and_true, true_and] <;> omega) (fun hw_ => ?_)
  change V _ _ _ _ _ (lyM [98, 0, 99, 100, 101, 0, 0, 0, 0, 102, 103, 0, 104, 1, 1, 0, 0, 0, 0, 0, 0, 1, 1, 0, 1] 104) _ _ _ _ _
  change wfL (lyM [98, 0, 99, 100, 101, 0, 0, 0, 0, 102, 103, 0, 104, 1, 1, 0, 0, 0, 0, 0, 0, 1, 1, 0, 1] 104) at hw_
  refine v_putR iX8_init_93 ffX8_42 rfl hw_ rfl (Nat.le_of_ble_eq_true rfl) (by decide) rfl (fun hw_ => ?_)
  change V _ _ _ _ _ (lyM [98, 0, 99, 100, 101, 0, 0, 0, 0, 102, 103, 0, 104, 105, 1, 0, 0, 0, 0, 0, 0, 1, 1, 0, 1] 104) _ _ _ _ _
  change wfL (lyM [98, 0, 99, 100, 101, 0, 0, 0, 0, 102, 103, 0, 104, 105, 1, 0, 0, 0, 0, 0, 0, 1, 1, 0, 1] 104) at hw_
  refine v_aload_n iX8_init_96 rfl ?_
  refine v_bipush iX8_init_97 (by decide) ?_
  refine v_newI (N := 104) (len := 24) iX8_init_99 hw_ rfl ⟨rfl, by decide⟩ (fun j_ => hz_ _ (by decide) j_) ⟨(by show _ ≤ (12 : Nat); omega), (by show _ ≤ (665 : Nat); omega)⟩ (by refine ⟨?_, ?_⟩ <;> simp only [okL, okS, okV, and_true, true_and] <;> omega) (fun hw_ => ?_)
  change V _ _ _ _ _ (lyM [98, 0, 99, 100, 101, 0, 0, 0, 0, 102, 103, 0, 104, 105, 1, 0, 0, 0, 0, 0, 0, 1, 1, 0, 1] 105) _ _ _ _ _
  change wfL (lyM [98, 0, 99, 100, 101, 0, 0, 0, 0, 102, 103, 0, 104, 105, 1, 0, 0, 0, 0, 0, 0, 1, 1, 0, 1] 105) at hw_
  refine v_putR iX8_init_101 ffX8_45 rfl hw_ rfl (Nat.le_of_ble_eq_true rfl) (by decide) rfl (fun hw_ => ?_)
  change V _ _ _ _ _ (lyM [98, 0, 99, 100, 101, 0, 0, 0, 0, 102, 103, 0, 104, 105, 106, 0, 0, 0, 0, 0, 0, 1, 1, 0, 1] 105) _ _ _ _ _
  change wfL (lyM [98, 0, 99, 100, 101, 0, 0, 0, 0, 102, 103, 0, 104, 105, 106, 0, 0, 0, 0, 0, 0, 1, 1, 0, 1] 105) at hw_
  refine v_aload_n iX8_init_104 rfl ?_
  refine v_iconst iX8_init_105 ?_
  refine v_newI (N := 105) (len := 3) iX8_init_106 hw_ rfl ⟨rfl, by decide⟩ (fun j_ => hz_ _ (by decide) j_) ⟨(by show _ ≤ (12 : Nat); omega), (by show _ ≤ (665 : Nat); omega)⟩ (by refine ⟨?_, ?_⟩ <;> simp only [okL, okS, okV, and_true, true_and] <;> omega) (fun hw_ => ?_)
  change V _ _ _ _ _ (lyM [98, 0, 99, 100, 101, 0, 0, 0, 0, 102, 103, 0, 104, 105, 106, 0, 0, 0, 0, 0, 0, 1, 1, 0, 1] 106) _ _ _ _ _
  change wfL (lyM [98, 0, 99, 100, 101, 0, 0, 0, 0, 102, 103, 0, 104, 105, 106, 0, 0, 0, 0, 0, 0, 1, 1, 0, 1] 106) at hw_
  refine v_putR iX8_init_108 ffX8_48 rfl hw_ rfl (Nat.le_of_ble_eq_true rfl) (by decide) rfl (fun hw_ => ?_)
  change V _ _ _ _ _ (lyM [98, 0, 99, 100, 101, 0, 0, 0, 0, 102, 103, 0, 104, 105, 106, 0, 0, 0, 0, 0, 0, 107, 1, 0, 1] 106) _ _ _ _ _
  change wfL (lyM [98, 0, 99, 100, 101, 0, 0, 0, 0, 102, 103, 0, 104, 105, 106, 0, 0, 0, 0, 0, 0, 107, 1, 0, 1] 106) at hw_
  refine v_aload_n iX8_init_111 rfl ?_
  refine v_bipush iX8_init_112 (by decide) ?_
  refine v_newI (N := 106) (len := 42) iX8_init_114 hw_ rfl ⟨rfl, by decide⟩ (fun j_ => hz_ _ (by decide) j_) ⟨(by show _ ≤ (12 : Nat); omega), (by show _ ≤ (665 : Nat); omega)⟩ (by refine ⟨?_, ?_⟩ <;> simp only [okL, okS, okV, and_true, true_and] <;> omega) (fun hw_ => ?_)
  change V _ _ _ _ _ (lyM [98, 0, 99, 100, 101, 0, 0, 0, 0, 102, 103, 0, 104, 105, 106, 0, 0, 0, 0, 0, 0, 107, 1, 0, 1] 107) _ _ _ _ _
  change wfL (lyM [98, 0, 99, 100, 101, 0, 0, 0, 0, 102, 103, 0, 104, 105, 106, 0, 0, 0, 0, 0, 0, 107, 1, 0, 1] 107) at hw_
  refine v_dup iX8_init_116 (by intro z h; cases h) ?_
  refine v_iconst iX8_init_117 ?_
  refine v_bipush iX8_init_118 (by decide) ?_
  refine V.as (α' := uA (uA zz 102 (szF 3)) 106 (wdF 0)) ?_ rfl (F_0 (uA zz 102 (szF 3)) 106 wdF (by rw [uA_ne _ _ (by decide)]; funext j_; simp [zz, wdF])) rfl rfl
  refine v_iastore iX8_init_120 rfl (by decide) ?_
  refine V.as (α' := uA (uA zz 102 (szF 3)) 106 (wdF 1)) ?_ rfl (st_F (uA zz 102 (szF 3)) 106 wdF 0 99 (wdF_s 0 _ (by decide))) rfl rfl
  refine v_dup iX8_init_121 (by intro z h; cases h) ?_
  refine v_iconst iX8_init_122 ?_
  refine v_bipush iX8_init_123 (by decide) ?_
  refine v_iastore iX8_init_125 rfl (by decide) ?_
  refine V.as (α' := uA (uA zz 102 (szF 3)) 106 (wdF 2)) ?_ rfl (st_F (uA zz 102 (szF 3)) 106 wdF 1 97 (wdF_s 1 _ (by decide))) rfl rfl
  refine v_dup iX8_init_126 (by intro z h; cases h) ?_
  refine v_iconst iX8_init_127 ?_
  refine v_bipush iX8_init_128 (by decide) ?_
  refine v_iastore iX8_init_130 rfl (by decide) ?_
  refine V.as (α' := uA (uA zz 102 (szF 3)) 106 (wdF 3)) ?_ rfl (st_F (uA zz 102 (szF 3)) 106 wdF 2 115 (wdF_s 2 _ (by decide))) rfl rfl
  refine v_dup iX8_init_131 (by intro z h; cases h) ?_
  refine v_iconst iX8_init_132 ?_
  refine v_bipush iX8_init_133 (by decide) ?_
  refine v_iastore iX8_init_135 rfl (by decide) ?_
  refine V.as (α' := uA (uA zz 102 (szF 3)) 106 (wdF 4)) ?_ rfl (st_F (uA zz 102 (szF 3)) 106 wdF 3 116 (wdF_s 3 _ (by decide))) rfl rfl
  refine v_dup iX8_init_136 (by intro z h; cases h) ?_
  refine v_iconst iX8_init_137 ?_
  refine v_bipush iX8_init_138 (by decide) ?_
  refine v_iastore iX8_init_140 rfl (by decide) ?_
  refine V.as (α' := uA (uA zz 102 (szF 3)) 106 (wdF 5)) ?_ rfl (st_F (uA zz 102 (szF 3)) 106 wdF 4 105 (wdF_s 4 _ (by decide))) rfl rfl
  refine v_dup iX8_init_141 (by intro z h; cases h) ?_
  refine v_iconst iX8_init_142 ?_
  refine v_bipush iX8_init_143 (by decide) ?_
  refine v_iastore iX8_init_145 rfl (by decide) ?_
  refine V.as (α' := uA (uA zz 102 (szF 3)) 106 (wdF 6)) ?_ rfl (st_F (uA zz 102 (szF 3)) 106 wdF 5 110 (wdF_s 5 _ (by decide))) rfl rfl
  refine v_dup iX8_init_146 (by intro z h; cases h) ?_
  refine v_bipush iX8_init_147 (by decide) ?_
  refine v_bipush iX8_init_149 (by decide) ?_
  refine v_iastore iX8_init_151 rfl (by decide) ?_
  refine V.as (α' := uA (uA zz 102 (szF 3)) 106 (wdF 7)) ?_ rfl (st_F (uA zz 102 (szF 3)) 106 wdF 6 103 (wdF_s 6 _ (by decide))) rfl rfl
  refine v_dup iX8_init_152 (by intro z h; cases h) ?_
  refine v_bipush iX8_init_153 (by decide) ?_
  refine v_bipush iX8_init_155 (by decide) ?_
  refine v_iastore iX8_init_157 rfl (by decide) ?_
  refine V.as (α' := uA (uA zz 102 (szF 3)) 106 (wdF 8)) ?_ rfl (st_F (uA zz 102 (szF 3)) 106 wdF 7 115 (wdF_s 7 _ (by decide))) rfl rfl
  refine v_dup iX8_init_158 (by intro z h; cases h) ?_
  refine v_bipush iX8_init_159 (by decide) ?_
  refine v_bipush iX8_init_161 (by decide) ?_
  refine v_iastore iX8_init_163 rfl (by decide) ?_
  refine V.as (α' := uA (uA zz 102 (szF 3)) 106 (wdF 9)) ?_ rfl (st_F (uA zz 102 (szF 3)) 106 wdF 8 101 (wdF_s 8 _ (by decide))) rfl rfl
  refine v_dup iX8_init_164 (by intro z h; cases h) ?_
  refine v_bipush iX8_init_165 (by decide) ?_
  refine v_bipush iX8_init_167 (by decide) ?_
  refine v_iastore iX8_init_169 rfl (by decide) ?_
  refine V.as (α' := uA (uA zz 102 (szF 3)) 106 (wdF 10)) ?_ rfl (st_F (uA zz 102 (szF 3)) 106 wdF 9 99 (wdF_s 9 _ (by decide))) rfl rfl
  refine v_dup iX8_init_170 (by intro z h; cases h) ?_
  refine v_bipush iX8_init_171 (by decide) ?_
  refine v_bipush iX8_init_173 (by decide) ?_
  refine v_iastore iX8_init_175 rfl (by decide) ?_
  refine V.as (α' := uA (uA zz 102 (szF 3)) 106 (wdF 11)) ?_ rfl (st_F (uA zz 102 (szF 3)) 106 wdF 10 116 (wdF_s 10 _ (by decide))) rfl rfl
  refine v_dup iX8_init_176 (by intro z h; cases h) ?_
  refine v_bipush iX8_init_177 (by decide) ?_
  refine v_bipush iX8_init_179 (by decide) ?_
  refine v_iastore iX8_init_181 rfl (by decide) ?_
  refine V.as (α' := uA (uA zz 102 (szF 3)) 106 (wdF 12)) ?_ rfl (st_F (uA zz 102 (szF 3)) 106 wdF 11 105 (wdF_s 11 _ (by decide))) rfl rfl
  refine v_dup iX8_init_182 (by intro z h; cases h) ?_
  refine v_bipush iX8_init_183 (by decide) ?_
  refine v_bipush iX8_init_185 (by decide) ?_
  refine v_iastore iX8_init_187 rfl (by decide) ?_
  refine V.as (α' := uA (uA zz 102 (szF 3)) 106 (wdF 13)) ?_ rfl (st_F (uA zz 102 (szF 3)) 106 wdF 12 111 (wdF_s 12 _ (by decide))) rfl rfl
  refine v_dup iX8_init_188 (by intro z h; cases h) ?_
  refine v_bipush iX8_init_189 (by decide) ?_
  refine v_bipush iX8_init_191 (by decide) ?_
  refine v_iastore iX8_init_193 rfl (by decide) ?_
  refine V.as (α' := uA (uA zz 102 (szF 3)) 106 (wdF 14)) ?_ rfl (st_F (uA zz 102 (szF 3)) 106 wdF 13 110 (wdF_s 13 _ (by decide))) rfl rfl
  refine v_dup iX8_init_194 (by intro z h; cases h) ?_
  refine v_bipush iX8_init_195 (by decide) ?_
  refine v_bipush iX8_init_197 (by decide) ?_
  refine v_iastore iX8_init_199 rfl (by decide) ?_
  refine V.as (α' := uA (uA zz 102 (szF 3)) 106 (wdF 15)) ?_ rfl (st_F (uA zz 102 (szF 3)) 106 wdF 14 106 (wdF_s 14 _ (by decide))) rfl rfl
  refine v_dup iX8_init_200 (by intro z h; cases h) ?_
  refine v_bipush iX8_init_201 (by decide) ?_
  refine v_bipush iX8_init_203 (by decide) ?_
  refine v_iastore iX8_init_205 rfl (by decide) ?_
  refine V.as (α' := uA (uA zz 102 (szF 3)) 106 (wdF 16)) ?_ rfl (st_F (uA zz 102 (szF 3)) 106 wdF 15 111 (wdF_s 15 _ (by decide))) rfl rfl
  refine v_dup iX8_init_206 (by intro z h; cases h) ?_
  refine v_bipush iX8_init_207 (by decide) ?_
  refine v_bipush iX8_init_209 (by decide) ?_
  refine v_iastore iX8_init_211 rfl (by decide) ?_
  refine V.as (α' := uA (uA zz 102 (szF 3)) 106 (wdF 17)) ?_ rfl (st_F (uA zz 102 (szF 3)) 106 wdF 16 105 (wdF_s 16 _ (by decide))) rfl rfl
  refine v_dup iX8_init_212 (by intro z h; cases h) ?_
  refine v_bipush iX8_init_213 (by decide) ?_
  refine v_bipush iX8_init_215 (by decide) ?_
  refine v_iastore iX8_init_217 rfl (by decide) ?_
  refine V.as (α' := uA (uA zz 102 (szF 3)) 106 (wdF 18)) ?_ rfl (st_F (uA zz 102 (szF 3)) 106 wdF 17 110 (wdF_s 17 _ (by decide))) rfl rfl
  refine v_dup iX8_init_218 (by intro z h; cases h) ?_
  refine v_bipush iX8_init_219 (by decide) ?_
  refine v_bipush iX8_init_221 (by decide) ?_
  refine v_iastore iX8_init_223 rfl (by decide) ?_
  refine V.as (α' := uA (uA zz 102 (szF 3)) 106 (wdF 19)) ?_ rfl (st_F (uA zz 102 (szF 3)) 106 wdF 18 116 (wdF_s 18 _ (by decide))) rfl rfl
  refine v_dup iX8_init_224 (by intro z h; cases h) ?_
  refine v_bipush iX8_init_225 (by decide) ?_
  refine v_iconst iX8_init_227 ?_
  refine v_iastore iX8_init_228 rfl (by decide) ?_
  refine V.as (α' := uA (uA zz 102 (szF 3)) 106 (wdF 20)) ?_ rfl (st_F (uA zz 102 (szF 3)) 106 wdF 19 0 (wdF_s 19 _ (by decide))) rfl rfl
  refine v_dup iX8_init_229 (by intro z h; cases h) ?_
  refine v_bipush iX8_init_230 (by decide) ?_
  refine v_iconst iX8_init_232 ?_
  refine v_iastore iX8_init_233 rfl (by decide) ?_
  refine V.as (α' := uA (uA zz 102 (szF 3)) 106 (wdF 21)) ?_ rfl (st_F (uA zz 102 (szF 3)) 106 wdF 20 0 (wdF_s 20 _ (by decide))) rfl rfl
  refine v_dup iX8_init_234 (by intro z h; cases h) ?_
  refine v_bipush iX8_init_235 (by decide) ?_
  refine v_bipush iX8_init_237 (by decide) ?_
  refine v_iastore iX8_init_239 rfl (by decide) ?_
  refine V.as (α' := uA (uA zz 102 (szF 3)) 106 (wdF 22)) ?_ rfl (st_F (uA zz 102 (szF 3)) 106 wdF 21 114 (wdF_s 21 _ (by decide))) rfl rfl
  refine v_dup iX8_init_240 (by intro z h; cases h) ?_
  refine v_bipush iX8_init_241 (by decide) ?_
  refine v_bipush iX8_init_243 (by decide) ?_
  refine v_iastore iX8_init_245 rfl (by decide) ?_
  refine V.as (α' := uA (uA zz 102 (szF 3)) 106 (wdF 23)) ?_ rfl (st_F (uA zz 102 (szF 3)) 106 wdF 22 105 (wdF_s 22 _ (by decide))) rfl rfl
  refine v_dup iX8_init_246 (by intro z h; cases h) ?_
  refine v_bipush iX8_init_247 (by decide) ?_
  refine v_bipush iX8_init_249 (by decide) ?_
  refine v_iastore iX8_init_251 rfl (by decide) ?_
  refine V.as (α' := uA (uA zz 102 (szF 3)) 106 (wdF 24)) ?_ rfl (st_F (uA zz 102 (szF 3)) 106 wdF 23 115 (wdF_s 23 _ (by decide))) rfl rfl
  refine v_dup iX8_init_252 (by intro z h; cases h) ?_
  refine v_bipush iX8_init_253 (by decide) ?_
  refine v_bipush iX8_init_255 (by decide) ?_
  refine v_iastore iX8_init_257 rfl (by decide) ?_
  refine V.as (α' := uA (uA zz 102 (szF 3)) 106 (wdF 25)) ?_ rfl (st_F (uA zz 102 (szF 3)) 106 wdF 24 101 (wdF_s 24 _ (by decide))) rfl rfl
  refine v_dup iX8_init_258 (by intro z h; cases h) ?_
  refine v_bipush iX8_init_259 (by decide) ?_
  refine v_bipush iX8_init_261 (by decide) ?_
  refine v_iastore iX8_init_263 rfl (by decide) ?_
  refine V.as (α' := uA (uA zz 102 (szF 3)) 106 (wdF 26)) ?_ rfl (st_F (uA zz 102 (szF 3)) 106 wdF 25 114 (wdF_s 25 _ (by decide))) rfl rfl
  refine v_dup iX8_init_264 (by intro z h; cases h) ?_
  refine v_bipush iX8_init_265 (by decide) ?_
  refine v_iconst iX8_init_267 ?_
  refine v_iastore iX8_init_268 rfl (by decide) ?_
  refine V.as (α' := uA (uA zz 102 (szF 3)) 106 (wdF 27)) ?_ rfl (st_F (uA zz 102 (szF 3)) 106 wdF 26 0 (wdF_s 26 _ (by decide))) rfl rfl
  refine v_dup iX8_init_269 (by intro z h; cases h) ?_
  refine v_bipush iX8_init_270 (by decide) ?_
  refine v_iconst iX8_init_272 ?_
  refine v_iastore iX8_init_273 rfl (by decide) ?_
  refine V.as (α' := uA (uA zz 102 (szF 3)) 106 (wdF 28)) ?_ rfl (st_F (uA zz 102 (szF 3)) 106 wdF 27 0 (wdF_s 27 _ (by decide))) rfl rfl
  refine v_dup iX8_init_274 (by intro z h; cases h) ?_
  refine v_bipush iX8_init_275 (by decide) ?_
  refine v_bipush iX8_init_277 (by decide) ?_
  refine v_iastore iX8_init_279 rfl (by decide) ?_
  refine V.as (α' := uA (uA zz 102 (szF 3)) 106 (wdF 29)) ?_ rfl (st_F (uA zz 102 (szF 3)) 106 wdF 28 99 (wdF_s 28 _ (by decide))) rfl rfl
  refine v_dup iX8_init_280 (by intro z h; cases h) ?_
  refine v_bipush iX8_init_281 (by decide) ?_
  refine v_bipush iX8_init_283 (by decide) ?_
  refine v_iastore iX8_init_285 rfl (by decide) ?_
  refine V.as (α' := uA (uA zz 102 (szF 3)) 106 (wdF 30)) ?_ rfl (st_F (uA zz 102 (szF 3)) 106 wdF 29 104 (wdF_s 29 _ (by decide))) rfl rfl
  refine v_dup iX8_init_286 (by intro z h; cases h) ?_
  refine v_bipush iX8_init_287 (by decide) ?_
  refine v_bipush iX8_init_289 (by decide) ?_
  refine v_iastore iX8_init_291 rfl (by decide) ?_
  refine V.as (α' := uA (uA zz 102 (szF 3)) 106 (wdF 31)) ?_ rfl (st_F (uA zz 102 (szF 3)) 106 wdF 30 105 (wdF_s 30 _ (by decide))) rfl rfl
  refine v_dup iX8_init_292 (by intro z h; cases h) ?_
  refine v_bipush iX8_init_293 (by decide) ?_
  refine v_bipush iX8_init_295 (by decide) ?_
  refine v_iastore iX8_init_297 rfl (by decide) ?_
  refine V.as (α' := uA (uA zz 102 (szF 3)) 106 (wdF 32)) ?_ rfl (st_F (uA zz 102 (szF 3)) 106 wdF 31 108 (wdF_s 31 _ (by decide))) rfl rfl
  refine v_dup iX8_init_298 (by intro z h; cases h) ?_
  refine v_bipush iX8_init_299 (by decide) ?_
  refine v_bipush iX8_init_301 (by decide) ?_
  refine v_iastore iX8_init_303 rfl (by decide) ?_
  refine V.as (α' := uA (uA zz 102 (szF 3)) 106 (wdF 33)) ?_ rfl (st_F (uA zz 102 (szF 3)) 106 wdF 32 108 (wdF_s 32 _ (by decide))) rfl rfl
  refine v_dup iX8_init_304 (by intro z h; cases h) ?_
  refine v_bipush iX8_init_305 (by decide) ?_
  refine v_iconst iX8_init_307 ?_
  refine v_iastore iX8_init_308 rfl (by decide) ?_
  refine V.as (α' := uA (uA zz 102 (szF 3)) 106 (wdF 34)) ?_ rfl (st_F (uA zz 102 (szF 3)) 106 wdF 33 0 (wdF_s 33 _ (by decide))) rfl rfl
  refine v_dup iX8_init_309 (by intro z h; cases h) ?_
  refine v_bipush iX8_init_310 (by decide) ?_
  refine v_iconst iX8_init_312 ?_
  refine v_iastore iX8_init_313 rfl (by decide) ?_
  refine V.as (α' := uA (uA zz 102 (szF 3)) 106 (wdF 35)) ?_ rfl (st_F (uA zz 102 (szF 3)) 106 wdF 34 0 (wdF_s 34 _ (by decide))) rfl rfl
  refine v_dup iX8_init_314 (by intro z h; cases h) ?_
  refine v_bipush iX8_init_315 (by decide) ?_
  refine v_bipush iX8_init_317 (by decide) ?_
  refine v_iastore iX8_init_319 rfl (by decide) ?_
  refine V.as (α' := uA (uA zz 102 (szF 3)) 106 (wdF 36)) ?_ rfl (st_F (uA zz 102 (szF 3)) 106 wdF 35 114 (wdF_s 35 _ (by decide))) rfl rfl
  refine v_dup iX8_init_320 (by intro z h; cases h) ?_
  refine v_bipush iX8_init_321 (by decide) ?_
  refine v_bipush iX8_init_323 (by decide) ?_
  refine v_iastore iX8_init_325 rfl (by decide) ?_
  refine V.as (α' := uA (uA zz 102 (szF 3)) 106 (wdF 37)) ?_ rfl (st_F (uA zz 102 (szF 3)) 106 wdF 36 117 (wdF_s 36 _ (by decide))) rfl rfl
  refine v_dup iX8_init_326 (by intro z h; cases h) ?_
  refine v_bipush iX8_init_327 (by decide) ?_
  refine v_bipush iX8_init_329 (by decide) ?_
  refine v_iastore iX8_init_331 rfl (by decide) ?_
  refine V.as (α' := uA (uA zz 102 (szF 3)) 106 (wdF 38)) ?_ rfl (st_F (uA zz 102 (szF 3)) 106 wdF 37 108 (wdF_s 37 _ (by decide))) rfl rfl
  refine v_dup iX8_init_332 (by intro z h; cases h) ?_
  refine v_bipush iX8_init_333 (by decide) ?_
  refine v_bipush iX8_init_335 (by decide) ?_
  refine v_iastore iX8_init_337 rfl (by decide) ?_
  refine V.as (α' := uA (uA zz 102 (szF 3)) 106 (wdF 39)) ?_ rfl (st_F (uA zz 102 (szF 3)) 106 wdF 38 101 (wdF_s 38 _ (by decide))) rfl rfl
  refine v_dup iX8_init_338 (by intro z h; cases h) ?_
  refine v_bipush iX8_init_339 (by decide) ?_
  refine v_iconst iX8_init_341 ?_
  refine v_iastore iX8_init_342 rfl (by decide) ?_
  refine V.as (α' := uA (uA zz 102 (szF 3)) 106 (wdF 40)) ?_ rfl (st_F (uA zz 102 (szF 3)) 106 wdF 39 0 (wdF_s 39 _ (by decide))) rfl rfl
  refine v_dup iX8_init_343 (by intro z h; cases h) ?_
  refine v_bipush iX8_init_344 (by decide) ?_
  refine v_iconst iX8_init_346 ?_
  refine v_iastore iX8_init_347 rfl (by decide) ?_
  refine V.as (α' := uA (uA zz 102 (szF 3)) 106 (wdF 41)) ?_ rfl (st_F (uA zz 102 (szF 3)) 106 wdF 40 0 (wdF_s 40 _ (by decide))) rfl rfl
  refine v_dup iX8_init_348 (by intro z h; cases h) ?_
  refine v_bipush iX8_init_349 (by decide) ?_
  refine v_iconst iX8_init_351 ?_
  refine v_iastore iX8_init_352 rfl (by decide) ?_
  refine V.as (α' := uA (uA zz 102 (szF 3)) 106 (wdF 42)) ?_ rfl (st_F (uA zz 102 (szF 3)) 106 wdF 41 0 (wdF_s 41 _ (by decide))) rfl rfl
  have hz_ : zq (uA (uA zz 102 (szF 3)) 106 (wdF 42)) 107 := fun q hq j => by rw [uA_ne _ _ (by omega), uA_ne _ _ (by omega)]; rfl
  refine v_putR iX8_init_353 ffX8_51 rfl hw_ rfl (Nat.le_of_ble_eq_true rfl) (by decide) rfl (fun hw_ => ?_)
  change V _ _ _ _ _ (lyM [98, 0, 99, 100, 101, 0, 0, 0, 0, 102, 103, 0, 104, 105, 106, 0, 0, 0, 0, 0, 0, 107, 108, 0, 1] 107) _ _ _ _ _
  change wfL (lyM [98, 0, 99, 100, 101, 0, 0, 0, 0, 102, 103, 0, 104, 105, 106, 0, 0, 0, 0, 0, 0, 107, 108, 0, 1] 107) at hw_
  refine v_aload_n iX8_init_356 rfl ?_
  refine v_bipush iX8_init_357 (by decide) ?_
  refine v_newI (N := 107) (len := 10) iX8_init_359 hw_ rfl ⟨rfl, by decide⟩ (fun j_ => hz_ _ (by decide) j_) ⟨(by show _ ≤ (12 : Nat); omega), (by show _ ≤ (665 : Nat); omega)⟩ (by refine ⟨?_, ?_⟩ <;> simp only [okL, okS, okV, and_true, true_and] <;> omega) (fun hw_ => ?_)
  change V _ _ _ _ _ (lyM [98, 0, 99, 100, 101, 0, 0, 0, 0, 102, 103, 0, 104, 105, 106, 0, 0, 0, 0, 0, 0, 107, 108, 0, 1] 108) _ _ _ _ _
  change wfL (lyM [98, 0, 99, 100, 101, 0, 0, 0, 0, 102, 103, 0, 104, 105, 106, 0, 0, 0, 0, 0, 0, 107, 108, 0, 1] 108) at hw_
  refine v_putR iX8_init_361 ffX8_54 rfl hw_ rfl (Nat.le_of_ble_eq_true rfl) (by decide) rfl (fun hw_ => ?_)
  change V _ _ _ _ _ (lyM [98, 0, 99, 100, 101, 0, 0, 0, 0, 102, 103, 0, 104, 105, 106, 0, 0, 0, 0, 0, 0, 107, 108, 0, 109] 108) _ _ _ _ _
  change wfL (lyM [98, 0, 99, 100, 101, 0, 0, 0, 0, 102, 103, 0, 104, 105, 106, 0, 0, 0, 0, 0, 0, 107, 108, 0, 109] 108) at hw_
  exact v_vret iX8_init_364 rfl ⟨(by show _ ≤ (12 : Nat); omega), (by show _ ≤ (665 : Nat); omega)⟩ ⟨rfl, rfl, hw_, rfl, rfl⟩
