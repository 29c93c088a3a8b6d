/-- at the start both agree -/
theorem ivA_0 : ivA (uS (uS (uS (uS (uS (uS (uS (uS (uS (uS (uS (uS zz 3 5 6) 3 6 5) 3 7 50) 12 5 6) 12 6 5) 12 7 50) 89 1 1) 91 1 1) 93 1 1) 95 5 6) 95 6 5) 95 7 50) (uA (uA zz 102 (szF 3)) 106 (wdF 42)) := by
  have ha : ∀ q, q ≠ 102 → q ≠ 106 → (uA (uA zz 102 (szF 3)) 106 (wdF 42)) q = fun _ => 0 := fun q h1 h2 => by rw [uA_ne _ _ h2, uA_ne _ _ h1]; rfl
  have hw0 : wfR 0 (fun _ => 0) := ⟨by decide, fun r hr => absurd hr (by show ¬ (r : Int) < 0; omega), fun i _ => ⟨(show (0 : Int) ≤ 0 by decide), (show (0 : Int) ≤ 9 by decide)⟩⟩
  refine ⟨(0, fun _ => 0, fun _ => 0, fun _ => 0, fun _ => 0, 6, 5, 50), 0, 0, 0, ⟨⟨rfl, rfl⟩, ?_, ⟨by decide, fun i hi => absurd hi (by omega)⟩, fun k hk => ?_⟩, ⟨⟨by decide, fun i hi => absurd hi (by show ¬ i < 0; omega), fun i _ => rfl, hw0, by decide, by decide, by decide, by decide⟩, ⟨rfl, ⟨rfl, rfl, rfl⟩, fun i _ => ?_, fun i hi => absurd hi (by show ¬ i < 0; omega), ⟨rfl, fun i _ => ?_, fun i _ => ?_⟩⟩, ⟨rfl, rfl, rfl, rfl⟩, fun i _ => ?_, fun k _ => ?_⟩, ⟨?_, rfl, fun i _ => ?_, fun i _ => ?_⟩, ⟨⟨rfl, by decide⟩, ⟨rfl, rfl, by decide⟩, fun j hj => absurd hj (by omega)⟩, fun k hk => Or.inl ?_, fun t ht => ?_⟩
  · rw [ha 2 (by decide) (by decide), ha 101 (by decide) (by decide)]
  · rw [uA_eq, wdF, if_pos hk]
  · exact ⟨rfl, rfl⟩
  · exact ⟨rfl, rfl, rfl⟩
  · rfl
  · exact ⟨rfl, rfl, rfl⟩
  · rfl
  · rw [ha 96 (by decide) (by decide)]; exact hw0
  · exact ⟨rfl, rfl, rfl⟩
  · rfl
  · exact ⟨rfl, rfl⟩
  · refine ⟨-1, 0, fun _ => 0, ?_, ?_⟩
    · rcases (show t = 0 ∨ t = 1 ∨ t = 2 by omega) with rfl | rfl | rfl
      · exact ⟨Or.inl ⟨rfl, rfl, rfl⟩, rfl, Or.inl rfl, fun j _ => ⟨rfl, (show (0 : Int) ≤ 0 by decide), (show (0 : Int) ≤ 30000 by decide)⟩⟩
      · exact ⟨Or.inl ⟨rfl, rfl, rfl⟩, rfl, Or.inl rfl, fun j _ => ⟨rfl, (show (0 : Int) ≤ 0 by decide), (show (0 : Int) ≤ 30000 by decide)⟩⟩
      · exact ⟨Or.inl ⟨rfl, rfl, rfl⟩, rfl, Or.inl rfl, fun j _ => ⟨rfl, (show (0 : Int) ≤ 0 by decide), (show (0 : Int) ≤ 30000 by decide)⟩⟩
    · refine ⟨?_, by decide, ?_, Or.inl rfl, fun j _ => ⟨?_, (show (0 : Int) ≤ 0 by decide), (show (0 : Int) ≤ 30000 by decide)⟩⟩
      · rw [uA_ne _ _ (by decide), uA_eq, szF, if_pos ht]
      · rw [ha 103 (by decide) (by decide)]
      · rw [ha 104 (by decide) (by decide)]
set_option maxHeartbeats 8000000 in
set_option maxRecDepth 100000 in
theorem whole_start {p : Program} {e : Env} {s : State} {m : MethodId} {below : List Frame} {meth : Method} {c : Code} (l : Launch) {b L : Nat} {xs : Nat → Int32} (hL : L ≤ 2048) (C0 : lw_At p s m meth c b L xs) : W p l e room_1 s m #[Value.ref b] below meth c s.heap [] 0 0 (lw_Z below #[Value.ref b] s) (entryFrame m ([Value.ref b] : List Value).toArray 4) := by
  obtain ⟨E, hE, h7, hK, hNS, hSX⟩ := lw_env l (fun _ => 0) C0
  subst hE
  have C_ : lwC E (fun _ => 0) p s m meth c b L xs := ⟨C0, h7, hK, hNS, hSX⟩
  have hwf0 : wfL [] := fun y hy => absurd hy List.not_mem_nil
  have key : VE E (fun _ => 0) p e s m below meth c b 0 0 [] zz zz 0 [some (vX 14), none, none, none] [] := by
    refine e_new (ci := 7) (cs := [1, 1, 1, 1, 1, 1, 1, 1, 1, 1]) C_ tyX7 iL_law_0 rfl uw7 tyX7_ok (gw_t 18 (by decide +kernel) rfl) (gw_t 19 (by decide +kernel) rfl) (gw_t 1 (by decide +kernel) rfl) ⟨rfl, by decide, by decide +kernel⟩ hwf0 (fun _ => rfl) ⟨by omega, by omega⟩ (by refine ⟨?_, ?_⟩ <;> simp only [okL, okS, okV, and_true, true_and] <;> omega) (fun hw_ => ?_)
    refine e_dup C_ iL_law_3 (by intro z h; cases h) ?_
    refine e_callI (y := yX7_init) (cb := cX7_init) (ml := 2) C_ iL_law_4 lL_9 kX7_init rfl (qX7_init hw_) (by decide) rfl rfl (Nat.le_of_ble_eq_true rfl) ⟨by omega, by omega⟩ (by refine ⟨?_, ?_⟩ <;> simp only [okL, okS, okV, and_true, true_and, List.length_append, List.length_cons, List.length_nil] <;> omega) ?_
    rintro r9_ L9_ s9_ a9_ ⟨rfl, rfl, hw_, rfl, rfl⟩
    refine e_astore C_ iL_law_7 ⟨rfl, rfl⟩ rfl ?_
    refine e_new (ci := 8) (cs := [1, 0, 1, 1, 1, 0, 0, 0, 0, 1, 1, 0, 1, 1, 1, 0, 0, 0, 0, 0, 0, 1, 1, 0, 1]) C_ tyX8 iL_law_8 rfl uw8 tyX8_ok (gw_t 759 (by decide +kernel) rfl) (gw_t 760 (by decide +kernel) rfl) (gw_t 9 (by decide +kernel) rfl) ⟨rfl, by decide, by decide +kernel⟩ hw_ (fun _ => rfl) ⟨by omega, by omega⟩ (show okL 95 [some (vX 14), some (vR 0), none, none] ∧ okS 95 [] from ⟨⟨trivial, (show 0 < 95 by decide), trivial⟩, trivial⟩) (fun hw_ => ?_)
    refine e_dup C_ iL_law_11 (by intro z h; cases h) ?_
    refine e_callI (y := yX8_init) (cb := cX8_init) (ml := 1) C_ iL_law_12 lL_12 kX8_init rfl (qX8_init _ hw_ (fun q hq j => by rw [uS_ne _ _ (by omega), uS_ne _ _ (by omega), uS_ne _ _ (by omega), uS_ne _ _ (by omega), uS_ne _ _ (by omega), uS_ne _ _ (by omega), uS_ne _ _ (by omega), uS_ne _ _ (by omega), uS_ne _ _ (by omega)]; rfl)) (by decide) rfl rfl (Nat.le_of_ble_eq_true rfl) ⟨by omega, by omega⟩ (show okL 96 [some (vX 14), some (vR 0), none, none] ∧ okS 96 [vR 95] from ⟨⟨trivial, (show 0 < 96 by decide), trivial⟩, ⟨(show 95 < 96 by decide), trivial⟩⟩) ?_
    rintro r9_ L9_ s9_ a9_ ⟨rfl, rfl, hw_, rfl, rfl⟩
    refine e_astore C_ iL_law_15 ⟨rfl, rfl⟩ rfl ?_
    refine e_iconst C_ iL_law_16 ?_
    refine e_istore C_ iL_law_17 ⟨rfl, rfl⟩ rfl ?_
    exact lw_loop C_ hL 0 (Nat.zero_le _) _ _ ivA_0
  have hl := lv_entry ([Value.ref b]) (n := 4) (Nat.le_of_ble_eq_true rfl)
  rw [lg_entry_eq]
  refine key (fun _ => 0) s.heap [] _ (fun k q h => by simp [mW] at h) ⟨fun i j p q h => by simp [mW] at h, fun k q h => by simp [mW] at h⟩ va_S.rf ⟨hl.1, hl.2.1, fun i v hi => ?_⟩
  match i, hi with
  | 0, hi =>
    have e1 : vX 14 = v := by simpa using hi
    rw [← e1, cv_b E (fun _ => 0) 7, h7]
    exact hl.2.2 (0, .ref b) List.mem_cons_self
  | 1, hi => simp at hi
  | 2, hi => simp at hi
  | 3, hi => simp at hi
  | i + 4, hi => simp at hi
