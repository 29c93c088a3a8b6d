/-- rows for the texts of the class: vX (i + 1) the text, vX (i + 7) its bytes, vX 13 the formatter -/
theorem cv_t (E : Ev) (ad : Nat → Nat) {i : Nat} (hi : i < 6) : cv E ad (vX (i + 1)) = .ref (E.2.2.2.1 i) := by
  show (if i < 6 then Value.ref (E.2.2.2.1 i) else .ref (E.2.2.2.2 (i - 6))) = _
  rw [if_pos hi]
theorem cv_b (E : Ev) (ad : Nat → Nat) (i : Nat) : cv E ad (vX (i + 7)) = .ref (E.2.2.2.2 i) := by
  show (if i + 6 < 6 then Value.ref (E.2.2.2.1 (i + 6)) else .ref (E.2.2.2.2 (i + 6 - 6))) = _
  rw [if_neg (by omega), Nat.add_sub_cancel]
abbrev cJ0_checkIndex_df160 : ByteArray := prog_13_method_155_code
def yJ0_checkIndex_df160 : MethodName := ⟨RJ0, "checkIndex", "(II)V"⟩
abbrev mJ0_checkIndex : Mi := (yJ0_checkIndex_df160, cJ0_checkIndex_df160, 2, none)
abbrev cJ3_checkIndex_8e157 : ByteArray := prog_18_method_11_code
def yJ3_checkIndex_8e157 : MethodName := ⟨"jdk/internal/util/Preconditions", "checkIndex", "(IILjava/util/function/BiFunction;)I"⟩
abbrev mJ3_checkIndex : Mi := (yJ3_checkIndex_8e157, cJ3_checkIndex_8e157, 3, some .int)
theorem kJ0_checkIndex : MI mJ0_checkIndex 2 ∧ Cond.static mJ0_checkIndex.1 ∈ GW := ⟨⟨gw_t 346 (by decide +kernel) rfl, gw_t 11 (by decide +kernel) rfl, by decide +kernel, by decide⟩, gw_t 345 (by decide +kernel) rfl⟩
theorem kJ3_checkIndex : MI mJ3_checkIndex 3 ∧ Cond.static mJ3_checkIndex.1 ∈ GW := ⟨⟨gw_t 351 (by decide +kernel) rfl, gw_t 13 (by decide +kernel) rfl, by decide +kernel, by decide⟩, gw_t 350 (by decide +kernel) rfl⟩
theorem lJ1_9 : ML RJ1 9 yJ0_checkIndex_df160 := Or.inl (gw_t 344 (by decide +kernel) rfl)
theorem lJ0_1059 : ML RJ0 1059 yJ3_checkIndex_8e157 := Or.inl (gw_t 349 (by decide +kernel) rfl)
theorem iJ0_ck_0 : At cJ0_checkIndex_df160 0 (.iload_n 0) 1 1 := ⟨by decide +kernel, rfl⟩
theorem iJ0_ck_1 : At cJ0_checkIndex_df160 1 (.iload_n 1) 1 2 := ⟨by decide +kernel, rfl⟩
theorem iJ0_ck_2 : At cJ0_checkIndex_df160 2 (.getstatic 1053) 3 5 := ⟨by decide +kernel, rfl⟩
theorem iJ0_ck_5 : At cJ0_checkIndex_df160 5 (.invokestatic 1059) 3 8 := ⟨by decide +kernel, rfl⟩
theorem iJ0_ck_8 : At cJ0_checkIndex_df160 8 .pop 1 9 := ⟨by decide +kernel, rfl⟩
theorem iJ0_ck_9 : At cJ0_checkIndex_df160 9 .return_ 1 10 := ⟨by decide +kernel, rfl⟩
theorem iJ3_ck_0 : At cJ3_checkIndex_8e157 0 (.iload_n 0) 1 1 := ⟨by decide +kernel, rfl⟩
theorem iJ3_ck_1 : At cJ3_checkIndex_8e157 1 (.ifCond .lt 8) 3 4 := ⟨by decide +kernel, rfl⟩
theorem iJ3_ck_4 : At cJ3_checkIndex_8e157 4 (.iload_n 0) 1 5 := ⟨by decide +kernel, rfl⟩
theorem iJ3_ck_5 : At cJ3_checkIndex_8e157 5 (.iload_n 1) 1 6 := ⟨by decide +kernel, rfl⟩
theorem iJ3_ck_6 : At cJ3_checkIndex_8e157 6 (.if_icmp .lt 10) 3 9 := ⟨by decide +kernel, rfl⟩
theorem iJ3_ck_16 : At cJ3_checkIndex_8e157 16 (.iload_n 0) 1 17 := ⟨by decide +kernel, rfl⟩
theorem iJ3_ck_17 : At cJ3_checkIndex_8e157 17 .ireturn 1 18 := ⟨by decide +kernel, rfl⟩
section XROWS
variable {d : Nat} {M : Mi} {X : Cx} {k n : Nat} {L : List Ly} {σ α : St} {pc nx : Nat} {lv : List (Option AV)} {st : List AV}
theorem v_aload_x {i : Fin 4} {q : Nat} (hd : At M.2.1 pc (.aload_n i) 1 nx) (hi : lv[(i : Nat)]? = some (some (vX (q + 1)))) (kk : V d M X k n L σ α nx lv (vX (q + 1) :: st)) : V d M X k n L σ α pc lv st := by
  obtain ⟨hd, rfl⟩ := hd
  intro E ad0 ad p e s m below meth c H locs ls C h1 h2 hP hD hS hl
  have kk' := kk E ad0 ad p e s m below meth c H locs ls C h1 h2 hP hD hS hl
  have hv := hl.2.2 _ _ hi
  have he : ∃ a, cv E ad (vX (q + 1)) = .ref a := by
    show ∃ a, (if q < 6 then Value.ref (E.2.2.2.1 q) else .ref (E.2.2.2.2 (q - 6))) = .ref a
    split
    · exact ⟨_, rfl⟩
    · exact ⟨_, rfl⟩
  obtain ⟨a, he⟩ := he
  rw [List.map_cons, he] at kk'
  rw [he] at hv
  exact lv_aload_n C.1 C.2.1 hd rfl hv kk'
theorem v_ldcS {i idx : Nat} (hd : At M.2.1 pc (.ldc idx) 2 nx) (hc : M.1.cls = RX5) (hi : i < 6) (hx : sxI.getD i 0 = idx) (kk : V d M X k n L σ α nx lv (vX (i + 1) :: st)) : V d M X k n L σ α pc lv st := by
  obtain ⟨hd, rfl⟩ := hd
  subst hx
  intro E ad0 ad p e s m below meth c H locs ls C h1 h2 hP hD hS hl
  have kk' := kk E ad0 ad p e s m below meth c H locs ls C h1 h2 hP hD hS hl
  rw [List.map_cons, cv_t E ad hi] at kk'
  exact va_ldcS C.1 C.2.1 (own := RX5) (by rw [← hc]; exact C.own) (C.sx.2.1 i hi) hd kk'
theorem v_getV {i : Nat} (hd : At M.2.1 pc (.getfield 9) 3 nx) (hc : M.1.cls = RJ0) (hi : i < 6) (kk : V d M X k n L σ α nx lv (vX (i + 7) :: st)) : V d M X k n L σ α pc lv (vX (i + 1) :: st) := by
  obtain ⟨hd, rfl⟩ := hd
  intro E ad0 ad p e s m below meth c H locs ls C h1 h2 hP hD hS hl
  have kk' := kk E ad0 ad p e s m below meth c H locs ls C h1 h2 hP hD hS hl
  rw [List.map_cons, cv_b E ad i] at kk'
  rw [List.map_cons, cv_t E ad hi]
  exact vk_getf C.1 C.2.1 (own := RJ0) (C.sx.1.1 i hi).2.2.1 hS (by rw [← hc]; exact C.own) (C.gw (gw_t 1129 (by decide +kernel) rfl)) (fun _ h => h) hd kk'
theorem v_getC {i : Nat} (hd : At M.2.1 pc (.getfield 15) 3 nx) (hc : M.1.cls = RJ0) (hi : i < 6) (kk : V d M X k n L σ α nx lv (vI 0 :: st)) : V d M X k n L σ α pc lv (vX (i + 1) :: st) := by
  obtain ⟨hd, rfl⟩ := hd
  intro E ad0 ad p e s m below meth c H locs ls C h1 h2 hP hD hS hl
  have kk' := kk E ad0 ad p e s m below meth c H locs ls C h1 h2 hP hD hS hl
  rw [List.map_cons, cv_t E ad hi]
  exact vk_getf C.1 C.2.1 (own := RJ0) (v := .int 0) (C.sx.1.1 i hi).2.1 hS (by rw [← hc]; exact C.own) (C.gw (gw_t 1130 (by decide +kernel) rfl)) (fun _ h => h) hd kk'
theorem v_getsC (hd : At M.2.1 pc (.getstatic 38) 3 nx) (hc : M.1.cls = RJ0) (kk : V d M X k n L σ α nx lv (vI 1 :: st)) : V d M X k n L σ α pc lv st := by
  obtain ⟨hd, rfl⟩ := hd
  intro E ad0 ad p e s m below meth c H locs ls C h1 h2 hP hD hS hl
  have kk' := kk E ad0 ad p e s m below meth c H locs ls C h1 h2 hP hD hS hl
  exact va_gets C.1 C.2.1 (own := RJ0) (v := .int 1) C.sx.2.2.1 hS (by rw [← hc]; exact C.own) (C.gw (gw_t 331 (by decide +kernel) rfl)) (fun _ h => h) hd kk'
theorem v_getsF (hd : At M.2.1 pc (.getstatic 1053) 3 nx) (hc : M.1.cls = RJ0) (kk : V d M X k n L σ α nx lv (vX 13 :: st)) (kn : V d M X k n L σ α nx lv (vX 0 :: st)) : V d M X k n L σ α pc lv st := by
  obtain ⟨hd, rfl⟩ := hd
  intro E ad0 ad p e s m below meth c H locs ls C h1 h2 hP hD hS hl
  rcases C.sx.2.2.2.1 with hz | hz
  · have kk' := kk E ad0 ad p e s m below meth c H locs ls C h1 h2 hP hD hS hl
    rw [List.map_cons, cv_b E ad 6] at kk'
    exact va_gets C.1 C.2.1 (own := RJ0) hz hS (by rw [← hc]; exact C.own) (C.gw (gw_t 347 (by decide +kernel) rfl)) (fun _ h => h) hd kk'
  · exact va_gets C.1 C.2.1 (own := RJ0) (v := .null) hz hS (by rw [← hc]; exact C.own) (C.gw (gw_t 347 (by decide +kernel) rfl)) (fun _ h => h) hd (kn E ad0 ad p e s m below meth c H locs ls C h1 h2 hP hD hS hl)
theorem v_lenX {i : Nat} {z : Int} (hd : At M.2.1 pc .arraylength 1 nx) (hi : i < 6) (hz : (sxN.getD i 0 : Int) = z) (kk : V d M X k n L σ α nx lv (vI z :: st)) : V d M X k n L σ α pc lv (vX (i + 7) :: st) := by
  obtain ⟨hd, rfl⟩ := hd
  subst hz
  intro E ad0 ad p e s m below meth c H locs ls C h1 h2 hP hD hS hl
  have kk' := kk E ad0 ad p e s m below meth c H locs ls C h1 h2 hP hD hS hl
  rw [List.map_cons, cv_b E ad i]
  exact va_tlen C.1 C.2.1 (C.sx.1.1 i hi).2.2.2 hS (v := i32 (sxN.getD i 0 : Int)) (i32_nat _).symm hd kk'
theorem v_byteX {i : Nat} {j z : Int} (hd : At M.2.1 pc .baload 1 nx) (hi : i < 6) (hj : 0 ≤ j ∧ j < (sxN.getD i 0 : Nat) ∧ (sxN.getD i 0 : Nat) ≤ 2147483647) (hz : (sxB.getD i []).getD j.toNat 0 = i32 z) (kk : V d M X k n L σ α nx lv (vI z :: st)) : V d M X k n L σ α pc lv (vI j :: vX (i + 7) :: st) := by
  obtain ⟨hd, rfl⟩ := hd
  intro E ad0 ad p e s m below meth c H locs ls C h1 h2 hP hD hS hl
  have kk' := kk E ad0 ad p e s m below meth c H locs ls C h1 h2 hP hD hS hl
  rw [List.map_cons, List.map_cons, cv_b E ad i]
  refine va_tb (i := i32 j) (v := .int (i32 z)) C.1 C.2.1 (C.sx.1.1 i hi).2.2.2 hS (i32_in hj.1 hj.2.1 hj.2.2) ?_ hd kk'
  rw [i32_cl hj.1 (by omega)]
  show Value.int ((sxB.getD i []).getD j.toNat 0) = _
  rw [hz]
theorem v_i2c {x : Int} (hd : At M.2.1 pc .i2c 1 nx) (hx : ((i32 x).toUInt32 % 65536).toInt32 = i32 x) (kk : V d M X k n L σ α nx lv (vI x :: st)) : V d M X k n L σ α pc lv (vI x :: st) := by
  obtain ⟨hd, rfl⟩ := hd
  intro E ad0 ad p e s m below meth c H locs ls C h1 h2 hP hD hS hl
  have kk' := kk E ad0 ad p e s m below meth c H locs ls C h1 h2 hP hD hS hl
  refine lv_i2c (x := i32 x) (v := i32 x) C.1 C.2.1 hd ?_ kk'
  exact hx
end XROWS
section XCALL
variable {d : Nat} {M : Mi} {X : Cx} {σ α : St} {pc nx : Nat} {lv : List (Option AV)} {st : List AV}
theorem c_X1 {Mc : Mi} {dc na idx i : Nat} {As rest st0 : List AV} {v : AV} {σ' α' : St} (hd : At M.2.1 pc (.invokevirtual idx) 3 nx) (hlk : ML M.1.cls idx Mc.1) (hm : MI Mc na ∧ MV Mc) (hcl : Mc.1.cls = "java/lang/String") (hS : CF dc Mc (vX (i + 1) :: As) σ α (some v) σ' α') (hdd : dc + 1 ≤ d) (hn : As.length = na) (hi : i < 6) (hst : st0 = As.reverse ++ vX (i + 1) :: rest) (hr : (rest.map catA).sum ≤ 8)
    (kk : V d M X 0 0 LA σ' α' nx lv (v :: rest)) : V d M X 0 0 LA σ α pc lv st0 := by
  obtain ⟨hd, rfl⟩ := hd
  obtain ⟨⟨hmc, hmi, hmd, hmL⟩, hv1, hv2⟩ := hm
  subst hst
  intro E ad0 ad p e s m below meth c H locs ls C h1 h2 hP hD hSS hl
  have ht := C.2.2.2.2.2.2.2.1
  have hfix : CallFix p m c M.2.1 M.2.2.1 s (X.2.2.1.map (cv E ad0)).toArray (wds M) M.1.cls := ⟨C.1, C.2.1, C.ml, C.own, ht⟩
  have hmap : (vX (i + 1) :: As).map (cv E ad) = .ref (E.2.2.2.1 i) :: As.map (cv E ad) := by rw [List.map_cons, cv_t E ad hi]
  have hpre : PreV s H Mc.1.cls (E.2.2.2.1 i) (va_Pc ((vX (i + 1) :: As).map (cv E ad)) (PreW E LA ad σ α H.size)) (As.map (cv E ad)) :=
    ⟨PreW.blind, by rw [hcl]; exact vk_recv C.sx.1 hi hSS, fun U hU hW => ⟨by rw [hmap], C.pre hP hD hSS hU hW⟩⟩
  have hstk : (As.reverse ++ vX (i + 1) :: rest).map (cv E ad) = (As.map (cv E ad)).reverse ++ .ref (E.2.2.2.1 i) :: rest.map (cv E ad) := by
    rw [List.map_append, List.map_reverse, List.map_cons, cv_t E ad hi]
  have hroom : 2 * (F0 m pc ls ((As.reverse ++ vX (i + 1) :: rest).map (cv E ad))).monitorRoom + ((rest.map (cv E ad)).map fun v => v.category).sum ≤ 8 := lv_room (by rw [catA_sum]; exact hr)
  have kk2 : ∀ (r : Option AV) (s' a' : St), (r = some v ∧ s' = σ' ∧ a' = α') → V d M X 0 0 LA s' a' (pc + 3) lv (r.toList ++ rest) := by
    rintro _ _ _ ⟨rfl, rfl, rfl⟩; exact kk
  rcases hlk with hlk | ⟨host, hlk⟩
  · refine la_back C h1 h2 hD hSS (va_runV (As := As.map (cv E ad)) (n := na) hfix (hS E ad H.size) ⟨callB_of na ht (gw_good hmc) rfl rfl rfl (C.gw hmi) (C.gw hlk) hmd (room_ok hdd hmL), C.gw hv1, C.gw hv2⟩ hpre rfl (by simpa using hn) hl.1 hstk hroom hd ⟨Nat.zero_le _, Nat.zero_le _⟩) hl kk2
  · refine la_back C h1 h2 hD hSS (va_runVN (As := As.map (cv E ad)) (n := na) hfix (hS E ad H.size) ⟨va_cnB na ht (gw_good hmc) rfl rfl rfl (C.ns _ hlk) (C.gw hmi) hmd (room_ok hdd hmL), C.gw hv1, C.gw hv2⟩ hpre rfl (by simpa using hn) hl.1 hstk hroom hd ⟨Nat.zero_le _, Nat.zero_le _⟩) hl kk2
end XCALL
