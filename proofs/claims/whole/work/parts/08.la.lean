/-- the whole world's layout: the class's cells in the order in which they are made, then the reference's -/
def LA : List Ly := [yO 7 [3, 5, 14, 23, 24, 29, 71, 72, 73, 80], yO 6 [4, 0], yA 0 200, yO 4 [6, 7, 8, 9, 0, 0, 0, 0], yA 0 10, yA 0 10, yA 0 10, yO 1 [10, 11, 12, 13, 0], yA 0 10, yA 0 6, yA 0 6, yA 0 6, yO 4 [15, 16, 17, 18, 0, 0, 0, 0], yA 0 10, yA 0 10, yA 0 10, yO 1 [19, 20, 21, 22, 0], yA 0 10, yA 0 6, yA 0 6, yA 0 6, yO 5 [3, 14, 0, 0, 0, 0, 0], yO 1 [25, 26, 27, 28, 0], yA 0 10, yA 0 6, yA 0 6, yA 0 6, yO 2 [30, 0, 0], yQ 3 [31, 36, 41, 46, 51, 56, 61, 66], yO 1 [32, 33, 34, 35, 0], yA 0 10, yA 0 6, yA 0 6, yA 0 6, yO 1 [37, 38, 39, 40, 0], yA 0 10, yA 0 6, yA 0 6, yA 0 6, yO 1 [42, 43, 44, 45, 0], yA 0 10, yA 0 6, yA 0 6, yA 0 6, yO 1 [47, 48, 49, 50, 0], yA 0 10, yA 0 6, yA 0 6, yA 0 6, yO 1 [52, 53, 54, 55, 0], yA 0 10, yA 0 6, yA 0 6, yA 0 6, yO 1 [57, 58, 59, 60, 0], yA 0 10, yA 0 6, yA 0 6, yA 0 6, yO 1 [62, 63, 64, 65, 0], yA 0 10, yA 0 6, yA 0 6, yA 0 6, yO 1 [67, 68, 69, 70, 0], yA 0 10, yA 0 6, yA 0 6, yA 0 6, yQ 3 [81, 86], yA 1 2, yO 3 [74, 75, 76, 77, 78, 79, 5, 24, 0], yA 0 10, yA 0 10, yA 0 10, yA 0 10, yA 0 10, yA 0 10, yQ 2 [91, 93, 95], yO 1 [82, 83, 84, 85, 0], yA 0 10, yA 0 6, yA 0 6, yA 0 6, yO 1 [87, 88, 89, 90, 0], yA 0 10, yA 0 6, yA 0 6, yA 0 6, yO 0 [92, 0, 0, 0], yA 0 8, yO 0 [94, 0, 0, 0], yA 0 8, yO 0 [96, 0, 0, 0], yA 0 8, yO 8 [98, 0, 99, 100, 101, 0, 0, 0, 0, 102, 103, 0, 104, 105, 106, 0, 0, 0, 0, 0, 0, 107, 108, 0, 109], yA 0 348, yA 0 10, yA 0 10, yA 0 10, yA 1 2, yA 0 200, yA 0 3, yA 0 3, yA 0 24, yA 0 3, yA 0 42, yA 0 10]
def catA : AV → Nat
  | .inr (.inr (.inl _)) => 2
  | _ => 1
theorem catA_eq (E : Ev) (ad : Nat → Nat) (v : AV) : (cv E ad v).category = catA v := by
  match v with
  | .inr (.inr (.inl z)) => rfl
  | .inl z => rfl
  | .inr (.inl q) => rfl
  | .inr (.inr (.inr q)) => exact cv_cat E ad _ (by intro z h; cases h)
theorem catA_sum (E : Ev) (ad : Nat → Nat) (vs : List AV) : ((vs.map (cv E ad)).map fun v => v.category).sum = (vs.map catA).sum := by
  rw [List.map_map]
  congr 1
  apply List.map_congr_left
  intro v _
  exact catA_eq E ad v
abbrev Pq : Type := Option AV → St → St → Prop
abbrev XA (av : List AV) (post : Pq) : Cx := (0, 0, av, LA.length, fun r L' s' a' => L' = LA ∧ post r s' a')
/-- a contract in the whole world -/
def CG (d : Nat) (M : Mi) (av : List AV) (σ α : St) (post : Pq) : Prop := SS d M 0 0 av LA σ α (fun r L' s' a' => L' = LA ∧ post r s' a')
abbrev CF (d : Nat) (M : Mi) (av : List AV) (σ α : St) (r : Option AV) (σ' α' : St) : Prop := CG d M av σ α (fun r' s' a' => r' = r ∧ s' = σ' ∧ a' = α')
abbrev VV (d : Nat) (M : Mi) (av : List AV) (post : Pq) (σ α : St) (pc : Nat) (lv : List (Option AV)) (st : List AV) : Prop := V d M (XA av post) 0 0 LA σ α pc lv st
theorem CG.of {d : Nat} {M : Mi} {av : List AV} {σ α : St} {post : Pq} (lv : List (Option AV)) (hy : plainName M.1.cls = true) (hlen : (lvA av).length ≤ M.2.2.1) (hlv : lvA av ++ List.replicate (M.2.2.1 - (lvA av).length) none = lv) (kk : VV d M av post σ α 0 lv []) : CG d M av σ α post := SS.of hy hlen hlv kk
section LAROWS
variable {d : Nat} {M : Mi} {X : Cx} {av : List AV} {post : Pq} {σ α : St} {pc nx : Nat} {lv : List (Option AV)} {st : List AV}
theorem r_i {z : Int} (hd : At M.2.1 pc .ireturn 1 nx) (hr : M.2.2.2 = some .int) (hp : post (some (vI z)) σ α) : VV d M av post σ α pc lv [vI z] := v_ireti hd hr ⟨Nat.le_refl _, Nat.le_refl _⟩ ⟨rfl, hp⟩
theorem r_b {z : Int} (hd : At M.2.1 pc .ireturn 1 nx) (hr : M.2.2.2 = some .boolean) (hz : z = 0 ∨ z = 1) (hp : post (some (vI z)) σ α) : VV d M av post σ α pc lv [vI z] := v_iretb hd hr ⟨Nat.le_refl _, Nat.le_refl _⟩ hz ⟨rfl, hp⟩
theorem r_v (hd : At M.2.1 pc .return_ 1 nx) (hr : M.2.2.2 = none) (hp : post none σ α) : VV d M av post σ α pc lv [] := v_vret hd hr ⟨Nat.le_refl _, Nat.le_refl _⟩ ⟨rfl, hp⟩
theorem room_ok {dc d maxL : Nat} (h : dc + 1 ≤ d) (hm : maxL ≤ 21) : (rmd dc 0 0).frames + 1 ≤ (rmd d X.1 X.2.1).frames ∧ 8 + (maxL + 11) + (rmd dc 0 0).locals ≤ (rmd d X.1 X.2.1).locals := by
  refine ⟨h, ?_⟩
  show 8 + (maxL + 11) + 40 * dc ≤ 40 * d
  omega
theorem la_back {E : Ev} {ad0 ad : Nat → Nat} {p : Program} {e : Env} {s : State} {m : MethodId} {below : List Frame} {meth : Method} {c : Code} {H : Heap} {locs : List Loc} {ls : Array Slot} {st0 : List Value} {rest : List AV} {post : Pq} {a : Array Value}
    (C : Ctx M X E ad0 p s m meth c) (h1 : X.2.2.2.1 ≤ LA.length) (h2 : ∀ j, j < X.2.2.2.1 ∨ LA.length ≤ j → ad j = ad0 j) (hD : va_D (AA ad0 X.2.2.2.1 s.heap.size) (mW LA E.2.2.1 ad σ α)) (hS : va_S (AA ad0 X.2.2.2.1 s.heap.size) s.heap H locs)
    (hr : va_Run p E.1 e (rmd d X.1 X.2.1) s m (X.2.2.1.map (cv E ad0)).toArray below meth c H locs 0 0 0 0 (F0 m pc ls st0) (rest.map (cv E ad)) (PostW E ad LA.length H.size (fun r L' s' a' => L' = LA ∧ post r s' a') a) (AA ad LA.length H.size))
    (hl : LV E ad M.2.2.1 lv ls) (kk : ∀ (r : Option AV) (σ' α' : St), post r σ' α' → V d M X 0 0 LA σ' α' (pc + 3) lv (r.toList ++ rest)) :
    W p E.1 e (rmd d X.1 X.2.1) s m (X.2.2.1.map (cv E ad0)).toArray below meth c H locs 0 0 (MQ below (PostW E ad0 X.2.2.2.1 s.heap.size X.2.2.2.2) (X.2.2.1.map (cv E ad0)).toArray s X.1 X.2.1 (AA ad0 X.2.2.2.1 s.heap.size)) (F0 m pc ls st0) := by
  refine v_back C h1 h2 hD hS hr hl ?_ ?_
  · rintro r L' σ' α' ad' ⟨rfl, -⟩ - had
    have : ad' = ad := funext fun j => had j (Nat.lt_or_ge j LA.length)
    rw [this]
    exact ⟨rfl, hl⟩
  · rintro r L' σ' α' ⟨rfl, hp⟩
    exact kk r σ' α' hp
theorem v_callV {Mc : Mi} {dc na idx q ci N : Nat} {T : u_T} {cs : List Nat} {As rest st0 : List AV} {post : Pq} (hd : At M.2.1 pc (.invokevirtual idx) 3 nx) (hlk : ML M.1.cls idx Mc.1) (hm : MI Mc na ∧ MV Mc) (hS : CG dc Mc (vR q :: As) σ α post) (hdd : dc + 1 ≤ d) (hn : As.length = na) (hL : LA[q]? = some (yO ci cs)) (hci : vwCl[ci]? = some (Mc.1.cls, T, N)) (hst : st0 = As.reverse ++ vR q :: rest) (hr : (rest.map catA).sum ≤ 8)
    (kk : ∀ (r : Option AV) (σ' α' : St), post r σ' α' → V d M X 0 0 LA σ' α' nx lv (r.toList ++ rest)) : V d M X 0 0 LA σ α pc lv st0 := by
  obtain ⟨hd, rfl⟩ := hd
  obtain ⟨⟨hmc, hmi, hmd, hmL⟩, hv1, hv2⟩ := hm
  subst hst
  intro E ad0 ad p e s m below meth c H locs ls C h1 h2 hP hD hSS hl
  have ht := C.2.2.2.2.2.2.2.1
  have hfix : CallFix p m c M.2.1 M.2.2.1 s (X.2.2.1.map (cv E ad0)).toArray (wds M) M.1.cls := ⟨C.1, C.2.1, C.ml, C.own, ht⟩
  have hpre : PreV s H Mc.1.cls (ad q) (va_Pc ((vR q :: As).map (cv E ad)) (PreW E LA ad σ α H.size)) (As.map (cv E ad)) :=
    ⟨PreW.blind, va_recv C.K hP hci (mW_get E.2.2.1 ad σ α hL), fun U hU hW => ⟨rfl, C.pre hP hD hSS hU hW⟩⟩
  have hstk : (As.reverse ++ vR q :: rest).map (cv E ad) = (As.map (cv E ad)).reverse ++ .ref (ad q) :: rest.map (cv E ad) := by simp [cv]
  have hroom : 2 * (F0 m pc ls ((As.reverse ++ vR q :: rest).map (cv E ad))).monitorRoom + ((rest.map (cv E ad)).map fun v => v.category).sum ≤ 8 := lv_room (by rw [catA_sum]; exact hr)
  rcases hlk with hlk | ⟨host, hlk⟩
  · refine la_back C h1 h2 hD hSS (va_runV (As := As.map (cv E ad)) (n := na) hfix (hS E ad H.size) ⟨callB_of na ht (gw_good hmc) rfl rfl rfl (C.gw hmi) (C.gw hlk) hmd (room_ok hdd hmL), C.gw hv1, C.gw hv2⟩ hpre rfl (by simpa using hn) hl.1 hstk hroom hd ⟨Nat.zero_le _, Nat.zero_le _⟩) hl kk
  · refine la_back C h1 h2 hD hSS (va_runVN (As := As.map (cv E ad)) (n := na) hfix (hS E ad H.size) ⟨va_cnB na ht (gw_good hmc) rfl rfl rfl (C.ns _ hlk) (C.gw hmi) hmd (room_ok hdd hmL), C.gw hv1, C.gw hv2⟩ hpre rfl (by simpa using hn) hl.1 hstk hroom hd ⟨Nat.zero_le _, Nat.zero_le _⟩) hl kk
theorem v_callS {Mc : Mi} {dc na idx : Nat} {As rest st0 : List AV} {post : Pq} (hd : At M.2.1 pc (.invokestatic idx) 3 nx) (hlk : ML M.1.cls idx Mc.1) (hm : MI Mc na ∧ Cond.static Mc.1 ∈ GW) (hS : CG dc Mc As σ α post) (hdd : dc + 1 ≤ d) (hn : As.length = na) (hst : st0 = As.reverse ++ rest) (hr : (rest.map catA).sum ≤ 8)
    (kk : ∀ (r : Option AV) (σ' α' : St), post r σ' α' → V d M X 0 0 LA σ' α' nx lv (r.toList ++ rest)) : V d M X 0 0 LA σ α pc lv st0 := by
  obtain ⟨hd, rfl⟩ := hd
  obtain ⟨⟨hmc, hmi, hmd, hmL⟩, hv1⟩ := hm
  subst hst
  intro E ad0 ad p e s m below meth c H locs ls C h1 h2 hP hD hSS hl
  have ht := C.2.2.2.2.2.2.2.1
  have hfix : CallFix p m c M.2.1 M.2.2.1 s (X.2.2.1.map (cv E ad0)).toArray (wds M) M.1.cls := ⟨C.1, C.2.1, C.ml, C.own, ht⟩
  have hpre : PreS s H (va_Pc (As.map (cv E ad)) (PreW E LA ad σ α H.size)) (As.map (cv E ad)) :=
    ⟨PreW.blind, fun U hU hW => ⟨rfl, C.pre hP hD hSS hU hW⟩⟩
  have hstk : (As.reverse ++ rest).map (cv E ad) = (As.map (cv E ad)).reverse ++ rest.map (cv E ad) := by simp
  have hroom : 2 * (F0 m pc ls ((As.reverse ++ rest).map (cv E ad))).monitorRoom + ((rest.map (cv E ad)).map fun v => v.category).sum ≤ 8 := lv_room (by rw [catA_sum]; exact hr)
  rcases hlk with hlk | ⟨host, hlk⟩
  · refine la_back C h1 h2 hD hSS (va_runS (As := As.map (cv E ad)) (n := na) hfix (hS E ad H.size) ⟨callB_of na ht (gw_good hmc) rfl rfl rfl (C.gw hmi) (C.gw hlk) hmd (room_ok hdd hmL), C.gw hv1⟩ hpre rfl (by simpa using hn) hl.1 hstk hroom hd ⟨Nat.zero_le _, Nat.zero_le _⟩) hl kk
  · refine la_back C h1 h2 hD hSS (va_runSN (As := As.map (cv E ad)) (n := na) hfix (hS E ad H.size) ⟨va_cnB na ht (gw_good hmc) rfl rfl rfl (C.ns _ hlk) (C.gw hmi) hmd (room_ok hdd hmL), C.gw hv1, trivial⟩ hpre rfl (by simpa using hn) hl.1 hstk hroom hd ⟨Nat.zero_le _, Nat.zero_le _⟩) hl kk
/-- calls whose answer and world are known -/
theorem c_V1 {Mc : Mi} {dc na idx q ci N : Nat} {T : u_T} {cs : List Nat} {As rest st0 : List AV} {v : AV} {σ' α' : St} (hd : At M.2.1 pc (.invokevirtual idx) 3 nx) (hlk : ML M.1.cls idx Mc.1) (hm : MI Mc na ∧ MV Mc) (hS : CF dc Mc (vR q :: As) σ α (some v) σ' α') (hdd : dc + 1 ≤ d) (hn : As.length = na) (hL : LA[q]? = some (yO ci cs)) (hci : vwCl[ci]? = some (Mc.1.cls, T, N)) (hst : st0 = As.reverse ++ vR q :: rest) (hr : (rest.map catA).sum ≤ 8)
    (kk : V d M X 0 0 LA σ' α' nx lv (v :: rest)) : V d M X 0 0 LA σ α pc lv st0 :=
  v_callV hd hlk hm hS hdd hn hL hci hst hr (by rintro _ _ _ ⟨rfl, rfl, rfl⟩; exact kk)
theorem c_V0 {Mc : Mi} {dc na idx q ci N : Nat} {T : u_T} {cs : List Nat} {As rest st0 : List AV} {σ' α' : St} (hd : At M.2.1 pc (.invokevirtual idx) 3 nx) (hlk : ML M.1.cls idx Mc.1) (hm : MI Mc na ∧ MV Mc) (hS : CF dc Mc (vR q :: As) σ α none σ' α') (hdd : dc + 1 ≤ d) (hn : As.length = na) (hL : LA[q]? = some (yO ci cs)) (hci : vwCl[ci]? = some (Mc.1.cls, T, N)) (hst : st0 = As.reverse ++ vR q :: rest) (hr : (rest.map catA).sum ≤ 8)
    (kk : V d M X 0 0 LA σ' α' nx lv rest) : V d M X 0 0 LA σ α pc lv st0 :=
  v_callV hd hlk hm hS hdd hn hL hci hst hr (by rintro _ _ _ ⟨rfl, rfl, rfl⟩; exact kk)
theorem c_S1 {Mc : Mi} {dc na idx : Nat} {As rest st0 : List AV} {v : AV} {σ' α' : St} (hd : At M.2.1 pc (.invokestatic idx) 3 nx) (hlk : ML M.1.cls idx Mc.1) (hm : MI Mc na ∧ Cond.static Mc.1 ∈ GW) (hS : CF dc Mc As σ α (some v) σ' α') (hdd : dc + 1 ≤ d) (hn : As.length = na) (hst : st0 = As.reverse ++ rest) (hr : (rest.map catA).sum ≤ 8)
    (kk : V d M X 0 0 LA σ' α' nx lv (v :: rest)) : V d M X 0 0 LA σ α pc lv st0 :=
  v_callS hd hlk hm hS hdd hn hst hr (by rintro _ _ _ ⟨rfl, rfl, rfl⟩; exact kk)
theorem c_S0 {Mc : Mi} {dc na idx : Nat} {As rest st0 : List AV} {σ' α' : St} (hd : At M.2.1 pc (.invokestatic idx) 3 nx) (hlk : ML M.1.cls idx Mc.1) (hm : MI Mc na ∧ Cond.static Mc.1 ∈ GW) (hS : CF dc Mc As σ α none σ' α') (hdd : dc + 1 ≤ d) (hn : As.length = na) (hst : st0 = As.reverse ++ rest) (hr : (rest.map catA).sum ≤ 8)
    (kk : V d M X 0 0 LA σ' α' nx lv rest) : V d M X 0 0 LA σ α pc lv st0 :=
  v_callS hd hlk hm hS hdd hn hst hr (by rintro _ _ _ ⟨rfl, rfl, rfl⟩; exact kk)
end LAROWS
