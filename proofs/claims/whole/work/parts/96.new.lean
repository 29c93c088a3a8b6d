/-- rows of making: the world grows -/
def okV (n : Nat) : AV → Prop
  | .inr (.inl q) => q < n
  | _ => True
def okS (n : Nat) : List AV → Prop
  | [] => True
  | v :: vs => okV n v ∧ okS n vs
def okL (n : Nat) : List (Option AV) → Prop
  | [] => True
  | none :: vs => okL n vs
  | some v :: vs => okV n v ∧ okL n vs
theorem okV_cv {E : Ev} {ad ad' : Nat → Nat} {n : Nat} (had : ∀ j, j < n → ad' j = ad j) : ∀ {v : AV}, okV n v → cv E ad' v = cv E ad v
  | .inl _, _ => rfl
  | .inr (.inl q), h => by show Value.ref (ad' q) = .ref (ad q); rw [had q h]
  | .inr (.inr (.inl _)), _ => rfl
  | .inr (.inr (.inr 0)), _ => rfl
  | .inr (.inr (.inr (_ + 1))), _ => rfl
theorem okS_cv {E : Ev} {ad ad' : Nat → Nat} {n : Nat} (had : ∀ j, j < n → ad' j = ad j) : ∀ {st : List AV}, okS n st → st.map (cv E ad') = st.map (cv E ad)
  | [], _ => rfl
  | v :: vs, h => by rw [List.map_cons, List.map_cons, okV_cv had h.1, okS_cv had h.2]
theorem okL_at {n : Nat} : ∀ {lv : List (Option AV)} {i : Nat} {v : AV}, okL n lv → lv[i]? = some (some v) → okV n v
  | [], i, v, _, h => by simp at h
  | none :: vs, 0, v, _, h => by simp at h
  | none :: vs, i + 1, v, ho, h => okL_at (lv := vs) (i := i) ho (by simpa using h)
  | some w :: vs, 0, v, ho, h => by
    have e : w = v := by simpa using h
    rw [← e]; exact ho.1
  | some w :: vs, i + 1, v, ho, h => okL_at (lv := vs) (i := i) ho.2 (by simpa using h)
theorem LV.ad {E : Ev} {ad ad' : Nat → Nat} {n nL : Nat} {lv : List (Option AV)} {ls : Array Slot} (h : LV E ad nL lv ls) (ho : okL n lv) (had : ∀ j, j < n → ad' j = ad j) : LV E ad' nL lv ls :=
  ⟨h.1, h.2.1, fun i v hi => by rw [okV_cv had (okL_at ho hi)]; exact h.2.2 i v hi⟩
def wfY (n : Nat) : Ly → Bool
  | .inl _ => true
  | .inr (.inl (_, cs)) => cs.all (fun c => decide (c < n + 2))
  | .inr (.inr (_, cs)) => cs.all (fun c => decide (c < n + 2))
def wfL (L : List Ly) : Prop := ∀ y ∈ L, wfY L.length y = true
theorem wfY_m {n n' : Nat} (h : n ≤ n') : ∀ {y : Ly}, wfY n y = true → wfY n' y = true
  | .inl _, _ => rfl
  | .inr (.inl (_, cs)), hy => List.all_eq_true.mpr fun c hc => decide_eq_true (by have := of_decide_eq_true (List.all_eq_true.mp hy c hc); omega)
  | .inr (.inr (_, cs)), hy => List.all_eq_true.mpr fun c hc => decide_eq_true (by have := of_decide_eq_true (List.all_eq_true.mp hy c hc); omega)
theorem wfL.push {L : List Ly} (h : wfL L) {y : Ly} (hy : wfY L.length y = true) : wfL (L ++ [y]) := by
  intro z hz
  rw [List.length_append]
  rcases List.mem_append.mp hz with h1 | h1
  · exact wfY_m (by simp) (h z h1)
  · rw [List.mem_singleton.mp h1]; exact wfY_m (by simp) hy
theorem wfL.set {L : List Ly} (h : wfL L) {q : Nat} {y : Ly} (hy : wfY L.length y = true) : wfL (L.set q y) := by
  intro z hz
  rw [List.length_set]
  rcases List.mem_or_eq_of_mem_set hz with h1 | h1
  · exact h z h1
  · rw [h1]; exact hy
theorem fv_ad {ad ad' : Nat → Nat} {σ : St} {q k n : Nat} (had : ∀ j, j < n → ad' j = ad j) : ∀ {c : Nat}, c < n + 2 → fv ad' σ q k c = fv ad σ q k c
  | 0, _ => rfl
  | 1, _ => rfl
  | r + 2, h => by show Value.ref (ad' r) = .ref (ad r); rw [had r (by omega)]
theorem qv_ad {ad ad' : Nat → Nat} {n : Nat} (had : ∀ j, j < n → ad' j = ad j) : ∀ {c : Nat}, c < n + 2 → qv ad' c = qv ad c
  | 0, _ => rfl
  | 1, _ => rfl
  | r + 2, h => by show some (ad' r) = some (ad r); rw [had r (by omega)]
theorem all_at {n : Nat} {cs : List Nat} (h : cs.all (fun c => decide (c < n + 2)) = true) (j : Nat) : cs.getD j 1 < n + 2 := by
  rw [List.getD_eq_getElem?_getD]
  cases hj : cs[j]? with
  | none => show 1 < n + 2; omega
  | some c => exact of_decide_eq_true (List.all_eq_true.mp h c (List.mem_of_getElem? hj))
theorem ce_ad {K : Nat → ClassId} {ad ad' : Nat → Nat} {σ α : St} {q n : Nat} (had : ∀ j, j < n → ad' j = ad j) : ∀ {y : Ly}, wfY n y = true → ce K ad' σ α q y = ce K ad σ α q y
  | .inl (t, m), _ => rfl
  | .inr (.inl (t, cs)), h => by
    have h : cs.all (fun c => decide (c < n + 2)) = true := h
    simp only [ce, qv_ad had (all_at h _)]
  | .inr (.inr (ci, cs)), h => by
    have h : cs.all (fun c => decide (c < n + 2)) = true := h
    simp only [ce, fv_ad had (all_at h _)]
theorem mW_ad {L : List Ly} (hw : wfL L) (K : Nat → ClassId) {ad ad' : Nat → Nat} (σ α : St) (had : ∀ j, j < L.length → ad' j = ad j) : mW L K ad' σ α = mW L K ad σ α := by
  unfold mW
  apply List.map_congr_left
  intro q hq
  have hq : q < L.length := List.mem_range.mp hq
  have hy : wfY L.length (L.getD q (yA 0 0)) = true := by
    rw [List.getD_eq_getElem?_getD, List.getElem?_eq_getElem hq]
    exact hw _ (List.getElem_mem hq)
  rw [had q hq, ce_ad had hy]
theorem mW_push (L : List Ly) (y : Ly) (K : Nat → ClassId) (ad : Nat → Nat) (σ α : St) : mW (L ++ [y]) K ad σ α = mW L K ad σ α ++ [(ad L.length, ce K ad σ α L.length y)] := by
  unfold mW
  rw [List.length_append, List.length_singleton, List.range_succ, List.map_append, List.map_singleton]
  congr 1
  · apply List.map_congr_left
    intro q hq
    have hq : q < L.length := List.mem_range.mp hq
    rw [List.getD_eq_getElem?_getD, List.getD_eq_getElem?_getD, List.getElem?_append_left hq]
  · rw [List.getD_eq_getElem?_getD, List.getElem?_append_right (Nat.le_refl _), Nat.sub_self]
    rfl
section NEWROWS
variable {d : Nat} {M : Mi} {X : Cx} {k n : Nat} {L : List Ly} {σ α : St} {pc nx : Nat} {lv : List (Option AV)} {st : List AV}
/-- behind a making: the new cell has its place -/
theorem v_grow {E : Ev} {ad0 ad : Nat → Nat} {p : Program} {e : Env} {s : State} {m : MethodId} {below : List Frame} {meth : Method} {c : Code} {locs : List Loc} {ls : Array Slot} {N q nF : Nat} {H1 : Heap} {y : Ly} {en : va_E}
    (C : Ctx M X E ad0 p s m meth c) (h1 : X.2.2.2.1 ≤ L.length) (h2 : ∀ j, j < X.2.2.2.1 ∨ L.length ≤ j → ad j = ad0 j) (hl : LV E ad M.2.2.1 lv ls) (hw : wfL L) (hN : L.length = N) (ho : okL N lv ∧ okS N st) (hy : wfY N y = true)
    (hen : ∀ ad' : Nat → Nat, ce E.2.2.1 ad' σ α N y = en)
    (hP1 : va_P E.2.1 vwCl (mW L E.2.2.1 ad σ α ++ [(q, en)]) H1) (hD1 : va_D (AA ad0 X.2.2.2.1 s.heap.size) (mW L E.2.2.1 ad σ α ++ [(q, en)])) (hS1 : va_S (AA ad0 X.2.2.2.1 s.heap.size) s.heap H1 locs)
    (kk : wfL (L ++ [y]) → V d M X (k + 1) (n + nF) (L ++ [y]) σ α nx lv (vR N :: st)) :
    W p E.1 e (rmd d X.1 X.2.1) s m (X.2.2.1.map (cv E ad0)).toArray below meth c H1 locs (k + 1) (n + nF) (MQ below (PostW E ad0 X.2.2.2.1 s.heap.size X.2.2.2.2) (X.2.2.1.map (cv E ad0)).toArray s X.1 X.2.1 (AA ad0 X.2.2.2.1 s.heap.size)) (F0 m nx ls (.ref q :: st.map (cv E ad))) := by
  subst hN
  have had : ∀ j, j < L.length → (fun j => if j = L.length then q else ad j) j = ad j := fun j hj => if_neg (by omega)
  have hm : mW (L ++ [y]) E.2.2.1 (fun j => if j = L.length then q else ad j) σ α = mW L E.2.2.1 ad σ α ++ [(q, en)] := by
    rw [mW_push, mW_ad hw _ _ _ had, hen]
    rw [if_pos rfl]
  have kk' := kk (hw.push hy) E ad0 (fun j => if j = L.length then q else ad j) p e s m below meth c H1 locs ls C (by rw [List.length_append]; omega)
    (fun j hj => by
      rw [List.length_append, List.length_singleton] at hj
      show (if j = L.length then q else ad j) = ad0 j
      rw [if_neg (by omega)]
      exact h2 j (by omega))
    (by rw [hm]; exact hP1) (by rw [hm]; exact hD1) hS1 (hl.ad ho.1 had)
  have hst : (vR L.length :: st).map (cv E (fun j => if j = L.length then q else ad j)) = .ref q :: st.map (cv E ad) := by
    rw [List.map_cons, okS_cv had ho.2]
    show Value.ref (if L.length = L.length then q else ad L.length) :: _ = _
    rw [if_pos rfl]
  rw [hst] at kk'
  exact kk'
theorem v_new {idx ci N NF : Nat} {C0 : String} {T : u_T} {cs : List Nat} (ty : Nat → FieldType) (hd : At M.2.1 pc (.new idx) 3 nx) (hc : vwCl[ci]? = some (C0, T, NF)) (hin : ∀ w ∈ u_ws C0 T NF, w ∈ GW) (hty : ∀ k, k < NF → parseFieldDescriptor (T k).2.2.1 = some (ty k)) (hcl : Cond.classLink M.1.cls idx C0 ∈ GW) (hinst : Cond.instantiable C0 NF ∈ GW) (hini : Cond.initialized C0 ∈ GW)
    (hcs : cs.length = NF ∧ (∀ c ∈ cs, c < 2) ∧ ∀ j, j < NF → defaultValue (ty j) = if cs.getD j 1 = 0 then .int 0 else .null) (hw : wfL L) (hN : L.length = N) (hz : ∀ j, σ N j = 0) (hroom : k + 1 ≤ X.1 ∧ n + NF ≤ X.2.1) (ho : okL N lv ∧ okS N st)
    (kk : wfL (L ++ [yO ci cs]) → V d M X (k + 1) (n + NF) (L ++ [yO ci cs]) σ α nx lv (vR N :: st)) : V d M X k n L σ α pc lv st := by
  obtain ⟨hd, rfl⟩ := hd
  intro E ad0 ad p e s m below meth c H locs ls C h1 h2 hP hD hS hl
  have hfv : ∀ (ad' : Nat → Nat) (j : Nat), fv ad' σ N j (cs.getD j 1) = if cs.getD j 1 = 0 then .int 0 else .null := by
    intro ad' j
    have hlt : cs.getD j 1 < 2 := by
      rw [List.getD_eq_getElem?_getD]
      cases hj : cs[j]? with
      | none => show 1 < 2; omega
      | some c => exact hcs.2.1 c (List.mem_of_getElem? hj)
    rcases (show cs.getD j 1 = 0 ∨ cs.getD j 1 = 1 by omega) with h | h
    · rw [h, if_pos rfl]; show Value.int (i32 (σ N j)) = _; rw [hz j]; rfl
    · rw [h, if_neg (by decide)]; rfl
  refine va_new (fs := (List.range cs.length).map (fun k => fv ad σ N k (cs.getD k 1))) C.1 C.2.1 C.gwa hin ty hty C.own (C.gw hcl) (C.gw hinst) (C.gw hini) C.K hP hD hS (fun q hq => Or.inr hq) hc (fun j hj => ?_) hroom.1 hroom.2 hd (fun q H1 hP1 hD1 hS1 => ?_)
  · have hat : ((List.range cs.length).map (fun k => fv ad σ N k (cs.getD k 1)))[j]? = some (fv ad σ N j (cs.getD j 1)) := by
      rw [List.getElem?_map, List.getElem?_range (by omega)]; rfl
    rw [hcs.2.2 j hj, ← hfv ad j]
    exact (Option.some.inj (by
      show some (List.getD _ j Value.null) = some _
      rw [show List.getD ((List.range cs.length).map (fun k => fv ad σ N k (cs.getD k 1))) j Value.null = (((List.range cs.length).map (fun k => fv ad σ N k (cs.getD k 1)))[j]?).getD Value.null from List.getD_eq_getElem?_getD, hat]
      rfl)).symm
  · refine v_grow C h1 h2 hl hw hN ho ?_ (fun ad' => ?_) hP1 hD1 hS1 kk
    · exact List.all_eq_true.mpr fun c hc => decide_eq_true (by have := hcs.2.1 c hc; omega)
    · rw [ce_obj]
      congr 2
      apply List.map_congr_left
      intro j _
      rw [hfv, hfv]
theorem v_newI {N len : Nat} {z : Int} (hd : At M.2.1 pc (.newarray .int) 2 nx) (hw : wfL L) (hN : L.length = N) (hz : z = (len : Int) ∧ len ≤ 1000) (h0 : ∀ j, α N j = 0) (hroom : k + 1 ≤ X.1 ∧ n + len ≤ X.2.1) (ho : okL N lv ∧ okS N st)
    (kk : wfL (L ++ [yA 0 len]) → V d M X (k + 1) (n + len) (L ++ [yA 0 len]) σ α nx lv (vR N :: st)) : V d M X k n L σ α pc lv (vI z :: st) := by
  obtain ⟨hd, rfl⟩ := hd
  obtain ⟨rfl, hlen⟩ := hz
  intro E ad0 ad p e s m below meth c H locs ls C h1 h2 hP hD hS hl
  refine va_newa (a0 := (len, .inl (fun j => i32 (α N j)))) (ty := .int) C.1 C.2.1 (C.gw (gw_t 42 (by decide +kernel) rfl)) rfl C.K hP hD hS (fun q hq => Or.inr hq) (fun cA => ?_) ?_ (i32_cl (by omega) (by omega)) ?_ hroom.1 hroom.2 hd (fun q cA H1 hK1 hP1 hD1 hS1 => ?_)
  · show arrV cA len (fun j => .int (i32 (α N j))) = _
    congr 1
    funext j
    rw [h0 j]; rfl
  · intro h
    rw [show (0 : Int32) = i32 0 from rfl, i32_lt ⟨⟨by omega, by omega⟩, ⟨by omega, by omega⟩⟩] at h
    omega
  · show len * 4 ≤ _; omega
  · have e0 : s.vm.findClass _ = some _ := (C.K.2 0 _ rfl).2
    have e1 : s.vm.findClass _ = some _ := (hK1.2 4 _ rfl).2
    have e2 : E.2.2.1 0 = cA := Option.some.inj (e0.symm.trans e1)
    subst e2
    exact v_grow C h1 h2 hl hw hN ho rfl (fun ad' => rfl) hP1 hD1 hS1 kk
theorem v_newZ {N len : Nat} {z : Int} (hd : At M.2.1 pc (.newarray .boolean) 2 nx) (hw : wfL L) (hN : L.length = N) (hz : z = (len : Int) ∧ len ≤ 1000) (h0 : ∀ j, α N j = 0) (hroom : k + 1 ≤ X.1 ∧ n + len ≤ X.2.1) (ho : okL N lv ∧ okS N st)
    (kk : wfL (L ++ [yA 1 len]) → V d M X (k + 1) (n + len) (L ++ [yA 1 len]) σ α nx lv (vR N :: st)) : V d M X k n L σ α pc lv (vI z :: st) := by
  obtain ⟨hd, rfl⟩ := hd
  obtain ⟨rfl, hlen⟩ := hz
  intro E ad0 ad p e s m below meth c H locs ls C h1 h2 hP hD hS hl
  refine va_newa (a0 := (len, .inl (fun j => i32 (α N j)))) (ty := .boolean) C.1 C.2.1 (C.gw (gw_t 216 (by decide +kernel) rfl)) rfl C.K hP hD hS (fun q hq => Or.inr hq) (fun cA => ?_) ?_ (i32_cl (by omega) (by omega)) ?_ hroom.1 hroom.2 hd (fun q cA H1 hK1 hP1 hD1 hS1 => ?_)
  · show arrV cA len (fun j => .int (i32 (α N j))) = _
    congr 1
    funext j
    rw [h0 j]; rfl
  · intro h
    rw [show (0 : Int32) = i32 0 from rfl, i32_lt ⟨⟨by omega, by omega⟩, ⟨by omega, by omega⟩⟩] at h
    omega
  · show len * 1 ≤ _; omega
  · have e0 : s.vm.findClass _ = some _ := (C.K.2 1 _ rfl).2
    have e1 : s.vm.findClass _ = some _ := (hK1.2 4 _ rfl).2
    have e2 : E.2.2.1 1 = cA := Option.some.inj (e0.symm.trans e1)
    subst e2
    exact v_grow C h1 h2 hl hw hN ho rfl (fun ad' => rfl) hP1 hD1 hS1 kk
theorem rep_at (len j : Nat) : (List.replicate len 1).getD j 1 = 1 := by
  rw [List.getD_eq_getElem?_getD, List.getElem?_replicate]
  split <;> rfl
theorem v_newQ {N len t idx : Nat} {z : Int} {C0 : String} (hd : At M.2.1 pc (.anewarray idx) 3 nx) (ht : (t = 2 ∧ C0 = RX0) ∨ (t = 3 ∧ C0 = RX1)) (hcl : Cond.classLink M.1.cls idx C0 ∈ GW) (hw : wfL L) (hN : L.length = N) (hz : z = (len : Int) ∧ len ≤ 1000) (hroom : k + 1 ≤ X.1 ∧ n + len ≤ X.2.1) (ho : okL N lv ∧ okS N st)
    (kk : wfL (L ++ [yQ t (List.replicate len 1)]) → V d M X (k + 1) (n + len) (L ++ [yQ t (List.replicate len 1)]) σ α nx lv (vR N :: st)) : V d M X k n L σ α pc lv (vI z :: st) := by
  obtain ⟨hd, rfl⟩ := hd
  obtain ⟨rfl, hlen⟩ := hz
  intro E ad0 ad p e s m below meth c H locs ls C h1 h2 hP hD hS hl
  have hao : va_AO C0 s := by
    rcases ht with ⟨-, rfl⟩ | ⟨-, rfl⟩
    · exact C.sx.2.2.2.2.1
    · exact C.sx.2.2.2.2.2
  refine va_newq C.1 C.2.1 C.own (C.gw hcl) hao C.K hP hD hS (fun q hq => Or.inr hq) ?_ (i32_cl (by omega) (by omega)) ?_ hroom.1 hroom.2 hd (fun q cA H1 hK1 hP1 hD1 hS1 => ?_)
  · intro h
    rw [show (0 : Int32) = i32 0 from rfl, i32_lt ⟨⟨by omega, by omega⟩, ⟨by omega, by omega⟩⟩] at h
    omega
  · show len * 4 ≤ _; omega
  · have hcA : E.2.2.1 t = cA := by
      rcases ht with ⟨rfl, rfl⟩ | ⟨rfl, rfl⟩
      · obtain ⟨_, _, _, _, _, e0⟩ := (C.K.2 2 _ rfl).2
        obtain ⟨_, _, _, _, _, e1⟩ := (hK1.2 4 _ rfl).2
        exact Option.some.inj (e0.symm.trans e1)
      · obtain ⟨_, _, _, _, _, e0⟩ := (C.K.2 3 _ rfl).2
        obtain ⟨_, _, _, _, _, e1⟩ := (hK1.2 4 _ rfl).2
        exact Option.some.inj (e0.symm.trans e1)
    subst hcA
    refine v_grow C h1 h2 hl hw hN ho ?_ (fun ad' => ?_) hP1 hD1 hS1 kk
    · exact List.all_eq_true.mpr fun c hc => decide_eq_true (by rw [List.eq_of_mem_replicate hc]; omega)
    · simp only [ce, rep_at, List.length_replicate]
      rfl
/-- a final field of an object that is being made -/
def FF (own : String) (idx ci f : Nat) : Prop := ∃ C T N ty, vwCl[ci]? = some (C, T, N) ∧ f < N ∧ (∀ w ∈ u_ws C T N, w ∈ GW) ∧ Cond.fieldLink own idx (T f).1 (T f).2.1 (T f).2.2.1 ∈ GW ∧ (T f).2.2.2 = true ∧ (T f).1 = own ∧ (∃ ty0 : Nat → FieldType, ∀ k, k < N → parseFieldDescriptor (T k).2.2.1 = some (ty0 k)) ∧ (∀ a, a < N → ∀ b, b < N → a ≠ b → (T a).2.1 ≠ (T b).2.1) ∧ parseFieldDescriptor (T f).2.2.1 = some ty ∧ ∀ a : Nat, narrow ty (.ref a) = .ref a ∧ fits ty (.ref a) = true
theorem fs_setR {ad : Nat → Nat} {q f r : Nat} {cs : List Nat} (hf : f < cs.length) : ((List.range cs.length).map (fun k => fv ad σ q k (cs.getD k 1))).set f (.ref (ad r)) = (List.range (cs.set f (r + 2)).length).map (fun k => fv ad σ q k ((cs.set f (r + 2)).getD k 1)) := by
  apply List.ext_getElem?
  intro j
  rw [List.getElem?_set, List.length_set]
  by_cases hj : f = j
  · subst hj
    rw [if_pos rfl, if_pos (by simpa using hf), List.getElem?_map, List.getElem?_range hf, Option.map_some, List.getD_eq_getElem?_getD, List.getElem?_set, if_pos rfl, if_pos hf]
    rfl
  · rw [if_neg hj, List.getElem?_map, List.getElem?_map]
    by_cases hj2 : j < cs.length
    · rw [List.getElem?_range hj2, Option.map_some, Option.map_some, show (cs.set f (r + 2)).getD j 1 = cs.getD j 1 by rw [List.getD_eq_getElem?_getD, List.getD_eq_getElem?_getD, List.getElem?_set, if_neg hj]]
    · rw [List.getElem?_eq_none (by simpa using hj2)]; rfl
theorem all_set {n f c : Nat} {cs : List Nat} (h : cs.all (fun c => decide (c < n + 2)) = true) (hc : c < n + 2) : (cs.set f c).all (fun c => decide (c < n + 2)) = true :=
  List.all_eq_true.mpr fun z hz => by
    rcases List.mem_or_eq_of_mem_set hz with h1 | h1
    · exact List.all_eq_true.mp h z h1
    · rw [h1]; exact decide_eq_true hc
theorem v_putR {q r ci f idx : Nat} {cs : List Nat} {L' : List Ly} (hd : At M.2.1 pc (.putfield idx) 3 nx) (hf : FF M.1.cls idx ci f) (hn : M.1.name = "<init>") (hw : wfL L) (hL : L[q]? = some (yO ci cs)) (hfl : f < cs.length) (hr : r < L.length) (hL' : L.set q (yO ci (cs.set f (r + 2))) = L') (kk : wfL L' → V d M X k n L' σ α nx lv st) : V d M X k n L σ α pc lv (vR r :: vR q :: st) := by
  obtain ⟨hd, rfl⟩ := hd
  obtain ⟨C0, T, N, ty, hcl, hk, hin, hlk, hfin, hdecl, ⟨ty0, hty⟩, hnm, hpd, hnf⟩ := hf
  subst hL'
  intro E ad0 ad p e s m below meth c H locs ls C h1 h2 hP hD hS hl
  have hq : q < L.length := (List.getElem?_eq_some_iff.mp hL).1
  have he := mW_get E.2.2.1 ad σ α hL
  rw [ce_obj] at he
  have hyw : cs.all (fun c => decide (c < L.length + 2)) = true := hw _ (List.mem_of_getElem? hL)
  have hset : (mW L E.2.2.1 ad σ α).set q (ad q, .inr (ci, ((List.range cs.length).map (fun k => fv ad σ q k (cs.getD k 1))).set f (.ref (ad r)))) = mW (L.set q (yO ci (cs.set f (r + 2)))) E.2.2.1 ad σ α := mW_setL hq (by rw [fs_setR hfl]; rfl) (fun _ _ _ => rfl)
  refine va_putF (v := .ref (ad r)) C.1 C.2.1 C.gwa hin ty0 hty hnm C.own C.K hP hD hS q he hcl f hk (C.gw hlk) (fun _ h => h) hfin (C.2.2.2.2.2.2.1.trans hn) hdecl hpd (hnf _).1 (hnf _).2 (by simpa using hfl) hd (fun H1 locs1 hP1 hD1 hS1 => ?_)
  rw [hset] at hP1 hD1
  exact kk (hw.set (all_set hyw (by omega))) E ad0 ad p e s m below meth c H1 locs1 ls C (by rw [List.length_set]; exact h1) (by rw [List.length_set]; exact h2) hP1 hD1 hS1 hl
theorem qv_set {ad : Nat → Nat} {i r : Nat} {cs : List Nat} (hi : i < cs.length) : va_up (fun j => qv ad (cs.getD j 1)) i (some (ad r)) = fun j => qv ad ((cs.set i (r + 2)).getD j 1) := by
  funext j
  by_cases hj : j = i
  · subst hj
    rw [List.getD_eq_getElem?_getD, List.getElem?_set, if_pos rfl, if_pos hi]
    simp [va_up, qv]
  · rw [List.getD_eq_getElem?_getD (l := cs.set i (r + 2)), List.getElem?_set, if_neg (Ne.symm hj), ← List.getD_eq_getElem?_getD]
    simp [va_up, hj]
theorem v_aast {q r t ci : Nat} {z : Int} {cs cs' : List Nat} {L' : List Ly} (hd : At M.2.1 pc .aastore 1 nx) (hw : wfL L) (hL : L[q]? = some (yQ t cs)) (ht : (t = 2 ∧ ci = 0) ∨ (t = 3 ∧ ci = 1)) (hr : L[r]? = some (yO ci cs')) (hz : 0 ≤ z ∧ z < cs.length ∧ cs.length ≤ 1000) (hL' : L.set q (yQ t (cs.set z.toNat (r + 2))) = L') (kk : wfL L' → V d M X k n L' σ α nx lv st) : V d M X k n L σ α pc lv (vR r :: vI z :: vR q :: st) := by
  obtain ⟨hd, rfl⟩ := hd
  subst hL'
  intro E ad0 ad p e s m below meth c H locs ls C h1 h2 hP hD hS hl
  have hq : q < L.length := (List.getElem?_eq_some_iff.mp hL).1
  have hrl : r < L.length := (List.getElem?_eq_some_iff.mp hr).1
  have hyw : cs.all (fun c => decide (c < L.length + 2)) = true := hw _ (List.mem_of_getElem? hL)
  have ha := mW_get E.2.2.1 ad σ α hL
  have hv := mW_get E.2.2.1 ad σ α hr
  rw [ce_obj] at hv
  have hset : (mW L E.2.2.1 ad σ α).set q (ad q, .inl (E.2.2.1 t, cs.length, .inr (.inr (.inr (.inr (va_up (fun j => qv ad (cs.getD j 1)) (i32 z).toNatClampNeg (some (ad r)))))))) = mW (L.set q (yQ t (cs.set z.toNat (r + 2)))) E.2.2.1 ad σ α := by
    refine mW_setL hq ?_ (fun _ _ _ => rfl)
    rw [i32_cl hz.1 (by omega), qv_set (by omega)]
    simp only [ce, List.length_set]
  have go : ∀ (H1 : Heap) (locs1 : List Loc), va_P E.2.1 vwCl ((mW L E.2.2.1 ad σ α).set q (ad q, .inl (E.2.2.1 t, cs.length, .inr (.inr (.inr (.inr (va_up (fun j => qv ad (cs.getD j 1)) (i32 z).toNatClampNeg (some (ad r))))))))) H1 → va_D (AA ad0 X.2.2.2.1 s.heap.size) ((mW L E.2.2.1 ad σ α).set q (ad q, .inl (E.2.2.1 t, cs.length, .inr (.inr (.inr (.inr (va_up (fun j => qv ad (cs.getD j 1)) (i32 z).toNatClampNeg (some (ad r))))))))) → va_S (AA ad0 X.2.2.2.1 s.heap.size) s.heap H1 locs1 → W p E.1 e (rmd d X.1 X.2.1) s m (X.2.2.1.map (cv E ad0)).toArray below meth c H1 locs1 k n (MQ below (PostW E ad0 X.2.2.2.1 s.heap.size X.2.2.2.2) (X.2.2.1.map (cv E ad0)).toArray s X.1 X.2.1 (AA ad0 X.2.2.2.1 s.heap.size)) (F0 m (pc + 1) ls (st.map (cv E ad))) := by
    intro H1 locs1 hP1 hD1 hS1
    rw [hset] at hP1 hD1
    exact kk (hw.set (all_set hyw (by omega))) E ad0 ad p e s m below meth c H1 locs1 ls C (by rw [List.length_set]; exact h1) (by rw [List.length_set]; exact h2) hP1 hD1 hS1 hl
  rcases ht with ⟨rfl, rfl⟩ | ⟨rfl, rfl⟩
  · exact va_astq (r := (RX0, TX0, 4)) C.1 C.2.1 C.K hP hD hS q 2 r 0 ha rfl hv rfl (i32_in hz.1 hz.2.1 (by omega)) hd go
  · exact va_astq (r := (RX1, TX1, 5)) C.1 C.2.1 C.K hP hD hS q 3 r 1 ha rfl hv rfl (i32_in hz.1 hz.2.1 (by omega)) hd go
theorem v_objI {q idx : Nat} (hd : At M.2.1 pc (.invokespecial idx) 3 nx) (hlk : Cond.methodLink M.1.cls idx Lib.objectInit ∈ GW) (hd1 : 1 ≤ d) (hr : (st.map catA).sum ≤ 8) (kk : V d M X k n L σ α nx lv st) : V d M X k n L σ α pc lv (vR q :: st) := by
  obtain ⟨hd, rfl⟩ := hd
  intro E ad0 ad p e s m below meth c H locs ls C h1 h2 hP hD hS hl
  have hroom : 2 * (F0 m pc ls ((vR q :: st).map (cv E ad))).monitorRoom + ((st.map (cv E ad)).map fun v => v.category).sum ≤ 8 := lv_room (by rw [catA_sum]; exact hr)
  exact W.objInit (a := ad q) (rest := st.map (cv E ad)) C.1 C.2.1 C.own (C.gw hlk) (C.gw (gw_t 24 (by decide +kernel) rfl)) (C.gw (gw_t 25 (by decide +kernel) rfl)) rfl (by rw [C.ml]; exact hl.1) rfl hd hd1 (by show _ ≤ 40 * d; omega) (kk E ad0 ad p e s m below meth c H locs ls C h1 h2 hP hD hS hl)
theorem room_okN {dc d maxL mc ms : Nat} (h : dc + 1 ≤ d) (hm : maxL ≤ 21) : (rmd dc mc ms).frames + 1 ≤ (rmd d X.1 X.2.1).frames ∧ 8 + (maxL + 11) + (rmd dc mc ms).locals ≤ (rmd d X.1 X.2.1).locals := by
  refine ⟨h, ?_⟩
  show 8 + (maxL + 11) + 40 * dc ≤ 40 * d
  omega
theorem v_callI {y : MethodName} {b : ByteArray} {ml dc na idx q mc ms N : Nat} {As rest st0 : List AV} {post : Pst} (hd : At M.2.1 pc (.invokespecial idx) 3 nx) (hlk : ML M.1.cls idx y) (hm : MI (y, b, ml, none) na ∧ Cond.instanceMethod y ∈ GW) (hy : y.name = "<init>") (hS : SS dc (y, b, ml, none) mc ms (vR q :: As) L σ α post) (hdd : dc + 1 ≤ d) (hn : As.length = na) (hst : st0 = As.reverse ++ vR q :: rest) (hr : (rest.map catA).sum ≤ 8) (hroom : k + mc ≤ X.1 ∧ n + ms ≤ X.2.1) (hN : L.length = N) (ho : okL N lv ∧ okS N rest)
    (kk : ∀ (r : Option AV) (L' : List Ly) (σ' α' : St), post r L' σ' α' → V d M X (k + mc) (n + ms) L' σ' α' nx lv (r.toList ++ rest)) : V d M X k n L σ α pc lv st0 := by
  obtain ⟨hd, rfl⟩ := hd
  obtain ⟨⟨hmc, hmi, hmd, hmL⟩, hv1⟩ := hm
  subst hst
  subst hN
  intro E ad0 ad p e s m below meth c H locs ls C h1 h2 hP hD hSS hl
  have ht := C.2.2.2.2.2.2.2.1
  have hfix : CallFix p m c M.2.1 M.2.2.1 s (X.2.2.1.map (cv E ad0)).toArray (wds M) M.1.cls := ⟨C.1, C.2.1, C.ml, C.own, ht⟩
  have hpre : PreS s H (va_Pc ((vR q :: As).map (cv E ad)) (PreW E L ad σ α H.size)) (.ref (ad q) :: As.map (cv E ad)) :=
    ⟨PreW.blind, fun U hU hW => ⟨rfl, C.pre hP hD hSS hU hW⟩⟩
  have hstk : (As.reverse ++ vR q :: rest).map (cv E ad) = (As.map (cv E ad)).reverse ++ .ref (ad q) :: rest.map (cv E ad) := by simp [cv]
  have hrm : 2 * (F0 m pc ls ((As.reverse ++ vR q :: rest).map (cv E ad))).monitorRoom + ((rest.map (cv E ad)).map fun v => v.category).sum ≤ 8 := lv_room (by rw [catA_sum]; exact hr)
  have hwf : ∀ (r : Option AV) (L' : List Ly) (σ' α' : St) (ad' : Nat → Nat), post r L' σ' α' → L.length ≤ L'.length → (∀ j, j < L.length ∨ L'.length ≤ j → ad' j = ad j) → rest.map (cv E ad) = rest.map (cv E ad') ∧ LV E ad' M.2.2.1 lv ls := fun r L' σ' α' ad' _ _ had => ⟨(okS_cv (fun j hj => had j (Or.inl hj)) ho.2).symm, hl.ad ho.1 (fun j hj => had j (Or.inl hj))⟩
  rcases hlk with hlk | ⟨host, hlk⟩
  · exact v_back C h1 h2 hD hSS (va_runI (As := As.map (cv E ad)) (n := na) hfix (hS E ad H.size) ⟨callB_of na ht (gw_good (M' := (y, b, ml, none)) hmc) rfl rfl rfl (C.gw hmi) (C.gw hlk) hmd (room_okN hdd hmL), hy, C.gw hv1⟩ hpre rfl (by simpa using hn) hl.1 hstk hrm hd hroom) hl hwf kk
  · exact v_back C h1 h2 hD hSS (va_runIN (As := As.map (cv E ad)) (n := na) hfix (hS E ad H.size) ⟨va_cnB na ht (gw_good (M' := (y, b, ml, none)) hmc) rfl rfl rfl (C.ns _ hlk) (C.gw hmi) hmd (room_okN hdd hmL), hy, C.gw hv1⟩ hpre rfl (by simpa using hn) hl.1 hstk hrm hd hroom) hl hwf kk
end NEWROWS
