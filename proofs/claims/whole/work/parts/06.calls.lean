/-- the locals at the entry -/
def lvA : List AV → List (Option AV)
  | [] => []
  | .inr (.inr (.inl z)) :: vs => some (vL z) :: none :: lvA vs
  | v :: vs => some v :: lvA vs
theorem lvA_args (E : Ev) (ad : Nat → Nat) : ∀ (av : List AV) (b i : Nat) (v : AV), (lvA av)[i]? = some (some v) → (b + i, cv E ad v) ∈ lv_args b (av.map (cv E ad))
  | [], b, i, v, h => by simp [lvA] at h
  | .inr (.inr (.inl z)) :: vs, b, i, v, h => by
    match i with
    | 0 =>
      have h : some (some (vL z)) = some (some v) := h
      cases h
      exact List.mem_cons_self
    | 1 =>
      have h : some (none : Option AV) = some (some v) := h
      cases h
    | i + 2 =>
      have h : (lvA vs)[i]? = some (some v) := h
      refine List.mem_cons_of_mem _ ?_
      show _ ∈ lv_args (if (2 : Nat) = 2 then b + 2 else b + 1) (vs.map (cv E ad))
      rw [if_pos rfl, show b + (i + 2) = b + 2 + i by omega]
      exact lvA_args E ad vs (b + 2) i v h
  | .inl z :: vs, b, i, v, h => lvA_args1 E ad (.inl z) vs b i v (fun b i v h => lvA_args E ad vs b i v h) (by intro z h; cases h) h
  | .inr (.inl q) :: vs, b, i, v, h => lvA_args1 E ad (.inr (.inl q)) vs b i v (fun b i v h => lvA_args E ad vs b i v h) (by intro z h; cases h) h
  | .inr (.inr (.inr q)) :: vs, b, i, v, h => lvA_args1 E ad (.inr (.inr (.inr q))) vs b i v (fun b i v h => lvA_args E ad vs b i v h) (by intro z h; cases h) h
where
  lvA_args1 (E : Ev) (ad : Nat → Nat) (w : AV) (vs : List AV) (b i : Nat) (v : AV) (ih : ∀ (b i : Nat) (v : AV), (lvA vs)[i]? = some (some v) → (b + i, cv E ad v) ∈ lv_args b (vs.map (cv E ad))) (hw : ∀ z, w ≠ vL z) (h : (some w :: lvA vs)[i]? = some (some v)) : (b + i, cv E ad v) ∈ lv_args b ((w :: vs).map (cv E ad)) := by
    match i with
    | 0 =>
      have h : some (some w) = some (some v) := h
      cases h
      exact List.mem_cons_self
    | i + 1 =>
      have h : (lvA vs)[i]? = some (some v) := h
      refine List.mem_cons_of_mem _ ?_
      show _ ∈ lv_args (if (cv E ad w).category = 2 then b + 2 else b + 1) (vs.map (cv E ad))
      rw [cv_cat E ad w hw, if_neg (by decide), show b + (i + 1) = b + 1 + i by omega]
      exact ih (b + 1) i v h
theorem lvA_len (E : Ev) (ad : Nat → Nat) : ∀ av : List AV, (lg_sl (av.map (cv E ad))).length = (lvA av).length := by
  have key : ∀ (w : AV) (vs : List AV), (∀ z, w ≠ vL z) → (lg_sl (vs.map (cv E ad))).length = (lvA vs).length → (lg_sl ((w :: vs).map (cv E ad))).length = (lvA vs).length + 1 := by
    intro w vs hw ih
    unfold lg_sl at ih ⊢
    simp only [List.map_cons, List.flatMap_cons, List.length_append, ih, cv_cat E ad w hw]
    simp; omega
  intro av
  induction av with
  | nil => rfl
  | cons w vs ih =>
    match w with
    | .inr (.inr (.inl z)) =>
      unfold lg_sl at ih ⊢
      simp only [List.map_cons, List.flatMap_cons, List.length_append, ih]
      simp [cv, Value.category, lvA]; omega
    | .inl z => exact key _ vs (by intro z h; cases h) ih
    | .inr (.inl q) => exact key _ vs (by intro z h; cases h) ih
    | .inr (.inr (.inr q)) => exact key _ vs (by intro z h; cases h) ih
theorem AA_D {ad : Nat → Nat} {L : List Ly} {K : Nat → ClassId} {σ α : St} {sz : Nat} {A : Nat → Prop} (h : va_D A (mW L K ad σ α)) : va_D (AA ad L.length sz) (mW L K ad σ α) := by
  refine ⟨h.1, fun k q hk => ?_⟩
  obtain ⟨y, hy, rfl⟩ := mW_inv hk
  exact Or.inl ⟨k, (List.getElem?_eq_some_iff.mp hy).1, rfl⟩
/-- a contract out of a walk -/
theorem SS.of {d : Nat} {M : Mi} {mc ms : Nat} {av : List AV} {L : List Ly} {σ α : St} {post : Pst} {lv : List (Option AV)} (hy : plainName M.1.cls = true) (hlen : (lvA av).length ≤ M.2.2.1) (hlv : lvA av ++ List.replicate (M.2.2.1 - (lvA av).length) none = lv)
    (kk : V d M (mc, ms, av, L.length, post) 0 0 L σ α 0 lv []) : SS d M mc ms av L σ α post := by
  intro E ad sz
  refine Met.ofW (cc := M.2.1) (maxL := M.2.2.1) (ret := M.2.2.2) hy rfl ?_
  intro p e s m args below meth c s₁ B hml hv
  obtain ⟨rfl, hsz, hP, hK, hD0, hN, hX⟩ := hv
  have hts := atoms_spec (ws := wds M) B.pre
  have hown : s.vm.findClass M.1.cls = some m.cls := findClass_of_methodNamed B.named
  subst hsz
  have hl := lv_entry (av.map (cv E ad)) (n := M.2.2.1) (by rw [lvA_len]; exact hlen)
  rw [lg_entry_eq]
  refine kk E ad ad p e s m below meth c s.heap [] _ ⟨B.exec, B.bytes, B.returns, B.notSynchronized, hml, hown, (name_of_methodNamed B.named B.method).1, hts, hK, hN, hX⟩ (Nat.le_refl _) (fun _ _ => rfl) hP (AA_D hD0) va_S.rf ⟨hl.1, hl.2.1, fun i v hi => ?_⟩
  have hi2 : (lvA av)[i]? = some (some v) := by
    rw [← hlv] at hi
    by_cases h : i < (lvA av).length
    · rwa [List.getElem?_append_left h] at hi
    · rw [List.getElem?_append_right (by omega)] at hi
      rw [List.getElem?_replicate] at hi
      split at hi <;> cases hi
  have := lvA_args E ad av 0 i v hi2
  rw [Nat.zero_add] at this
  exact hl.2.2 (i, cv E ad v) this
/-- what a method must be to be called -/
def MI (M : Mi) (na : Nat) : Prop := Cond.code M.1 M.2.1 M.2.2.1 M.2.2.2 ∈ GW ∧ Cond.initialized M.1.cls ∈ GW ∧ (M.1.cls ≠ "java/lang/invoke/MethodHandle" ∧ M.1.cls ≠ "java/lang/invoke/VarHandle" ∧ (parseMethodDescriptor M.1.desc).map (fun d => d.parameters.length) = some na) ∧ M.2.2.1 ≤ 21
def MV (M : Mi) : Prop := Cond.instanceMethod M.1 ∈ GW ∧ Cond.selects M.1.cls M.1 M.1 ∈ GW
def ML (own : String) (idx : Nat) (y : MethodName) : Prop := Cond.methodLink own idx y ∈ GW ∨ ∃ host, Cond.methodLinkNest own idx y host ∈ NW
theorem PreW.blind {E : Ev} {L : List Ly} {ad : Nat → Nat} {σ α : St} {sz : Nat} {av : List Value} : FrameBlind (va_Pc av (PreW E L ad σ α sz)) := by
  intro a U g mk q
  obtain ⟨q0, q1, qP, qK, qD, qN, qX⟩ := q
  exact ⟨q0, q1, qP, va_K.moved (u := U) (U := U.calling g mk a) (Vm.Alike.refl U.vm) qK, qD, fun w hw => va_Nw.same (by have := (List.mem_filter.mp hw).2; match w, this with | .fieldLinkNest .., _ => rfl | .methodLinkNest .., _ => rfl) (u := U) rfl (qN w hw), qX.same (s := U) rfl⟩
section CALLS
variable {d : Nat} {M : Mi} {X : Cx} {k n : Nat} {L : List Ly} {σ α : St} {pc nx : Nat} {lv : List (Option AV)} {st : List AV}
theorem AA_sub {E : Ev} {ad0 ad : Nat → Nat} {n0 : Nat} {s : State} {H : Heap} {locs : List Loc} (hD : va_D (AA ad0 n0 s.heap.size) (mW L E.2.2.1 ad σ α)) (hS : va_S (AA ad0 n0 s.heap.size) s.heap H locs) : ∀ q, AA ad L.length H.size q → AA ad0 n0 s.heap.size q := by
  intro q h
  rcases h with ⟨j, hj, rfl⟩ | h
  · exact hD.2 j _ (mW_get E.2.2.1 ad σ α (List.getElem?_eq_getElem hj))
  · exact Or.inr (Nat.le_trans hS.1 h)
theorem Ctx.pre {E : Ev} {ad0 ad : Nat → Nat} {p : Program} {s : State} {m : MethodId} {meth : Method} {c : Code} {H : Heap} {locs : List Loc} (C : Ctx M X E ad0 p s m meth c) (hP : va_P E.2.1 vwCl (mW L E.2.2.1 ad σ α) H) (hD : va_D (AA ad0 X.2.2.2.1 s.heap.size) (mW L E.2.2.1 ad σ α)) (hS : va_S (AA ad0 X.2.2.2.1 s.heap.size) s.heap H locs) {U : State} (hU : U.heap = H) (hW : s.WarmedH U.vm) : PreW E L ad σ α H.size U := by
  refine ⟨by rw [hU], by rw [hU]; exact hP, va_K.moved hW.alike C.K, hD.weaken (fun _ _ _ _ => trivial), C.ns.warm hW, ?_⟩
  rw [hU]
  exact C.sx.go hW hS.2.1 (AA_sub hD hS)
/-- behind any call: the world that the callee leaves -/
theorem v_back {E : Ev} {ad0 ad : Nat → Nat} {p : Program} {e : Env} {s : State} {m : MethodId} {below : List Frame} {meth : Method} {c : Code} {H : Heap} {locs : List Loc} {ls : Array Slot} {mc ms : Nat} {st0 : List Value} {rest : List AV} {post : Pst} {a : Array Value}
    (C : Ctx M X E ad0 p s m meth c) (h1 : X.2.2.2.1 ≤ L.length) (h2 : ∀ j, j < X.2.2.2.1 ∨ L.length ≤ j → ad j = ad0 j) (hD : va_D (AA ad0 X.2.2.2.1 s.heap.size) (mW L E.2.2.1 ad σ α)) (hS : va_S (AA ad0 X.2.2.2.1 s.heap.size) s.heap H locs)
    (hr : va_Run p E.1 e (rmd d X.1 X.2.1) s m (X.2.2.1.map (cv E ad0)).toArray below meth c H locs k n mc ms (F0 m pc ls st0) (rest.map (cv E ad)) (PostW E ad L.length H.size post a) (AA ad L.length H.size))
    (hl : LV E ad M.2.2.1 lv ls)
    (hwf : ∀ (r : Option AV) (L' : List Ly) (σ' α' : St) (ad' : Nat → Nat), post r L' σ' α' → L.length ≤ L'.length → (∀ j, j < L.length ∨ L'.length ≤ j → ad' j = ad j) → rest.map (cv E ad) = rest.map (cv E ad') ∧ LV E ad' M.2.2.1 lv ls)
    (kk : ∀ (r : Option AV) (L' : List Ly) (σ' α' : St), post r L' σ' α' → V d M X (k + mc) (n + ms) L' σ' α' (pc + 3) lv (r.toList ++ rest)) :
    W p E.1 e (rmd d X.1 X.2.1) s m (X.2.2.1.map (cv E ad0)).toArray below meth c H locs k n (MQ below (PostW E ad0 X.2.2.2.1 s.heap.size X.2.2.2.2) (X.2.2.1.map (cv E ad0)).toArray s X.1 X.2.1 (AA ad0 X.2.2.2.1 s.heap.size)) (F0 m pc ls st0) := by
  intro T hT Y
  obtain ⟨v, st₀, t, T', L1, h0, Y', hL1, e1, e2, ⟨⟨r, L', ad', σ', α', hv, hp, hn, had, hP', hD'⟩, hz, hk⟩, go⟩ := hr T hT Y
  cases hv
  rw [h0] at hz hk
  have hsub := AA_sub hD hS
  obtain ⟨hrest, hl'⟩ := hwf r L' σ' α' ad' hp hn had
  have hS' : va_S (AA ad0 X.2.2.2.1 s.heap.size) s.heap T'.heap (locs ++ L1) := by
    refine ⟨Nat.le_trans hS.1 (by rw [e1]; exact hz), fun q g1 g2 => ?_, fun q hq => ?_⟩
    · rw [e1, hk q (Nat.lt_of_lt_of_le g1 hS.1) (fun z => g2 (hsub q z))]
      exact hS.2.1 q g1 g2
    · rcases List.mem_append.mp hq with h | h
      · exact hS.2.2 q h
      · exact hsub _ (hL1 q h)
  obtain ⟨t2, a1, b1⟩ := kk r L' σ' α' hp E ad0 ad' p e s m below meth c T'.heap (locs ++ L1) ls C (Nat.le_trans h1 hn)
    (fun j hj => by
      rcases hj with hj | hj
      · rw [had j (Or.inl (Nat.lt_of_lt_of_le hj h1)), h2 j (Or.inl hj)]
      · rw [had j (Or.inr hj), h2 j (Or.inr (Nat.le_trans hn hj))])
    (by rw [e1]; exact hP') (hD'.weaken (fun _ _ _ h => hsub _ h)) hS' hl' T' rfl Y'
  refine ⟨t2, go t2 ?_, b1⟩
  have hst : (r.map (cv E ad')).toList ++ rest.map (cv E ad) = (r.toList ++ rest).map (cv E ad') := by
    rw [hrest]
    cases r <;> simp
  show Steps _ _ _ (T'.setTop { method := m, pc := pc + 3, locals := ls, stack := (r.map (cv E ad')).toList ++ rest.map (cv E ad), locked := none }) t2
  rw [hst]
  exact a1
end CALLS
