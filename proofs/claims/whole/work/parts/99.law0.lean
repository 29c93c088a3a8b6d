/-! THE CLAIM OUT OF ONE WALK OF THE LAW'S BODY. Your part is whole_start (and what it stands on); all else here is the same for every law, but numbers. -/
def R_law : String := "FeedCheckLaw"
def lw_P (b : Addr) (xs : List Int32) (args : Array Value) (s : State) : Prop := args = #[.ref b] ∧ s.IntsAt b xs ∧ xs.length ≤ 2048 ∧ (Jvm.Cond.and given_1 narrow_1).before args s = true
def lw_Q (_ : Array Value) (s : State) (o : Outcome) (t : State) : Prop := o = .returned (some (.int 1)) ∧ Framed s o t [] 600000 7302250
def lw_Z (below : List Frame) (a : Array Value) (s : State) : State → Prop := fun t => ∃ o, t.status = .running ∧ Ended t below o ∧ lw_Q a s o t
/-- the law's own end, with 1 on the stack, nothing written that was there before, its room as the claim has it -/
theorem lw_ret {p : Program} {l : Launch} {e : Env} {s : State} {m : MethodId} {below : List Frame} {meth : Method} {c : Code} {b : Nat} (hx : p.tables.exec = Jvm.exec) (hb : c.code = code) (hr : meth.sig.returnType = ret) (hlocks : meth.locks = false) {pc : Nat} {H : Heap} {ls : Array Slot} (hdg : decode code pc = .ok (.ireturn, 1)) : W p l e room_1 s m #[Value.ref b] below meth c H [] 600000 7302250 (lw_Z below #[Value.ref b] s) (F0 m pc ls [.int 1]) := by
  intro T hT X
  obtain ⟨fs, hret, hrun, hended, hW, hframe⟩ := X.leave (v := some (.int 1)) (hlocks := hlocks) (fun h => by rw [hr] at h; cases h)
  have hmeth' : T.vm.method? m = some meth := X.method'
  refine ⟨T.setFrames fs, ?_, .returned (some (.int 1)), hrun, hended, rfl, ⟨_, rfl⟩, hW, hframe⟩
  jvm_step X.here [X.here.top, hx, hb, hdg, hmeth', hr, ret, narrow_b1]
  (try refine ⟨rfl, ?_⟩); (try refine ⟨rfl, ?_⟩)
  first | (intro acts; rw [hret _ acts rfl rfl rfl]) | rw [hret _ _ rfl rfl rfl]
  exact Steps.refl _
/-- what holds at the law's entry: the machine, the code, the tables' words (any of lw_tbl by 'hts w (by decide +kernel)'), the script of L ints xs at the cell b, what the Statement gives of the start (any of its parts by flat_of_before) -/
def lw_At (p : Program) (s : State) (m : MethodId) (meth : Method) (c : Code) (b L : Nat) (xs : Nat → Int32) : Prop :=
  p.tables.exec = Jvm.exec ∧ c.code = code ∧ meth.sig.returnType = ret ∧ c.maxLocals = 4 ∧ s.vm.findClass R_law = some m.cls ∧ (∀ w ∈ lw_tbl, w.before #[Value.ref b] s = true) ∧ va_X b L xs s s.heap ∧ b < s.heap.size ∧ meth.locks = false ∧ (Jvm.Cond.and given_1 narrow_1).before #[Value.ref b] s = true
theorem gw_in {p : Program} {s : State} {m : MethodId} {meth : Method} {c : Code} {b N : Nat} {xs : Nat → Int32} (C0 : lw_At p s m meth c b N xs) : ∀ w ∈ GW, w.before #[Value.ref b] s = true := fun w hw => C0.2.2.2.2.2.1 w (List.mem_filter.mp hw).1
theorem tb_in {p : Program} {s : State} {m : MethodId} {meth : Method} {c : Code} {b N : Nat} {xs : Nat → Int32} (C0 : lw_At p s m meth c b N xs) {w : Cond} (i : Nat) (h : tables_1[i]? = some w) : w.before #[Value.ref b] s = true := C0.2.2.2.2.2.1 w (List.mem_append_right _ (List.mem_of_getElem? h))
set_option maxHeartbeats 4000000 in
set_option maxRecDepth 100000 in
/-- the classes' numbers and slots -/
theorem lw_cls {p : Program} {s : State} {m : MethodId} {meth : Method} {c : Code} {b N : Nat} {xs : Nat → Int32} (C0 : lw_At p s m meth c b N xs) : ∃ D : va_G, ∀ (k : Nat) (q : vw_C), vwCl[k]? = some q → u_Kn s q.1 q.2.1 q.2.2 (D.1 k) (D.2 k) := by
  have hG := gw_in C0
  have h0 : ∀ k : Nat, ∃ z : ClassId × (Nat → Nat), ∀ q : vw_C, vwCl[k]? = some q → u_Kn s q.1 q.2.1 q.2.2 z.1 z.2 := by
    intro k
    match k with
    | 0 => obtain ⟨c, i, h⟩ := u_known (C := RX0) (T := TX0) (N := 4) (n := 4) hG uw0 (tb_in C0 219 (by decide +kernel)); exact ⟨(c, i), fun q hq => by cases hq; exact h⟩
    | 1 => obtain ⟨c, i, h⟩ := u_known (C := RX1) (T := TX1) (N := 5) (n := 5) hG uw1 (tb_in C0 50 (by decide +kernel)); exact ⟨(c, i), fun q hq => by cases hq; exact h⟩
    | 2 => obtain ⟨c, i, h⟩ := u_known (C := RX2) (T := TX2) (N := 3) (n := 3) hG uw2 (tb_in C0 157 (by decide +kernel)); exact ⟨(c, i), fun q hq => by cases hq; exact h⟩
    | 3 => obtain ⟨c, i, h⟩ := u_known (C := RX3) (T := TX3) (N := 9) (n := 9) hG uw3 (tb_in C0 177 (by decide +kernel)); exact ⟨(c, i), fun q hq => by cases hq; exact h⟩
    | 4 => obtain ⟨c, i, h⟩ := u_known (C := RX4) (T := TX4) (N := 8) (n := 8) hG uw4 (tb_in C0 44 (by decide +kernel)); exact ⟨(c, i), fun q hq => by cases hq; exact h⟩
    | 5 => obtain ⟨c, i, h⟩ := u_known (C := RX5) (T := TX5) (N := 7) (n := 7) hG uw5 (tb_in C0 126 (by decide +kernel)); exact ⟨(c, i), fun q hq => by cases hq; exact h⟩
    | 6 => obtain ⟨c, i, h⟩ := u_known (C := RX6) (T := TX6) (N := 2) (n := 2) hG uw6 (tb_in C0 27 (by decide +kernel)); exact ⟨(c, i), fun q hq => by cases hq; exact h⟩
    | 7 => obtain ⟨c, i, h⟩ := u_known (C := RX7) (T := TX7) (N := 10) (n := 10) hG uw7 (tb_in C0 19 (by decide +kernel)); exact ⟨(c, i), fun q hq => by cases hq; exact h⟩
    | 8 => obtain ⟨c, i, h⟩ := u_known (C := RX8) (T := TX8) (N := 25) (n := 25) hG uw8 (tb_in C0 760 (by decide +kernel)); exact ⟨(c, i), fun q hq => by cases hq; exact h⟩
    | k + 9 => exact ⟨(0, fun _ => 0), fun q hq => by simp at hq⟩
  obtain ⟨D, hD⟩ := Classical.axiomOfChoice h0
  exact ⟨(fun k => (D k).1, fun k => (D k).2), fun k q hq => hD k q hq⟩
/-- the array classes -/
theorem lw_arr {p : Program} {s : State} {m : MethodId} {meth : Method} {c : Code} {b N : Nat} {xs : Nat → Int32} (C0 : lw_At p s m meth c b N xs) : ∃ K : Nat → ClassId, ∀ (k : Nat) (q : ClassId × FieldType), (ty4 K)[k]? = some q → ArrOfT s q.1 q.2 ∧ va_RA s q.1 q.2 := by
  obtain ⟨cI, kI, oI, n1, n2, n3⟩ := Cond.arrayClass_spec (tb_in C0 (w := .arrayClass .int) 42 (by decide +kernel))
  obtain ⟨cZ, kZ, oZ, z1, z2, z3⟩ := Cond.arrayClass_spec (tb_in C0 (w := .arrayClass .boolean) 216 (by decide +kernel))
  obtain ⟨oB, cB, kB, b1, -, b3, b4, b5⟩ := Cond.arrayOver_spec (tb_in C0 (w := .arrayOver (.object RX0)) 218 (by decide +kernel))
  obtain ⟨oF, cF, kF, f1, -, f3, f4, f5⟩ := Cond.arrayOver_spec (tb_in C0 (w := .arrayOver (.object RX1)) 163 (by decide +kernel))
  refine ⟨fun t => if t = 0 then cI else if t = 1 then cZ else if t = 2 then cB else cF, fun k q hq => ?_⟩
  match k, hq with
  | 0, hq => cases hq; exact ⟨fun n z => ⟨fun k h => (by cases h), kI, n2, oI, n3⟩, n1⟩
  | 1, hq => cases hq; exact ⟨fun n z => ⟨fun k h => (by cases h), kZ, z2, oZ, z3⟩, z1⟩
  | 2, hq => cases hq; exact ⟨fun n z => ⟨fun k h => (by cases h), kB, b3, oB, b4⟩, kB, oB, b3, b4, b1, b5⟩
  | 3, hq => cases hq; exact ⟨fun n z => ⟨fun k h => (by cases h), kF, f3, oF, f4⟩, kF, oF, f3, f4, f1, f5⟩
  | k + 4, hq => simp [ty4] at hq
theorem lw_ns {p : Program} {s : State} {m : MethodId} {meth : Method} {c : Code} {b N : Nat} {xs : Nat → Int32} (C0 : lw_At p s m meth c b N xs) : NS s := by
  intro w hw
  obtain ⟨h1, h2⟩ := List.mem_filter.mp hw
  have h3 := C0.2.2.2.2.2.1 w (List.mem_append_right _ h1)
  exact va_Nw.of (by match w, h2 with | .fieldLinkNest .., _ => rfl | .methodLinkNest .., _ => rfl) h3
def lw_tm (i : Nat) : Term := .string RX5 (sxI.getD i 0)
set_option maxHeartbeats 4000000 in
set_option maxRecDepth 100000 in
/-- the texts -/
theorem lw_txt {p : Program} {s : State} {m : MethodId} {meth : Method} {c : Code} {b N : Nat} {xs : Nat → Int32} (C0 : lw_At p s m meth c b N xs) {A : Nat → Prop} (hA : ∀ a : Nat, a < s.heap.size → ¬ A a) : ∃ adK adV : Nat → Nat, vk_S 6 sxN sxB adK adV A s s.heap ∧ ∀ i : Nat, i < 6 → (lw_tm i).eval #[Value.ref b] s none [] s = some (.ref (adK i)) := by
  have hs := flat_of_before _ C0.2.2.2.2.2.2.2.2.2
  refine vk_Sof (tm := lw_tm) (by decide) ?_ ?_ ?_ ?_ ?_ ?_ hA
  · intro i hi
    match i, hi with
    | 0, _ => exact hs _ (by decide +kernel)
    | 1, _ => exact hs _ (by decide +kernel)
    | 2, _ => exact hs _ (by decide +kernel)
    | 3, _ => exact hs _ (by decide +kernel)
    | 4, _ => exact hs _ (by decide +kernel)
    | 5, _ => exact hs _ (by decide +kernel)
    | i + 6, h => exact absurd h (by omega)
  · intro i hi
    match i, hi with
    | 0, _ => exact hs _ (by decide +kernel)
    | 1, _ => exact hs _ (by decide +kernel)
    | 2, _ => exact hs _ (by decide +kernel)
    | 3, _ => exact hs _ (by decide +kernel)
    | 4, _ => exact hs _ (by decide +kernel)
    | 5, _ => exact hs _ (by decide +kernel)
    | i + 6, h => exact absurd h (by omega)
  · intro i hi
    match i, hi with
    | 0, _ => exact hs _ (by decide +kernel)
    | 1, _ => exact hs _ (by decide +kernel)
    | 2, _ => exact hs _ (by decide +kernel)
    | 3, _ => exact hs _ (by decide +kernel)
    | 4, _ => exact hs _ (by decide +kernel)
    | 5, _ => exact hs _ (by decide +kernel)
    | i + 6, h => exact absurd h (by omega)
  · intro i hi
    match i, hi with
    | 0, _ => exact hs _ (by decide +kernel)
    | 1, _ => exact hs _ (by decide +kernel)
    | 2, _ => exact hs _ (by decide +kernel)
    | 3, _ => exact hs _ (by decide +kernel)
    | 4, _ => exact hs _ (by decide +kernel)
    | 5, _ => exact hs _ (by decide +kernel)
    | i + 6, h => exact absurd h (by omega)
  · intro i hi j hj
    have key : ∀ i, i < 6 → ∀ j, j < sxN.getD i 0 → Cond.eq (.elem (.field (lw_tm i) "java/lang/String" "value" "[B") (.int (Int32.ofNat j))) (.int ((sxB.getD i []).getD j 0)) ∈ flatC (Jvm.Cond.and given_1 narrow_1) := by decide +kernel
    exact hs _ (key i hi j hj)
  · intro i j hi hj hij
    have key : ∀ i, i < 6 → ∀ j, j < 6 → i ≠ j → Cond.not (Cond.eq (lw_tm i) (lw_tm j)) ∈ flatC (Jvm.Cond.and given_1 narrow_1) ∨ Cond.not (Cond.eq (lw_tm j) (lw_tm i)) ∈ flatC (Jvm.Cond.and given_1 narrow_1) := by decide +kernel
    exact (key i hi j hj hij).elim (fun h => Or.inl (hs _ h)) (fun h => Or.inr (hs _ h))
set_option maxHeartbeats 4000000 in
set_option maxRecDepth 100000 in
/-- the surroundings of the law -/
theorem lw_env {p : Program} {s : State} {m : MethodId} {meth : Method} {c : Code} {b N : Nat} {xs : Nat → Int32} (l : Launch) (ad0 : Nat → Nat) (C0 : lw_At p s m meth c b N xs) : ∃ E : Ev, E.1 = l ∧ E.2.2.2.2 7 = b ∧ va_K E.2.1 vwCl (ty4 E.2.2.1) s ∧ NS s ∧ SX E (AA ad0 0 s.heap.size) s s.heap := by
  obtain ⟨D, hD⟩ := lw_cls C0
  obtain ⟨K, hK⟩ := lw_arr C0
  have hA : ∀ a : Nat, a < s.heap.size → ¬ AA ad0 0 s.heap.size a := fun a ha h => by
    rcases h with ⟨j, hj, -⟩ | h
    · omega
    · omega
  obtain ⟨adK, adV, hS, hT⟩ := lw_txt C0 hA
  have hs := flat_of_before _ C0.2.2.2.2.2.2.2.2.2
  obtain ⟨v, hv, hr⟩ := Cond.isRef_spec (hs (Cond.isRef (.static "jdk/internal/util/Preconditions" "SIOOBE_FORMATTER" "Ljava/util/function/BiFunction;")) (by decide +kernel))
  obtain ⟨fm, hfm⟩ : ∃ fm : Nat, v = .ref fm ∨ v = .null := by
    cases v with
    | ref a => exact ⟨a, Or.inl rfl⟩
    | null => exact ⟨0, Or.inr rfl⟩
    | _ => cases hr
  refine ⟨(l, D, K, adK, fun i => if i = 6 then fm else if i = 7 then b else adV i), rfl, rfl, ⟨hD, hK⟩, lw_ns C0, ?_, fun i hi => ?_, ?_, ?_, ?_, ?_⟩
  · refine ⟨fun i hi => ?_, hS.2⟩
    have h := hS.1 i hi
    show va_O "java/lang/String" (adK i) _ s s.heap ∧ va_OF "java/lang/String" "coder" "B" (.int 0) (adK i) _ s s.heap ∧ va_OF "java/lang/String" "value" "[B" (.ref (if i = 6 then fm else if i = 7 then b else adV i)) (adK i) _ s s.heap ∧ va_T .byte (if i = 6 then fm else if i = 7 then b else adV i) (sxN.getD i 0) (fun j => .int ((sxB.getD i []).getD j 0)) _ s s.heap
    rw [if_neg (by omega), if_neg (by omega)]
    exact h
  · have ht := hT i hi
    match i, hi, ht with
    | 0, _, ht => exact vk_R.of (tb_in C0 318 (by decide +kernel)) ht
    | 1, _, ht => exact vk_R.of (tb_in C0 382 (by decide +kernel)) ht
    | 2, _, ht => exact vk_R.of (tb_in C0 395 (by decide +kernel)) ht
    | 3, _, ht => exact vk_R.of (tb_in C0 404 (by decide +kernel)) ht
    | 4, _, ht => exact vk_R.of (tb_in C0 413 (by decide +kernel)) ht
    | 5, _, ht => exact vk_R.of (tb_in C0 418 (by decide +kernel)) ht
    | i + 6, h, _ => exact absurd h (by omega)
  · exact va_Zof (tb_in C0 332 (by decide +kernel)) (tb_in C0 11 (by decide +kernel)) (va_eqi (hs _ (by decide +kernel))) hA
  · rcases hfm with rfl | rfl
    · exact Or.inl (va_Zof (tb_in C0 348 (by decide +kernel)) (tb_in C0 13 (by decide +kernel)) hv hA)
    · exact Or.inr (va_Zof (tb_in C0 348 (by decide +kernel)) (tb_in C0 13 (by decide +kernel)) hv hA)
  · exact va_AO.of (tb_in C0 218 (by decide +kernel))
  · exact va_AO.of (tb_in C0 163 (by decide +kernel))
