/-! THE CLAIM OUT OF ONE WALK OF THE LAW'S BODY. Your part is whole_start (and what it stands on); all else here is the same for every law, but numbers. -/
def R_law : String := "CardBowlLaw"
def lw_P (b : Addr) (xs : List Int32) (args : Array Value) (s : State) : Prop := args = #[.ref b] ∧ s.IntsAt b xs ∧ xs.length ≤ 6 ∧ (Jvm.Cond.and given_1 narrow_1).before args s = true
def lw_Q (_ : Array Value) (s : State) (o : Outcome) (t : State) : Prop := o = .returned (some (.int 1)) ∧ Framed s o t [] 600000 7302250
def lw_Z (below : List Frame) (a : Array Value) (s : State) : State → Prop := fun t => ∃ o, t.status = .running ∧ Ended t below o ∧ lw_Q a s o t
/-- the law's own end, with 1 on the stack, nothing written that was there before, its room as the claim has it -/
theorem lw_ret {p : Program} {l : Launch} {e : Env} {s : State} {m : MethodId} {below : List Frame} {meth : Method} {c : Code} {b : Nat} (hx : p.tables.exec = Jvm.exec) (hb : c.code = code) (hr : meth.sig.returnType = ret) (hlocks : meth.locks = false) {pc : Nat} {H : Heap} {ls : Array Slot} (hdg : decode code pc = .ok (.ireturn, 1)) : W p l e room_1 s m #[Value.ref b] below meth c H [] 600000 7302250 (lw_Z below #[Value.ref b] s) (F0 m pc ls [.int 1]) := by
  intro T hT X
  obtain ⟨fs, hret, hrun, hended, hW, hframe⟩ := X.leave (v := some (.int 1)) (hlocks := hlocks) (fun h => by rw [hr] at h; cases h)
  have hmeth' : T.vm.method? m = some meth := X.method'
  refine ⟨T.setFrames fs, ?_, .returned (some (.int 1)), hrun, hended, rfl, ⟨_, rfl⟩, hW, hframe⟩
  jvm_step X.here [X.here.top, hx, hb, hdg, hmeth', hr, ret, narrow_b1]
  (try refine ⟨rfl, ?_⟩); (try refine ⟨rfl, ?_⟩)
  first | (intro acts; rw [hret _ acts rfl rfl rfl]) | rw [hret _ _ rfl rfl rfl]
  exact Steps.refl _
/-- what holds at the law's entry: the machine, the code, the tables' words (any of lw_tbl by 'hts w (by decide +kernel)'), the script of L ints xs at the cell b, what the Statement gives of the start (any of its parts by flat_of_before) -/
def lw_At (p : Program) (s : State) (m : MethodId) (meth : Method) (c : Code) (b L : Nat) (xs : Nat → Int32) : Prop :=
  p.tables.exec = Jvm.exec ∧ c.code = code ∧ meth.sig.returnType = ret ∧ c.maxLocals = 4 ∧ s.vm.findClass R_law = some m.cls ∧ (∀ w ∈ lw_tbl, w.before #[Value.ref b] s = true) ∧ va_X b L xs s s.heap ∧ b < s.heap.size ∧ meth.locks = false ∧ (Jvm.Cond.and given_1 narrow_1).before #[Value.ref b] s = true
theorem ap_byte {args : Array Value} {s : State} (h : (Cond.arrayClass .byte).before args s = true) : ∃ cA, ArrOfT s cA .byte ∧ va_RA s cA .byte := by
  obtain ⟨cA, kA, comp, h1, h2, h3⟩ := Cond.arrayClass_spec h
  exact ⟨cA, fun n z => ⟨fun k h => (by cases h), kA, h2, comp, h3⟩, h1⟩
theorem ap_int {args : Array Value} {s : State} (h : (Cond.arrayClass .int).before args s = true) : ∃ cA, ArrOfT s cA .int ∧ va_RA s cA .int := by
  obtain ⟨cA, kA, comp, h1, h2, h3⟩ := Cond.arrayClass_spec h
  exact ⟨cA, fun n z => ⟨fun k h => (by cases h), kA, h2, comp, h3⟩, h1⟩
theorem ap_long {args : Array Value} {s : State} (h : (Cond.arrayClass .long).before args s = true) : ∃ cA, ArrOfT s cA .long ∧ va_RA s cA .long := by
  obtain ⟨cA, kA, comp, h1, h2, h3⟩ := Cond.arrayClass_spec h
  exact ⟨cA, fun n z => ⟨fun k h => (by cases h), kA, h2, comp, h3⟩, h1⟩
theorem ap_boolean {args : Array Value} {s : State} (h : (Cond.arrayClass .boolean).before args s = true) : ∃ cA, ArrOfT s cA .boolean ∧ va_RA s cA .boolean := by
  obtain ⟨cA, kA, comp, h1, h2, h3⟩ := Cond.arrayClass_spec h
  exact ⟨cA, fun n z => ⟨fun k h => (by cases h), kA, h2, comp, h3⟩, h1⟩
theorem ap_q {C : String} {args : Array Value} {s : State} (h : (Cond.arrayOver (.object C)).before args s = true) : ∃ cA, ArrOfT s cA (.object C) ∧ va_RA s cA (.object C) := by
  obtain ⟨comp, cA, kA, h1, h2, h3, h4, h5⟩ := Cond.arrayOver_spec h
  exact ⟨cA, fun n z => ⟨fun k h => (by cases h), kA, h3, comp, h4⟩, kA, comp, h3, h4, h1, h5⟩
def lawC (p : Program) (s : State) (m : MethodId) (meth : Method) (c : Code) (b : Nat) (xs : Nat → Int32) (A : Nat → Prop) (G : va_G) (y : Nat → ClassId) : Prop := p.tables.exec = Jvm.exec ∧ c.code = cL_law ∧ meth.sig.returnType = ret ∧ c.maxLocals = 4 ∧ s.vm.findClass RL = some m.cls ∧ (∀ w ∈ wAll, w.before #[Value.ref b] s = true) ∧ va_X b 6 xs s s.heap ∧ b < s.heap.size ∧ ¬ A b ∧ (∀ q : Nat, s.heap.size ≤ q → A q) ∧ (∀ q : Nat, A q → s.heap.size ≤ q) ∧ meth.locks = false ∧ kk G y s
set_option maxRecDepth 20000 in
theorem n_a0 : Cond.arrayClass .byte ∈ lw_tbl := tb_1 _ (List.mem_of_getElem? (i := 109) (by decide +kernel))
set_option maxRecDepth 20000 in
theorem n_a1 : Cond.arrayClass .int ∈ lw_tbl := tb_1 _ (List.mem_of_getElem? (i := 110) (by decide +kernel))
set_option maxRecDepth 20000 in
theorem n_a2 : Cond.arrayClass .long ∈ lw_tbl := tb_2 _ (List.mem_of_getElem? (i := 202) (by decide +kernel))
set_option maxRecDepth 20000 in
theorem n_a3 : Cond.arrayClass .boolean ∈ lw_tbl := tb_6 _ (List.mem_of_getElem? (i := 57) (by decide +kernel))
set_option maxRecDepth 20000 in
theorem n_a4 : Cond.arrayOver (.object "CardBowl$Slot") ∈ lw_tbl := tb_2 _ (List.mem_of_getElem? (i := 70) (by decide +kernel))
set_option maxRecDepth 20000 in
theorem n_a5 : Cond.arrayOver (.object "CardBowl$State") ∈ lw_tbl := tb_2 _ (List.mem_of_getElem? (i := 68) (by decide +kernel))
set_option maxRecDepth 20000 in
theorem n_n11 : Cond.methodLinkNest RX6 34 yX2_init "CardBowl" ∈ lw_tbl := tb_2 _ (List.mem_of_getElem? (i := 5) (by decide +kernel))
set_option maxRecDepth 20000 in
theorem n_n10 : Cond.methodLinkNest RX6 27 yX1_init "CardBowl" ∈ lw_tbl := tb_1 _ (List.mem_of_getElem? (i := 205) (by decide +kernel))
set_option maxRecDepth 20000 in
theorem n_n9 : Cond.methodLinkNest RX6 20 yX0_init "CardBowl" ∈ lw_tbl := tb_1 _ (List.mem_of_getElem? (i := 202) (by decide +kernel))
set_option maxRecDepth 20000 in
theorem n_n8 : Cond.methodLinkNest RX6 11 yX7_init "CardBowl" ∈ lw_tbl := tb_1 _ (List.mem_of_getElem? (i := 200) (by decide +kernel))
set_option maxRecDepth 20000 in
theorem n_n7 : Cond.methodLinkNest RX3 20 yX0_init "CardBowl" ∈ lw_tbl := tb_1 _ (List.mem_of_getElem? (i := 113) (by decide +kernel))
set_option maxRecDepth 20000 in
theorem n_n6 : Cond.methodLinkNest RX3 11 yX7_init "CardBowl" ∈ lw_tbl := tb_1 _ (List.mem_of_getElem? (i := 36) (by decide +kernel))
set_option maxRecDepth 20000 in
theorem n_n5 : Cond.methodLinkNest RX9 62 yX5_init "CardBowl" ∈ lw_tbl := tb_2 _ (List.mem_of_getElem? (i := 180) (by decide +kernel))
set_option maxRecDepth 20000 in
theorem n_n4 : Cond.methodLinkNest RX9 53 yX1_init "CardBowl" ∈ lw_tbl := tb_2 _ (List.mem_of_getElem? (i := 178) (by decide +kernel))
set_option maxRecDepth 20000 in
theorem n_n3 : Cond.methodLinkNest RX9 46 yX8_init "CardBowl" ∈ lw_tbl := tb_2 _ (List.mem_of_getElem? (i := 136) (by decide +kernel))
set_option maxRecDepth 20000 in
theorem n_n2 : Cond.methodLinkNest RX9 39 yX4_init "CardBowl" ∈ lw_tbl := tb_2 _ (List.mem_of_getElem? (i := 73) (by decide +kernel))
set_option maxRecDepth 20000 in
theorem n_n1 : Cond.methodLinkNest RX9 22 yX6_init "CardBowl" ∈ lw_tbl := tb_1 _ (List.mem_of_getElem? (i := 195) (by decide +kernel))
set_option maxRecDepth 20000 in
theorem n_n0 : Cond.methodLinkNest RX9 15 yX3_init "CardBowl" ∈ lw_tbl := tb_1 _ (List.mem_of_getElem? (i := 30) (by decide +kernel))
theorem sw_cases (j : Nat) (h : j < 64) : j = 0 ∨ j = 1 ∨ j = 2 ∨ j = 3 ∨ j = 4 ∨ j = 5 ∨ j = 6 ∨ j = 7 ∨ j = 8 ∨ j = 9 ∨ j = 10 ∨ j = 11 ∨ j = 12 ∨ j = 13 ∨ j = 14 ∨ j = 15 ∨ j = 16 ∨ j = 17 ∨ j = 18 ∨ j = 19 ∨ j = 20 ∨ j = 21 ∨ j = 22 ∨ j = 23 ∨ j = 24 ∨ j = 25 ∨ j = 26 ∨ j = 27 ∨ j = 28 ∨ j = 29 ∨ j = 30 ∨ j = 31 ∨ j = 32 ∨ j = 33 ∨ j = 34 ∨ j = 35 ∨ 36 ≤ j := by omega

set_option maxHeartbeats 4000000 in
set_option maxRecDepth 100000 in
theorem law_tail {p : Program} {e : Env} {s : State} {m : MethodId} {below : List Frame} {meth : Method} {c : Code} (l : Launch) {b : Nat} {xs : Nat → Int32} {A : Nat → Prop} {G : va_G} {y : Nat → ClassId} (C : lawC p s m meth c b xs A G y) {H : Heap} {locs : List Loc} (hS : va_S A s.heap H locs) {ls : Array Slot} {qm qx cells slots : Nat} (hce : cells ≤ 600000) (hsl : slots ≤ 7302250) (hl : lv_has ls 4 [(3, .int 0), (2, .ref qm), (1, .ref qx), (0, .ref b)]) : W p l e room_1 s m #[Value.ref b] below meth c H locs cells slots (lw_Z below #[Value.ref b] s) (F0 m 1350 ls []) := by
  obtain ⟨hx, hb, hr, hml, hown, hw0, hX, hbl, hbA, hA, hAf, hlocks, hK⟩ := C
  refine lv_iinc (v := 6) (lv' := [(3, .int 6), (2, .ref qm), (1, .ref qx), (0, .ref b)]) hx hb dL_law_1350 hl (k := 0) rfl (by decide) (by decide) rfl (fun ls hl => ?_)
  refine lv_goto (tgt := 18) hx hb dL_law_1353 (by decide) ?_
  refine lv_iload_n hx hb dL_law_18 rfl (lv_at hl 0 rfl) ?_
  refine lv_aload_n hx hb dL_law_19 rfl (lv_at hl 3 rfl) ?_
  refine va_slen hx hb hX hbl hbA hS dL_law_20 ?_
  refine lv_bipush (v := 6) hx hb dL_law_21 (by decide) ?_
  refine lv_isub hx hb dL_law_23 ?_
  refine lv_topi (fun v9 ev9 => ?_)
  obtain rfl : 0 = v9 := (ev9.trans (by decide)).symm
  refine lv_icmp_gt (tgt := 1356) hx hb dL_law_24 (by decide) (fun _ => ?_) (fun c9 => absurd (by decide) c9)
  refine lv_iconst (v := 1) hx hb dL_law_1356 (by decide) ?_
  refine va_forget (fun q hq => hAf _ (hS.2.2 q hq)) ?_
  refine W.widen (k := 600000) (n := 7302250) hce hsl ?_
  exact lw_ret hx hb hr hlocks dL_law_1357
