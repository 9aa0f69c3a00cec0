/-! THE CLAIM OUT OF ONE WALK OF THE LAW'S BODY. Your part is whole_start (and what it stands on); all else here is the same for every law, but numbers. -/
def R_law : String := "CardBowlLaw"
def lw_P (b : Addr) (xs : List Int32) (args : Array Value) (s : State) : Prop := args = #[.ref b] ∧ s.IntsAt b xs ∧ xs.length ≤ 3072 ∧ (Jvm.Cond.and given_1 narrow_1).before args s = true
def lw_Q (_ : Array Value) (s : State) (o : Outcome) (t : State) : Prop := o = .returned (some (.int 1)) ∧ Framed s o t [] 600000 7302250
def lw_Z (below : List Frame) (a : Array Value) (s : State) : State → Prop := fun t => ∃ o, t.status = .running ∧ Ended t below o ∧ lw_Q a s o t
/-- the law's own end, with 1 on the stack, nothing written that was there before, its room as the claim has it -/
theorem lw_ret {p : Program} {l : Launch} {e : Env} {s : State} {m : MethodId} {below : List Frame} {meth : Method} {c : Code} {b : Nat} (hx : p.tables.exec = Jvm.exec) (hb : c.code = code) (hr : meth.sig.returnType = ret) (hlocks : meth.locks = false) {pc : Nat} {H : Heap} {ls : Array Slot} (hdg : decode code pc = .ok (.ireturn, 1)) : W p l e room_1 s m #[Value.ref b] below meth c H [] 600000 7302250 (lw_Z below #[Value.ref b] s) (F0 m pc ls [.int 1]) := by
  intro T hT X
  obtain ⟨fs, hret, hrun, hended, hW, hframe⟩ := X.leave (v := some (.int 1)) (hlocks := hlocks) (fun h => by rw [hr] at h; cases h)
  have hmeth' : T.vm.method? m = some meth := X.method'
  refine ⟨T.setFrames fs, ?_, .returned (some (.int 1)), hrun, hended, rfl, ⟨_, rfl⟩, hW, hframe⟩
  jvm_step X.here [X.here.top, hx, hb, hdg, hmeth', hr, ret, narrow_b1]
  (try refine ⟨rfl, ?_⟩); (try refine ⟨rfl, ?_⟩)
  first | (intro acts; rw [hret _ acts rfl rfl rfl]) | rw [hret _ _ rfl rfl rfl]
  exact Steps.refl _
/-- what holds at the law's entry: the machine, the code, the tables' words (any of lw_tbl by 'hts w (by decide +kernel)'), the script of L ints xs at the cell b, what the Statement gives of the start (any of its parts by flat_of_before) -/
def lw_At (p : Program) (s : State) (m : MethodId) (meth : Method) (c : Code) (b L : Nat) (xs : Nat → Int32) : Prop :=
  p.tables.exec = Jvm.exec ∧ c.code = code ∧ meth.sig.returnType = ret ∧ c.maxLocals = 4 ∧ s.vm.findClass R_law = some m.cls ∧ (∀ w ∈ lw_tbl, w.before #[Value.ref b] s = true) ∧ va_X b L xs s s.heap ∧ b < s.heap.size ∧ meth.locks = false ∧ (Jvm.Cond.and given_1 narrow_1).before #[Value.ref b] s = true
theorem sw_cases (j : Nat) (h : j < 64) : j = 0 ∨ j = 1 ∨ j = 2 ∨ j = 3 ∨ j = 4 ∨ j = 5 ∨ j = 6 ∨ j = 7 ∨ j = 8 ∨ j = 9 ∨ j = 10 ∨ j = 11 ∨ j = 12 ∨ j = 13 ∨ j = 14 ∨ j = 15 ∨ j = 16 ∨ j = 17 ∨ j = 18 ∨ j = 19 ∨ j = 20 ∨ j = 21 ∨ j = 22 ∨ j = 23 ∨ j = 24 ∨ j = 25 ∨ j = 26 ∨ j = 27 ∨ j = 28 ∨ j = 29 ∨ j = 30 ∨ j = 31 ∨ j = 32 ∨ j = 33 ∨ j = 34 ∨ j = 35 ∨ 36 ≤ j := by omega
set_option maxHeartbeats 4000000 in
set_option maxRecDepth 100000 in
theorem law_loop {p : Program} {e : Env} {s : State} {m : MethodId} {below : List Frame} {meth : Method} {c : Code} {l : Launch} {b L : Nat} {xs : Nat → Int32} {A : Nat → Prop} {G : va_G} {y : Nat → ClassId} {aK aV : Nat → Nat} (C0 : lawC p s m meth c b L xs A G y aK aV) {x q : Nat} : ∀ (n : Nat) (i : Int32) (H : Heap) (locs : List Loc) (cells slots : Nat) (ls : Array Slot), (L : Int) - i.toInt < (n : Int) → 0 ≤ i.toInt ∧ i.toInt ≤ (L : Int) → LI s b A G y x q i H locs ls cells slots → W p l e room_1 s m #[Value.ref b] below meth c H locs cells slots (lw_Z below #[Value.ref b] s) (F0 m 18 ls []) := by
  intro n
  induction n with
  | zero => intro i H locs cells slots ls h1 h2 I; exfalso; omega
  | succ n ih =>
    intro i H locs cells slots ls h1 h2 I
    have C1 := C0
    obtain ⟨hx, hb, hr, hml, hown, hw0, hX, hbl, hbA, hA, hAf, hlocks, hK, hE, hL⟩ := C0
    have I0 := I
    obtain ⟨w, wm, tl, ts, fl0, wi0, sz0, fl1, wi1, sz1, fl2, wi2, sz2, fl3, wi3, sz3, f, ta, fm, fw, fh, hB, hM, hI, hR, hP, hD, hS, hl, hc1, hc2⟩ := I
    refine lv_iload_n hx hb dL_law_18 rfl (lv_at hl 0 rfl) ?_
    refine lv_aload_n hx hb dL_law_19 rfl (lv_at hl 3 rfl) ?_
    refine va_slen hx hb hX hbl hbA hS dL_law_20 ?_
    refine lv_bipush (v := 6) hx hb dL_law_21 (by decide) ?_
    refine lv_isub hx hb dL_law_23 ?_
    refine lv_topi (fun v9 ev9 => ?_)
    have q1 : (Int32.ofNat L).toInt = (L : Int) := nI_toInt (by omega)
    have h6 : Int32.toInt 6 = 6 := by decide
    have q9 : v9.toInt = (L : Int) - 6 := by
      have := ba_sub (l1 := 0) (h1 := 3072) (l2 := 6) (h2 := 6) ev9 ⟨by omega, by omega⟩ (by decide) (by decide)
      omega
    refine lv_icmp_gt (tgt := 1356) hx hb dL_law_24 (by decide) (fun c9 => ?_) (fun c9 => ?_)
    · refine lv_iconst (v := 1) hx hb dL_law_1356 (by decide) ?_
      refine va_forget (fun q hq => hAf _ (hS.2.2 q hq)) ?_
      refine W.widen (k := 600000) (n := 7302250) (by omega) (by omega) ?_
      exact lw_ret hx hb hr hlocks dL_law_1357
    · have hn := Int.not_lt.mp (fun z => c9 (Int32.lt_iff_toInt_lt.mpr z))
      have hi : i.toInt + 6 ≤ (L : Int) := by omega
      refine lv_aload_n hx hb dL_law_27 rfl (lv_at hl 3 rfl) ?_
      refine lv_iload_n hx hb dL_law_28 rfl (lv_at hl 0 rfl) ?_
      refine va_sld hx hb hX hbl hbA hS (vi_n h2.1 (by omega)) dL_law_29 ?_
      refine lv_bipush (v := 63) hx hb dL_law_30 (by decide) ?_
      refine lv_iand hx hb dL_law_32 ?_
      refine lv_topi (fun v8 ev8 => ?_)
      obtain ⟨j, hj, hj2⟩ := pk_andE (xs i.toNatClampNeg) (m := 63) 6 (by decide)
      rw [hj2] at ev8
      subst ev8
      have K : ∀ H1 locs1 cells1 slots1, LI s b A G y x q i H1 locs1 ls cells1 slots1 → W p l e room_1 s m #[Value.ref b] below meth c H1 locs1 cells1 slots1 (lw_Z below #[Value.ref b] s) (F0 m 1350 ls []) := by
        intro H1 locs1 cells1 slots1 I1
        obtain ⟨w, wm, tl, ts, fl0, wi0, sz0, fl1, wi1, sz1, fl2, wi2, sz2, fl3, wi3, sz3, f, ta, fm, fw, fh, hB, hM, hI, hR, hP, hD, hS, hl, hc1, hc2⟩ := I1
        obtain ⟨v7, ev7⟩ : ∃ v7, v7 = i + 6 := ⟨_, rfl⟩
        have q7 : v7.toInt = i.toInt + 6 := by
          have := ba_add (l1 := 0) (h1 := 3072) (l2 := 6) (h2 := 6) ev7 ⟨h2.1, by omega⟩ (by decide) (by decide)
          omega
        refine lv_iinc (v := v7) (lv' := [(3, .int v7), (2, .ref q), (1, .ref x), (0, .ref b)]) hx hb dL_law_1350 hl (k := 0) rfl ev7.symm (by decide) rfl (fun ls2 hl2 => ?_)
        refine lv_goto (tgt := 18) hx hb dL_law_1353 (by decide) ?_
        exact ih v7 H1 locs1 cells1 slots1 ls2 (by omega) ⟨by omega, by omega⟩ ⟨w, wm, tl, ts, fl0, wi0, sz0, fl1, wi1, sz1, fl2, wi2, sz2, fl3, wi3, sz3, f, ta, fm, fw, fh, hB, hM, hI, hR, hP, hD, hS, hl2, hc1, hc2⟩
      rcases sw_cases j hj with rfl | rfl | rfl | rfl | rfl | rfl | rfl | rfl | rfl | rfl | rfl | rfl | rfl | rfl | rfl | rfl | rfl | rfl | rfl | rfl | rfl | rfl | rfl | rfl | rfl | rfl | rfl | rfl | rfl | rfl | rfl | rfl | rfl | rfl | rfl | rfl | h36
      · refine lv_tableIn (tgt := 192) hx hb dL_law_33 (by decide) (by decide) rfl (by decide) ?_
        exact law_0 C1 ⟨h2.1, hi⟩ I0 K
      · refine lv_tableIn (tgt := 255) hx hb dL_law_33 (by decide) (by decide) rfl (by decide) ?_
        exact law_1 C1 ⟨h2.1, hi⟩ I0 K
      · refine lv_tableIn (tgt := 278) hx hb dL_law_33 (by decide) (by decide) rfl (by decide) ?_
        exact law_2 C1 ⟨h2.1, hi⟩ I0 K
      · refine lv_tableIn (tgt := 291) hx hb dL_law_33 (by decide) (by decide) rfl (by decide) ?_
        exact law_3 C1 ⟨h2.1, hi⟩ I0 K
      · refine lv_tableIn (tgt := 314) hx hb dL_law_33 (by decide) (by decide) rfl (by decide) ?_
        exact law_4 C1 ⟨h2.1, hi⟩ I0 K
      · refine lv_tableIn (tgt := 337) hx hb dL_law_33 (by decide) (by decide) rfl (by decide) ?_
        exact law_5 C1 ⟨h2.1, hi⟩ I0 K
      · refine lv_tableIn (tgt := 380) hx hb dL_law_33 (by decide) (by decide) rfl (by decide) ?_
        exact law_6 C1 ⟨h2.1, hi⟩ I0 K
      · refine lv_tableIn (tgt := 423) hx hb dL_law_33 (by decide) (by decide) rfl (by decide) ?_
        exact law_7 C1 ⟨h2.1, hi⟩ I0 K
      · refine lv_tableIn (tgt := 456) hx hb dL_law_33 (by decide) (by decide) rfl (by decide) ?_
        exact law_8 C1 ⟨h2.1, hi⟩ I0 K
      · refine lv_tableIn (tgt := 479) hx hb dL_law_33 (by decide) (by decide) rfl (by decide) ?_
        exact law_9 C1 ⟨h2.1, hi⟩ I0 K
      · refine lv_tableIn (tgt := 512) hx hb dL_law_33 (by decide) (by decide) rfl (by decide) ?_
        exact law_10 C1 ⟨h2.1, hi⟩ I0 K
      · refine lv_tableIn (tgt := 535) hx hb dL_law_33 (by decide) (by decide) rfl (by decide) ?_
        exact law_11 C1 ⟨h2.1, hi⟩ I0 K
      · refine lv_tableIn (tgt := 578) hx hb dL_law_33 (by decide) (by decide) rfl (by decide) ?_
        exact law_12 C1 ⟨h2.1, hi⟩ I0 K
      · refine lv_tableIn (tgt := 601) hx hb dL_law_33 (by decide) (by decide) rfl (by decide) ?_
        exact law_13 C1 ⟨h2.1, hi⟩ I0 K
      · refine lv_tableIn (tgt := 614) hx hb dL_law_33 (by decide) (by decide) rfl (by decide) ?_
        exact law_14 C1 ⟨h2.1, hi⟩ I0 K
      · refine lv_tableIn (tgt := 657) hx hb dL_law_33 (by decide) (by decide) rfl (by decide) ?_
        exact law_15 C1 ⟨h2.1, hi⟩ I0 K
      · refine lv_tableIn (tgt := 690) hx hb dL_law_33 (by decide) (by decide) rfl (by decide) ?_
        exact law_16 C1 ⟨h2.1, hi⟩ I0 K
      · refine lv_tableIn (tgt := 733) hx hb dL_law_33 (by decide) (by decide) rfl (by decide) ?_
        exact law_17 C1 ⟨h2.1, hi⟩ I0 K
      · refine lv_tableIn (tgt := 766) hx hb dL_law_33 (by decide) (by decide) rfl (by decide) ?_
        exact law_18 C1 ⟨h2.1, hi⟩ I0 K
      · refine lv_tableIn (tgt := 809) hx hb dL_law_33 (by decide) (by decide) rfl (by decide) ?_
        exact law_19 C1 ⟨h2.1, hi⟩ I0 K
      · refine lv_tableIn (tgt := 832) hx hb dL_law_33 (by decide) (by decide) rfl (by decide) ?_
        exact law_20 C1 ⟨h2.1, hi⟩ I0 K
      · refine lv_tableIn (tgt := 855) hx hb dL_law_33 (by decide) (by decide) rfl (by decide) ?_
        exact law_21 C1 ⟨h2.1, hi⟩ I0 K
      · refine lv_tableIn (tgt := 888) hx hb dL_law_33 (by decide) (by decide) rfl (by decide) ?_
        exact law_22 C1 ⟨h2.1, hi⟩ I0 K
      · refine lv_tableIn (tgt := 931) hx hb dL_law_33 (by decide) (by decide) rfl (by decide) ?_
        exact law_23 C1 ⟨h2.1, hi⟩ I0 K
      · refine lv_tableIn (tgt := 954) hx hb dL_law_33 (by decide) (by decide) rfl (by decide) ?_
        exact law_24 C1 ⟨h2.1, hi⟩ I0 K
      · refine lv_tableIn (tgt := 977) hx hb dL_law_33 (by decide) (by decide) rfl (by decide) ?_
        exact law_25 C1 ⟨h2.1, hi⟩ I0 K
      · refine lv_tableIn (tgt := 1010) hx hb dL_law_33 (by decide) (by decide) rfl (by decide) ?_
        exact law_26 C1 ⟨h2.1, hi⟩ I0 K
      · refine lv_tableIn (tgt := 1023) hx hb dL_law_33 (by decide) (by decide) rfl (by decide) ?_
        exact law_27 C1 ⟨h2.1, hi⟩ I0 K
      · refine lv_tableIn (tgt := 1046) hx hb dL_law_33 (by decide) (by decide) rfl (by decide) ?_
        exact law_28 C1 ⟨h2.1, hi⟩ I0 K
      · refine lv_tableIn (tgt := 1079) hx hb dL_law_33 (by decide) (by decide) rfl (by decide) ?_
        exact law_29 C1 ⟨h2.1, hi⟩ I0 K
      · refine lv_tableIn (tgt := 1102) hx hb dL_law_33 (by decide) (by decide) rfl (by decide) ?_
        exact law_30 C1 ⟨h2.1, hi⟩ I0 K
      · refine lv_tableIn (tgt := 1125) hx hb dL_law_33 (by decide) (by decide) rfl (by decide) ?_
        exact law_31 C1 ⟨h2.1, hi⟩ I0 K
      · refine lv_tableIn (tgt := 1148) hx hb dL_law_33 (by decide) (by decide) rfl (by decide) ?_
        exact law_32 C1 ⟨h2.1, hi⟩ I0 K
      · refine lv_tableIn (tgt := 1171) hx hb dL_law_33 (by decide) (by decide) rfl (by decide) ?_
        exact law_33 C1 ⟨h2.1, hi⟩ I0 K
      · refine lv_tableIn (tgt := 1214) hx hb dL_law_33 (by decide) (by decide) rfl (by decide) ?_
        exact law_34 C1 ⟨h2.1, hi⟩ I0 K
      · refine lv_tableIn (tgt := 1287) hx hb dL_law_33 (by decide) (by decide) rfl (by decide) ?_
        exact law_35 C1 ⟨h2.1, hi⟩ I0 K
      · refine lv_tableOut (tgt := 1350) hx hb dL_law_33 (Or.inr (by rw [nI_toInt (by omega)]; omega)) (by decide) ?_
        exact K _ _ _ _ I0
