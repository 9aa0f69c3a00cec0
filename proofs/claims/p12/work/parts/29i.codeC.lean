set_option maxHeartbeats 4000000 in
set_option maxRecDepth 100000 in
theorem kX0_partOf (l : Launch) (G : va_G) (y : Nat → ClassId) (sz : Nat) (ob : Nat) (a1 : Int32) (ob_lines : Int32) (ob_used : Int32) (ob_paying : Nat) (ob_kind : Nat) (ob_within : Nat) (ob_start : Nat) (ob_stop : Nat) (ob_tests : Nat) (ob_facts : Nat) (ob_beyond : Int32) (fob_facts : Nat → Int32) (p_ob_lines : (0 : Int) ≤ ob_lines.toInt ∧ ob_lines.toInt ≤ 24) (p_ob_used : (0 : Int) ≤ ob_used.toInt ∧ ob_used.toInt ≤ 700) (p_ob_beyond : (0 : Int) ≤ ob_beyond.toInt ∧ ob_beyond.toInt ≤ 1) : Met l yX0_partOf (Cond.code yX0_partOf cX0_partOf 2 (some .int) :: wAll) ({ frames := 0, cells := 0, slots := 0, locals := 0 }) (va_Pc [.ref ob, .int a1] (kp G y sz [(ce_X0 ob ob_lines ob_used ob_paying ob_kind ob_within ob_start ob_stop ob_tests ob_facts ob_beyond), (ce_i5 y ob_facts fob_facts)])) (va_Qi (fun (r : Int32) (w : va_W) => (∃ (v_11 : Int32), ((v_11 : Int32).toInt = evp (fun k : Nat => (fob_facts k).toInt) a1.toInt) ∧ r = v_11 ∧ w = [(ce_X0 ob ob_lines ob_used ob_paying ob_kind ob_within ob_start ob_stop ob_tests ob_facts ob_beyond), (ce_i5 y ob_facts fob_facts)])) (kq G (va_A [(ce_X0 ob ob_lines ob_used ob_paying ob_kind ob_within ob_start ob_stop ob_tests ob_facts ob_beyond), (ce_i5 y ob_facts fob_facts)] sz)) (va_A [(ce_X0 ob ob_lines ob_used ob_paying ob_kind ob_within ob_start ob_stop ob_tests ob_facts ob_beyond), (ce_i5 y ob_facts fob_facts)] sz)) 0 0 (va_A [(ce_X0 ob ob_lines ob_used ob_paying ob_kind ob_within ob_start ob_stop ob_tests ob_facts ob_beyond), (ce_i5 y ob_facts fob_facts)] sz) := by
  refine Met.ofW (cc := cX0_partOf) (maxL := 2) (ret := (some .int)) (by decide) rfl ?_
  intro p e s m args below meth c s₁ B hml hv
  obtain ⟨rfl, hsz, hP, hK, hD0⟩ := hv
  have hx := B.exec
  have hb := B.bytes
  have hr := B.returns
  have hw0 : ∀ w ∈ wAll, w.before _ s = true := fun w h => atoms_spec (ws := Cond.code yX0_partOf cX0_partOf 2 (some .int) :: wAll) B.pre w (List.mem_cons_of_mem _ h)
  have hown : s.vm.findClass RX0 = some m.cls := findClass_of_methodNamed B.named
  subst hsz
  have hD := hD0.self (sz := s.heap.size)
  generalize hAe : va_A [(ce_X0 ob ob_lines ob_used ob_paying ob_kind ob_within ob_start ob_stop ob_tests ob_facts ob_beyond), (ce_i5 y ob_facts fob_facts)] s.heap.size = A at hD ⊢
  have hA : ∀ q : Nat, s.heap.size ≤ q → A q := fun q h => by rw [← hAe]; exact Or.inr h
  have hS : va_S A s.heap s.heap [] := va_S.rf
  have hP : va_P G vwCl [(ce_X0 ob ob_lines ob_used ob_paying ob_kind ob_within ob_start ob_stop ob_tests ob_facts ob_beyond), (ce_i5 y ob_facts fob_facts)] s.heap := hP
  have hl := lv_entry ([.ref ob, .int a1]) (n := 2) (Nat.le_of_ble_eq_true rfl)
  rw [lg_entry_eq]
  generalize (lg_sl ([.ref ob, .int a1]) ++ List.replicate (2 - (lg_sl ([.ref ob, .int a1])).length) Slot.unset).toArray = ls at hl ⊢
  have hl : lv_has ls 2 [(0, .ref ob), (1, .int a1)] := hl
  refine lv_iload_n hx hb dX0_partOf_0 rfl (lv_at hl 1 rfl) ?_
  refine lv_sipush (v := 1000) hx hb dX0_partOf_1 (by decide) ?_
  refine lv_icmp_ge (tgt := 9) hx hb dX0_partOf_4 (by decide) (fun c_1001 => ?_) (fun c_1001 => ?_)
  · skip
    have nc_1001 := nb_le (1000) (1000) c_1001 (bkc (x := 1000) (c := 1000) (by decide)) (btop a1) (by decide)
    refine lv_iload_n hx hb dX0_partOf_9 rfl (lv_at hl 1 rfl) ?_
    refine lv_sipush (v := 1000) hx hb dX0_partOf_10 (by decide) ?_
    refine lv_isub hx hb dX0_partOf_13 ?_
    refine lv_topi (fun v_1002 ev_1002 => ?_)
    have qv_1002 := ba_sub ev_1002 nc_1001.2.1 (bkc (x := 1000) (c := 1000) (by decide)) (by decide)
    have bv_1002 : (0 : Int) ≤ v_1002.toInt ∧ v_1002.toInt ≤ 2147482647 := bq_sub qv_1002 nc_1001.2.1 (bkc (x := 1000) (c := 1000) (by decide)) _ _ (by decide)
    have qv_1002 : v_1002.toInt = a1.toInt - (1000) := qv_1002
    refine lv_iconst (v := 5) hx hb dX0_partOf_14 (by decide) ?_
    refine lv_icmp_ge (tgt := 31) hx hb dX0_partOf_15 (by decide) (fun c_1003 => ?_) (fun c_1003 => ?_)
    · skip
      have nc_1003 := nb_le (5) (5) c_1003 (bkc (x := 5) (c := 5) (by decide)) bv_1002 (by decide)
      refine lv_iconst (v := 0) hx hb dX0_partOf_31 (by decide) ?_
      exact W.iret (v := 0) hx hb hr (fun t ht hW => ⟨⟨0, _, rfl, ⟨0, (evp_c (by omega) (by decide)), rfl, rfl⟩, by rw [ht]; exact hP, hD⟩, hS.F ht⟩) hS.2.2 dX0_partOf_32
    · skip
      have nc_1003 := nb_nle (4) (5) c_1003 bv_1002 (bkc (x := 5) (c := 5) (by decide)) (by decide)
      refine lv_aload_n hx hb dX0_partOf_18 rfl (lv_at hl 0 rfl) ?_
      refine va_get (D := G) (ci := 0) (v := .ref ob_facts) (C := RX0) (T := TX0) (N := 10) hx hb hw0 inA_wsX00 hown hK.1 hP 0 rfl rfl 8 (by decide) (hw0 _ m_299) (fun _ h9 => h9) rfl dX0_partOf_19 ?_
      refine lv_iload_n hx hb dX0_partOf_22 rfl (lv_at hl 1 rfl) ?_
      refine lv_sipush (v := 1000) hx hb dX0_partOf_23 (by decide) ?_
      refine lv_isub hx hb dX0_partOf_26 ?_
      refine lv_topi (fun v_1004 ev_1004 => ?_)
      obtain rfl : v_1002 = v_1004 := (ev_1004.trans (ev_1002.symm)).symm
      refine va_iald hx hb hK.1 hP 1 1 rfl rfl (vi nc_1003.1 (by decide)) dX0_partOf_27 ?_
      refine lv_topi (fun v_1005 ev_1005 => ?_)
      refine lv_goto (tgt := 32) hx hb dX0_partOf_28 (by decide) ?_
      exact W.iret (v := v_1005) hx hb hr (fun t ht hW => ⟨⟨v_1005, _, rfl, ⟨v_1005, (evp_b (by omega) (by omega) ev_1005 (by omega)), rfl, rfl⟩, by rw [ht]; exact hP, hD⟩, hS.F ht⟩) hS.2.2 dX0_partOf_32
  · skip
    have nc_1001 := nb_nle (999) (1000) c_1001 (btop a1) (bkc (x := 1000) (c := 1000) (by decide)) (by decide)
    refine lv_iload_n hx hb dX0_partOf_7 rfl (lv_at hl 1 rfl) ?_
    exact W.iret (v := a1) hx hb hr (fun t ht hW => ⟨⟨a1, _, rfl, ⟨a1, (evp_a (by omega)), rfl, rfl⟩, by rw [ht]; exact hP, hD⟩, hS.F ht⟩) hS.2.2 dX0_partOf_8

set_option maxHeartbeats 4000000 in
set_option maxRecDepth 100000 in
theorem kX0_bounded (l : Launch) (G : va_G) (y : Nat → ClassId) (sz : Nat) (ob : Nat) (a1 : Int64) (ob_lines : Int32) (ob_used : Int32) (ob_paying : Nat) (ob_kind : Nat) (ob_within : Nat) (ob_start : Nat) (ob_stop : Nat) (ob_tests : Nat) (ob_facts : Nat) (ob_beyond : Int32) (p_ob_lines : (0 : Int) ≤ ob_lines.toInt ∧ ob_lines.toInt ≤ 24) (p_ob_used : (0 : Int) ≤ ob_used.toInt ∧ ob_used.toInt ≤ 700) (p_ob_beyond : (0 : Int) ≤ ob_beyond.toInt ∧ ob_beyond.toInt ≤ 1) : Met l yX0_bounded (Cond.code yX0_bounded cX0_bounded 3 (some .long) :: wAll) ({ frames := 0, cells := 0, slots := 0, locals := 0 }) (va_Pc [.ref ob, .long a1] (kp G y sz [(ce_X0 ob ob_lines ob_used ob_paying ob_kind ob_within ob_start ob_stop ob_tests ob_facts ob_beyond)])) (va_Ql (fun (r : Int64) (w : va_W) => (∃ (v_5 : Int64) (v_6 : Int32), ((0 : Int) ≤ v_6.toInt ∧ v_6.toInt ≤ 1) ∧ ((v_5 : Int64).toInt = bcu a1.toInt) ∧ ((bgb a1.toInt = true ∧ v_6.toInt = 1) ∨ (bgb a1.toInt = false ∧ v_6.toInt = ob_beyond.toInt)) ∧ r = v_5 ∧ w = [(ce_X0 ob ob_lines ob_used ob_paying ob_kind ob_within ob_start ob_stop ob_tests ob_facts v_6)])) (kq G (va_A [(ce_X0 ob ob_lines ob_used ob_paying ob_kind ob_within ob_start ob_stop ob_tests ob_facts ob_beyond)] sz)) (va_A [(ce_X0 ob ob_lines ob_used ob_paying ob_kind ob_within ob_start ob_stop ob_tests ob_facts ob_beyond)] sz)) 0 0 (va_A [(ce_X0 ob ob_lines ob_used ob_paying ob_kind ob_within ob_start ob_stop ob_tests ob_facts ob_beyond)] sz) := by
  refine Met.ofW (cc := cX0_bounded) (maxL := 3) (ret := (some .long)) (by decide) rfl ?_
  intro p e s m args below meth c s₁ B hml hv
  obtain ⟨rfl, hsz, hP, hK, hD0⟩ := hv
  have hx := B.exec
  have hb := B.bytes
  have hr := B.returns
  have hw0 : ∀ w ∈ wAll, w.before _ s = true := fun w h => atoms_spec (ws := Cond.code yX0_bounded cX0_bounded 3 (some .long) :: wAll) B.pre w (List.mem_cons_of_mem _ h)
  have hown : s.vm.findClass RX0 = some m.cls := findClass_of_methodNamed B.named
  subst hsz
  have hD := hD0.self (sz := s.heap.size)
  generalize hAe : va_A [(ce_X0 ob ob_lines ob_used ob_paying ob_kind ob_within ob_start ob_stop ob_tests ob_facts ob_beyond)] s.heap.size = A at hD ⊢
  have hA : ∀ q : Nat, s.heap.size ≤ q → A q := fun q h => by rw [← hAe]; exact Or.inr h
  have hS : va_S A s.heap s.heap [] := va_S.rf
  have hP : va_P G vwCl [(ce_X0 ob ob_lines ob_used ob_paying ob_kind ob_within ob_start ob_stop ob_tests ob_facts ob_beyond)] s.heap := hP
  have hl := lv_entry ([.ref ob, .long a1]) (n := 3) (Nat.le_of_ble_eq_true rfl)
  rw [lg_entry_eq]
  generalize (lg_sl ([.ref ob, .long a1]) ++ List.replicate (3 - (lg_sl ([.ref ob, .long a1])).length) Slot.unset).toArray = ls at hl ⊢
  have hl : lv_has ls 3 [(0, .ref ob), (1, .long a1)] := hl
  refine lv_lload_n hx hb dX0_bounded_0 rfl (lv_at hl 1 rfl) ?_
  refine lv_ldc2 (own := RX0) (v := 1000000000) hx hb hown (hw0 _ m_262) dX0_bounded_1 ?_
  refine W.lcmp hx hb dX0_bounded_4 ?_
  refine lv_if_gt (tgt := 16) hx hb dX0_bounded_5 (by decide) (fun c_1001 => ?_) (fun c_1001 => ?_)
  · skip
    have nc_1001 := jl_gt c_1001
    have bc_1001 : (1000000001 : Int) ≤ a1.toInt ∧ a1.toInt ≤ 9223372036854775807 := nl_gt nc_1001 (ltop a1) (k := 1000000000) (by decide) (by decide)
    refine lv_aload_n hx hb dX0_bounded_16 rfl (lv_at hl 0 rfl) ?_
    refine lv_iconst (v := 1) hx hb dX0_bounded_17 (by decide) ?_
    refine va_put (D := G) (ci := 0) (v := .int 1) (ty := .boolean) (C := RX0) (T := TX0) (N := 10) hx hb hw0 inA_wsX00 tyX0 tyX0_ok nmX0 hown hK.1 hP hD hS 0 rfl rfl 9 (by decide) (hw0 _ m_264) (fun _ h9 => h9) rfl fd_X0_9 rfl rfl (Nat.le_of_ble_eq_true rfl) dX0_bounded_18 (fun H locs hP hD hS => ?_)
    obtain ⟨hP, hD⟩ : vPD G A H [(ce_X0 ob ob_lines ob_used ob_paying ob_kind ob_within ob_start ob_stop ob_tests ob_facts 1)] := ⟨hP, hD⟩
    refine lv_lconst (v := 0) hx hb dX0_bounded_21 (by decide) ?_
    exact W.lret (v := 0) hx hb hr (fun t ht hW => ⟨⟨0, _, rfl, ⟨0, 1, (bw (0) (1) (bkc (x := 1) (c := 1) (by decide)) (by decide)), (bd_0 (by omega)), (Or.inl ⟨(bgb_t (by omega)).1, (by have lm1 : Int32.toInt (-1) = -1 := (by decide); have l91 : Int32.toInt 1 = 1 := (by decide); have l92 : Int32.toInt 2 = 2 := (by decide); have l93 : Int32.toInt 3 = 3 := (by decide); have h90 : Int32.toInt 1 = 1 := (by decide); have h80 : Int64.toInt 0 = 0 := (by decide); omega)⟩), rfl, rfl⟩, by rw [ht]; exact hP, hD⟩, hS.F ht⟩) hS.2.2 dX0_bounded_22
  · skip
    have nc_1001 := jl_ngt c_1001
    have bc_1001 : (-9223372036854775808 : Int) ≤ a1.toInt ∧ a1.toInt ≤ 1000000000 := nl_le nc_1001 (ltop a1) (k := 1000000000) (by decide) (by decide)
    refine lv_lload_n hx hb dX0_bounded_8 rfl (lv_at hl 1 rfl) ?_
    refine lv_ldc2 (own := RX0) (v := (-1000000000)) hx hb hown (hw0 _ m_263) dX0_bounded_9 ?_
    refine W.lcmp hx hb dX0_bounded_12 ?_
    refine lv_if_ge (tgt := 23) hx hb dX0_bounded_13 (by decide) (fun c_1002 => ?_) (fun c_1002 => ?_)
    · skip
      have nc_1002 := jl_ge c_1002
      have bc_1002 : (-1000000000 : Int) ≤ a1.toInt ∧ a1.toInt ≤ 1000000000 := nl_ge nc_1002 bc_1001 (k := -1000000000) (by decide) (by decide)
      refine lv_lload_n hx hb dX0_bounded_23 rfl (lv_at hl 1 rfl) ?_
      exact W.lret (v := a1) hx hb hr (fun t ht hW => ⟨⟨a1, _, rfl, ⟨a1, ob_beyond, p_ob_beyond, (bgb_f (by omega)).2.symm, (Or.inr ⟨(bgb_f (by omega)).1, (by have lm1 : Int32.toInt (-1) = -1 := (by decide); have l91 : Int32.toInt 1 = 1 := (by decide); have l92 : Int32.toInt 2 = 2 := (by decide); have l93 : Int32.toInt 3 = 3 := (by decide); omega)⟩), rfl, rfl⟩, by rw [ht]; exact hP, hD⟩, hS.F ht⟩) hS.2.2 dX0_bounded_24
    · skip
      have nc_1002 := jl_nge c_1002
      have bc_1002 : (-9223372036854775808 : Int) ≤ a1.toInt ∧ a1.toInt ≤ -1000000001 := nl_lt nc_1002 bc_1001 (k := -1000000000) (by decide) (by decide)
      refine lv_aload_n hx hb dX0_bounded_16 rfl (lv_at hl 0 rfl) ?_
      refine lv_iconst (v := 1) hx hb dX0_bounded_17 (by decide) ?_
      refine va_put (D := G) (ci := 0) (v := .int 1) (ty := .boolean) (C := RX0) (T := TX0) (N := 10) hx hb hw0 inA_wsX00 tyX0 tyX0_ok nmX0 hown hK.1 hP hD hS 0 rfl rfl 9 (by decide) (hw0 _ m_264) (fun _ h9 => h9) rfl fd_X0_9 rfl rfl (Nat.le_of_ble_eq_true rfl) dX0_bounded_18 (fun H locs hP hD hS => ?_)
      obtain ⟨hP, hD⟩ : vPD G A H [(ce_X0 ob ob_lines ob_used ob_paying ob_kind ob_within ob_start ob_stop ob_tests ob_facts 1)] := ⟨hP, hD⟩
      refine lv_lconst (v := 0) hx hb dX0_bounded_21 (by decide) ?_
      exact W.lret (v := 0) hx hb hr (fun t ht hW => ⟨⟨0, _, rfl, ⟨0, 1, (bw (0) (1) (bkc (x := 1) (c := 1) (by decide)) (by decide)), (bd_0 (by omega)), (Or.inl ⟨(bgb_t (by omega)).1, (by have lm1 : Int32.toInt (-1) = -1 := (by decide); have l91 : Int32.toInt 1 = 1 := (by decide); have l92 : Int32.toInt 2 = 2 := (by decide); have l93 : Int32.toInt 3 = 3 := (by decide); have h90 : Int32.toInt 1 = 1 := (by decide); have h80 : Int64.toInt 0 = 0 := (by decide); omega)⟩), rfl, rfl⟩, by rw [ht]; exact hP, hD⟩, hS.F ht⟩) hS.2.2 dX0_bounded_22

set_option maxHeartbeats 4000000 in
set_option maxRecDepth 100000 in
theorem kX0_compares (l : Launch) (G : va_G) (y : Nat → ClassId) (sz : Nat) (a1 : Int64) (a2 : Int32) (a3 : Int64)  : Met l yX0_compares (Cond.code yX0_compares cX0_compares 5 (some .boolean) :: wAll) ({ frames := 0, cells := 0, slots := 0, locals := 0 }) (va_Pc [.long a1, .int a2, .long a3] (kp G y sz [])) (va_Qi (fun (r : Int32) (w : va_W) => ((¬ scp a2.toInt a1.toInt a3.toInt) ∧ r = 0 ∧ w = []) ∨ ((scp a2.toInt a1.toInt a3.toInt) ∧ r = 1 ∧ w = [])) (kq G (va_A [] sz)) (va_A [] sz)) 0 0 (va_A [] sz) := by
  refine Met.ofW (cc := cX0_compares) (maxL := 5) (ret := (some .boolean)) (by decide) rfl ?_
  intro p e s m args below meth c s₁ B hml hv
  obtain ⟨rfl, hsz, hP, hK, hD0⟩ := hv
  have hx := B.exec
  have hb := B.bytes
  have hr := B.returns
  have hw0 : ∀ w ∈ wAll, w.before _ s = true := fun w h => atoms_spec (ws := Cond.code yX0_compares cX0_compares 5 (some .boolean) :: wAll) B.pre w (List.mem_cons_of_mem _ h)
  have hown : s.vm.findClass RX0 = some m.cls := findClass_of_methodNamed B.named
  subst hsz
  have hD := hD0.self (sz := s.heap.size)
  generalize hAe : va_A [] s.heap.size = A at hD ⊢
  have hA : ∀ q : Nat, s.heap.size ≤ q → A q := fun q h => by rw [← hAe]; exact Or.inr h
  have hS : va_S A s.heap s.heap [] := va_S.rf
  have hP : va_P G vwCl [] s.heap := hP
  have hl := lv_entry ([.long a1, .int a2, .long a3]) (n := 5) (Nat.le_of_ble_eq_true rfl)
  rw [lg_entry_eq]
  generalize (lg_sl ([.long a1, .int a2, .long a3]) ++ List.replicate (5 - (lg_sl ([.long a1, .int a2, .long a3])).length) Slot.unset).toArray = ls at hl ⊢
  have hl : lv_has ls 5 [(0, .long a1), (2, .int a2), (3, .long a3)] := hl
  refine lv_iload_n hx hb dX0_compares_0 rfl (lv_at hl 1 rfl) ?_
  refine lv_sipush (v := 2003) hx hb dX0_compares_1 (by decide) ?_
  refine lv_icmp_ne (tgt := 19) hx hb dX0_compares_4 (by decide) (fun c_1001 => ?_) (fun c_1001 => ?_)
  · skip
    have nc_1001 := nb_ne (-2147483648) (2147483647) c_1001 (btop a2) (k := 2003) (by decide) (by decide)
    refine lv_iload_n hx hb dX0_compares_19 rfl (lv_at hl 1 rfl) ?_
    refine lv_sipush (v := 2004) hx hb dX0_compares_20 (by decide) ?_
    refine lv_icmp_ne (tgt := 40) hx hb dX0_compares_23 (by decide) (fun c_1002 => ?_) (fun c_1002 => ?_)
    · skip
      have nc_1002 := nb_ne (-2147483648) (2147483647) c_1002 nc_1001.1 (k := 2004) (by decide) (by decide)
      refine lv_lload_n hx hb dX0_compares_40 rfl (lv_at hl 0 rfl) ?_
      refine lv_lload_n hx hb dX0_compares_41 rfl (lv_at hl 2 rfl) ?_
      refine W.lcmp hx hb dX0_compares_42 ?_
      refine lv_if_ne (tgt := 50) hx hb dX0_compares_43 (by decide) (fun c_1003 => ?_) (fun c_1003 => ?_)
      · skip
        have nc_1003 := jl_neq c_1003
        refine lv_iconst (v := 0) hx hb dX0_compares_50 (by decide) ?_
        exact W.zret (v := 0) hx hb hr rfl (fun t ht hW => ⟨⟨0, _, rfl, Or.inl (⟨(scp_n (by omega)), rfl, rfl⟩), by rw [ht]; exact hP, hD⟩, hS.F ht⟩) hS.2.2 dX0_compares_51
      · skip
        have nc_1003 := jl_eq c_1003
        refine lv_iconst (v := 1) hx hb dX0_compares_46 (by decide) ?_
        refine lv_goto (tgt := 51) hx hb dX0_compares_47 (by decide) ?_
        exact W.zret (v := 1) hx hb hr rfl (fun t ht hW => ⟨⟨1, _, rfl, Or.inr (⟨(scp_y (by omega)), rfl, rfl⟩), by rw [ht]; exact hP, hD⟩, hS.F ht⟩) hS.2.2 dX0_compares_51
    · skip
      have nc_1002 := nb_eq (2004) (2004) c_1002 nc_1001.1 (bkc (x := 2004) (c := 2004) (by decide)) (by decide)
      refine lv_lload_n hx hb dX0_compares_26 rfl (lv_at hl 0 rfl) ?_
      refine lv_lload_n hx hb dX0_compares_27 rfl (lv_at hl 2 rfl) ?_
      refine W.lcmp hx hb dX0_compares_28 ?_
      refine lv_if_ge (tgt := 36) hx hb dX0_compares_29 (by decide) (fun c_1004 => ?_) (fun c_1004 => ?_)
      · skip
        have nc_1004 := jl_ge c_1004
        refine lv_iconst (v := 0) hx hb dX0_compares_36 (by decide) ?_
        refine lv_goto (tgt := 51) hx hb dX0_compares_37 (by decide) ?_
        exact W.zret (v := 0) hx hb hr rfl (fun t ht hW => ⟨⟨0, _, rfl, Or.inl (⟨(scp_n (by omega)), rfl, rfl⟩), by rw [ht]; exact hP, hD⟩, hS.F ht⟩) hS.2.2 dX0_compares_51
      · skip
        have nc_1004 := jl_nge c_1004
        refine lv_iconst (v := 1) hx hb dX0_compares_32 (by decide) ?_
        refine lv_goto (tgt := 51) hx hb dX0_compares_33 (by decide) ?_
        exact W.zret (v := 1) hx hb hr rfl (fun t ht hW => ⟨⟨1, _, rfl, Or.inr (⟨(scp_y (by omega)), rfl, rfl⟩), by rw [ht]; exact hP, hD⟩, hS.F ht⟩) hS.2.2 dX0_compares_51
  · skip
    have nc_1001 := nb_eq (2003) (2003) c_1001 (btop a2) (bkc (x := 2003) (c := 2003) (by decide)) (by decide)
    refine lv_lload_n hx hb dX0_compares_7 rfl (lv_at hl 0 rfl) ?_
    refine lv_lload_n hx hb dX0_compares_8 rfl (lv_at hl 2 rfl) ?_
    refine W.lcmp hx hb dX0_compares_9 ?_
    refine lv_if_le (tgt := 17) hx hb dX0_compares_10 (by decide) (fun c_1005 => ?_) (fun c_1005 => ?_)
    · skip
      have nc_1005 := jl_le c_1005
      refine lv_iconst (v := 0) hx hb dX0_compares_17 (by decide) ?_
      exact W.zret (v := 0) hx hb hr rfl (fun t ht hW => ⟨⟨0, _, rfl, Or.inl (⟨(scp_n (by omega)), rfl, rfl⟩), by rw [ht]; exact hP, hD⟩, hS.F ht⟩) hS.2.2 dX0_compares_18
    · skip
      have nc_1005 := jl_nle c_1005
      refine lv_iconst (v := 1) hx hb dX0_compares_13 (by decide) ?_
      refine lv_goto (tgt := 18) hx hb dX0_compares_14 (by decide) ?_
      exact W.zret (v := 1) hx hb hr rfl (fun t ht hW => ⟨⟨1, _, rfl, Or.inr (⟨(scp_y (by omega)), rfl, rfl⟩), by rw [ht]; exact hP, hD⟩, hS.F ht⟩) hS.2.2 dX0_compares_18

set_option maxHeartbeats 4000000 in
set_option maxRecDepth 100000 in
theorem kX0_holds (l : Launch) (G : va_G) (y : Nat → ClassId) (sz : Nat) (ob : Nat) (a1 : Int32) (ob_lines : Int32) (ob_used : Int32) (ob_paying : Nat) (ob_kind : Nat) (ob_within : Nat) (ob_start : Nat) (ob_stop : Nat) (ob_tests : Nat) (ob_facts : Nat) (ob_beyond : Int32) (fob_start : Nat → Int32) (fob_stop : Nat → Int32) (fob_tests : Nat → Int32) (fob_facts : Nat → Int32) (p_ob_lines : (0 : Int) ≤ ob_lines.toInt ∧ ob_lines.toInt ≤ 24) (p_ob_used : (0 : Int) ≤ ob_used.toInt ∧ ob_used.toInt ≤ 700) (p_fob_start : ∀ i, (0 : Int) ≤ (fob_start i).toInt ∧ (fob_start i).toInt ≤ 700) (p_fob_stop : ∀ i, (0 : Int) ≤ (fob_stop i).toInt ∧ (fob_stop i).toInt ≤ 700) (p_ob_beyond : (0 : Int) ≤ ob_beyond.toInt ∧ ob_beyond.toInt ≤ 1) (p_a1 : (0 : Int) ≤ a1.toInt ∧ a1.toInt ≤ 23) : Met l yX0_holds (Cond.code yX0_holds cX0_holds 13 (some .boolean) :: wAll) ({ frames := 1, cells := 0, slots := 0, locals := 24 }) (va_Pc [.ref ob, .int a1] (kp G y sz [(ce_X0 ob ob_lines ob_used ob_paying ob_kind ob_within ob_start ob_stop ob_tests ob_facts ob_beyond), (ce_i24 y ob_start fob_start), (ce_i24 y ob_stop fob_stop), (ce_i700 y ob_tests fob_tests), (ce_i5 y ob_facts fob_facts)])) (va_Qi (fun (r : Int32) (w : va_W) => (∃ (v_869 : Int32), ((0 : Int) ≤ v_869.toInt ∧ v_869.toInt ≤ 1) ∧ (∀ L0, tkE fob_tests L0 (fob_start a1.toInt.toNat).toInt.toNat (fob_stop a1.toInt.toNat).toInt.toNat → wfE L0 0 → ¬ evl (fun k : Nat => (fob_facts k).toInt) L0 0 0 1 2005 false false) ∧ r = 0 ∧ w = [(ce_X0 ob ob_lines ob_used ob_paying ob_kind ob_within ob_start ob_stop ob_tests ob_facts v_869), (ce_i24 y ob_start fob_start), (ce_i24 y ob_stop fob_stop), (ce_i700 y ob_tests fob_tests), (ce_i5 y ob_facts fob_facts)]) ∨ (∃ (v_870 : Int32), ((0 : Int) ≤ v_870.toInt ∧ v_870.toInt ≤ 1) ∧ (∀ L0, tkE fob_tests L0 (fob_start a1.toInt.toNat).toInt.toNat (fob_stop a1.toInt.toNat).toInt.toNat → wfE L0 0 → evl (fun k : Nat => (fob_facts k).toInt) L0 0 0 1 2005 false false) ∧ r = 1 ∧ w = [(ce_X0 ob ob_lines ob_used ob_paying ob_kind ob_within ob_start ob_stop ob_tests ob_facts v_870), (ce_i24 y ob_start fob_start), (ce_i24 y ob_stop fob_stop), (ce_i700 y ob_tests fob_tests), (ce_i5 y ob_facts fob_facts)])) (kq G (va_A [(ce_X0 ob ob_lines ob_used ob_paying ob_kind ob_within ob_start ob_stop ob_tests ob_facts ob_beyond), (ce_i24 y ob_start fob_start), (ce_i24 y ob_stop fob_stop), (ce_i700 y ob_tests fob_tests), (ce_i5 y ob_facts fob_facts)] sz)) (va_A [(ce_X0 ob ob_lines ob_used ob_paying ob_kind ob_within ob_start ob_stop ob_tests ob_facts ob_beyond), (ce_i24 y ob_start fob_start), (ce_i24 y ob_stop fob_stop), (ce_i700 y ob_tests fob_tests), (ce_i5 y ob_facts fob_facts)] sz)) 0 0 (va_A [(ce_X0 ob ob_lines ob_used ob_paying ob_kind ob_within ob_start ob_stop ob_tests ob_facts ob_beyond), (ce_i24 y ob_start fob_start), (ce_i24 y ob_stop fob_stop), (ce_i700 y ob_tests fob_tests), (ce_i5 y ob_facts fob_facts)] sz) := by
  refine Met.ofW (cc := cX0_holds) (maxL := 13) (ret := (some .boolean)) (by decide) rfl ?_
  intro p e s m args below meth c s₁ B hml hv
  obtain ⟨rfl, hsz, hP, hK, hD0⟩ := hv
  have hx := B.exec
  have hb := B.bytes
  have hr := B.returns
  have hw0 : ∀ w ∈ wAll, w.before _ s = true := fun w h => atoms_spec (ws := Cond.code yX0_holds cX0_holds 13 (some .boolean) :: wAll) B.pre w (List.mem_cons_of_mem _ h)
  have hown : s.vm.findClass RX0 = some m.cls := findClass_of_methodNamed B.named
  subst hsz
  have hD := hD0.self (sz := s.heap.size)
  generalize hAe : va_A [(ce_X0 ob ob_lines ob_used ob_paying ob_kind ob_within ob_start ob_stop ob_tests ob_facts ob_beyond), (ce_i24 y ob_start fob_start), (ce_i24 y ob_stop fob_stop), (ce_i700 y ob_tests fob_tests), (ce_i5 y ob_facts fob_facts)] s.heap.size = A at hD ⊢
  have hA : ∀ q : Nat, s.heap.size ≤ q → A q := fun q h => by rw [← hAe]; exact Or.inr h
  have hS : va_S A s.heap s.heap [] := va_S.rf
  have hP : va_P G vwCl [(ce_X0 ob ob_lines ob_used ob_paying ob_kind ob_within ob_start ob_stop ob_tests ob_facts ob_beyond), (ce_i24 y ob_start fob_start), (ce_i24 y ob_stop fob_stop), (ce_i700 y ob_tests fob_tests), (ce_i5 y ob_facts fob_facts)] s.heap := hP
  have hl := lv_entry ([.ref ob, .int a1]) (n := 13) (Nat.le_of_ble_eq_true rfl)
  rw [lg_entry_eq]
  generalize (lg_sl ([.ref ob, .int a1]) ++ List.replicate (13 - (lg_sl ([.ref ob, .int a1])).length) Slot.unset).toArray = ls at hl ⊢
  have hl : lv_has ls 13 [(0, .ref ob), (1, .int a1)] := hl
  refine lv_aload_n hx hb dX0_holds_0 rfl (lv_at hl 0 rfl) ?_
  refine va_get (D := G) (ci := 0) (v := .ref ob_stop) (C := RX0) (T := TX0) (N := 10) hx hb hw0 inA_wsX00 hown hK.1 hP 0 rfl rfl 6 (by decide) (hw0 _ m_278) (fun _ h9 => h9) rfl dX0_holds_1 ?_
  refine lv_iload_n hx hb dX0_holds_4 rfl (lv_at hl 1 rfl) ?_
  refine va_iald hx hb hK.1 hP 2 1 rfl rfl (vi p_a1 (by decide)) dX0_holds_5 ?_
  refine lv_topi (fun v_1001 ev_1001 => ?_)
  have bv_1001 : (0 : Int) ≤ v_1001.toInt ∧ v_1001.toInt ≤ 700 := rd_b ev_1001 p_fob_stop
  have lbv_1001 := ld_n ev_1001 (by omega)
  have l700 : Int32.toInt 700 = 700 := by decide
  refine lv_sipush (v := 700) hx hb dX0_holds_6 (by decide) ?_
  refine va_mmin (own := RX0) hx hb (by rw [hml]; exact hl.1.symm) hown (hw0 _ m_281) (hw0 _ m_282) (hw0 _ m_283) (hw0 _ m_284) (Nat.le_of_ble_eq_true rfl) (Nat.le_of_ble_eq_true rfl) (Nat.zero_le _) (Nat.zero_le _) dX0_holds_9 ?_
  refine lv_topi (fun v_1002 ev_1002 => ?_)
  have bv_1002 : (0 : Int) ≤ v_1002.toInt ∧ v_1002.toInt ≤ 700 := bm_min ev_1002 bv_1001 (bkc (x := 700) (c := 700) (by decide)) _ _ (by decide)
  have mqv_1002 := mn_q ev_1002
  have mzv_1002 : Int32.toInt 700 = 700 := by decide
  refine lv_istore_n (lv' := [(2, .int v_1002), (0, .ref ob), (1, .int a1)]) hx hb dX0_holds_12 rfl hl (by decide) rfl (fun ls hl => ?_)
  refine lv_lconst (v := 0) hx hb dX0_holds_13 (by decide) ?_
  refine lv_lstore_n (lv' := [(3, .long 0), (2, .int v_1002), (0, .ref ob), (1, .int a1)]) hx hb dX0_holds_14 rfl hl (by decide) rfl (fun ls hl => ?_)
  refine lv_lconst (v := 0) hx hb dX0_holds_15 (by decide) ?_
  refine lv_lstore (lv' := [(5, .long 0), (3, .long 0), (2, .int v_1002), (0, .ref ob), (1, .int a1)]) hx hb dX0_holds_16 hl (by decide) rfl (fun ls hl => ?_)
  refine lv_lconst (v := 1) hx hb dX0_holds_18 (by decide) ?_
  refine lv_lstore (lv' := [(7, .long 1), (5, .long 0), (3, .long 0), (2, .int v_1002), (0, .ref ob), (1, .int a1)]) hx hb dX0_holds_19 hl (by decide) rfl (fun ls hl => ?_)
  refine lv_iconst (v := 0) hx hb dX0_holds_21 (by decide) ?_
  refine lv_istore (lv' := [(9, .int 0), (7, .long 1), (5, .long 0), (3, .long 0), (2, .int v_1002), (0, .ref ob), (1, .int a1)]) hx hb dX0_holds_22 hl (by decide) rfl (fun ls hl => ?_)
  refine lv_sipush (v := 2005) hx hb dX0_holds_24 (by decide) ?_
  refine lv_istore (lv' := [(10, .int 2005), (9, .int 0), (7, .long 1), (5, .long 0), (3, .long 0), (2, .int v_1002), (0, .ref ob), (1, .int a1)]) hx hb dX0_holds_27 hl (by decide) rfl (fun ls hl => ?_)
  refine lv_aload_n hx hb dX0_holds_29 rfl (lv_at hl 6 rfl) ?_
  refine lv_iconst (v := 0) hx hb dX0_holds_30 (by decide) ?_
  refine va_put (D := G) (ci := 0) (v := .int 0) (ty := .boolean) (C := RX0) (T := TX0) (N := 10) hx hb hw0 inA_wsX00 tyX0 tyX0_ok nmX0 hown hK.1 hP hD hS 0 rfl rfl 9 (by decide) (hw0 _ m_264) (fun _ h9 => h9) rfl fd_X0_9 rfl rfl (Nat.le_of_ble_eq_true rfl) dX0_holds_31 (fun H locs hP hD hS => ?_)
  obtain ⟨hP, hD⟩ : vPD G A H [(ce_X0 ob ob_lines ob_used ob_paying ob_kind ob_within ob_start ob_stop ob_tests ob_facts 0), (ce_i24 y ob_start fob_start), (ce_i24 y ob_stop fob_stop), (ce_i700 y ob_tests fob_tests), (ce_i5 y ob_facts fob_facts)] := ⟨hP, hD⟩
  refine lv_aload_n hx hb dX0_holds_34 rfl (lv_at hl 6 rfl) ?_
  refine va_get (D := G) (ci := 0) (v := .ref ob_start) (C := RX0) (T := TX0) (N := 10) hx hb hw0 inA_wsX00 hown hK.1 hP 0 rfl rfl 5 (by decide) (hw0 _ m_277) (fun _ h9 => h9) rfl dX0_holds_35 ?_
  refine lv_iload_n hx hb dX0_holds_38 rfl (lv_at hl 7 rfl) ?_
  refine va_iald hx hb hK.1 hP 1 1 rfl rfl (vi p_a1 (by decide)) dX0_holds_39 ?_
  refine lv_topi (fun v_1003 ev_1003 => ?_)
  have bv_1003 : (0 : Int) ≤ v_1003.toInt ∧ v_1003.toInt ≤ 700 := rd_b ev_1003 p_fob_start
  have lbv_1003 := ld_n ev_1003 (by omega)
  refine lv_istore (lv' := [(11, .int v_1003), (10, .int 2005), (9, .int 0), (7, .long 1), (5, .long 0), (3, .long 0), (2, .int v_1002), (0, .ref ob), (1, .int a1)]) hx hb dX0_holds_40 hl (by decide) rfl (fun ls hl => ?_)
  refine loopX (fun n H locs ls st => ∃ (v_1252 : Int32) (v_1253 : Int32) (v_1254 : Int32) (v_1255 : Int64) (v_1256 : Int64) (v_1257 : Int64) (v_1258 : Int32), (701 - v_1252.toInt).toNat = n ∧ ((0 : Int) ≤ v_1252.toInt ∧ v_1252.toInt ≤ 701) ∧ ((2003 : Int) ≤ v_1253.toInt ∧ v_1253.toInt ≤ 2147483647) ∧ ((0 : Int) ≤ v_1254.toInt ∧ v_1254.toInt ≤ 1) ∧ ((0 : Int) ≤ v_1258.toInt ∧ v_1258.toInt ≤ 1) ∧ (hlI fob_tests (fun k : Nat => (fob_facts k).toInt) v_1002.toInt.toNat (fob_start a1.toInt.toNat).toInt.toNat v_1252.toInt.toNat v_1257.toInt v_1256.toInt v_1255.toInt v_1253.toInt (decide (v_1254.toInt = 1)) (decide (v_1258.toInt = 1))) ∧ (v_1002.toInt = (fob_stop a1.toInt.toNat).toInt) ∧ (-1000000000 ≤ v_1257.toInt ∧ v_1257.toInt ≤ 1000000000) ∧ (-1000000000 ≤ v_1256.toInt ∧ v_1256.toInt ≤ 1000000000) ∧ (-1000000000 ≤ v_1255.toInt ∧ v_1255.toInt ≤ 1000000000) ∧ st = [] ∧ vPD G A H [(ce_X0 ob ob_lines ob_used ob_paying ob_kind ob_within ob_start ob_stop ob_tests ob_facts v_1258), (ce_i24 y ob_start fob_start), (ce_i24 y ob_stop fob_stop), (ce_i700 y ob_tests fob_tests), (ce_i5 y ob_facts fob_facts)] ∧ va_S A s.heap H locs ∧ lv_has ls 13 [(11, .int v_1252), (10, .int v_1253), (9, .int v_1254), (7, .long v_1255), (5, .long v_1256), (3, .long v_1257), (2, .int v_1002), (0, .ref ob)]) ?_ (n := (701 - v_1003.toInt).toNat) ⟨v_1003, 2005, 0, 1, 0, 0, 0, rfl, (bw (0) (701) bv_1003 (by decide)), (bw (2003) (2147483647) (bkc (x := 2005) (c := 2005) (by decide)) (by decide)), (bw (0) (1) (bkc (x := 0) (c := 0) (by decide)) (by decide)), (bw (0) (1) (bkc (x := 0) (c := 0) (by decide)) (by decide)), (hl_0 (by omega) (by decide) (by decide) (by decide) (by decide) (by decide) (by decide)), (by have h90 : Int32.toInt 0 = 0 := (by decide); have h91 : Int32.toInt 2005 = 2005 := (by decide); have h80 : Int64.toInt 0 = 0 := (by decide); have h81 : Int64.toInt 1 = 1 := (by decide); omega), (by have h90 : Int32.toInt 0 = 0 := (by decide); have h91 : Int32.toInt 2005 = 2005 := (by decide); have h80 : Int64.toInt 0 = 0 := (by decide); have h81 : Int64.toInt 1 = 1 := (by decide); omega), (by have h90 : Int32.toInt 0 = 0 := (by decide); have h91 : Int32.toInt 2005 = 2005 := (by decide); have h80 : Int64.toInt 0 = 0 := (by decide); have h81 : Int64.toInt 1 = 1 := (by decide); omega), (by have h90 : Int32.toInt 0 = 0 := (by decide); have h91 : Int32.toInt 2005 = 2005 := (by decide); have h80 : Int64.toInt 0 = 0 := (by decide); have h81 : Int64.toInt 1 = 1 := (by decide); omega), rfl, ⟨hP, hD⟩, hS, lv_sub hl [0, 1, 2, 3, 4, 5, 6, 7] rfl⟩
  rintro n ih_1346 H locs ls st ⟨v_1252, v_1253, v_1254, v_1255, v_1256, v_1257, v_1258, hn_1346, bv_1252, bv_1253, bv_1254, bv_1258, rl1258_0, rl1258_1, rl1258_2, rl1258_3, rl1258_4, rfl, ⟨hP, hD⟩, hS, hl⟩
  refine lv_iload hx hb dX0_holds_42 (lv_at hl 0 rfl) ?_
  refine lv_iload_n hx hb dX0_holds_44 rfl (lv_at hl 6 rfl) ?_
  refine lv_icmp_ge (tgt := 205) hx hb dX0_holds_45 (by decide) (fun c_1347 => ?_) (fun c_1347 => ?_)
  · skip
    have nc_1347 := nb_le (700) (0) c_1347 bv_1002 bv_1252 (by decide)
    refine lv_iconst (v := 1) hx hb dX0_holds_205 (by decide) ?_
    exact W.zret (v := 1) hx hb hr rfl (fun t ht hW => ⟨⟨1, _, rfl, Or.inr (⟨v_1258, bv_1258, (fun L0 q1 q2 => hl_E rl1258_0 (by omega) (by have e9 := rl1258_1; rw [← e9] at q1; exact q1) q2), rfl, rfl⟩), by rw [ht]; exact hP, hD⟩, hS.F ht⟩) hS.2.2 dX0_holds_206
  · skip
    have nc_1347 := nb_nle (699) (1) c_1347 bv_1252 bv_1002 (by decide)
    refine lv_iload hx hb dX0_holds_48 (lv_at hl 0 rfl) ?_
    refine lv_iconst (v := 1) hx hb dX0_holds_50 (by decide) ?_
    refine lv_iadd hx hb dX0_holds_51 ?_
    refine lv_topi (fun v_1348 ev_1348 => ?_)
    have qv_1348 := ba_add ev_1348 nc_1347.1 (bkc (x := 1) (c := 1) (by decide)) (by decide)
    have bv_1348 : (1 : Int) ≤ v_1348.toInt ∧ v_1348.toInt ≤ 700 := bq_add qv_1348 nc_1347.1 (bkc (x := 1) (c := 1) (by decide)) _ _ (by decide)
    have qv_1348 : v_1348.toInt = v_1252.toInt + (1) := qv_1348
    refine lv_iload_n hx hb dX0_holds_52 rfl (lv_at hl 6 rfl) ?_
    refine lv_icmp_ge (tgt := 68) hx hb dX0_holds_53 (by decide) (fun c_1349 => ?_) (fun c_1349 => ?_)
    · skip
      have nc_1349 := nb_le (700) (1) c_1349 nc_1347.2.1 bv_1348 (by decide)
      refine lv_sipush (v := 2006) hx hb dX0_holds_68 (by decide) ?_
      refine lv_istore (lv' := [(12, .int 2006), (11, .int v_1252), (10, .int v_1253), (9, .int v_1254), (7, .long v_1255), (5, .long v_1256), (3, .long v_1257), (2, .int v_1002), (0, .ref ob)]) hx hb dX0_holds_71 hl (by decide) rfl (fun ls hl => ?_)
      refine lv_aload_n hx hb dX0_holds_73 rfl (lv_at hl 8 rfl) ?_
      refine lv_lload hx hb dX0_holds_74 (lv_at hl 4 rfl) ?_
      refine lv_aload_n hx hb dX0_holds_76 rfl (lv_at hl 8 rfl) ?_
      refine lv_aload_n hx hb dX0_holds_77 rfl (lv_at hl 8 rfl) ?_
      refine va_get (D := G) (ci := 0) (v := .ref ob_tests) (C := RX0) (T := TX0) (N := 10) hx hb hw0 inA_wsX00 hown hK.1 hP 0 rfl rfl 7 (by decide) (hw0 _ m_279) (fun _ h9 => h9) rfl dX0_holds_78 ?_
      refine lv_iload hx hb dX0_holds_81 (lv_at hl 1 rfl) ?_
      refine va_iald hx hb hK.1 hP 3 1 rfl rfl (vi nc_1347.1 (by decide)) dX0_holds_83 ?_
      refine lv_topi (fun v_1350 ev_1350 => ?_)
      refine cVim (As := [.int v_1350]) (rest := [.long v_1255, .ref ob]) ⟨hx, hb, hml, hown, hw0⟩ hA hK hP hD hS [true, false, false, false, true] (kX0_partOf l G y _ ob v_1350 ob_lines ob_used ob_paying ob_kind ob_within ob_start ob_stop ob_tests ob_facts v_1258 fob_facts p_ob_lines p_ob_used bv_1258) rfl ⟨(callB_of 1 hw0 (gA m_304) rfl rfl rfl (hw0 _ m_286) (hw0 _ m_285) cb_X0_partOf ⟨Nat.le_of_ble_eq_true rfl, Nat.le_of_ble_eq_true rfl⟩), (hw0 _ m_287), (hw0 _ m_288)⟩ (ci := 0) (q := (RX0, TX0, 10)) rfl rfl rfl hl.1 (Nat.le_of_ble_eq_true rfl) dX0_holds_84 ⟨Nat.le_of_ble_eq_true rfl, Nat.le_of_ble_eq_true rfl⟩ (fun r_1351 w_1351 H locs hw_1351 hP hD hS => ?_)
      obtain ⟨v_1352, h_1353, er_1351, rfl⟩ := hw_1351
      subst r_1351
      obtain ⟨hP, hD⟩ : vPD G A H [(ce_X0 ob ob_lines ob_used ob_paying ob_kind ob_within ob_start ob_stop ob_tests ob_facts v_1258), (ce_i24 y ob_start fob_start), (ce_i24 y ob_stop fob_stop), (ce_i700 y ob_tests fob_tests), (ce_i5 y ob_facts fob_facts)] := ⟨hP, hD⟩
      refine lv_i2l hx hb dX0_holds_87 rfl ?_
      have kk_1354 : ((v_1352).toInt64).toInt = (v_1352).toInt := Int32.toInt_toInt64 _
      refine lv_lmul hx hb dX0_holds_88 ?_
      refine lv_topl (fun v_1355 ev_1355 => ?_)
      have qv_1355 := ll_m ev_1355 (by omega)
      refine cVlm (As := [.long v_1355]) (rest := []) ⟨hx, hb, hml, hown, hw0⟩ hA hK hP hD hS [true] (kX0_bounded l G y _ ob v_1355 ob_lines ob_used ob_paying ob_kind ob_within ob_start ob_stop ob_tests ob_facts v_1258 p_ob_lines p_ob_used bv_1258) rfl ⟨(callB_of 1 hw0 (gA m_261) rfl rfl rfl (hw0 _ m_286) (hw0 _ m_289) cb_X0_bounded ⟨Nat.le_of_ble_eq_true rfl, Nat.le_of_ble_eq_true rfl⟩), (hw0 _ m_290), (hw0 _ m_291)⟩ (ci := 0) (q := (RX0, TX0, 10)) rfl rfl rfl hl.1 (Nat.le_of_ble_eq_true rfl) dX0_holds_89 ⟨Nat.le_of_ble_eq_true rfl, Nat.le_of_ble_eq_true rfl⟩ (fun r_1356 w_1356 H locs hw_1356 hP hD hS => ?_)
      obtain ⟨v_1357, v_1358, bv_1358, h_1359, h_1360, er_1356, rfl⟩ := hw_1356
      subst r_1356
      obtain ⟨hP, hD⟩ : vPD G A H [(ce_X0 ob ob_lines ob_used ob_paying ob_kind ob_within ob_start ob_stop ob_tests ob_facts v_1358), (ce_i24 y ob_start fob_start), (ce_i24 y ob_stop fob_stop), (ce_i700 y ob_tests fob_tests), (ce_i5 y ob_facts fob_facts)] := ⟨hP, hD⟩
      have bbh_1359 := bcu_b v_1355.toInt; rw [← h_1359] at bbh_1359
      refine lv_lstore (lv' := [(7, .long v_1357), (12, .int 2006), (11, .int v_1252), (10, .int v_1253), (9, .int v_1254), (5, .long v_1256), (3, .long v_1257), (2, .int v_1002), (0, .ref ob)]) hx hb dX0_holds_92 hl (by decide) rfl (fun ls hl => ?_)
      refine lv_iload hx hb dX0_holds_94 (lv_at hl 1 rfl) ?_
      refine lv_sipush (v := 2002) hx hb dX0_holds_96 (by decide) ?_
      refine lv_icmp_ne (tgt := 105) hx hb dX0_holds_99 (by decide) (fun _ => ?_) (fun c9 => absurd c9 (by decide))
      refine lv_aload_n hx hb dX0_holds_105 rfl (lv_at hl 8 rfl) ?_
      refine lv_iload hx hb dX0_holds_106 (lv_at hl 4 rfl) ?_
      refine lv_if_eq (tgt := 119) hx hb dX0_holds_108 (by decide) (fun c_1361 => ?_) (fun c_1361 => ?_)
      · skip
        have nc_1361 := nb_eq (0) (0) c_1361 bv_1254 (bkc (x := 0) (c := 0) (by decide)) (by decide)
        refine lv_lload hx hb dX0_holds_119 (lv_at hl 5 rfl) ?_
        refine lv_lload hx hb dX0_holds_121 (lv_at hl 0 rfl) ?_
        refine lv_ladd hx hb dX0_holds_123 ?_
        refine lv_topl (fun v_1362 ev_1362 => ?_)
        have qv_1362 := ll_a ev_1362 (by omega)
        refine cVlm (As := [.long v_1362]) (rest := []) ⟨hx, hb, hml, hown, hw0⟩ hA hK hP hD hS [true] (kX0_bounded l G y _ ob v_1362 ob_lines ob_used ob_paying ob_kind ob_within ob_start ob_stop ob_tests ob_facts v_1358 p_ob_lines p_ob_used bv_1358) rfl ⟨(callB_of 1 hw0 (gA m_261) rfl rfl rfl (hw0 _ m_286) (hw0 _ m_289) cb_X0_bounded ⟨Nat.le_of_ble_eq_true rfl, Nat.le_of_ble_eq_true rfl⟩), (hw0 _ m_290), (hw0 _ m_291)⟩ (ci := 0) (q := (RX0, TX0, 10)) rfl rfl rfl hl.1 (Nat.le_of_ble_eq_true rfl) dX0_holds_124 ⟨Nat.le_of_ble_eq_true rfl, Nat.le_of_ble_eq_true rfl⟩ (fun r_1363 w_1363 H locs hw_1363 hP hD hS => ?_)
        obtain ⟨v_1364, v_1365, bv_1365, h_1366, h_1367, er_1363, rfl⟩ := hw_1363
        subst r_1363
        obtain ⟨hP, hD⟩ : vPD G A H [(ce_X0 ob ob_lines ob_used ob_paying ob_kind ob_within ob_start ob_stop ob_tests ob_facts v_1365), (ce_i24 y ob_start fob_start), (ce_i24 y ob_stop fob_stop), (ce_i700 y ob_tests fob_tests), (ce_i5 y ob_facts fob_facts)] := ⟨hP, hD⟩
        have bbh_1366 := bcu_b v_1362.toInt; rw [← h_1366] at bbh_1366
        refine lv_lstore (lv' := [(5, .long v_1364), (7, .long v_1357), (12, .int 2006), (11, .int v_1252), (10, .int v_1253), (9, .int v_1254), (3, .long v_1257), (2, .int v_1002), (0, .ref ob)]) hx hb dX0_holds_127 hl (by decide) rfl (fun ls hl => ?_)
        refine lv_lconst (v := 1) hx hb dX0_holds_129 (by decide) ?_
        refine lv_lstore (lv' := [(7, .long 1), (5, .long v_1364), (12, .int 2006), (11, .int v_1252), (10, .int v_1253), (9, .int v_1254), (3, .long v_1257), (2, .int v_1002), (0, .ref ob)]) hx hb dX0_holds_130 hl (by decide) rfl (fun ls hl => ?_)
        refine lv_iload hx hb dX0_holds_132 (lv_at hl 2 rfl) ?_
        refine lv_sipush (v := 2001) hx hb dX0_holds_134 (by decide) ?_
        refine lv_icmp_ne (tgt := 144) hx hb dX0_holds_137 (by decide) (fun _ => ?_) (fun c9 => absurd c9 (by decide))
        refine lv_iconst (v := 0) hx hb dX0_holds_144 (by decide) ?_
        refine lv_istore (lv' := [(9, .int 0), (7, .long 1), (5, .long v_1364), (12, .int 2006), (11, .int v_1252), (10, .int v_1253), (3, .long v_1257), (2, .int v_1002), (0, .ref ob)]) hx hb dX0_holds_145 hl (by decide) rfl (fun ls hl => ?_)
        refine lv_iload hx hb dX0_holds_147 (lv_at hl 3 rfl) ?_
        refine lv_sipush (v := 2006) hx hb dX0_holds_149 (by decide) ?_
        refine lv_icmp_ne (tgt := 181) hx hb dX0_holds_152 (by decide) (fun c9 => absurd (by decide) c9) (fun _ => ?_)
        refine lv_aload_n hx hb dX0_holds_155 rfl (lv_at hl 8 rfl) ?_
        refine va_get (D := G) (ci := 0) (v := .int v_1365) (C := RX0) (T := TX0) (N := 10) hx hb hw0 inA_wsX00 hown hK.1 hP 0 rfl rfl 9 (by decide) (hw0 _ m_264) (fun _ h9 => h9) rfl dX0_holds_156 ?_
        refine lv_if_ne (tgt := 173) hx hb dX0_holds_159 (by decide) (fun c_1368 => ?_) (fun c_1368 => ?_)
        · skip
          have nc_1368 := nb_ne (1) (1) c_1368 bv_1365 (k := 0) (by decide) (by decide)
          refine lv_iconst (v := 0) hx hb dX0_holds_173 (by decide) ?_
          exact W.zret (v := 0) hx hb hr rfl (fun t ht hW => ⟨⟨0, _, rfl, Or.inl (⟨v_1365, (bw (0) (1) nc_1368.1 (by decide)), (fun L0 q1 q2 => hl_F rl1258_0 (by omega) (tj_2 (by omega) (by omega)) (hx_p ev_1350 (by omega) h_1353) (h_1366.trans (congrArg bcu (sm_1 (by omega) (h_1359.trans (congrArg bcu qv_1355.1))))) (bo_2 h_1360 h_1367 qv_1355.1 (sm_1 (by omega) (h_1359.trans (congrArg bcu qv_1355.1)))) (Or.inl (decide_eq_true (by omega))) (by have e9 := rl1258_1; rw [← e9] at q1; exact q1) q2), rfl, rfl⟩), by rw [ht]; exact hP, hD⟩, hS.F ht⟩) hS.2.2 dX0_holds_174
        · skip
          have nc_1368 := nb_eq (0) (0) c_1368 bv_1365 (bkc (x := 0) (c := 0) (by decide)) (by decide)
          refine lv_lload_n hx hb dX0_holds_162 rfl (lv_at hl 6 rfl) ?_
          refine lv_iload hx hb dX0_holds_163 (lv_at hl 5 rfl) ?_
          refine lv_lload hx hb dX0_holds_165 (lv_at hl 2 rfl) ?_
          refine cSim (As := [.long v_1257, .int v_1253, .long v_1364]) (rest := []) ⟨hx, hb, hml, hown, hw0⟩ hA hK hP hD hS [] (kX0_compares l G y _ v_1257 v_1253 v_1364 ) rfl ⟨(callB_of 3 hw0 (gA m_268) rfl rfl rfl (hw0 _ m_286) (hw0 _ m_292) cb_X0_compares ⟨Nat.le_of_ble_eq_true rfl, Nat.le_of_ble_eq_true rfl⟩), (hw0 _ m_293)⟩ rfl hl.1 (Nat.le_of_ble_eq_true rfl) dX0_holds_167 ⟨Nat.le_of_ble_eq_true rfl, Nat.le_of_ble_eq_true rfl⟩ (fun r_1369 w_1369 H locs hw_1369 hP hD hS => ?_)
          rcases hw_1369 with ⟨h_1370, rfl, rfl⟩ | ⟨h_1371, rfl, rfl⟩
          · skip
            obtain ⟨hP, hD⟩ : vPD G A H [(ce_X0 ob ob_lines ob_used ob_paying ob_kind ob_within ob_start ob_stop ob_tests ob_facts v_1365), (ce_i24 y ob_start fob_start), (ce_i24 y ob_stop fob_stop), (ce_i700 y ob_tests fob_tests), (ce_i5 y ob_facts fob_facts)] := ⟨hP, hD⟩
            refine lv_if_ne (tgt := 175) hx hb dX0_holds_170 (by decide) (fun c9 => absurd (by decide) c9) (fun _ => ?_)
            refine lv_iconst (v := 0) hx hb dX0_holds_173 (by decide) ?_
            exact W.zret (v := 0) hx hb hr rfl (fun t ht hW => ⟨⟨0, _, rfl, Or.inl (⟨v_1365, (bw (0) (1) nc_1368.1 (by decide)), (fun L0 q1 q2 => hl_F rl1258_0 (by omega) (tj_2 (by omega) (by omega)) (hx_p ev_1350 (by omega) h_1353) (h_1366.trans (congrArg bcu (sm_1 (by omega) (h_1359.trans (congrArg bcu qv_1355.1))))) (bo_2 h_1360 h_1367 qv_1355.1 (sm_1 (by omega) (h_1359.trans (congrArg bcu qv_1355.1)))) (Or.inr h_1370) (by have e9 := rl1258_1; rw [← e9] at q1; exact q1) q2), rfl, rfl⟩), by rw [ht]; exact hP, hD⟩, hS.F ht⟩) hS.2.2 dX0_holds_174
          · skip
            obtain ⟨hP, hD⟩ : vPD G A H [(ce_X0 ob ob_lines ob_used ob_paying ob_kind ob_within ob_start ob_stop ob_tests ob_facts v_1365), (ce_i24 y ob_start fob_start), (ce_i24 y ob_stop fob_stop), (ce_i700 y ob_tests fob_tests), (ce_i5 y ob_facts fob_facts)] := ⟨hP, hD⟩
            refine lv_if_ne (tgt := 175) hx hb dX0_holds_170 (by decide) (fun _ => ?_) (fun c9 => absurd c9 (by decide))
            refine lv_lconst (v := 0) hx hb dX0_holds_175 (by decide) ?_
            refine lv_lstore (lv' := [(5, .long 0), (9, .int 0), (7, .long 1), (12, .int 2006), (11, .int v_1252), (10, .int v_1253), (3, .long v_1257), (2, .int v_1002), (0, .ref ob)]) hx hb dX0_holds_176 hl (by decide) rfl (fun ls hl => ?_)
            refine lv_goto (tgt := 199) hx hb dX0_holds_178 (by decide) ?_
            obtain ⟨v_1372, ev_1372⟩ : ∃ z : Int32, z = v_1252 + 2 := ⟨_, rfl⟩
            have qv_1372 := ba_add ev_1372 nc_1347.1 (bkc (x := 2) (c := 2) (by decide)) (by decide)
            have bv_1372 : (2 : Int) ≤ v_1372.toInt ∧ v_1372.toInt ≤ 701 := bq_add qv_1372 nc_1347.1 (bkc (x := 2) (c := 2) (by decide)) _ _ (by decide)
            have qv_1372 : v_1372.toInt = v_1252.toInt + (2) := qv_1372
            refine lv_iinc (v := v_1372) (lv' := [(11, .int v_1372), (5, .long 0), (9, .int 0), (7, .long 1), (12, .int 2006), (10, .int v_1253), (3, .long v_1257), (2, .int v_1002), (0, .ref ob)]) hx hb dX0_holds_199 hl (k := 4) rfl (ev_1372.symm) (by decide) rfl (fun ls hl => ?_)
            refine lv_goto (tgt := 42) hx hb dX0_holds_202 (by decide) ?_
            exact ih_1346 _ (ml_inc (hi := 701) hn_1346 qv_1372 (by decide) ((bw (0) (701) bv_1372 (by decide))).2) _ _ _ _ ⟨v_1372, v_1253, 0, 1, 0, v_1257, v_1365, rfl, (bw (0) (701) bv_1372 (by decide)), bv_1253, (bw (0) (1) (bkc (x := 0) (c := 0) (by decide)) (by decide)), (bw (0) (1) nc_1368.1 (by decide)), (hl_A (by omega) (by decide) (by decide) (by decide) rl1258_0 (by omega) (tj_2 (by omega) (by omega)) (hx_p ev_1350 (by omega) h_1353) (h_1366.trans (congrArg bcu (sm_1 (by omega) (h_1359.trans (congrArg bcu qv_1355.1))))) (bo_2 h_1360 h_1367 qv_1355.1 (sm_1 (by omega) (h_1359.trans (congrArg bcu qv_1355.1)))) (decide_eq_false (by omega)) h_1371), (by have h90 : Int32.toInt 0 = 0 := (by decide); have h80 : Int64.toInt 0 = 0 := (by decide); have h81 : Int64.toInt 1 = 1 := (by decide); omega), (by have h90 : Int32.toInt 0 = 0 := (by decide); have h80 : Int64.toInt 0 = 0 := (by decide); have h81 : Int64.toInt 1 = 1 := (by decide); omega), (by have h90 : Int32.toInt 0 = 0 := (by decide); have h80 : Int64.toInt 0 = 0 := (by decide); have h81 : Int64.toInt 1 = 1 := (by decide); omega), (by have h90 : Int32.toInt 0 = 0 := (by decide); have h80 : Int64.toInt 0 = 0 := (by decide); have h81 : Int64.toInt 1 = 1 := (by decide); omega), rfl, ⟨hP, hD⟩, hS, lv_sub hl [0, 5, 2, 3, 1, 6, 7, 8] rfl⟩
      · skip
        have nc_1361 := nb_ne (1) (1) c_1361 bv_1254 (k := 0) (by decide) (by decide)
        refine lv_lload hx hb dX0_holds_111 (lv_at hl 5 rfl) ?_
        refine lv_lload hx hb dX0_holds_113 (lv_at hl 0 rfl) ?_
        refine lv_lsub hx hb dX0_holds_115 ?_
        refine lv_topl (fun v_1373 ev_1373 => ?_)
        have qv_1373 := ll_s ev_1373 (by omega)
        refine lv_goto (tgt := 124) hx hb dX0_holds_116 (by decide) ?_
        refine cVlm (As := [.long v_1373]) (rest := []) ⟨hx, hb, hml, hown, hw0⟩ hA hK hP hD hS [true] (kX0_bounded l G y _ ob v_1373 ob_lines ob_used ob_paying ob_kind ob_within ob_start ob_stop ob_tests ob_facts v_1358 p_ob_lines p_ob_used bv_1358) rfl ⟨(callB_of 1 hw0 (gA m_261) rfl rfl rfl (hw0 _ m_286) (hw0 _ m_289) cb_X0_bounded ⟨Nat.le_of_ble_eq_true rfl, Nat.le_of_ble_eq_true rfl⟩), (hw0 _ m_290), (hw0 _ m_291)⟩ (ci := 0) (q := (RX0, TX0, 10)) rfl rfl rfl hl.1 (Nat.le_of_ble_eq_true rfl) dX0_holds_124 ⟨Nat.le_of_ble_eq_true rfl, Nat.le_of_ble_eq_true rfl⟩ (fun r_1374 w_1374 H locs hw_1374 hP hD hS => ?_)
        obtain ⟨v_1375, v_1376, bv_1376, h_1377, h_1378, er_1374, rfl⟩ := hw_1374
        subst r_1374
        obtain ⟨hP, hD⟩ : vPD G A H [(ce_X0 ob ob_lines ob_used ob_paying ob_kind ob_within ob_start ob_stop ob_tests ob_facts v_1376), (ce_i24 y ob_start fob_start), (ce_i24 y ob_stop fob_stop), (ce_i700 y ob_tests fob_tests), (ce_i5 y ob_facts fob_facts)] := ⟨hP, hD⟩
        have bbh_1377 := bcu_b v_1373.toInt; rw [← h_1377] at bbh_1377
        refine lv_lstore (lv' := [(5, .long v_1375), (7, .long v_1357), (12, .int 2006), (11, .int v_1252), (10, .int v_1253), (9, .int v_1254), (3, .long v_1257), (2, .int v_1002), (0, .ref ob)]) hx hb dX0_holds_127 hl (by decide) rfl (fun ls hl => ?_)
        refine lv_lconst (v := 1) hx hb dX0_holds_129 (by decide) ?_
        refine lv_lstore (lv' := [(7, .long 1), (5, .long v_1375), (12, .int 2006), (11, .int v_1252), (10, .int v_1253), (9, .int v_1254), (3, .long v_1257), (2, .int v_1002), (0, .ref ob)]) hx hb dX0_holds_130 hl (by decide) rfl (fun ls hl => ?_)
        refine lv_iload hx hb dX0_holds_132 (lv_at hl 2 rfl) ?_
        refine lv_sipush (v := 2001) hx hb dX0_holds_134 (by decide) ?_
        refine lv_icmp_ne (tgt := 144) hx hb dX0_holds_137 (by decide) (fun _ => ?_) (fun c9 => absurd c9 (by decide))
        refine lv_iconst (v := 0) hx hb dX0_holds_144 (by decide) ?_
        refine lv_istore (lv' := [(9, .int 0), (7, .long 1), (5, .long v_1375), (12, .int 2006), (11, .int v_1252), (10, .int v_1253), (3, .long v_1257), (2, .int v_1002), (0, .ref ob)]) hx hb dX0_holds_145 hl (by decide) rfl (fun ls hl => ?_)
        refine lv_iload hx hb dX0_holds_147 (lv_at hl 3 rfl) ?_
        refine lv_sipush (v := 2006) hx hb dX0_holds_149 (by decide) ?_
        refine lv_icmp_ne (tgt := 181) hx hb dX0_holds_152 (by decide) (fun c9 => absurd (by decide) c9) (fun _ => ?_)
        refine lv_aload_n hx hb dX0_holds_155 rfl (lv_at hl 8 rfl) ?_
        refine va_get (D := G) (ci := 0) (v := .int v_1376) (C := RX0) (T := TX0) (N := 10) hx hb hw0 inA_wsX00 hown hK.1 hP 0 rfl rfl 9 (by decide) (hw0 _ m_264) (fun _ h9 => h9) rfl dX0_holds_156 ?_
        refine lv_if_ne (tgt := 173) hx hb dX0_holds_159 (by decide) (fun c_1379 => ?_) (fun c_1379 => ?_)
        · skip
          have nc_1379 := nb_ne (1) (1) c_1379 bv_1376 (k := 0) (by decide) (by decide)
          refine lv_iconst (v := 0) hx hb dX0_holds_173 (by decide) ?_
          exact W.zret (v := 0) hx hb hr rfl (fun t ht hW => ⟨⟨0, _, rfl, Or.inl (⟨v_1376, (bw (0) (1) nc_1379.1 (by decide)), (fun L0 q1 q2 => hl_F rl1258_0 (by omega) (tj_2 (by omega) (by omega)) (hx_p ev_1350 (by omega) h_1353) (h_1377.trans (congrArg bcu (sm_1 (by omega) (h_1359.trans (congrArg bcu qv_1355.1))))) (bo_2 h_1360 h_1378 qv_1355.1 (sm_1 (by omega) (h_1359.trans (congrArg bcu qv_1355.1)))) (Or.inl (decide_eq_true (by omega))) (by have e9 := rl1258_1; rw [← e9] at q1; exact q1) q2), rfl, rfl⟩), by rw [ht]; exact hP, hD⟩, hS.F ht⟩) hS.2.2 dX0_holds_174
        · skip
          have nc_1379 := nb_eq (0) (0) c_1379 bv_1376 (bkc (x := 0) (c := 0) (by decide)) (by decide)
          refine lv_lload_n hx hb dX0_holds_162 rfl (lv_at hl 6 rfl) ?_
          refine lv_iload hx hb dX0_holds_163 (lv_at hl 5 rfl) ?_
          refine lv_lload hx hb dX0_holds_165 (lv_at hl 2 rfl) ?_
          refine cSim (As := [.long v_1257, .int v_1253, .long v_1375]) (rest := []) ⟨hx, hb, hml, hown, hw0⟩ hA hK hP hD hS [] (kX0_compares l G y _ v_1257 v_1253 v_1375 ) rfl ⟨(callB_of 3 hw0 (gA m_268) rfl rfl rfl (hw0 _ m_286) (hw0 _ m_292) cb_X0_compares ⟨Nat.le_of_ble_eq_true rfl, Nat.le_of_ble_eq_true rfl⟩), (hw0 _ m_293)⟩ rfl hl.1 (Nat.le_of_ble_eq_true rfl) dX0_holds_167 ⟨Nat.le_of_ble_eq_true rfl, Nat.le_of_ble_eq_true rfl⟩ (fun r_1380 w_1380 H locs hw_1380 hP hD hS => ?_)
          rcases hw_1380 with ⟨h_1381, rfl, rfl⟩ | ⟨h_1382, rfl, rfl⟩
          · skip
            obtain ⟨hP, hD⟩ : vPD G A H [(ce_X0 ob ob_lines ob_used ob_paying ob_kind ob_within ob_start ob_stop ob_tests ob_facts v_1376), (ce_i24 y ob_start fob_start), (ce_i24 y ob_stop fob_stop), (ce_i700 y ob_tests fob_tests), (ce_i5 y ob_facts fob_facts)] := ⟨hP, hD⟩
            refine lv_if_ne (tgt := 175) hx hb dX0_holds_170 (by decide) (fun c9 => absurd (by decide) c9) (fun _ => ?_)
            refine lv_iconst (v := 0) hx hb dX0_holds_173 (by decide) ?_
            exact W.zret (v := 0) hx hb hr rfl (fun t ht hW => ⟨⟨0, _, rfl, Or.inl (⟨v_1376, (bw (0) (1) nc_1379.1 (by decide)), (fun L0 q1 q2 => hl_F rl1258_0 (by omega) (tj_2 (by omega) (by omega)) (hx_p ev_1350 (by omega) h_1353) (h_1377.trans (congrArg bcu (sm_1 (by omega) (h_1359.trans (congrArg bcu qv_1355.1))))) (bo_2 h_1360 h_1378 qv_1355.1 (sm_1 (by omega) (h_1359.trans (congrArg bcu qv_1355.1)))) (Or.inr h_1381) (by have e9 := rl1258_1; rw [← e9] at q1; exact q1) q2), rfl, rfl⟩), by rw [ht]; exact hP, hD⟩, hS.F ht⟩) hS.2.2 dX0_holds_174
          · skip
            obtain ⟨hP, hD⟩ : vPD G A H [(ce_X0 ob ob_lines ob_used ob_paying ob_kind ob_within ob_start ob_stop ob_tests ob_facts v_1376), (ce_i24 y ob_start fob_start), (ce_i24 y ob_stop fob_stop), (ce_i700 y ob_tests fob_tests), (ce_i5 y ob_facts fob_facts)] := ⟨hP, hD⟩
            refine lv_if_ne (tgt := 175) hx hb dX0_holds_170 (by decide) (fun _ => ?_) (fun c9 => absurd c9 (by decide))
            refine lv_lconst (v := 0) hx hb dX0_holds_175 (by decide) ?_
            refine lv_lstore (lv' := [(5, .long 0), (9, .int 0), (7, .long 1), (12, .int 2006), (11, .int v_1252), (10, .int v_1253), (3, .long v_1257), (2, .int v_1002), (0, .ref ob)]) hx hb dX0_holds_176 hl (by decide) rfl (fun ls hl => ?_)
            refine lv_goto (tgt := 199) hx hb dX0_holds_178 (by decide) ?_
            obtain ⟨v_1383, ev_1383⟩ : ∃ z : Int32, z = v_1252 + 2 := ⟨_, rfl⟩
            have qv_1383 := ba_add ev_1383 nc_1347.1 (bkc (x := 2) (c := 2) (by decide)) (by decide)
            have bv_1383 : (2 : Int) ≤ v_1383.toInt ∧ v_1383.toInt ≤ 701 := bq_add qv_1383 nc_1347.1 (bkc (x := 2) (c := 2) (by decide)) _ _ (by decide)
            have qv_1383 : v_1383.toInt = v_1252.toInt + (2) := qv_1383
            refine lv_iinc (v := v_1383) (lv' := [(11, .int v_1383), (5, .long 0), (9, .int 0), (7, .long 1), (12, .int 2006), (10, .int v_1253), (3, .long v_1257), (2, .int v_1002), (0, .ref ob)]) hx hb dX0_holds_199 hl (k := 4) rfl (ev_1383.symm) (by decide) rfl (fun ls hl => ?_)
            refine lv_goto (tgt := 42) hx hb dX0_holds_202 (by decide) ?_
            exact ih_1346 _ (ml_inc (hi := 701) hn_1346 qv_1383 (by decide) ((bw (0) (701) bv_1383 (by decide))).2) _ _ _ _ ⟨v_1383, v_1253, 0, 1, 0, v_1257, v_1376, rfl, (bw (0) (701) bv_1383 (by decide)), bv_1253, (bw (0) (1) (bkc (x := 0) (c := 0) (by decide)) (by decide)), (bw (0) (1) nc_1379.1 (by decide)), (hl_A (by omega) (by decide) (by decide) (by decide) rl1258_0 (by omega) (tj_2 (by omega) (by omega)) (hx_p ev_1350 (by omega) h_1353) (h_1377.trans (congrArg bcu (sm_1 (by omega) (h_1359.trans (congrArg bcu qv_1355.1))))) (bo_2 h_1360 h_1378 qv_1355.1 (sm_1 (by omega) (h_1359.trans (congrArg bcu qv_1355.1)))) (decide_eq_false (by omega)) h_1382), (by have h90 : Int32.toInt 0 = 0 := (by decide); have h80 : Int64.toInt 0 = 0 := (by decide); have h81 : Int64.toInt 1 = 1 := (by decide); omega), (by have h90 : Int32.toInt 0 = 0 := (by decide); have h80 : Int64.toInt 0 = 0 := (by decide); have h81 : Int64.toInt 1 = 1 := (by decide); omega), (by have h90 : Int32.toInt 0 = 0 := (by decide); have h80 : Int64.toInt 0 = 0 := (by decide); have h81 : Int64.toInt 1 = 1 := (by decide); omega), (by have h90 : Int32.toInt 0 = 0 := (by decide); have h80 : Int64.toInt 0 = 0 := (by decide); have h81 : Int64.toInt 1 = 1 := (by decide); omega), rfl, ⟨hP, hD⟩, hS, lv_sub hl [0, 5, 2, 3, 1, 6, 7, 8] rfl⟩
    · skip
      have nc_1349 := nb_nle (699) (2) c_1349 bv_1348 nc_1347.2.1 (by decide)
      have h_1384 : (0 : Int) ≤ v_1252.toInt ∧ v_1252.toInt ≤ 698 := bq_in1 qv_1348 nc_1349.1 nc_1347.1 (bkc (x := 1) (c := 1) (by decide)) (by decide)
      refine lv_aload_n hx hb dX0_holds_56 rfl (lv_at hl 7 rfl) ?_
      refine va_get (D := G) (ci := 0) (v := .ref ob_tests) (C := RX0) (T := TX0) (N := 10) hx hb hw0 inA_wsX00 hown hK.1 hP 0 rfl rfl 7 (by decide) (hw0 _ m_279) (fun _ h9 => h9) rfl dX0_holds_57 ?_
      refine lv_iload hx hb dX0_holds_60 (lv_at hl 0 rfl) ?_
      refine lv_iconst (v := 1) hx hb dX0_holds_62 (by decide) ?_
      refine lv_iadd hx hb dX0_holds_63 ?_
      refine lv_topi (fun v_1385 ev_1385 => ?_)
      obtain rfl : v_1348 = v_1385 := (ev_1385.trans (ev_1348.symm)).symm
      refine va_iald hx hb hK.1 hP 3 1 rfl rfl (vi nc_1349.1 (by decide)) dX0_holds_64 ?_
      refine lv_topi (fun v_1386 ev_1386 => ?_)
      refine lv_goto (tgt := 71) hx hb dX0_holds_65 (by decide) ?_
      refine lv_istore (lv' := [(12, .int v_1386), (11, .int v_1252), (10, .int v_1253), (9, .int v_1254), (7, .long v_1255), (5, .long v_1256), (3, .long v_1257), (2, .int v_1002), (0, .ref ob)]) hx hb dX0_holds_71 hl (by decide) rfl (fun ls hl => ?_)
      refine lv_aload_n hx hb dX0_holds_73 rfl (lv_at hl 8 rfl) ?_
      refine lv_lload hx hb dX0_holds_74 (lv_at hl 4 rfl) ?_
      refine lv_aload_n hx hb dX0_holds_76 rfl (lv_at hl 8 rfl) ?_
      refine lv_aload_n hx hb dX0_holds_77 rfl (lv_at hl 8 rfl) ?_
      refine va_get (D := G) (ci := 0) (v := .ref ob_tests) (C := RX0) (T := TX0) (N := 10) hx hb hw0 inA_wsX00 hown hK.1 hP 0 rfl rfl 7 (by decide) (hw0 _ m_279) (fun _ h9 => h9) rfl dX0_holds_78 ?_
      refine lv_iload hx hb dX0_holds_81 (lv_at hl 1 rfl) ?_
      refine va_iald hx hb hK.1 hP 3 1 rfl rfl (vi h_1384 (by decide)) dX0_holds_83 ?_
      refine lv_topi (fun v_1387 ev_1387 => ?_)
      refine cVim (As := [.int v_1387]) (rest := [.long v_1255, .ref ob]) ⟨hx, hb, hml, hown, hw0⟩ hA hK hP hD hS [true, false, false, false, true] (kX0_partOf l G y _ ob v_1387 ob_lines ob_used ob_paying ob_kind ob_within ob_start ob_stop ob_tests ob_facts v_1258 fob_facts p_ob_lines p_ob_used bv_1258) rfl ⟨(callB_of 1 hw0 (gA m_304) rfl rfl rfl (hw0 _ m_286) (hw0 _ m_285) cb_X0_partOf ⟨Nat.le_of_ble_eq_true rfl, Nat.le_of_ble_eq_true rfl⟩), (hw0 _ m_287), (hw0 _ m_288)⟩ (ci := 0) (q := (RX0, TX0, 10)) rfl rfl rfl hl.1 (Nat.le_of_ble_eq_true rfl) dX0_holds_84 ⟨Nat.le_of_ble_eq_true rfl, Nat.le_of_ble_eq_true rfl⟩ (fun r_1388 w_1388 H locs hw_1388 hP hD hS => ?_)
      obtain ⟨v_1389, h_1390, er_1388, rfl⟩ := hw_1388
      subst r_1388
      obtain ⟨hP, hD⟩ : vPD G A H [(ce_X0 ob ob_lines ob_used ob_paying ob_kind ob_within ob_start ob_stop ob_tests ob_facts v_1258), (ce_i24 y ob_start fob_start), (ce_i24 y ob_stop fob_stop), (ce_i700 y ob_tests fob_tests), (ce_i5 y ob_facts fob_facts)] := ⟨hP, hD⟩
      refine lv_i2l hx hb dX0_holds_87 rfl ?_
      have kk_1391 : ((v_1389).toInt64).toInt = (v_1389).toInt := Int32.toInt_toInt64 _
      refine lv_lmul hx hb dX0_holds_88 ?_
      refine lv_topl (fun v_1392 ev_1392 => ?_)
      have qv_1392 := ll_m ev_1392 (by omega)
      refine cVlm (As := [.long v_1392]) (rest := []) ⟨hx, hb, hml, hown, hw0⟩ hA hK hP hD hS [true] (kX0_bounded l G y _ ob v_1392 ob_lines ob_used ob_paying ob_kind ob_within ob_start ob_stop ob_tests ob_facts v_1258 p_ob_lines p_ob_used bv_1258) rfl ⟨(callB_of 1 hw0 (gA m_261) rfl rfl rfl (hw0 _ m_286) (hw0 _ m_289) cb_X0_bounded ⟨Nat.le_of_ble_eq_true rfl, Nat.le_of_ble_eq_true rfl⟩), (hw0 _ m_290), (hw0 _ m_291)⟩ (ci := 0) (q := (RX0, TX0, 10)) rfl rfl rfl hl.1 (Nat.le_of_ble_eq_true rfl) dX0_holds_89 ⟨Nat.le_of_ble_eq_true rfl, Nat.le_of_ble_eq_true rfl⟩ (fun r_1393 w_1393 H locs hw_1393 hP hD hS => ?_)
      obtain ⟨v_1394, v_1395, bv_1395, h_1396, h_1397, er_1393, rfl⟩ := hw_1393
      subst r_1393
      obtain ⟨hP, hD⟩ : vPD G A H [(ce_X0 ob ob_lines ob_used ob_paying ob_kind ob_within ob_start ob_stop ob_tests ob_facts v_1395), (ce_i24 y ob_start fob_start), (ce_i24 y ob_stop fob_stop), (ce_i700 y ob_tests fob_tests), (ce_i5 y ob_facts fob_facts)] := ⟨hP, hD⟩
      have bbh_1396 := bcu_b v_1392.toInt; rw [← h_1396] at bbh_1396
      refine lv_lstore (lv' := [(7, .long v_1394), (12, .int v_1386), (11, .int v_1252), (10, .int v_1253), (9, .int v_1254), (5, .long v_1256), (3, .long v_1257), (2, .int v_1002), (0, .ref ob)]) hx hb dX0_holds_92 hl (by decide) rfl (fun ls hl => ?_)
      refine lv_iload hx hb dX0_holds_94 (lv_at hl 1 rfl) ?_
      refine lv_sipush (v := 2002) hx hb dX0_holds_96 (by decide) ?_
      refine lv_icmp_ne (tgt := 105) hx hb dX0_holds_99 (by decide) (fun c_1398 => ?_) (fun c_1398 => ?_)
      · skip
        have nc_1398 := nb_ne (-2147483648) (2147483647) c_1398 (btop v_1386) (k := 2002) (by decide) (by decide)
        refine lv_aload_n hx hb dX0_holds_105 rfl (lv_at hl 8 rfl) ?_
        refine lv_iload hx hb dX0_holds_106 (lv_at hl 4 rfl) ?_
        refine lv_if_eq (tgt := 119) hx hb dX0_holds_108 (by decide) (fun c_1399 => ?_) (fun c_1399 => ?_)
        · skip
          have nc_1399 := nb_eq (0) (0) c_1399 bv_1254 (bkc (x := 0) (c := 0) (by decide)) (by decide)
          refine lv_lload hx hb dX0_holds_119 (lv_at hl 5 rfl) ?_
          refine lv_lload hx hb dX0_holds_121 (lv_at hl 0 rfl) ?_
          refine lv_ladd hx hb dX0_holds_123 ?_
          refine lv_topl (fun v_1400 ev_1400 => ?_)
          have qv_1400 := ll_a ev_1400 (by omega)
          refine cVlm (As := [.long v_1400]) (rest := []) ⟨hx, hb, hml, hown, hw0⟩ hA hK hP hD hS [true] (kX0_bounded l G y _ ob v_1400 ob_lines ob_used ob_paying ob_kind ob_within ob_start ob_stop ob_tests ob_facts v_1395 p_ob_lines p_ob_used bv_1395) rfl ⟨(callB_of 1 hw0 (gA m_261) rfl rfl rfl (hw0 _ m_286) (hw0 _ m_289) cb_X0_bounded ⟨Nat.le_of_ble_eq_true rfl, Nat.le_of_ble_eq_true rfl⟩), (hw0 _ m_290), (hw0 _ m_291)⟩ (ci := 0) (q := (RX0, TX0, 10)) rfl rfl rfl hl.1 (Nat.le_of_ble_eq_true rfl) dX0_holds_124 ⟨Nat.le_of_ble_eq_true rfl, Nat.le_of_ble_eq_true rfl⟩ (fun r_1401 w_1401 H locs hw_1401 hP hD hS => ?_)
          obtain ⟨v_1402, v_1403, bv_1403, h_1404, h_1405, er_1401, rfl⟩ := hw_1401
          subst r_1401
          obtain ⟨hP, hD⟩ : vPD G A H [(ce_X0 ob ob_lines ob_used ob_paying ob_kind ob_within ob_start ob_stop ob_tests ob_facts v_1403), (ce_i24 y ob_start fob_start), (ce_i24 y ob_stop fob_stop), (ce_i700 y ob_tests fob_tests), (ce_i5 y ob_facts fob_facts)] := ⟨hP, hD⟩
          have bbh_1404 := bcu_b v_1400.toInt; rw [← h_1404] at bbh_1404
          refine lv_lstore (lv' := [(5, .long v_1402), (7, .long v_1394), (12, .int v_1386), (11, .int v_1252), (10, .int v_1253), (9, .int v_1254), (3, .long v_1257), (2, .int v_1002), (0, .ref ob)]) hx hb dX0_holds_127 hl (by decide) rfl (fun ls hl => ?_)
          refine lv_lconst (v := 1) hx hb dX0_holds_129 (by decide) ?_
          refine lv_lstore (lv' := [(7, .long 1), (5, .long v_1402), (12, .int v_1386), (11, .int v_1252), (10, .int v_1253), (9, .int v_1254), (3, .long v_1257), (2, .int v_1002), (0, .ref ob)]) hx hb dX0_holds_130 hl (by decide) rfl (fun ls hl => ?_)
          refine lv_iload hx hb dX0_holds_132 (lv_at hl 2 rfl) ?_
          refine lv_sipush (v := 2001) hx hb dX0_holds_134 (by decide) ?_
          refine lv_icmp_ne (tgt := 144) hx hb dX0_holds_137 (by decide) (fun c_1406 => ?_) (fun c_1406 => ?_)
          · skip
            have nc_1406 := nb_ne (-2147483648) (2147483647) c_1406 nc_1398.1 (k := 2001) (by decide) (by decide)
            refine lv_iconst (v := 0) hx hb dX0_holds_144 (by decide) ?_
            refine lv_istore (lv' := [(9, .int 0), (7, .long 1), (5, .long v_1402), (12, .int v_1386), (11, .int v_1252), (10, .int v_1253), (3, .long v_1257), (2, .int v_1002), (0, .ref ob)]) hx hb dX0_holds_145 hl (by decide) rfl (fun ls hl => ?_)
            refine lv_iload hx hb dX0_holds_147 (lv_at hl 3 rfl) ?_
            refine lv_sipush (v := 2006) hx hb dX0_holds_149 (by decide) ?_
            refine lv_icmp_ne (tgt := 181) hx hb dX0_holds_152 (by decide) (fun c_1407 => ?_) (fun c_1407 => ?_)
            · skip
              have nc_1407 := nb_ne (-2147483648) (2147483647) c_1407 nc_1406.1 (k := 2006) (by decide) (by decide)
              refine lv_iload hx hb dX0_holds_181 (lv_at hl 3 rfl) ?_
              refine lv_sipush (v := 2003) hx hb dX0_holds_183 (by decide) ?_
              refine lv_icmp_lt (tgt := 199) hx hb dX0_holds_186 (by decide) (fun c_1408 => ?_) (fun c_1408 => ?_)
              · skip
                have nc_1408 := nb_lt (2002) (2003) c_1408 nc_1407.1 (bkc (x := 2003) (c := 2003) (by decide)) (by decide)
                obtain ⟨v_1409, ev_1409⟩ : ∃ z : Int32, z = v_1252 + 2 := ⟨_, rfl⟩
                have qv_1409 := ba_add ev_1409 h_1384 (bkc (x := 2) (c := 2) (by decide)) (by decide)
                have bv_1409 : (2 : Int) ≤ v_1409.toInt ∧ v_1409.toInt ≤ 700 := bq_add qv_1409 h_1384 (bkc (x := 2) (c := 2) (by decide)) _ _ (by decide)
                have qv_1409 : v_1409.toInt = v_1252.toInt + (2) := qv_1409
                refine lv_iinc (v := v_1409) (lv' := [(11, .int v_1409), (9, .int 0), (7, .long 1), (5, .long v_1402), (12, .int v_1386), (10, .int v_1253), (3, .long v_1257), (2, .int v_1002), (0, .ref ob)]) hx hb dX0_holds_199 hl (k := 4) rfl (ev_1409.symm) (by decide) rfl (fun ls hl => ?_)
                refine lv_goto (tgt := 42) hx hb dX0_holds_202 (by decide) ?_
                exact ih_1346 _ (ml_inc (hi := 701) hn_1346 qv_1409 (by decide) ((bw (0) (701) bv_1409 (by decide))).2) _ _ _ _ ⟨v_1409, v_1253, 0, 1, v_1402, v_1257, v_1403, rfl, (bw (0) (701) bv_1409 (by decide)), bv_1253, (bw (0) (1) (bkc (x := 0) (c := 0) (by decide)) (by decide)), bv_1403, (hl_J (by omega) (by decide) rl1258_0 (by omega) (tj_1 ev_1386 (by omega) (by omega) (by omega) rfl) (by omega) (hx_p ev_1387 (by omega) h_1390) (h_1404.trans (congrArg bcu (sm_1 (by omega) (h_1396.trans (congrArg bcu qv_1392.1))))) (decide_eq_decide.mpr (by have lm1 : Int32.toInt (-1) = -1 := (by decide); have l91 : Int32.toInt 1 = 1 := (by decide); have l92 : Int32.toInt 2 = 2 := (by decide); have l93 : Int32.toInt 3 = 3 := (by decide); have h90 : Int32.toInt 0 = 0 := (by decide); have h80 : Int64.toInt 1 = 1 := (by decide); constructor <;> intro _ <;> omega)) (bo_2 h_1397 h_1405 qv_1392.1 (sm_1 (by omega) (h_1396.trans (congrArg bcu qv_1392.1))))), (by have h90 : Int32.toInt 0 = 0 := (by decide); have h80 : Int64.toInt 1 = 1 := (by decide); omega), (by have h90 : Int32.toInt 0 = 0 := (by decide); have h80 : Int64.toInt 1 = 1 := (by decide); omega), (by have h90 : Int32.toInt 0 = 0 := (by decide); have h80 : Int64.toInt 1 = 1 := (by decide); omega), (by have h90 : Int32.toInt 0 = 0 := (by decide); have h80 : Int64.toInt 1 = 1 := (by decide); omega), rfl, ⟨hP, hD⟩, hS, lv_sub hl [0, 5, 1, 2, 3, 6, 7, 8] rfl⟩
              · skip
                have nc_1408 := nb_nlt (2003) (2003) c_1408 (bkc (x := 2003) (c := 2003) (by decide)) nc_1407.1 (by decide)
                refine lv_lload hx hb dX0_holds_189 (lv_at hl 2 rfl) ?_
                refine lv_lstore_n (lv' := [(3, .long v_1402), (9, .int 0), (7, .long 1), (5, .long v_1402), (12, .int v_1386), (11, .int v_1252), (10, .int v_1253), (2, .int v_1002), (0, .ref ob)]) hx hb dX0_holds_191 rfl hl (by decide) rfl (fun ls hl => ?_)
                refine lv_iload hx hb dX0_holds_192 (lv_at hl 4 rfl) ?_
                refine lv_istore (lv' := [(10, .int v_1386), (3, .long v_1402), (9, .int 0), (7, .long 1), (5, .long v_1402), (12, .int v_1386), (11, .int v_1252), (2, .int v_1002), (0, .ref ob)]) hx hb dX0_holds_194 hl (by decide) rfl (fun ls hl => ?_)
                refine lv_lconst (v := 0) hx hb dX0_holds_196 (by decide) ?_
                refine lv_lstore (lv' := [(5, .long 0), (10, .int v_1386), (3, .long v_1402), (9, .int 0), (7, .long 1), (12, .int v_1386), (11, .int v_1252), (2, .int v_1002), (0, .ref ob)]) hx hb dX0_holds_197 hl (by decide) rfl (fun ls hl => ?_)
                obtain ⟨v_1410, ev_1410⟩ : ∃ z : Int32, z = v_1252 + 2 := ⟨_, rfl⟩
                have qv_1410 := ba_add ev_1410 h_1384 (bkc (x := 2) (c := 2) (by decide)) (by decide)
                have bv_1410 : (2 : Int) ≤ v_1410.toInt ∧ v_1410.toInt ≤ 700 := bq_add qv_1410 h_1384 (bkc (x := 2) (c := 2) (by decide)) _ _ (by decide)
                have qv_1410 : v_1410.toInt = v_1252.toInt + (2) := qv_1410
                refine lv_iinc (v := v_1410) (lv' := [(11, .int v_1410), (5, .long 0), (10, .int v_1386), (3, .long v_1402), (9, .int 0), (7, .long 1), (12, .int v_1386), (2, .int v_1002), (0, .ref ob)]) hx hb dX0_holds_199 hl (k := 6) rfl (ev_1410.symm) (by decide) rfl (fun ls hl => ?_)
                refine lv_goto (tgt := 42) hx hb dX0_holds_202 (by decide) ?_
                exact ih_1346 _ (ml_inc (hi := 701) hn_1346 qv_1410 (by decide) ((bw (0) (701) bv_1410 (by decide))).2) _ _ _ _ ⟨v_1410, v_1386, 0, 1, 0, v_1402, v_1403, rfl, (bw (0) (701) bv_1410 (by decide)), nc_1408.2.1, (bw (0) (1) (bkc (x := 0) (c := 0) (by decide)) (by decide)), bv_1403, (hl_S (by omega) (by decide) (by decide) (by decide) rfl rl1258_0 (by omega) (tj_1 ev_1386 (by omega) (by omega) (by omega) rfl) (by omega) (by omega) (hx_p ev_1387 (by omega) h_1390) (h_1404.trans (congrArg bcu (sm_1 (by omega) (h_1396.trans (congrArg bcu qv_1392.1))))) (bo_2 h_1397 h_1405 qv_1392.1 (sm_1 (by omega) (h_1396.trans (congrArg bcu qv_1392.1))))), (by have h90 : Int32.toInt 0 = 0 := (by decide); have h80 : Int64.toInt 0 = 0 := (by decide); have h81 : Int64.toInt 1 = 1 := (by decide); omega), (by have h90 : Int32.toInt 0 = 0 := (by decide); have h80 : Int64.toInt 0 = 0 := (by decide); have h81 : Int64.toInt 1 = 1 := (by decide); omega), (by have h90 : Int32.toInt 0 = 0 := (by decide); have h80 : Int64.toInt 0 = 0 := (by decide); have h81 : Int64.toInt 1 = 1 := (by decide); omega), (by have h90 : Int32.toInt 0 = 0 := (by decide); have h80 : Int64.toInt 0 = 0 := (by decide); have h81 : Int64.toInt 1 = 1 := (by decide); omega), rfl, ⟨hP, hD⟩, hS, lv_sub hl [0, 2, 4, 5, 1, 3, 7, 8] rfl⟩
            · skip
              have nc_1407 := nb_eq (2006) (2006) c_1407 nc_1406.1 (bkc (x := 2006) (c := 2006) (by decide)) (by decide)
              refine lv_aload_n hx hb dX0_holds_155 rfl (lv_at hl 8 rfl) ?_
              refine va_get (D := G) (ci := 0) (v := .int v_1403) (C := RX0) (T := TX0) (N := 10) hx hb hw0 inA_wsX00 hown hK.1 hP 0 rfl rfl 9 (by decide) (hw0 _ m_264) (fun _ h9 => h9) rfl dX0_holds_156 ?_
              refine lv_if_ne (tgt := 173) hx hb dX0_holds_159 (by decide) (fun c_1411 => ?_) (fun c_1411 => ?_)
              · skip
                have nc_1411 := nb_ne (1) (1) c_1411 bv_1403 (k := 0) (by decide) (by decide)
                refine lv_iconst (v := 0) hx hb dX0_holds_173 (by decide) ?_
                exact W.zret (v := 0) hx hb hr rfl (fun t ht hW => ⟨⟨0, _, rfl, Or.inl (⟨v_1403, (bw (0) (1) nc_1411.1 (by decide)), (fun L0 q1 q2 => hl_F rl1258_0 (by omega) (tj_1 ev_1386 (by omega) (by omega) (by omega) (by omega)) (hx_p ev_1387 (by omega) h_1390) (h_1404.trans (congrArg bcu (sm_1 (by omega) (h_1396.trans (congrArg bcu qv_1392.1))))) (bo_2 h_1397 h_1405 qv_1392.1 (sm_1 (by omega) (h_1396.trans (congrArg bcu qv_1392.1)))) (Or.inl (decide_eq_true (by omega))) (by have e9 := rl1258_1; rw [← e9] at q1; exact q1) q2), rfl, rfl⟩), by rw [ht]; exact hP, hD⟩, hS.F ht⟩) hS.2.2 dX0_holds_174
              · skip
                have nc_1411 := nb_eq (0) (0) c_1411 bv_1403 (bkc (x := 0) (c := 0) (by decide)) (by decide)
                refine lv_lload_n hx hb dX0_holds_162 rfl (lv_at hl 6 rfl) ?_
                refine lv_iload hx hb dX0_holds_163 (lv_at hl 5 rfl) ?_
                refine lv_lload hx hb dX0_holds_165 (lv_at hl 2 rfl) ?_
                refine cSim (As := [.long v_1257, .int v_1253, .long v_1402]) (rest := []) ⟨hx, hb, hml, hown, hw0⟩ hA hK hP hD hS [] (kX0_compares l G y _ v_1257 v_1253 v_1402 ) rfl ⟨(callB_of 3 hw0 (gA m_268) rfl rfl rfl (hw0 _ m_286) (hw0 _ m_292) cb_X0_compares ⟨Nat.le_of_ble_eq_true rfl, Nat.le_of_ble_eq_true rfl⟩), (hw0 _ m_293)⟩ rfl hl.1 (Nat.le_of_ble_eq_true rfl) dX0_holds_167 ⟨Nat.le_of_ble_eq_true rfl, Nat.le_of_ble_eq_true rfl⟩ (fun r_1412 w_1412 H locs hw_1412 hP hD hS => ?_)
                rcases hw_1412 with ⟨h_1413, rfl, rfl⟩ | ⟨h_1414, rfl, rfl⟩
                · skip
                  obtain ⟨hP, hD⟩ : vPD G A H [(ce_X0 ob ob_lines ob_used ob_paying ob_kind ob_within ob_start ob_stop ob_tests ob_facts v_1403), (ce_i24 y ob_start fob_start), (ce_i24 y ob_stop fob_stop), (ce_i700 y ob_tests fob_tests), (ce_i5 y ob_facts fob_facts)] := ⟨hP, hD⟩
                  refine lv_if_ne (tgt := 175) hx hb dX0_holds_170 (by decide) (fun c9 => absurd (by decide) c9) (fun _ => ?_)
                  refine lv_iconst (v := 0) hx hb dX0_holds_173 (by decide) ?_
                  exact W.zret (v := 0) hx hb hr rfl (fun t ht hW => ⟨⟨0, _, rfl, Or.inl (⟨v_1403, (bw (0) (1) nc_1411.1 (by decide)), (fun L0 q1 q2 => hl_F rl1258_0 (by omega) (tj_1 ev_1386 (by omega) (by omega) (by omega) (by omega)) (hx_p ev_1387 (by omega) h_1390) (h_1404.trans (congrArg bcu (sm_1 (by omega) (h_1396.trans (congrArg bcu qv_1392.1))))) (bo_2 h_1397 h_1405 qv_1392.1 (sm_1 (by omega) (h_1396.trans (congrArg bcu qv_1392.1)))) (Or.inr h_1413) (by have e9 := rl1258_1; rw [← e9] at q1; exact q1) q2), rfl, rfl⟩), by rw [ht]; exact hP, hD⟩, hS.F ht⟩) hS.2.2 dX0_holds_174
                · skip
                  obtain ⟨hP, hD⟩ : vPD G A H [(ce_X0 ob ob_lines ob_used ob_paying ob_kind ob_within ob_start ob_stop ob_tests ob_facts v_1403), (ce_i24 y ob_start fob_start), (ce_i24 y ob_stop fob_stop), (ce_i700 y ob_tests fob_tests), (ce_i5 y ob_facts fob_facts)] := ⟨hP, hD⟩
                  refine lv_if_ne (tgt := 175) hx hb dX0_holds_170 (by decide) (fun _ => ?_) (fun c9 => absurd c9 (by decide))
                  refine lv_lconst (v := 0) hx hb dX0_holds_175 (by decide) ?_
                  refine lv_lstore (lv' := [(5, .long 0), (9, .int 0), (7, .long 1), (12, .int v_1386), (11, .int v_1252), (10, .int v_1253), (3, .long v_1257), (2, .int v_1002), (0, .ref ob)]) hx hb dX0_holds_176 hl (by decide) rfl (fun ls hl => ?_)
                  refine lv_goto (tgt := 199) hx hb dX0_holds_178 (by decide) ?_
                  obtain ⟨v_1415, ev_1415⟩ : ∃ z : Int32, z = v_1252 + 2 := ⟨_, rfl⟩
                  have qv_1415 := ba_add ev_1415 h_1384 (bkc (x := 2) (c := 2) (by decide)) (by decide)
                  have bv_1415 : (2 : Int) ≤ v_1415.toInt ∧ v_1415.toInt ≤ 700 := bq_add qv_1415 h_1384 (bkc (x := 2) (c := 2) (by decide)) _ _ (by decide)
                  have qv_1415 : v_1415.toInt = v_1252.toInt + (2) := qv_1415
                  refine lv_iinc (v := v_1415) (lv' := [(11, .int v_1415), (5, .long 0), (9, .int 0), (7, .long 1), (12, .int v_1386), (10, .int v_1253), (3, .long v_1257), (2, .int v_1002), (0, .ref ob)]) hx hb dX0_holds_199 hl (k := 4) rfl (ev_1415.symm) (by decide) rfl (fun ls hl => ?_)
                  refine lv_goto (tgt := 42) hx hb dX0_holds_202 (by decide) ?_
                  exact ih_1346 _ (ml_inc (hi := 701) hn_1346 qv_1415 (by decide) ((bw (0) (701) bv_1415 (by decide))).2) _ _ _ _ ⟨v_1415, v_1253, 0, 1, 0, v_1257, v_1403, rfl, (bw (0) (701) bv_1415 (by decide)), bv_1253, (bw (0) (1) (bkc (x := 0) (c := 0) (by decide)) (by decide)), (bw (0) (1) nc_1411.1 (by decide)), (hl_A (by omega) (by decide) (by decide) (by decide) rl1258_0 (by omega) (tj_1 ev_1386 (by omega) (by omega) (by omega) (by omega)) (hx_p ev_1387 (by omega) h_1390) (h_1404.trans (congrArg bcu (sm_1 (by omega) (h_1396.trans (congrArg bcu qv_1392.1))))) (bo_2 h_1397 h_1405 qv_1392.1 (sm_1 (by omega) (h_1396.trans (congrArg bcu qv_1392.1)))) (decide_eq_false (by omega)) h_1414), (by have h90 : Int32.toInt 0 = 0 := (by decide); have h80 : Int64.toInt 0 = 0 := (by decide); have h81 : Int64.toInt 1 = 1 := (by decide); omega), (by have h90 : Int32.toInt 0 = 0 := (by decide); have h80 : Int64.toInt 0 = 0 := (by decide); have h81 : Int64.toInt 1 = 1 := (by decide); omega), (by have h90 : Int32.toInt 0 = 0 := (by decide); have h80 : Int64.toInt 0 = 0 := (by decide); have h81 : Int64.toInt 1 = 1 := (by decide); omega), (by have h90 : Int32.toInt 0 = 0 := (by decide); have h80 : Int64.toInt 0 = 0 := (by decide); have h81 : Int64.toInt 1 = 1 := (by decide); omega), rfl, ⟨hP, hD⟩, hS, lv_sub hl [0, 5, 2, 3, 1, 6, 7, 8] rfl⟩
          · skip
            have nc_1406 := nb_eq (2001) (2001) c_1406 nc_1398.1 (bkc (x := 2001) (c := 2001) (by decide)) (by decide)
            refine lv_iconst (v := 1) hx hb dX0_holds_140 (by decide) ?_
            refine lv_goto (tgt := 145) hx hb dX0_holds_141 (by decide) ?_
            refine lv_istore (lv' := [(9, .int 1), (7, .long 1), (5, .long v_1402), (12, .int v_1386), (11, .int v_1252), (10, .int v_1253), (3, .long v_1257), (2, .int v_1002), (0, .ref ob)]) hx hb dX0_holds_145 hl (by decide) rfl (fun ls hl => ?_)
            refine lv_iload hx hb dX0_holds_147 (lv_at hl 3 rfl) ?_
            refine lv_sipush (v := 2006) hx hb dX0_holds_149 (by decide) ?_
            refine lv_icmp_ne (tgt := 181) hx hb dX0_holds_152 (by decide) (fun _ => ?_) (fun c9 => absurd c9 (dc_neq nc_1406.1 (bkc (x := 2006) (c := 2006) (by decide)) (by decide)))
            refine lv_iload hx hb dX0_holds_181 (lv_at hl 3 rfl) ?_
            refine lv_sipush (v := 2003) hx hb dX0_holds_183 (by decide) ?_
            refine lv_icmp_lt (tgt := 199) hx hb dX0_holds_186 (by decide) (fun _ => ?_) (fun c9 => absurd (dc_lt nc_1406.1 (bkc (x := 2003) (c := 2003) (by decide)) (by decide)) c9)
            obtain ⟨v_1416, ev_1416⟩ : ∃ z : Int32, z = v_1252 + 2 := ⟨_, rfl⟩
            have qv_1416 := ba_add ev_1416 h_1384 (bkc (x := 2) (c := 2) (by decide)) (by decide)
            have bv_1416 : (2 : Int) ≤ v_1416.toInt ∧ v_1416.toInt ≤ 700 := bq_add qv_1416 h_1384 (bkc (x := 2) (c := 2) (by decide)) _ _ (by decide)
            have qv_1416 : v_1416.toInt = v_1252.toInt + (2) := qv_1416
            refine lv_iinc (v := v_1416) (lv' := [(11, .int v_1416), (9, .int 1), (7, .long 1), (5, .long v_1402), (12, .int v_1386), (10, .int v_1253), (3, .long v_1257), (2, .int v_1002), (0, .ref ob)]) hx hb dX0_holds_199 hl (k := 4) rfl (ev_1416.symm) (by decide) rfl (fun ls hl => ?_)
            refine lv_goto (tgt := 42) hx hb dX0_holds_202 (by decide) ?_
            exact ih_1346 _ (ml_inc (hi := 701) hn_1346 qv_1416 (by decide) ((bw (0) (701) bv_1416 (by decide))).2) _ _ _ _ ⟨v_1416, v_1253, 1, 1, v_1402, v_1257, v_1403, rfl, (bw (0) (701) bv_1416 (by decide)), bv_1253, (bw (0) (1) (bkc (x := 1) (c := 1) (by decide)) (by decide)), bv_1403, (hl_J (by omega) (by decide) rl1258_0 (by omega) (tj_1 ev_1386 (by omega) (by omega) (by omega) rfl) (by omega) (hx_p ev_1387 (by omega) h_1390) (h_1404.trans (congrArg bcu (sm_1 (by omega) (h_1396.trans (congrArg bcu qv_1392.1))))) (decide_eq_decide.mpr (by have lm1 : Int32.toInt (-1) = -1 := (by decide); have l91 : Int32.toInt 1 = 1 := (by decide); have l92 : Int32.toInt 2 = 2 := (by decide); have l93 : Int32.toInt 3 = 3 := (by decide); have h90 : Int32.toInt 1 = 1 := (by decide); have h80 : Int64.toInt 1 = 1 := (by decide); constructor <;> intro _ <;> omega)) (bo_2 h_1397 h_1405 qv_1392.1 (sm_1 (by omega) (h_1396.trans (congrArg bcu qv_1392.1))))), (by have h90 : Int32.toInt 1 = 1 := (by decide); have h80 : Int64.toInt 1 = 1 := (by decide); omega), (by have h90 : Int32.toInt 1 = 1 := (by decide); have h80 : Int64.toInt 1 = 1 := (by decide); omega), (by have h90 : Int32.toInt 1 = 1 := (by decide); have h80 : Int64.toInt 1 = 1 := (by decide); omega), (by have h90 : Int32.toInt 1 = 1 := (by decide); have h80 : Int64.toInt 1 = 1 := (by decide); omega), rfl, ⟨hP, hD⟩, hS, lv_sub hl [0, 5, 1, 2, 3, 6, 7, 8] rfl⟩
        · skip
          have nc_1399 := nb_ne (1) (1) c_1399 bv_1254 (k := 0) (by decide) (by decide)
          refine lv_lload hx hb dX0_holds_111 (lv_at hl 5 rfl) ?_
          refine lv_lload hx hb dX0_holds_113 (lv_at hl 0 rfl) ?_
          refine lv_lsub hx hb dX0_holds_115 ?_
          refine lv_topl (fun v_1417 ev_1417 => ?_)
          have qv_1417 := ll_s ev_1417 (by omega)
          refine lv_goto (tgt := 124) hx hb dX0_holds_116 (by decide) ?_
          refine cVlm (As := [.long v_1417]) (rest := []) ⟨hx, hb, hml, hown, hw0⟩ hA hK hP hD hS [true] (kX0_bounded l G y _ ob v_1417 ob_lines ob_used ob_paying ob_kind ob_within ob_start ob_stop ob_tests ob_facts v_1395 p_ob_lines p_ob_used bv_1395) rfl ⟨(callB_of 1 hw0 (gA m_261) rfl rfl rfl (hw0 _ m_286) (hw0 _ m_289) cb_X0_bounded ⟨Nat.le_of_ble_eq_true rfl, Nat.le_of_ble_eq_true rfl⟩), (hw0 _ m_290), (hw0 _ m_291)⟩ (ci := 0) (q := (RX0, TX0, 10)) rfl rfl rfl hl.1 (Nat.le_of_ble_eq_true rfl) dX0_holds_124 ⟨Nat.le_of_ble_eq_true rfl, Nat.le_of_ble_eq_true rfl⟩ (fun r_1418 w_1418 H locs hw_1418 hP hD hS => ?_)
          obtain ⟨v_1419, v_1420, bv_1420, h_1421, h_1422, er_1418, rfl⟩ := hw_1418
          subst r_1418
          obtain ⟨hP, hD⟩ : vPD G A H [(ce_X0 ob ob_lines ob_used ob_paying ob_kind ob_within ob_start ob_stop ob_tests ob_facts v_1420), (ce_i24 y ob_start fob_start), (ce_i24 y ob_stop fob_stop), (ce_i700 y ob_tests fob_tests), (ce_i5 y ob_facts fob_facts)] := ⟨hP, hD⟩
          have bbh_1421 := bcu_b v_1417.toInt; rw [← h_1421] at bbh_1421
          refine lv_lstore (lv' := [(5, .long v_1419), (7, .long v_1394), (12, .int v_1386), (11, .int v_1252), (10, .int v_1253), (9, .int v_1254), (3, .long v_1257), (2, .int v_1002), (0, .ref ob)]) hx hb dX0_holds_127 hl (by decide) rfl (fun ls hl => ?_)
          refine lv_lconst (v := 1) hx hb dX0_holds_129 (by decide) ?_
          refine lv_lstore (lv' := [(7, .long 1), (5, .long v_1419), (12, .int v_1386), (11, .int v_1252), (10, .int v_1253), (9, .int v_1254), (3, .long v_1257), (2, .int v_1002), (0, .ref ob)]) hx hb dX0_holds_130 hl (by decide) rfl (fun ls hl => ?_)
          refine lv_iload hx hb dX0_holds_132 (lv_at hl 2 rfl) ?_
          refine lv_sipush (v := 2001) hx hb dX0_holds_134 (by decide) ?_
          refine lv_icmp_ne (tgt := 144) hx hb dX0_holds_137 (by decide) (fun c_1423 => ?_) (fun c_1423 => ?_)
          · skip
            have nc_1423 := nb_ne (-2147483648) (2147483647) c_1423 nc_1398.1 (k := 2001) (by decide) (by decide)
            refine lv_iconst (v := 0) hx hb dX0_holds_144 (by decide) ?_
            refine lv_istore (lv' := [(9, .int 0), (7, .long 1), (5, .long v_1419), (12, .int v_1386), (11, .int v_1252), (10, .int v_1253), (3, .long v_1257), (2, .int v_1002), (0, .ref ob)]) hx hb dX0_holds_145 hl (by decide) rfl (fun ls hl => ?_)
            refine lv_iload hx hb dX0_holds_147 (lv_at hl 3 rfl) ?_
            refine lv_sipush (v := 2006) hx hb dX0_holds_149 (by decide) ?_
            refine lv_icmp_ne (tgt := 181) hx hb dX0_holds_152 (by decide) (fun c_1424 => ?_) (fun c_1424 => ?_)
            · skip
              have nc_1424 := nb_ne (-2147483648) (2147483647) c_1424 nc_1423.1 (k := 2006) (by decide) (by decide)
              refine lv_iload hx hb dX0_holds_181 (lv_at hl 3 rfl) ?_
              refine lv_sipush (v := 2003) hx hb dX0_holds_183 (by decide) ?_
              refine lv_icmp_lt (tgt := 199) hx hb dX0_holds_186 (by decide) (fun c_1425 => ?_) (fun c_1425 => ?_)
              · skip
                have nc_1425 := nb_lt (2002) (2003) c_1425 nc_1424.1 (bkc (x := 2003) (c := 2003) (by decide)) (by decide)
                obtain ⟨v_1426, ev_1426⟩ : ∃ z : Int32, z = v_1252 + 2 := ⟨_, rfl⟩
                have qv_1426 := ba_add ev_1426 h_1384 (bkc (x := 2) (c := 2) (by decide)) (by decide)
                have bv_1426 : (2 : Int) ≤ v_1426.toInt ∧ v_1426.toInt ≤ 700 := bq_add qv_1426 h_1384 (bkc (x := 2) (c := 2) (by decide)) _ _ (by decide)
                have qv_1426 : v_1426.toInt = v_1252.toInt + (2) := qv_1426
                refine lv_iinc (v := v_1426) (lv' := [(11, .int v_1426), (9, .int 0), (7, .long 1), (5, .long v_1419), (12, .int v_1386), (10, .int v_1253), (3, .long v_1257), (2, .int v_1002), (0, .ref ob)]) hx hb dX0_holds_199 hl (k := 4) rfl (ev_1426.symm) (by decide) rfl (fun ls hl => ?_)
                refine lv_goto (tgt := 42) hx hb dX0_holds_202 (by decide) ?_
                exact ih_1346 _ (ml_inc (hi := 701) hn_1346 qv_1426 (by decide) ((bw (0) (701) bv_1426 (by decide))).2) _ _ _ _ ⟨v_1426, v_1253, 0, 1, v_1419, v_1257, v_1420, rfl, (bw (0) (701) bv_1426 (by decide)), bv_1253, (bw (0) (1) (bkc (x := 0) (c := 0) (by decide)) (by decide)), bv_1420, (hl_J (by omega) (by decide) rl1258_0 (by omega) (tj_1 ev_1386 (by omega) (by omega) (by omega) rfl) (by omega) (hx_p ev_1387 (by omega) h_1390) (h_1421.trans (congrArg bcu (sm_1 (by omega) (h_1396.trans (congrArg bcu qv_1392.1))))) (decide_eq_decide.mpr (by have lm1 : Int32.toInt (-1) = -1 := (by decide); have l91 : Int32.toInt 1 = 1 := (by decide); have l92 : Int32.toInt 2 = 2 := (by decide); have l93 : Int32.toInt 3 = 3 := (by decide); have h90 : Int32.toInt 0 = 0 := (by decide); have h80 : Int64.toInt 1 = 1 := (by decide); constructor <;> intro _ <;> omega)) (bo_2 h_1397 h_1422 qv_1392.1 (sm_1 (by omega) (h_1396.trans (congrArg bcu qv_1392.1))))), (by have h90 : Int32.toInt 0 = 0 := (by decide); have h80 : Int64.toInt 1 = 1 := (by decide); omega), (by have h90 : Int32.toInt 0 = 0 := (by decide); have h80 : Int64.toInt 1 = 1 := (by decide); omega), (by have h90 : Int32.toInt 0 = 0 := (by decide); have h80 : Int64.toInt 1 = 1 := (by decide); omega), (by have h90 : Int32.toInt 0 = 0 := (by decide); have h80 : Int64.toInt 1 = 1 := (by decide); omega), rfl, ⟨hP, hD⟩, hS, lv_sub hl [0, 5, 1, 2, 3, 6, 7, 8] rfl⟩
              · skip
                have nc_1425 := nb_nlt (2003) (2003) c_1425 (bkc (x := 2003) (c := 2003) (by decide)) nc_1424.1 (by decide)
                refine lv_lload hx hb dX0_holds_189 (lv_at hl 2 rfl) ?_
                refine lv_lstore_n (lv' := [(3, .long v_1419), (9, .int 0), (7, .long 1), (5, .long v_1419), (12, .int v_1386), (11, .int v_1252), (10, .int v_1253), (2, .int v_1002), (0, .ref ob)]) hx hb dX0_holds_191 rfl hl (by decide) rfl (fun ls hl => ?_)
                refine lv_iload hx hb dX0_holds_192 (lv_at hl 4 rfl) ?_
                refine lv_istore (lv' := [(10, .int v_1386), (3, .long v_1419), (9, .int 0), (7, .long 1), (5, .long v_1419), (12, .int v_1386), (11, .int v_1252), (2, .int v_1002), (0, .ref ob)]) hx hb dX0_holds_194 hl (by decide) rfl (fun ls hl => ?_)
                refine lv_lconst (v := 0) hx hb dX0_holds_196 (by decide) ?_
                refine lv_lstore (lv' := [(5, .long 0), (10, .int v_1386), (3, .long v_1419), (9, .int 0), (7, .long 1), (12, .int v_1386), (11, .int v_1252), (2, .int v_1002), (0, .ref ob)]) hx hb dX0_holds_197 hl (by decide) rfl (fun ls hl => ?_)
                obtain ⟨v_1427, ev_1427⟩ : ∃ z : Int32, z = v_1252 + 2 := ⟨_, rfl⟩
                have qv_1427 := ba_add ev_1427 h_1384 (bkc (x := 2) (c := 2) (by decide)) (by decide)
                have bv_1427 : (2 : Int) ≤ v_1427.toInt ∧ v_1427.toInt ≤ 700 := bq_add qv_1427 h_1384 (bkc (x := 2) (c := 2) (by decide)) _ _ (by decide)
                have qv_1427 : v_1427.toInt = v_1252.toInt + (2) := qv_1427
                refine lv_iinc (v := v_1427) (lv' := [(11, .int v_1427), (5, .long 0), (10, .int v_1386), (3, .long v_1419), (9, .int 0), (7, .long 1), (12, .int v_1386), (2, .int v_1002), (0, .ref ob)]) hx hb dX0_holds_199 hl (k := 6) rfl (ev_1427.symm) (by decide) rfl (fun ls hl => ?_)
                refine lv_goto (tgt := 42) hx hb dX0_holds_202 (by decide) ?_
                exact ih_1346 _ (ml_inc (hi := 701) hn_1346 qv_1427 (by decide) ((bw (0) (701) bv_1427 (by decide))).2) _ _ _ _ ⟨v_1427, v_1386, 0, 1, 0, v_1419, v_1420, rfl, (bw (0) (701) bv_1427 (by decide)), nc_1425.2.1, (bw (0) (1) (bkc (x := 0) (c := 0) (by decide)) (by decide)), bv_1420, (hl_S (by omega) (by decide) (by decide) (by decide) rfl rl1258_0 (by omega) (tj_1 ev_1386 (by omega) (by omega) (by omega) rfl) (by omega) (by omega) (hx_p ev_1387 (by omega) h_1390) (h_1421.trans (congrArg bcu (sm_1 (by omega) (h_1396.trans (congrArg bcu qv_1392.1))))) (bo_2 h_1397 h_1422 qv_1392.1 (sm_1 (by omega) (h_1396.trans (congrArg bcu qv_1392.1))))), (by have h90 : Int32.toInt 0 = 0 := (by decide); have h80 : Int64.toInt 0 = 0 := (by decide); have h81 : Int64.toInt 1 = 1 := (by decide); omega), (by have h90 : Int32.toInt 0 = 0 := (by decide); have h80 : Int64.toInt 0 = 0 := (by decide); have h81 : Int64.toInt 1 = 1 := (by decide); omega), (by have h90 : Int32.toInt 0 = 0 := (by decide); have h80 : Int64.toInt 0 = 0 := (by decide); have h81 : Int64.toInt 1 = 1 := (by decide); omega), (by have h90 : Int32.toInt 0 = 0 := (by decide); have h80 : Int64.toInt 0 = 0 := (by decide); have h81 : Int64.toInt 1 = 1 := (by decide); omega), rfl, ⟨hP, hD⟩, hS, lv_sub hl [0, 2, 4, 5, 1, 3, 7, 8] rfl⟩
            · skip
              have nc_1424 := nb_eq (2006) (2006) c_1424 nc_1423.1 (bkc (x := 2006) (c := 2006) (by decide)) (by decide)
              refine lv_aload_n hx hb dX0_holds_155 rfl (lv_at hl 8 rfl) ?_
              refine va_get (D := G) (ci := 0) (v := .int v_1420) (C := RX0) (T := TX0) (N := 10) hx hb hw0 inA_wsX00 hown hK.1 hP 0 rfl rfl 9 (by decide) (hw0 _ m_264) (fun _ h9 => h9) rfl dX0_holds_156 ?_
              refine lv_if_ne (tgt := 173) hx hb dX0_holds_159 (by decide) (fun c_1428 => ?_) (fun c_1428 => ?_)
              · skip
                have nc_1428 := nb_ne (1) (1) c_1428 bv_1420 (k := 0) (by decide) (by decide)
                refine lv_iconst (v := 0) hx hb dX0_holds_173 (by decide) ?_
                exact W.zret (v := 0) hx hb hr rfl (fun t ht hW => ⟨⟨0, _, rfl, Or.inl (⟨v_1420, (bw (0) (1) nc_1428.1 (by decide)), (fun L0 q1 q2 => hl_F rl1258_0 (by omega) (tj_1 ev_1386 (by omega) (by omega) (by omega) (by omega)) (hx_p ev_1387 (by omega) h_1390) (h_1421.trans (congrArg bcu (sm_1 (by omega) (h_1396.trans (congrArg bcu qv_1392.1))))) (bo_2 h_1397 h_1422 qv_1392.1 (sm_1 (by omega) (h_1396.trans (congrArg bcu qv_1392.1)))) (Or.inl (decide_eq_true (by omega))) (by have e9 := rl1258_1; rw [← e9] at q1; exact q1) q2), rfl, rfl⟩), by rw [ht]; exact hP, hD⟩, hS.F ht⟩) hS.2.2 dX0_holds_174
              · skip
                have nc_1428 := nb_eq (0) (0) c_1428 bv_1420 (bkc (x := 0) (c := 0) (by decide)) (by decide)
                refine lv_lload_n hx hb dX0_holds_162 rfl (lv_at hl 6 rfl) ?_
                refine lv_iload hx hb dX0_holds_163 (lv_at hl 5 rfl) ?_
                refine lv_lload hx hb dX0_holds_165 (lv_at hl 2 rfl) ?_
                refine cSim (As := [.long v_1257, .int v_1253, .long v_1419]) (rest := []) ⟨hx, hb, hml, hown, hw0⟩ hA hK hP hD hS [] (kX0_compares l G y _ v_1257 v_1253 v_1419 ) rfl ⟨(callB_of 3 hw0 (gA m_268) rfl rfl rfl (hw0 _ m_286) (hw0 _ m_292) cb_X0_compares ⟨Nat.le_of_ble_eq_true rfl, Nat.le_of_ble_eq_true rfl⟩), (hw0 _ m_293)⟩ rfl hl.1 (Nat.le_of_ble_eq_true rfl) dX0_holds_167 ⟨Nat.le_of_ble_eq_true rfl, Nat.le_of_ble_eq_true rfl⟩ (fun r_1429 w_1429 H locs hw_1429 hP hD hS => ?_)
                rcases hw_1429 with ⟨h_1430, rfl, rfl⟩ | ⟨h_1431, rfl, rfl⟩
                · skip
                  obtain ⟨hP, hD⟩ : vPD G A H [(ce_X0 ob ob_lines ob_used ob_paying ob_kind ob_within ob_start ob_stop ob_tests ob_facts v_1420), (ce_i24 y ob_start fob_start), (ce_i24 y ob_stop fob_stop), (ce_i700 y ob_tests fob_tests), (ce_i5 y ob_facts fob_facts)] := ⟨hP, hD⟩
                  refine lv_if_ne (tgt := 175) hx hb dX0_holds_170 (by decide) (fun c9 => absurd (by decide) c9) (fun _ => ?_)
                  refine lv_iconst (v := 0) hx hb dX0_holds_173 (by decide) ?_
                  exact W.zret (v := 0) hx hb hr rfl (fun t ht hW => ⟨⟨0, _, rfl, Or.inl (⟨v_1420, (bw (0) (1) nc_1428.1 (by decide)), (fun L0 q1 q2 => hl_F rl1258_0 (by omega) (tj_1 ev_1386 (by omega) (by omega) (by omega) (by omega)) (hx_p ev_1387 (by omega) h_1390) (h_1421.trans (congrArg bcu (sm_1 (by omega) (h_1396.trans (congrArg bcu qv_1392.1))))) (bo_2 h_1397 h_1422 qv_1392.1 (sm_1 (by omega) (h_1396.trans (congrArg bcu qv_1392.1)))) (Or.inr h_1430) (by have e9 := rl1258_1; rw [← e9] at q1; exact q1) q2), rfl, rfl⟩), by rw [ht]; exact hP, hD⟩, hS.F ht⟩) hS.2.2 dX0_holds_174
                · skip
                  obtain ⟨hP, hD⟩ : vPD G A H [(ce_X0 ob ob_lines ob_used ob_paying ob_kind ob_within ob_start ob_stop ob_tests ob_facts v_1420), (ce_i24 y ob_start fob_start), (ce_i24 y ob_stop fob_stop), (ce_i700 y ob_tests fob_tests), (ce_i5 y ob_facts fob_facts)] := ⟨hP, hD⟩
                  refine lv_if_ne (tgt := 175) hx hb dX0_holds_170 (by decide) (fun _ => ?_) (fun c9 => absurd c9 (by decide))
                  refine lv_lconst (v := 0) hx hb dX0_holds_175 (by decide) ?_
                  refine lv_lstore (lv' := [(5, .long 0), (9, .int 0), (7, .long 1), (12, .int v_1386), (11, .int v_1252), (10, .int v_1253), (3, .long v_1257), (2, .int v_1002), (0, .ref ob)]) hx hb dX0_holds_176 hl (by decide) rfl (fun ls hl => ?_)
                  refine lv_goto (tgt := 199) hx hb dX0_holds_178 (by decide) ?_
                  obtain ⟨v_1432, ev_1432⟩ : ∃ z : Int32, z = v_1252 + 2 := ⟨_, rfl⟩
                  have qv_1432 := ba_add ev_1432 h_1384 (bkc (x := 2) (c := 2) (by decide)) (by decide)
                  have bv_1432 : (2 : Int) ≤ v_1432.toInt ∧ v_1432.toInt ≤ 700 := bq_add qv_1432 h_1384 (bkc (x := 2) (c := 2) (by decide)) _ _ (by decide)
                  have qv_1432 : v_1432.toInt = v_1252.toInt + (2) := qv_1432
                  refine lv_iinc (v := v_1432) (lv' := [(11, .int v_1432), (5, .long 0), (9, .int 0), (7, .long 1), (12, .int v_1386), (10, .int v_1253), (3, .long v_1257), (2, .int v_1002), (0, .ref ob)]) hx hb dX0_holds_199 hl (k := 4) rfl (ev_1432.symm) (by decide) rfl (fun ls hl => ?_)
                  refine lv_goto (tgt := 42) hx hb dX0_holds_202 (by decide) ?_
                  exact ih_1346 _ (ml_inc (hi := 701) hn_1346 qv_1432 (by decide) ((bw (0) (701) bv_1432 (by decide))).2) _ _ _ _ ⟨v_1432, v_1253, 0, 1, 0, v_1257, v_1420, rfl, (bw (0) (701) bv_1432 (by decide)), bv_1253, (bw (0) (1) (bkc (x := 0) (c := 0) (by decide)) (by decide)), (bw (0) (1) nc_1428.1 (by decide)), (hl_A (by omega) (by decide) (by decide) (by decide) rl1258_0 (by omega) (tj_1 ev_1386 (by omega) (by omega) (by omega) (by omega)) (hx_p ev_1387 (by omega) h_1390) (h_1421.trans (congrArg bcu (sm_1 (by omega) (h_1396.trans (congrArg bcu qv_1392.1))))) (bo_2 h_1397 h_1422 qv_1392.1 (sm_1 (by omega) (h_1396.trans (congrArg bcu qv_1392.1)))) (decide_eq_false (by omega)) h_1431), (by have h90 : Int32.toInt 0 = 0 := (by decide); have h80 : Int64.toInt 0 = 0 := (by decide); have h81 : Int64.toInt 1 = 1 := (by decide); omega), (by have h90 : Int32.toInt 0 = 0 := (by decide); have h80 : Int64.toInt 0 = 0 := (by decide); have h81 : Int64.toInt 1 = 1 := (by decide); omega), (by have h90 : Int32.toInt 0 = 0 := (by decide); have h80 : Int64.toInt 0 = 0 := (by decide); have h81 : Int64.toInt 1 = 1 := (by decide); omega), (by have h90 : Int32.toInt 0 = 0 := (by decide); have h80 : Int64.toInt 0 = 0 := (by decide); have h81 : Int64.toInt 1 = 1 := (by decide); omega), rfl, ⟨hP, hD⟩, hS, lv_sub hl [0, 5, 2, 3, 1, 6, 7, 8] rfl⟩
          · skip
            have nc_1423 := nb_eq (2001) (2001) c_1423 nc_1398.1 (bkc (x := 2001) (c := 2001) (by decide)) (by decide)
            refine lv_iconst (v := 1) hx hb dX0_holds_140 (by decide) ?_
            refine lv_goto (tgt := 145) hx hb dX0_holds_141 (by decide) ?_
            refine lv_istore (lv' := [(9, .int 1), (7, .long 1), (5, .long v_1419), (12, .int v_1386), (11, .int v_1252), (10, .int v_1253), (3, .long v_1257), (2, .int v_1002), (0, .ref ob)]) hx hb dX0_holds_145 hl (by decide) rfl (fun ls hl => ?_)
            refine lv_iload hx hb dX0_holds_147 (lv_at hl 3 rfl) ?_
            refine lv_sipush (v := 2006) hx hb dX0_holds_149 (by decide) ?_
            refine lv_icmp_ne (tgt := 181) hx hb dX0_holds_152 (by decide) (fun _ => ?_) (fun c9 => absurd c9 (dc_neq nc_1423.1 (bkc (x := 2006) (c := 2006) (by decide)) (by decide)))
            refine lv_iload hx hb dX0_holds_181 (lv_at hl 3 rfl) ?_
            refine lv_sipush (v := 2003) hx hb dX0_holds_183 (by decide) ?_
            refine lv_icmp_lt (tgt := 199) hx hb dX0_holds_186 (by decide) (fun _ => ?_) (fun c9 => absurd (dc_lt nc_1423.1 (bkc (x := 2003) (c := 2003) (by decide)) (by decide)) c9)
            obtain ⟨v_1433, ev_1433⟩ : ∃ z : Int32, z = v_1252 + 2 := ⟨_, rfl⟩
            have qv_1433 := ba_add ev_1433 h_1384 (bkc (x := 2) (c := 2) (by decide)) (by decide)
            have bv_1433 : (2 : Int) ≤ v_1433.toInt ∧ v_1433.toInt ≤ 700 := bq_add qv_1433 h_1384 (bkc (x := 2) (c := 2) (by decide)) _ _ (by decide)
            have qv_1433 : v_1433.toInt = v_1252.toInt + (2) := qv_1433
            refine lv_iinc (v := v_1433) (lv' := [(11, .int v_1433), (9, .int 1), (7, .long 1), (5, .long v_1419), (12, .int v_1386), (10, .int v_1253), (3, .long v_1257), (2, .int v_1002), (0, .ref ob)]) hx hb dX0_holds_199 hl (k := 4) rfl (ev_1433.symm) (by decide) rfl (fun ls hl => ?_)
            refine lv_goto (tgt := 42) hx hb dX0_holds_202 (by decide) ?_
            exact ih_1346 _ (ml_inc (hi := 701) hn_1346 qv_1433 (by decide) ((bw (0) (701) bv_1433 (by decide))).2) _ _ _ _ ⟨v_1433, v_1253, 1, 1, v_1419, v_1257, v_1420, rfl, (bw (0) (701) bv_1433 (by decide)), bv_1253, (bw (0) (1) (bkc (x := 1) (c := 1) (by decide)) (by decide)), bv_1420, (hl_J (by omega) (by decide) rl1258_0 (by omega) (tj_1 ev_1386 (by omega) (by omega) (by omega) rfl) (by omega) (hx_p ev_1387 (by omega) h_1390) (h_1421.trans (congrArg bcu (sm_1 (by omega) (h_1396.trans (congrArg bcu qv_1392.1))))) (decide_eq_decide.mpr (by have lm1 : Int32.toInt (-1) = -1 := (by decide); have l91 : Int32.toInt 1 = 1 := (by decide); have l92 : Int32.toInt 2 = 2 := (by decide); have l93 : Int32.toInt 3 = 3 := (by decide); have h90 : Int32.toInt 1 = 1 := (by decide); have h80 : Int64.toInt 1 = 1 := (by decide); constructor <;> intro _ <;> omega)) (bo_2 h_1397 h_1422 qv_1392.1 (sm_1 (by omega) (h_1396.trans (congrArg bcu qv_1392.1))))), (by have h90 : Int32.toInt 1 = 1 := (by decide); have h80 : Int64.toInt 1 = 1 := (by decide); omega), (by have h90 : Int32.toInt 1 = 1 := (by decide); have h80 : Int64.toInt 1 = 1 := (by decide); omega), (by have h90 : Int32.toInt 1 = 1 := (by decide); have h80 : Int64.toInt 1 = 1 := (by decide); omega), (by have h90 : Int32.toInt 1 = 1 := (by decide); have h80 : Int64.toInt 1 = 1 := (by decide); omega), rfl, ⟨hP, hD⟩, hS, lv_sub hl [0, 5, 1, 2, 3, 6, 7, 8] rfl⟩
      · skip
        have nc_1398 := nb_eq (2002) (2002) c_1398 (btop v_1386) (bkc (x := 2002) (c := 2002) (by decide)) (by decide)
        refine lv_goto (tgt := 199) hx hb dX0_holds_102 (by decide) ?_
        obtain ⟨v_1434, ev_1434⟩ : ∃ z : Int32, z = v_1252 + 2 := ⟨_, rfl⟩
        have qv_1434 := ba_add ev_1434 h_1384 (bkc (x := 2) (c := 2) (by decide)) (by decide)
        have bv_1434 : (2 : Int) ≤ v_1434.toInt ∧ v_1434.toInt ≤ 700 := bq_add qv_1434 h_1384 (bkc (x := 2) (c := 2) (by decide)) _ _ (by decide)
        have qv_1434 : v_1434.toInt = v_1252.toInt + (2) := qv_1434
        refine lv_iinc (v := v_1434) (lv' := [(11, .int v_1434), (7, .long v_1394), (12, .int v_1386), (10, .int v_1253), (9, .int v_1254), (5, .long v_1256), (3, .long v_1257), (2, .int v_1002), (0, .ref ob)]) hx hb dX0_holds_199 hl (k := 2) rfl (ev_1434.symm) (by decide) rfl (fun ls hl => ?_)
        refine lv_goto (tgt := 42) hx hb dX0_holds_202 (by decide) ?_
        exact ih_1346 _ (ml_inc (hi := 701) hn_1346 qv_1434 (by decide) ((bw (0) (701) bv_1434 (by decide))).2) _ _ _ _ ⟨v_1434, v_1253, v_1254, v_1394, v_1256, v_1257, v_1395, rfl, (bw (0) (701) bv_1434 (by decide)), bv_1253, bv_1254, bv_1395, (hl_T (by omega) rl1258_0 (by omega) (tj_1 ev_1386 (by omega) (by omega) (by omega) (by omega)) (hx_p ev_1387 (by omega) h_1390) (h_1396.trans (congrArg bcu qv_1392.1)) ((bo_1 h_1397).trans (by rw [qv_1392.1]))), (by omega), (by omega), (by omega), (by omega), rfl, ⟨hP, hD⟩, hS, lv_sub hl [0, 3, 4, 1, 5, 6, 7, 8] rfl⟩
