set_option maxHeartbeats 4000000 in
set_option maxRecDepth 100000 in
theorem kX0_lineFor (l : Launch) (G : va_G) (y : Nat → ClassId) (sz : Nat) (ob : Nat) (a1 : Int32) (a2 : Int32) (a3 : Int32) (a4 : Int32) (a5 : Int32) (a6 : Int32) (ob_lines : Int32) (ob_used : Int32) (ob_paying : Nat) (ob_kind : Nat) (ob_within : Nat) (ob_start : Nat) (ob_stop : Nat) (ob_tests : Nat) (ob_facts : Nat) (ob_beyond : Int32) (fob_paying : Nat → Int32) (fob_kind : Nat → Int32) (fob_within : Nat → Int32) (fob_start : Nat → Int32) (fob_stop : Nat → Int32) (fob_tests : Nat → Int32) (fob_facts : Nat → Int32) (p_ob_lines : (0 : Int) ≤ ob_lines.toInt ∧ ob_lines.toInt ≤ 24) (p_ob_used : (0 : Int) ≤ ob_used.toInt ∧ ob_used.toInt ≤ 700) (p_fob_kind : ∀ i, (0 : Int) ≤ (fob_kind i).toInt ∧ (fob_kind i).toInt ≤ 3) (p_fob_within : ∀ i, (0 : Int) ≤ (fob_within i).toInt ∧ (fob_within i).toInt ≤ 99) (p_fob_start : ∀ i, (0 : Int) ≤ (fob_start i).toInt ∧ (fob_start i).toInt ≤ 700) (p_fob_stop : ∀ i, (0 : Int) ≤ (fob_stop i).toInt ∧ (fob_stop i).toInt ≤ 700) (p_ob_beyond : (0 : Int) ≤ ob_beyond.toInt ∧ ob_beyond.toInt ≤ 1) : Met l yX0_lineFor (Cond.code yX0_lineFor cX0_lineFor 8 (some .int) :: wAll) ({ frames := 2, cells := 0, slots := 0, locals := 56 }) (va_Pc [.ref ob, .int a1, .int a2, .int a3, .int a4, .int a5, .int a6] (kp G y sz [(ce_X0 ob ob_lines ob_used ob_paying ob_kind ob_within ob_start ob_stop ob_tests ob_facts ob_beyond), (ce_i24 y ob_paying fob_paying), (ce_i24 y ob_kind fob_kind), (ce_i24 y ob_within fob_within), (ce_i24 y ob_start fob_start), (ce_i24 y ob_stop fob_stop), (ce_i700 y ob_tests fob_tests), (ce_i5 y ob_facts fob_facts)])) (va_Qi (fun (r : Int32) (w : va_W) => (∃ (v_119 : Int32) (v_120 : Int32) (f_121 : Nat → Int32), ((-1 : Int) ≤ v_119.toInt ∧ v_119.toInt ≤ 23) ∧ ((0 : Int) ≤ v_120.toInt ∧ v_120.toInt ≤ 1) ∧ (∀ C, cdC ob_lines.toInt ob_used.toInt fob_paying fob_kind fob_within fob_start fob_stop fob_tests C → (v_119 : Int32).toInt = lnr a1.toInt (fct a2.toInt a3.toInt a4.toInt a5.toInt a6.toInt) C 0) ∧ (-1 ≤ (v_119 : Int32).toInt ∧ (v_119 : Int32).toInt ≤ 23) ∧ r = v_119 ∧ w = [(ce_X0 ob ob_lines ob_used ob_paying ob_kind ob_within ob_start ob_stop ob_tests ob_facts v_120), (ce_i24 y ob_paying fob_paying), (ce_i24 y ob_kind fob_kind), (ce_i24 y ob_within fob_within), (ce_i24 y ob_start fob_start), (ce_i24 y ob_stop fob_stop), (ce_i700 y ob_tests fob_tests), (ce_i5 y ob_facts f_121)])) (kq G (va_A [(ce_X0 ob ob_lines ob_used ob_paying ob_kind ob_within ob_start ob_stop ob_tests ob_facts ob_beyond), (ce_i24 y ob_paying fob_paying), (ce_i24 y ob_kind fob_kind), (ce_i24 y ob_within fob_within), (ce_i24 y ob_start fob_start), (ce_i24 y ob_stop fob_stop), (ce_i700 y ob_tests fob_tests), (ce_i5 y ob_facts fob_facts)] sz)) (va_A [(ce_X0 ob ob_lines ob_used ob_paying ob_kind ob_within ob_start ob_stop ob_tests ob_facts ob_beyond), (ce_i24 y ob_paying fob_paying), (ce_i24 y ob_kind fob_kind), (ce_i24 y ob_within fob_within), (ce_i24 y ob_start fob_start), (ce_i24 y ob_stop fob_stop), (ce_i700 y ob_tests fob_tests), (ce_i5 y ob_facts fob_facts)] sz)) 0 0 (va_A [(ce_X0 ob ob_lines ob_used ob_paying ob_kind ob_within ob_start ob_stop ob_tests ob_facts ob_beyond), (ce_i24 y ob_paying fob_paying), (ce_i24 y ob_kind fob_kind), (ce_i24 y ob_within fob_within), (ce_i24 y ob_start fob_start), (ce_i24 y ob_stop fob_stop), (ce_i700 y ob_tests fob_tests), (ce_i5 y ob_facts fob_facts)] sz) := by
  refine Met.ofW (cc := cX0_lineFor) (maxL := 8) (ret := (some .int)) (by decide) rfl ?_
  intro p e s m args below meth c s₁ B hml hv
  obtain ⟨rfl, hsz, hP, hK, hD0⟩ := hv
  have hx := B.exec
  have hb := B.bytes
  have hr := B.returns
  have hw0 : ∀ w ∈ wAll, w.before _ s = true := fun w h => atoms_spec (ws := Cond.code yX0_lineFor cX0_lineFor 8 (some .int) :: wAll) B.pre w (List.mem_cons_of_mem _ h)
  have hown : s.vm.findClass RX0 = some m.cls := findClass_of_methodNamed B.named
  subst hsz
  have hD := hD0.self (sz := s.heap.size)
  generalize hAe : va_A [(ce_X0 ob ob_lines ob_used ob_paying ob_kind ob_within ob_start ob_stop ob_tests ob_facts ob_beyond), (ce_i24 y ob_paying fob_paying), (ce_i24 y ob_kind fob_kind), (ce_i24 y ob_within fob_within), (ce_i24 y ob_start fob_start), (ce_i24 y ob_stop fob_stop), (ce_i700 y ob_tests fob_tests), (ce_i5 y ob_facts fob_facts)] s.heap.size = A at hD ⊢
  have hA : ∀ q : Nat, s.heap.size ≤ q → A q := fun q h => by rw [← hAe]; exact Or.inr h
  have hS : va_S A s.heap s.heap [] := va_S.rf
  have hP : va_P G vwCl [(ce_X0 ob ob_lines ob_used ob_paying ob_kind ob_within ob_start ob_stop ob_tests ob_facts ob_beyond), (ce_i24 y ob_paying fob_paying), (ce_i24 y ob_kind fob_kind), (ce_i24 y ob_within fob_within), (ce_i24 y ob_start fob_start), (ce_i24 y ob_stop fob_stop), (ce_i700 y ob_tests fob_tests), (ce_i5 y ob_facts fob_facts)] s.heap := hP
  have hl := lv_entry ([.ref ob, .int a1, .int a2, .int a3, .int a4, .int a5, .int a6]) (n := 8) (Nat.le_of_ble_eq_true rfl)
  rw [lg_entry_eq]
  generalize (lg_sl ([.ref ob, .int a1, .int a2, .int a3, .int a4, .int a5, .int a6]) ++ List.replicate (8 - (lg_sl ([.ref ob, .int a1, .int a2, .int a3, .int a4, .int a5, .int a6])).length) Slot.unset).toArray = ls at hl ⊢
  have hl : lv_has ls 8 [(0, .ref ob), (1, .int a1), (2, .int a2), (3, .int a3), (4, .int a4), (5, .int a5), (6, .int a6)] := hl
  refine lv_aload_n hx hb dX0_lineFor_0 rfl (lv_at hl 0 rfl) ?_
  refine va_get (D := G) (ci := 0) (v := .ref ob_facts) (C := RX0) (T := TX0) (N := 10) hx hb hw0 inA_wsX00 hown hK.1 hP 0 rfl rfl 8 (by decide) (hw0 _ m_299) (fun _ h9 => h9) rfl dX0_lineFor_1 ?_
  refine lv_iconst (v := 0) hx hb dX0_lineFor_4 (by decide) ?_
  refine lv_iload_n hx hb dX0_lineFor_5 rfl (lv_at hl 2 rfl) ?_
  refine va_iast hx hb hK.1 hP hD hS 7 1 rfl rfl (vi (bkc (x := 0) (c := 0) (by decide)) (by decide)) dX0_lineFor_6 (fun H locs hP hD hS => ?_)
  generalize hf_1001 : (upd fob_facts (0 : Int32).toNatClampNeg a2) = f_1001 at hP hD
  obtain ⟨hP, hD⟩ : vPD G A H [(ce_X0 ob ob_lines ob_used ob_paying ob_kind ob_within ob_start ob_stop ob_tests ob_facts ob_beyond), (ce_i24 y ob_paying fob_paying), (ce_i24 y ob_kind fob_kind), (ce_i24 y ob_within fob_within), (ce_i24 y ob_start fob_start), (ce_i24 y ob_stop fob_stop), (ce_i700 y ob_tests fob_tests), (ce_i5 y ob_facts f_1001)] := ⟨hP, hD⟩
  refine lv_aload_n hx hb dX0_lineFor_7 rfl (lv_at hl 0 rfl) ?_
  refine va_get (D := G) (ci := 0) (v := .ref ob_facts) (C := RX0) (T := TX0) (N := 10) hx hb hw0 inA_wsX00 hown hK.1 hP 0 rfl rfl 8 (by decide) (hw0 _ m_299) (fun _ h9 => h9) rfl dX0_lineFor_8 ?_
  refine lv_iconst (v := 1) hx hb dX0_lineFor_11 (by decide) ?_
  refine lv_iload_n hx hb dX0_lineFor_12 rfl (lv_at hl 3 rfl) ?_
  refine va_iast hx hb hK.1 hP hD hS 7 1 rfl rfl (vi (bkc (x := 1) (c := 1) (by decide)) (by decide)) dX0_lineFor_13 (fun H locs hP hD hS => ?_)
  generalize hf_1002 : (upd f_1001 (1 : Int32).toNatClampNeg a3) = f_1002 at hP hD
  obtain ⟨hP, hD⟩ : vPD G A H [(ce_X0 ob ob_lines ob_used ob_paying ob_kind ob_within ob_start ob_stop ob_tests ob_facts ob_beyond), (ce_i24 y ob_paying fob_paying), (ce_i24 y ob_kind fob_kind), (ce_i24 y ob_within fob_within), (ce_i24 y ob_start fob_start), (ce_i24 y ob_stop fob_stop), (ce_i700 y ob_tests fob_tests), (ce_i5 y ob_facts f_1002)] := ⟨hP, hD⟩
  refine lv_aload_n hx hb dX0_lineFor_14 rfl (lv_at hl 0 rfl) ?_
  refine va_get (D := G) (ci := 0) (v := .ref ob_facts) (C := RX0) (T := TX0) (N := 10) hx hb hw0 inA_wsX00 hown hK.1 hP 0 rfl rfl 8 (by decide) (hw0 _ m_299) (fun _ h9 => h9) rfl dX0_lineFor_15 ?_
  refine lv_iconst (v := 2) hx hb dX0_lineFor_18 (by decide) ?_
  refine lv_iload hx hb dX0_lineFor_19 (lv_at hl 4 rfl) ?_
  refine va_iast hx hb hK.1 hP hD hS 7 1 rfl rfl (vi (bkc (x := 2) (c := 2) (by decide)) (by decide)) dX0_lineFor_21 (fun H locs hP hD hS => ?_)
  generalize hf_1003 : (upd f_1002 (2 : Int32).toNatClampNeg a4) = f_1003 at hP hD
  obtain ⟨hP, hD⟩ : vPD G A H [(ce_X0 ob ob_lines ob_used ob_paying ob_kind ob_within ob_start ob_stop ob_tests ob_facts ob_beyond), (ce_i24 y ob_paying fob_paying), (ce_i24 y ob_kind fob_kind), (ce_i24 y ob_within fob_within), (ce_i24 y ob_start fob_start), (ce_i24 y ob_stop fob_stop), (ce_i700 y ob_tests fob_tests), (ce_i5 y ob_facts f_1003)] := ⟨hP, hD⟩
  refine lv_aload_n hx hb dX0_lineFor_22 rfl (lv_at hl 0 rfl) ?_
  refine va_get (D := G) (ci := 0) (v := .ref ob_facts) (C := RX0) (T := TX0) (N := 10) hx hb hw0 inA_wsX00 hown hK.1 hP 0 rfl rfl 8 (by decide) (hw0 _ m_299) (fun _ h9 => h9) rfl dX0_lineFor_23 ?_
  refine lv_iconst (v := 3) hx hb dX0_lineFor_26 (by decide) ?_
  refine lv_iload hx hb dX0_lineFor_27 (lv_at hl 5 rfl) ?_
  refine va_iast hx hb hK.1 hP hD hS 7 1 rfl rfl (vi (bkc (x := 3) (c := 3) (by decide)) (by decide)) dX0_lineFor_29 (fun H locs hP hD hS => ?_)
  generalize hf_1004 : (upd f_1003 (3 : Int32).toNatClampNeg a5) = f_1004 at hP hD
  obtain ⟨hP, hD⟩ : vPD G A H [(ce_X0 ob ob_lines ob_used ob_paying ob_kind ob_within ob_start ob_stop ob_tests ob_facts ob_beyond), (ce_i24 y ob_paying fob_paying), (ce_i24 y ob_kind fob_kind), (ce_i24 y ob_within fob_within), (ce_i24 y ob_start fob_start), (ce_i24 y ob_stop fob_stop), (ce_i700 y ob_tests fob_tests), (ce_i5 y ob_facts f_1004)] := ⟨hP, hD⟩
  refine lv_aload_n hx hb dX0_lineFor_30 rfl (lv_at hl 0 rfl) ?_
  refine va_get (D := G) (ci := 0) (v := .ref ob_facts) (C := RX0) (T := TX0) (N := 10) hx hb hw0 inA_wsX00 hown hK.1 hP 0 rfl rfl 8 (by decide) (hw0 _ m_299) (fun _ h9 => h9) rfl dX0_lineFor_31 ?_
  refine lv_iconst (v := 4) hx hb dX0_lineFor_34 (by decide) ?_
  refine lv_iload hx hb dX0_lineFor_35 (lv_at hl 6 rfl) ?_
  refine va_iast hx hb hK.1 hP hD hS 7 1 rfl rfl (vi (bkc (x := 4) (c := 4) (by decide)) (by decide)) dX0_lineFor_37 (fun H locs hP hD hS => ?_)
  generalize hf_1005 : (upd f_1004 (4 : Int32).toNatClampNeg a6) = f_1005 at hP hD
  obtain ⟨hP, hD⟩ : vPD G A H [(ce_X0 ob ob_lines ob_used ob_paying ob_kind ob_within ob_start ob_stop ob_tests ob_facts ob_beyond), (ce_i24 y ob_paying fob_paying), (ce_i24 y ob_kind fob_kind), (ce_i24 y ob_within fob_within), (ce_i24 y ob_start fob_start), (ce_i24 y ob_stop fob_stop), (ce_i700 y ob_tests fob_tests), (ce_i5 y ob_facts f_1005)] := ⟨hP, hD⟩
  refine lv_iconst (v := 0) hx hb dX0_lineFor_38 (by decide) ?_
  refine lv_istore (lv' := [(7, .int 0), (0, .ref ob), (1, .int a1), (2, .int a2), (3, .int a3), (4, .int a4), (5, .int a5), (6, .int a6)]) hx hb dX0_lineFor_39 hl (by decide) rfl (fun ls hl => ?_)
  refine loopX (fun n H locs ls st => ∃ (v_1038 : Int32) (v_1039 : Int32), (24 - v_1038.toInt).toNat = n ∧ ((0 : Int) ≤ v_1038.toInt ∧ v_1038.toInt ≤ 24) ∧ ((0 : Int) ≤ v_1039.toInt ∧ v_1039.toInt ≤ 1) ∧ (∀ C, cdC ob_lines.toInt ob_used.toInt fob_paying fob_kind fob_within fob_start fob_stop fob_tests C → lnI a1.toInt (fct a2.toInt a3.toInt a4.toInt a5.toInt a6.toInt) C v_1038.toInt) ∧ (v_1038.toInt ≤ ob_lines.toInt) ∧ st = [] ∧ vPD G A H [(ce_X0 ob ob_lines ob_used ob_paying ob_kind ob_within ob_start ob_stop ob_tests ob_facts v_1039), (ce_i24 y ob_paying fob_paying), (ce_i24 y ob_kind fob_kind), (ce_i24 y ob_within fob_within), (ce_i24 y ob_start fob_start), (ce_i24 y ob_stop fob_stop), (ce_i700 y ob_tests fob_tests), (ce_i5 y ob_facts f_1005)] ∧ va_S A s.heap H locs ∧ lv_has ls 8 [(7, .int v_1038), (0, .ref ob), (1, .int a1)]) ?_ (n := (24 - (0 : Int32).toInt).toNat) ⟨0, ob_beyond, rfl, (bw (0) (24) (bkc (x := 0) (c := 0) (by decide)) (by decide)), p_ob_beyond, (fun C H => li_0 (by decide)), (by have h90 : Int32.toInt 0 = 0 := (by decide); omega), rfl, ⟨hP, hD⟩, hS, lv_sub hl [0, 1, 2] rfl⟩
  rintro n ih_1049 H locs ls st ⟨v_1038, v_1039, hn_1049, bv_1038, bv_1039, rl1039_0, rl1039_1, rfl, ⟨hP, hD⟩, hS, hl⟩
  refine lv_iload hx hb dX0_lineFor_41 (lv_at hl 0 rfl) ?_
  refine lv_aload_n hx hb dX0_lineFor_43 rfl (lv_at hl 1 rfl) ?_
  refine va_get (D := G) (ci := 0) (v := .int ob_lines) (C := RX0) (T := TX0) (N := 10) hx hb hw0 inA_wsX00 hown hK.1 hP 0 rfl rfl 0 (by decide) (hw0 _ m_266) (fun _ h9 => h9) rfl dX0_lineFor_44 ?_
  refine lv_icmp_ge (tgt := 79) hx hb dX0_lineFor_47 (by decide) (fun c_1050 => ?_) (fun c_1050 => ?_)
  · skip
    have nc_1050 := nb_le (24) (0) c_1050 p_ob_lines bv_1038 (by decide)
    refine lv_iconst (v := (-1)) hx hb dX0_lineFor_79 (by decide) ?_
    exact W.iret (v := (-1)) hx hb hr (fun t ht hW => ⟨⟨(-1), _, rfl, ⟨(-1), v_1039, f_1005, (bw (-1) (23) (bkc (x := (-1)) (c := -1) (by decide)) (by decide)), bv_1039, (by have lm1 : Int32.toInt (-1) = -1 := (by decide); have l91 : Int32.toInt 1 = 1 := (by decide); have l92 : Int32.toInt 2 = 2 := (by decide); have l93 : Int32.toInt 3 = 3 := (by decide); have h90 : Int32.toInt (-1) = -1 := (by decide); intro C H; have h8 := li_e (rl1039_0 C H) (by have h9 := H.1; omega); omega), (by have lm1 : Int32.toInt (-1) = -1 := (by decide); have l91 : Int32.toInt 1 = 1 := (by decide); have l92 : Int32.toInt 2 = 2 := (by decide); have l93 : Int32.toInt 3 = 3 := (by decide); have h90 : Int32.toInt (-1) = -1 := (by decide); omega), rfl, rfl⟩, by rw [ht]; exact hP, hD⟩, hS.F ht⟩) hS.2.2 dX0_lineFor_80
  · skip
    have nc_1050 := nb_nle (23) (1) c_1050 bv_1038 p_ob_lines (by decide)
    refine lv_aload_n hx hb dX0_lineFor_50 rfl (lv_at hl 1 rfl) ?_
    refine va_get (D := G) (ci := 0) (v := .ref ob_paying) (C := RX0) (T := TX0) (N := 10) hx hb hw0 inA_wsX00 hown hK.1 hP 0 rfl rfl 2 (by decide) (hw0 _ m_270) (fun _ h9 => h9) rfl dX0_lineFor_51 ?_
    refine lv_iload hx hb dX0_lineFor_54 (lv_at hl 0 rfl) ?_
    refine va_iald hx hb hK.1 hP 1 1 rfl rfl (vi nc_1050.1 (by decide)) dX0_lineFor_56 ?_
    refine lv_topi (fun v_1051 ev_1051 => ?_)
    have lbv_1051 := ld_n ev_1051 (by omega)
    refine lv_iload_n hx hb dX0_lineFor_57 rfl (lv_at hl 2 rfl) ?_
    refine lv_icmp_ne (tgt := 73) hx hb dX0_lineFor_58 (by decide) (fun c_1052 => ?_) (fun c_1052 => ?_)
    · skip
      have nc_1052 : v_1051.toInt ≠ a1.toInt := fun h9 => c_1052 (Int32.toInt_inj.mp h9)
      obtain ⟨v_1053, ev_1053⟩ : ∃ z : Int32, z = v_1038 + 1 := ⟨_, rfl⟩
      have qv_1053 := ba_add ev_1053 nc_1050.1 (bkc (x := 1) (c := 1) (by decide)) (by decide)
      have bv_1053 : (1 : Int) ≤ v_1053.toInt ∧ v_1053.toInt ≤ 24 := bq_add qv_1053 nc_1050.1 (bkc (x := 1) (c := 1) (by decide)) _ _ (by decide)
      have qv_1053 : v_1053.toInt = v_1038.toInt + (1) := qv_1053
      refine lv_iinc (v := v_1053) (lv' := [(7, .int v_1053), (0, .ref ob), (1, .int a1)]) hx hb dX0_lineFor_73 hl (k := 0) rfl (ev_1053.symm) (by decide) rfl (fun ls hl => ?_)
      refine lv_goto (tgt := 41) hx hb dX0_lineFor_76 (by decide) ?_
      exact ih_1049 _ (ml_inc (hi := 24) hn_1049 qv_1053 (by decide) ((bw (0) (24) bv_1053 (by decide))).2) _ _ _ _ ⟨v_1053, v_1039, rfl, (bw (0) (24) bv_1053 (by decide)), bv_1039, (fun C H => li_n (rl1039_0 C H) (by have h9 := H.1; omega) (fun x hx => Or.inl (by have h9 := pa_C H hx; omega)) (by omega)), (by omega), rfl, ⟨hP, hD⟩, hS, lv_sub hl [0, 1, 2] rfl⟩
    · skip
      have nc_1052 := nb_eq (-2147483648) (2147483647) c_1052 (btop v_1051) (btop a1) (by decide)
      refine lv_aload_n hx hb dX0_lineFor_61 rfl (lv_at hl 1 rfl) ?_
      refine lv_iload hx hb dX0_lineFor_62 (lv_at hl 0 rfl) ?_
      refine cVim (As := [.int v_1038]) (rest := []) ⟨hx, hb, hml, hown, hw0⟩ hA hK hP hD hS [true, false, false, false, true, true, true, true] (kX0_holds l G y _ ob v_1038 ob_lines ob_used ob_paying ob_kind ob_within ob_start ob_stop ob_tests ob_facts v_1039 fob_start fob_stop fob_tests f_1005 (bw (0) (24) nc_1050.2.1 (by decide)) p_ob_used p_fob_start p_fob_stop bv_1039 nc_1050.1) rfl ⟨(callB_of 1 hw0 (gA m_280) rfl rfl rfl (hw0 _ m_286) (hw0 _ m_301) cb_X0_holds ⟨Nat.le_of_ble_eq_true rfl, Nat.le_of_ble_eq_true rfl⟩), (hw0 _ m_302), (hw0 _ m_303)⟩ (ci := 0) (q := (RX0, TX0, 10)) rfl rfl rfl hl.1 (Nat.le_of_ble_eq_true rfl) dX0_lineFor_64 ⟨Nat.le_of_ble_eq_true rfl, Nat.le_of_ble_eq_true rfl⟩ (fun r_1054 w_1054 H locs hw_1054 hP hD hS => ?_)
      rcases hw_1054 with ⟨v_1055, bv_1055, h_1056, rfl, rfl⟩ | ⟨v_1057, bv_1057, h_1058, rfl, rfl⟩
      · skip
        obtain ⟨hP, hD⟩ : vPD G A H [(ce_X0 ob ob_lines ob_used ob_paying ob_kind ob_within ob_start ob_stop ob_tests ob_facts v_1055), (ce_i24 y ob_paying fob_paying), (ce_i24 y ob_kind fob_kind), (ce_i24 y ob_within fob_within), (ce_i24 y ob_start fob_start), (ce_i24 y ob_stop fob_stop), (ce_i700 y ob_tests fob_tests), (ce_i5 y ob_facts f_1005)] := ⟨hP, hD⟩
        refine lv_if_eq (tgt := 73) hx hb dX0_lineFor_67 (by decide) (fun _ => ?_) (fun c9 => absurd (by decide) c9)
        obtain ⟨v_1059, ev_1059⟩ : ∃ z : Int32, z = v_1038 + 1 := ⟨_, rfl⟩
        have qv_1059 := ba_add ev_1059 nc_1050.1 (bkc (x := 1) (c := 1) (by decide)) (by decide)
        have bv_1059 : (1 : Int) ≤ v_1059.toInt ∧ v_1059.toInt ≤ 24 := bq_add qv_1059 nc_1050.1 (bkc (x := 1) (c := 1) (by decide)) _ _ (by decide)
        have qv_1059 : v_1059.toInt = v_1038.toInt + (1) := qv_1059
        refine lv_iinc (v := v_1059) (lv' := [(7, .int v_1059), (0, .ref ob), (1, .int a1)]) hx hb dX0_lineFor_73 hl (k := 0) rfl (ev_1059.symm) (by decide) rfl (fun ls hl => ?_)
        refine lv_goto (tgt := 41) hx hb dX0_lineFor_76 (by decide) ?_
        exact ih_1049 _ (ml_inc (hi := 24) hn_1049 qv_1059 (by decide) ((bw (0) (24) bv_1059 (by decide))).2) _ _ _ _ ⟨v_1059, v_1055, rfl, (bw (0) (24) bv_1059 (by decide)), bv_1055, (fun C H => li_n (rl1039_0 C H) (by have h9 := H.1; omega) (fun x hx => Or.inr (hc_n H h_1056 (fct_5 (li_4 hf_1001 hf_1002 hf_1003 hf_1004 hf_1005).1 (li_4 hf_1001 hf_1002 hf_1003 hf_1004 hf_1005).2.1 (li_4 hf_1001 hf_1002 hf_1003 hf_1004 hf_1005).2.2.1 (li_4 hf_1001 hf_1002 hf_1003 hf_1004 hf_1005).2.2.2.1 (li_4 hf_1001 hf_1002 hf_1003 hf_1004 hf_1005).2.2.2.2) hx)) (by omega)), (by omega), rfl, ⟨hP, hD⟩, hS, lv_sub hl [0, 1, 2] rfl⟩
      · skip
        obtain ⟨hP, hD⟩ : vPD G A H [(ce_X0 ob ob_lines ob_used ob_paying ob_kind ob_within ob_start ob_stop ob_tests ob_facts v_1057), (ce_i24 y ob_paying fob_paying), (ce_i24 y ob_kind fob_kind), (ce_i24 y ob_within fob_within), (ce_i24 y ob_start fob_start), (ce_i24 y ob_stop fob_stop), (ce_i700 y ob_tests fob_tests), (ce_i5 y ob_facts f_1005)] := ⟨hP, hD⟩
        refine lv_if_eq (tgt := 73) hx hb dX0_lineFor_67 (by decide) (fun c9 => absurd c9 (by decide)) (fun _ => ?_)
        refine lv_iload hx hb dX0_lineFor_70 (lv_at hl 0 rfl) ?_
        exact W.iret (v := v_1038) hx hb hr (fun t ht hW => ⟨⟨v_1038, _, rfl, ⟨v_1038, v_1057, f_1005, (bw (-1) (23) nc_1050.1 (by decide)), bv_1057, (by have lm1 : Int32.toInt (-1) = -1 := (by decide); have l91 : Int32.toInt 1 = 1 := (by decide); have l92 : Int32.toInt 2 = 2 := (by decide); have l93 : Int32.toInt 3 = 3 := (by decide); intro C H; exact li_y (rl1039_0 C H) (by have h9 := H.1; omega) (fun x hx => ⟨by have h9 := pa_C H hx; omega, hc_y H h_1058 (fct_5 (li_4 hf_1001 hf_1002 hf_1003 hf_1004 hf_1005).1 (li_4 hf_1001 hf_1002 hf_1003 hf_1004 hf_1005).2.1 (li_4 hf_1001 hf_1002 hf_1003 hf_1004 hf_1005).2.2.1 (li_4 hf_1001 hf_1002 hf_1003 hf_1004 hf_1005).2.2.2.1 (li_4 hf_1001 hf_1002 hf_1003 hf_1004 hf_1005).2.2.2.2) hx⟩)), (by have lm1 : Int32.toInt (-1) = -1 := (by decide); have l91 : Int32.toInt 1 = 1 := (by decide); have l92 : Int32.toInt 2 = 2 := (by decide); have l93 : Int32.toInt 3 = 3 := (by decide); omega), rfl, rfl⟩, by rw [ht]; exact hP, hD⟩, hS.F ht⟩) hS.2.2 dX0_lineFor_72
