set_option maxHeartbeats 4000000 in
set_option maxRecDepth 100000 in
theorem ffeedNumber (l : Launch) (G : va_G) (y : Nat → ClassId) (sz : Nat) (ob : Nat) (a1 : Int32) (ob_tape : Nat) (ob_tapeSize : Int32) (ob_reader : Nat) (ob_state : Nat) (ob_images : Nat) (ob_slots : Nat) (ob_rounds : Nat) (ob_ways : Nat) (ob_otherDebts : Nat) (ob_otherKnows : Nat) (fob_tape : Nat → Int32) (p_ob_tapeSize : (0 : Int) ≤ ob_tapeSize.toInt ∧ ob_tapeSize.toInt ≤ 1400) (hq0 : ob_tapeSize.toInt ≤ 1396) : Met l yX9_feedNumber (Cond.code yX9_feedNumber cX9_feedNumber 3 none :: wAll) ({ frames := 0, cells := 0, slots := 0, locals := 0 }) (va_Pc [.ref ob, .int a1] (kp G y sz [(ce_X9 ob ob_tape ob_tapeSize ob_reader ob_state ob_images ob_slots ob_rounds ob_ways ob_otherDebts ob_otherKnows), (ce_b1400 y ob_tape fob_tape)])) (va_Qv (fun (w : va_W) => (∃ (v_85 : Int32) (f_86 : Nat → Int32), ((0 : Int) ≤ v_85.toInt ∧ v_85.toInt ≤ 1400) ∧ (v_85.toInt = ob_tapeSize.toInt + 4) ∧ w = [(ce_X9 ob ob_tape v_85 ob_reader ob_state ob_images ob_slots ob_rounds ob_ways ob_otherDebts ob_otherKnows), (ce_b1400 y ob_tape f_86)])) (kq G (va_A [(ce_X9 ob ob_tape ob_tapeSize ob_reader ob_state ob_images ob_slots ob_rounds ob_ways ob_otherDebts ob_otherKnows), (ce_b1400 y ob_tape fob_tape)] sz)) (va_A [(ce_X9 ob ob_tape ob_tapeSize ob_reader ob_state ob_images ob_slots ob_rounds ob_ways ob_otherDebts ob_otherKnows), (ce_b1400 y ob_tape fob_tape)] sz)) 0 0 (va_A [(ce_X9 ob ob_tape ob_tapeSize ob_reader ob_state ob_images ob_slots ob_rounds ob_ways ob_otherDebts ob_otherKnows), (ce_b1400 y ob_tape fob_tape)] sz) := by
  refine Met.ofW (cc := cX9_feedNumber) (maxL := 3) (ret := none) (by decide) rfl ?_
  intro p e s m args below meth c s₁ B hml hv
  obtain ⟨rfl, hsz, hP, hK, hD0⟩ := hv
  have hx := B.exec
  have hb := B.bytes
  have hr := B.returns
  have hw0 : ∀ w ∈ wAll, w.before _ s = true := fun w h => atoms_spec (ws := Cond.code yX9_feedNumber cX9_feedNumber 3 none :: wAll) B.pre w (List.mem_cons_of_mem _ h)
  have hown : s.vm.findClass RX9 = some m.cls := findClass_of_methodNamed B.named
  subst hsz
  have hD := hD0.self (sz := s.heap.size)
  generalize hAe : va_A [(ce_X9 ob ob_tape ob_tapeSize ob_reader ob_state ob_images ob_slots ob_rounds ob_ways ob_otherDebts ob_otherKnows), (ce_b1400 y ob_tape fob_tape)] s.heap.size = A at hD ⊢
  have hA : ∀ q : Nat, s.heap.size ≤ q → A q := fun q h => by rw [← hAe]; exact Or.inr h
  have hS : va_S A s.heap s.heap [] := va_S.rf
  have hP : va_P G vwCl [(ce_X9 ob ob_tape ob_tapeSize ob_reader ob_state ob_images ob_slots ob_rounds ob_ways ob_otherDebts ob_otherKnows), (ce_b1400 y ob_tape fob_tape)] s.heap := hP
  have hl := lv_entry ([.ref ob, .int a1]) (n := 3) (Nat.le_of_ble_eq_true rfl)
  rw [lg_entry_eq]
  generalize (lg_sl ([.ref ob, .int a1]) ++ List.replicate (3 - (lg_sl ([.ref ob, .int a1])).length) Slot.unset).toArray = ls at hl ⊢
  have hl : lv_has ls 3 [(0, .ref ob), (1, .int a1)] := hl
  refine lv_bipush (v := 24) hx hb dX9_feedNumber_0 (by decide) ?_
  refine lv_istore_n (lv' := [(2, .int 24), (0, .ref ob), (1, .int a1)]) hx hb dX9_feedNumber_2 rfl hl (by decide) rfl (fun ls hl => ?_)
  refine loopX (fun n H locs ls st => ∃ (v_1026 : Int32) (v_1027 : Int32) (f_1028 : Nat → Int32), (v_1026.toInt - (-8)).toNat = n ∧ ((-8 : Int) ≤ v_1026.toInt ∧ v_1026.toInt ≤ 24) ∧ ((0 : Int) ≤ v_1027.toInt ∧ v_1027.toInt ≤ 1400) ∧ (8 * (v_1027.toInt - ob_tapeSize.toInt) = 24 - v_1026.toInt) ∧ st = [] ∧ vPD G A H [(ce_X9 ob ob_tape v_1027 ob_reader ob_state ob_images ob_slots ob_rounds ob_ways ob_otherDebts ob_otherKnows), (ce_b1400 y ob_tape f_1028)] ∧ va_S A s.heap H locs ∧ lv_has ls 3 [(2, .int v_1026), (0, .ref ob), (1, .int a1)]) ?_ (n := ((24 : Int32).toInt - (-8)).toNat) ⟨24, ob_tapeSize, fob_tape, rfl, (bw (-8) (24) (bkc (x := 24) (c := 24) (by decide)) (by decide)), p_ob_tapeSize, (by have h90 : Int32.toInt 24 = 24 := (by decide); omega), rfl, ⟨hP, hD⟩, hS, lv_sub hl [0, 1, 2] rfl⟩
  rintro n ih_1035 H locs ls st ⟨v_1026, v_1027, f_1028, hn_1035, bv_1026, bv_1027, rl1028_0, rfl, ⟨hP, hD⟩, hS, hl⟩
  refine lv_iload_n hx hb dX9_feedNumber_3 rfl (lv_at hl 0 rfl) ?_
  refine lv_if_lt (tgt := 46) hx hb dX9_feedNumber_4 (by decide) (fun c_1036 => ?_) (fun c_1036 => ?_)
  · skip
    have nc_1036 := nb_lt (-1) (0) c_1036 bv_1026 (bkc (x := 0) (c := 0) (by decide)) (by decide)
    exact W.vret hx hb hr (fun t ht hW => ⟨⟨_, rfl, ⟨v_1027, f_1028, bv_1027, by omega, rfl⟩, by rw [ht]; exact hP, hD⟩, hS.F ht⟩) hS.2.2 dX9_feedNumber_46
  · skip
    have nc_1036 := nb_nlt (0) (0) c_1036 (bkc (x := 0) (c := 0) (by decide)) bv_1026 (by decide)
    refine lv_aload_n hx hb dX9_feedNumber_7 rfl (lv_at hl 1 rfl) ?_
    refine va_get (D := G) (ci := 9) (v := .int v_1027) (C := RX9) (T := TX9) (N := 10) hx hb hw0 inA_wsX90 hown hK.1 hP 0 rfl rfl 1 (by decide) (hw0 _ m_1165) (fun _ h9 => h9) rfl dX9_feedNumber_8 ?_
    refine lv_sipush (v := 1400) hx hb dX9_feedNumber_11 (by decide) ?_
    refine lv_icmp_ge (tgt := 46) hx hb dX9_feedNumber_14 (by decide) (fun c_1037 => ?_) (fun c_1037 => ?_)
    · skip
      have nc_1037 := nb_le (1400) (1400) c_1037 (bkc (x := 1400) (c := 1400) (by decide)) bv_1027 (by decide)
      exact W.vret hx hb hr (fun t ht hW => ⟨⟨_, rfl, ⟨v_1027, f_1028, (bw (0) (1400) nc_1037.2.1 (by decide)), by omega, rfl⟩, by rw [ht]; exact hP, hD⟩, hS.F ht⟩) hS.2.2 dX9_feedNumber_46
    · skip
      have nc_1037 := nb_nle (1399) (1400) c_1037 bv_1027 (bkc (x := 1400) (c := 1400) (by decide)) (by decide)
      refine lv_aload_n hx hb dX9_feedNumber_17 rfl (lv_at hl 1 rfl) ?_
      refine va_get (D := G) (ci := 9) (v := .ref ob_tape) (C := RX9) (T := TX9) (N := 10) hx hb hw0 inA_wsX90 hown hK.1 hP 0 rfl rfl 0 (by decide) (hw0 _ m_1212) (fun _ h9 => h9) rfl dX9_feedNumber_18 ?_
      refine lv_aload_n hx hb dX9_feedNumber_21 rfl (lv_at hl 1 rfl) ?_
      refine va_get (D := G) (ci := 9) (v := .int v_1027) (C := RX9) (T := TX9) (N := 10) hx hb hw0 inA_wsX90 hown hK.1 hP 0 rfl rfl 1 (by decide) (hw0 _ m_1165) (fun _ h9 => h9) rfl dX9_feedNumber_22 ?_
      refine lv_iload_n hx hb dX9_feedNumber_25 rfl (lv_at hl 2 rfl) ?_
      refine lv_iload_n hx hb dX9_feedNumber_26 rfl (lv_at hl 0 rfl) ?_
      refine lv_ishr hx hb dX9_feedNumber_27 ?_
      refine lv_topi (fun v_1038 ev_1038 => ?_)
      refine lv_i2b hx hb dX9_feedNumber_28 rfl ?_
      refine lv_topi (fun v_1039 ev_1039 => ?_)
      have bv_1039 : (-128 : Int) ≤ v_1039.toInt ∧ v_1039.toInt ≤ 127 := ba_i2b ev_1039
      refine va_bast hx hb hK.1 hP hD hS 1 0 rfl rfl (vi nc_1037.1 (by decide)) dX9_feedNumber_29 (fun H locs hP hD hS => ?_)
      generalize hf_1040 : (upd f_1028 (v_1027 : Int32).toNatClampNeg (vp_nar .byte v_1039)) = f_1040 at hP hD
      obtain ⟨hP, hD⟩ : vPD G A H [(ce_X9 ob ob_tape v_1027 ob_reader ob_state ob_images ob_slots ob_rounds ob_ways ob_otherDebts ob_otherKnows), (ce_b1400 y ob_tape f_1040)] := ⟨hP, hD⟩
      refine lv_aload_n hx hb dX9_feedNumber_30 rfl (lv_at hl 1 rfl) ?_
      refine lv_dup hx hb dX9_feedNumber_31 rfl ?_
      refine va_get (D := G) (ci := 9) (v := .int v_1027) (C := RX9) (T := TX9) (N := 10) hx hb hw0 inA_wsX90 hown hK.1 hP 0 rfl rfl 1 (by decide) (hw0 _ m_1165) (fun _ h9 => h9) rfl dX9_feedNumber_32 ?_
      refine lv_iconst (v := 1) hx hb dX9_feedNumber_35 (by decide) ?_
      refine lv_iadd hx hb dX9_feedNumber_36 ?_
      refine lv_topi (fun v_1041 ev_1041 => ?_)
      have qv_1041 := ba_add ev_1041 nc_1037.1 (bkc (x := 1) (c := 1) (by decide)) (by decide)
      have bv_1041 : (1 : Int) ≤ v_1041.toInt ∧ v_1041.toInt ≤ 1400 := bq_add qv_1041 nc_1037.1 (bkc (x := 1) (c := 1) (by decide)) _ _ (by decide)
      have qv_1041 : v_1041.toInt = v_1027.toInt + (1) := qv_1041
      refine va_put (D := G) (ci := 9) (v := .int v_1041) (ty := .int) (C := RX9) (T := TX9) (N := 10) hx hb hw0 inA_wsX90 tyX9 tyX9_ok nmX9 hown hK.1 hP hD hS 0 rfl rfl 1 (by decide) (hw0 _ m_1165) (fun _ h9 => h9) rfl fd_X9_1 rfl rfl (Nat.le_of_ble_eq_true rfl) dX9_feedNumber_37 (fun H locs hP hD hS => ?_)
      obtain ⟨hP, hD⟩ : vPD G A H [(ce_X9 ob ob_tape v_1041 ob_reader ob_state ob_images ob_slots ob_rounds ob_ways ob_otherDebts ob_otherKnows), (ce_b1400 y ob_tape f_1040)] := ⟨hP, hD⟩
      obtain ⟨v_1042, ev_1042⟩ : ∃ z : Int32, z = v_1026 + (-8) := ⟨_, rfl⟩
      have qv_1042 := ba_add ev_1042 nc_1036.2.1 (bkc (x := (-8)) (c := -8) (by decide)) (by decide)
      have bv_1042 : (-8 : Int) ≤ v_1042.toInt ∧ v_1042.toInt ≤ 16 := bq_add qv_1042 nc_1036.2.1 (bkc (x := (-8)) (c := -8) (by decide)) _ _ (by decide)
      have qv_1042 : v_1042.toInt = v_1026.toInt + (-8) := qv_1042
      refine lv_iinc (v := v_1042) (lv' := [(2, .int v_1042), (0, .ref ob), (1, .int a1)]) hx hb dX9_feedNumber_40 hl (k := 0) rfl (ev_1042.symm) (by decide) rfl (fun ls hl => ?_)
      refine lv_goto (tgt := 3) hx hb dX9_feedNumber_43 (by decide) ?_
      exact ih_1035 _ (ml_dec (lo := -8) hn_1035 qv_1042 (by decide) ((bw (-8) (24) bv_1042 (by decide))).1) _ _ _ _ ⟨v_1042, v_1041, f_1040, rfl, (bw (-8) (24) bv_1042 (by decide)), (bw (0) (1400) bv_1041 (by decide)), (by omega), rfl, ⟨hP, hD⟩, hS, lv_sub hl [0, 1, 2] rfl⟩

set_option maxHeartbeats 4000000 in
set_option maxRecDepth 100000 in
theorem ffeed (l : Launch) (G : va_G) (y : Nat → ClassId) (sz : Nat) (ob : Nat) (a1 : Int32) (a2 : Int32) (a3 : Int32) (a4 : Int32) (a5 : Int32) (ob_tape : Nat) (ob_tapeSize : Int32) (ob_reader : Nat) (ob_state : Nat) (ob_images : Nat) (ob_slots : Nat) (ob_rounds : Nat) (ob_ways : Nat) (ob_otherDebts : Nat) (ob_otherKnows : Nat) (fob_tape : Nat → Int32) (p_ob_tapeSize : (0 : Int) ≤ ob_tapeSize.toInt ∧ ob_tapeSize.toInt ≤ 1400) : Met l yX9_feed (Cond.code yX9_feed cX9_feed 6 (some .int) :: wAll) ({ frames := 1, cells := 0, slots := 0, locals := 22 }) (va_Pc [.ref ob, .int a1, .int a2, .int a3, .int a4, .int a5] (kp G y sz [(ce_X9 ob ob_tape ob_tapeSize ob_reader ob_state ob_images ob_slots ob_rounds ob_ways ob_otherDebts ob_otherKnows), (ce_b1400 y ob_tape fob_tape)])) (va_Qi (fun (r : Int32) (w : va_W) => (∃ (v_49 : Int32) (v_50 : Int32) (f_51 : Nat → Int32), ((-1 : Int) ≤ v_49.toInt ∧ v_49.toInt ≤ 1400) ∧ ((0 : Int) ≤ v_50.toInt ∧ v_50.toInt ≤ 1400) ∧ (((v_49 : Int32).toInt = -1 ∧ v_50.toInt = ob_tapeSize.toInt ∧ 1380 < ob_tapeSize.toInt) ∨ ((v_49 : Int32).toInt = v_50.toInt ∧ v_50.toInt = ob_tapeSize.toInt + 20 ∧ ob_tapeSize.toInt ≤ 1380)) ∧ r = v_49 ∧ w = [(ce_X9 ob ob_tape v_50 ob_reader ob_state ob_images ob_slots ob_rounds ob_ways ob_otherDebts ob_otherKnows), (ce_b1400 y ob_tape f_51)])) (kq G (va_A [(ce_X9 ob ob_tape ob_tapeSize ob_reader ob_state ob_images ob_slots ob_rounds ob_ways ob_otherDebts ob_otherKnows), (ce_b1400 y ob_tape fob_tape)] sz)) (va_A [(ce_X9 ob ob_tape ob_tapeSize ob_reader ob_state ob_images ob_slots ob_rounds ob_ways ob_otherDebts ob_otherKnows), (ce_b1400 y ob_tape fob_tape)] sz)) 0 0 (va_A [(ce_X9 ob ob_tape ob_tapeSize ob_reader ob_state ob_images ob_slots ob_rounds ob_ways ob_otherDebts ob_otherKnows), (ce_b1400 y ob_tape fob_tape)] sz) := by
  refine Met.ofW (cc := cX9_feed) (maxL := 6) (ret := (some .int)) (by decide) rfl ?_
  intro p e s m args below meth c s₁ B hml hv
  obtain ⟨rfl, hsz, hP, hK, hD0⟩ := hv
  have hx := B.exec
  have hb := B.bytes
  have hr := B.returns
  have hw0 : ∀ w ∈ wAll, w.before _ s = true := fun w h => atoms_spec (ws := Cond.code yX9_feed cX9_feed 6 (some .int) :: wAll) B.pre w (List.mem_cons_of_mem _ h)
  have hown : s.vm.findClass RX9 = some m.cls := findClass_of_methodNamed B.named
  subst hsz
  have hD := hD0.self (sz := s.heap.size)
  generalize hAe : va_A [(ce_X9 ob ob_tape ob_tapeSize ob_reader ob_state ob_images ob_slots ob_rounds ob_ways ob_otherDebts ob_otherKnows), (ce_b1400 y ob_tape fob_tape)] s.heap.size = A at hD ⊢
  have hA : ∀ q : Nat, s.heap.size ≤ q → A q := fun q h => by rw [← hAe]; exact Or.inr h
  have hS : va_S A s.heap s.heap [] := va_S.rf
  have hP : va_P G vwCl [(ce_X9 ob ob_tape ob_tapeSize ob_reader ob_state ob_images ob_slots ob_rounds ob_ways ob_otherDebts ob_otherKnows), (ce_b1400 y ob_tape fob_tape)] s.heap := hP
  have hl := lv_entry ([.ref ob, .int a1, .int a2, .int a3, .int a4, .int a5]) (n := 6) (Nat.le_of_ble_eq_true rfl)
  rw [lg_entry_eq]
  generalize (lg_sl ([.ref ob, .int a1, .int a2, .int a3, .int a4, .int a5]) ++ List.replicate (6 - (lg_sl ([.ref ob, .int a1, .int a2, .int a3, .int a4, .int a5])).length) Slot.unset).toArray = ls at hl ⊢
  have hl : lv_has ls 6 [(0, .ref ob), (1, .int a1), (2, .int a2), (3, .int a3), (4, .int a4), (5, .int a5)] := hl
  refine lv_aload_n hx hb dX9_feed_0 rfl (lv_at hl 0 rfl) ?_
  refine va_get (D := G) (ci := 9) (v := .int ob_tapeSize) (C := RX9) (T := TX9) (N := 10) hx hb hw0 inA_wsX90 hown hK.1 hP 0 rfl rfl 1 (by decide) (hw0 _ m_1165) (fun _ h9 => h9) rfl dX9_feed_1 ?_
  refine lv_bipush (v := 20) hx hb dX9_feed_4 (by decide) ?_
  refine lv_iadd hx hb dX9_feed_6 ?_
  refine lv_topi (fun v_1001 ev_1001 => ?_)
  have qv_1001 := ba_add ev_1001 p_ob_tapeSize (bkc (x := 20) (c := 20) (by decide)) (by decide)
  have bv_1001 : (20 : Int) ≤ v_1001.toInt ∧ v_1001.toInt ≤ 1420 := bq_add qv_1001 p_ob_tapeSize (bkc (x := 20) (c := 20) (by decide)) _ _ (by decide)
  have qv_1001 : v_1001.toInt = ob_tapeSize.toInt + (20) := qv_1001
  refine lv_sipush (v := 1400) hx hb dX9_feed_7 (by decide) ?_
  refine lv_icmp_le (tgt := 15) hx hb dX9_feed_10 (by decide) (fun c_1002 => ?_) (fun c_1002 => ?_)
  · skip
    have nc_1002 := nb_le (1400) (1400) c_1002 bv_1001 (bkc (x := 1400) (c := 1400) (by decide)) (by decide)
    have h_1003 : (0 : Int) ≤ ob_tapeSize.toInt ∧ ob_tapeSize.toInt ≤ 1380 := bq_in1 qv_1001 nc_1002.1 p_ob_tapeSize (bkc (x := 20) (c := 20) (by decide)) (by decide)
    refine lv_aload_n hx hb dX9_feed_15 rfl (lv_at hl 0 rfl) ?_
    refine lv_iload_n hx hb dX9_feed_16 rfl (lv_at hl 1 rfl) ?_
    refine cVvm (As := [.int a1]) (rest := []) ⟨hx, hb, hml, hown, hw0⟩ hA hK hP hD hS [true, true] (ffeedNumber l G y _ ob a1 ob_tape ob_tapeSize ob_reader ob_state ob_images ob_slots ob_rounds ob_ways ob_otherDebts ob_otherKnows fob_tape (bw (0) (1400) h_1003 (by decide)) (by omega)) rfl ⟨(callB_of 1 hw0 (gA m_1211) rfl rfl rfl (hw0 _ m_36) (hw0 _ m_1208) cb_X9_feedNumber ⟨Nat.le_of_ble_eq_true rfl, Nat.le_of_ble_eq_true rfl⟩), (hw0 _ m_1209), (hw0 _ m_1210)⟩ (ci := 9) (q := (RX9, TX9, 10)) rfl rfl rfl hl.1 (Nat.le_of_ble_eq_true rfl) dX9_feed_17 ⟨Nat.le_of_ble_eq_true rfl, Nat.le_of_ble_eq_true rfl⟩ (fun w_1004 H locs hw_1004 hP hD hS => ?_)
    obtain ⟨v_1005, f_1006, bv_1005, h_1007, rfl⟩ := hw_1004
    obtain ⟨hP, hD⟩ : vPD G A H [(ce_X9 ob ob_tape v_1005 ob_reader ob_state ob_images ob_slots ob_rounds ob_ways ob_otherDebts ob_otherKnows), (ce_b1400 y ob_tape f_1006)] := ⟨hP, hD⟩
    refine lv_aload_n hx hb dX9_feed_20 rfl (lv_at hl 0 rfl) ?_
    refine lv_iload_n hx hb dX9_feed_21 rfl (lv_at hl 2 rfl) ?_
    refine cVvm (As := [.int a2]) (rest := []) ⟨hx, hb, hml, hown, hw0⟩ hA hK hP hD hS [true, true] (ffeedNumber l G y _ ob a2 ob_tape v_1005 ob_reader ob_state ob_images ob_slots ob_rounds ob_ways ob_otherDebts ob_otherKnows f_1006 bv_1005 (by omega)) rfl ⟨(callB_of 1 hw0 (gA m_1211) rfl rfl rfl (hw0 _ m_36) (hw0 _ m_1208) cb_X9_feedNumber ⟨Nat.le_of_ble_eq_true rfl, Nat.le_of_ble_eq_true rfl⟩), (hw0 _ m_1209), (hw0 _ m_1210)⟩ (ci := 9) (q := (RX9, TX9, 10)) rfl rfl rfl hl.1 (Nat.le_of_ble_eq_true rfl) dX9_feed_22 ⟨Nat.le_of_ble_eq_true rfl, Nat.le_of_ble_eq_true rfl⟩ (fun w_1008 H locs hw_1008 hP hD hS => ?_)
    obtain ⟨v_1009, f_1010, bv_1009, h_1011, rfl⟩ := hw_1008
    obtain ⟨hP, hD⟩ : vPD G A H [(ce_X9 ob ob_tape v_1009 ob_reader ob_state ob_images ob_slots ob_rounds ob_ways ob_otherDebts ob_otherKnows), (ce_b1400 y ob_tape f_1010)] := ⟨hP, hD⟩
    refine lv_aload_n hx hb dX9_feed_25 rfl (lv_at hl 0 rfl) ?_
    refine lv_iload_n hx hb dX9_feed_26 rfl (lv_at hl 3 rfl) ?_
    refine cVvm (As := [.int a3]) (rest := []) ⟨hx, hb, hml, hown, hw0⟩ hA hK hP hD hS [true, true] (ffeedNumber l G y _ ob a3 ob_tape v_1009 ob_reader ob_state ob_images ob_slots ob_rounds ob_ways ob_otherDebts ob_otherKnows f_1010 bv_1009 (by omega)) rfl ⟨(callB_of 1 hw0 (gA m_1211) rfl rfl rfl (hw0 _ m_36) (hw0 _ m_1208) cb_X9_feedNumber ⟨Nat.le_of_ble_eq_true rfl, Nat.le_of_ble_eq_true rfl⟩), (hw0 _ m_1209), (hw0 _ m_1210)⟩ (ci := 9) (q := (RX9, TX9, 10)) rfl rfl rfl hl.1 (Nat.le_of_ble_eq_true rfl) dX9_feed_27 ⟨Nat.le_of_ble_eq_true rfl, Nat.le_of_ble_eq_true rfl⟩ (fun w_1012 H locs hw_1012 hP hD hS => ?_)
    obtain ⟨v_1013, f_1014, bv_1013, h_1015, rfl⟩ := hw_1012
    obtain ⟨hP, hD⟩ : vPD G A H [(ce_X9 ob ob_tape v_1013 ob_reader ob_state ob_images ob_slots ob_rounds ob_ways ob_otherDebts ob_otherKnows), (ce_b1400 y ob_tape f_1014)] := ⟨hP, hD⟩
    refine lv_aload_n hx hb dX9_feed_30 rfl (lv_at hl 0 rfl) ?_
    refine lv_iload hx hb dX9_feed_31 (lv_at hl 4 rfl) ?_
    refine cVvm (As := [.int a4]) (rest := []) ⟨hx, hb, hml, hown, hw0⟩ hA hK hP hD hS [true, true] (ffeedNumber l G y _ ob a4 ob_tape v_1013 ob_reader ob_state ob_images ob_slots ob_rounds ob_ways ob_otherDebts ob_otherKnows f_1014 bv_1013 (by omega)) rfl ⟨(callB_of 1 hw0 (gA m_1211) rfl rfl rfl (hw0 _ m_36) (hw0 _ m_1208) cb_X9_feedNumber ⟨Nat.le_of_ble_eq_true rfl, Nat.le_of_ble_eq_true rfl⟩), (hw0 _ m_1209), (hw0 _ m_1210)⟩ (ci := 9) (q := (RX9, TX9, 10)) rfl rfl rfl hl.1 (Nat.le_of_ble_eq_true rfl) dX9_feed_33 ⟨Nat.le_of_ble_eq_true rfl, Nat.le_of_ble_eq_true rfl⟩ (fun w_1016 H locs hw_1016 hP hD hS => ?_)
    obtain ⟨v_1017, f_1018, bv_1017, h_1019, rfl⟩ := hw_1016
    obtain ⟨hP, hD⟩ : vPD G A H [(ce_X9 ob ob_tape v_1017 ob_reader ob_state ob_images ob_slots ob_rounds ob_ways ob_otherDebts ob_otherKnows), (ce_b1400 y ob_tape f_1018)] := ⟨hP, hD⟩
    refine lv_aload_n hx hb dX9_feed_36 rfl (lv_at hl 0 rfl) ?_
    refine lv_iload hx hb dX9_feed_37 (lv_at hl 5 rfl) ?_
    refine cVvm (As := [.int a5]) (rest := []) ⟨hx, hb, hml, hown, hw0⟩ hA hK hP hD hS [true, true] (ffeedNumber l G y _ ob a5 ob_tape v_1017 ob_reader ob_state ob_images ob_slots ob_rounds ob_ways ob_otherDebts ob_otherKnows f_1018 bv_1017 (by omega)) rfl ⟨(callB_of 1 hw0 (gA m_1211) rfl rfl rfl (hw0 _ m_36) (hw0 _ m_1208) cb_X9_feedNumber ⟨Nat.le_of_ble_eq_true rfl, Nat.le_of_ble_eq_true rfl⟩), (hw0 _ m_1209), (hw0 _ m_1210)⟩ (ci := 9) (q := (RX9, TX9, 10)) rfl rfl rfl hl.1 (Nat.le_of_ble_eq_true rfl) dX9_feed_39 ⟨Nat.le_of_ble_eq_true rfl, Nat.le_of_ble_eq_true rfl⟩ (fun w_1020 H locs hw_1020 hP hD hS => ?_)
    obtain ⟨v_1021, f_1022, bv_1021, h_1023, rfl⟩ := hw_1020
    obtain ⟨hP, hD⟩ : vPD G A H [(ce_X9 ob ob_tape v_1021 ob_reader ob_state ob_images ob_slots ob_rounds ob_ways ob_otherDebts ob_otherKnows), (ce_b1400 y ob_tape f_1022)] := ⟨hP, hD⟩
    refine lv_aload_n hx hb dX9_feed_42 rfl (lv_at hl 0 rfl) ?_
    refine va_get (D := G) (ci := 9) (v := .int v_1021) (C := RX9) (T := TX9) (N := 10) hx hb hw0 inA_wsX90 hown hK.1 hP 0 rfl rfl 1 (by decide) (hw0 _ m_1165) (fun _ h9 => h9) rfl dX9_feed_43 ?_
    exact W.iret (v := v_1021) hx hb hr (fun t ht hW => ⟨⟨v_1021, _, rfl, ⟨v_1021, v_1021, f_1022, (bw (-1) (1400) bv_1021 (by decide)), bv_1021, by omega, rfl, rfl⟩, by rw [ht]; exact hP, hD⟩, hS.F ht⟩) hS.2.2 dX9_feed_46
  · skip
    have nc_1002 := nb_nle (1400) (1401) c_1002 (bkc (x := 1400) (c := 1400) (by decide)) bv_1001 (by decide)
    have h_1024 : (1381 : Int) ≤ ob_tapeSize.toInt ∧ ob_tapeSize.toInt ≤ 1400 := bq_in1 qv_1001 nc_1002.2.1 p_ob_tapeSize (bkc (x := 20) (c := 20) (by decide)) (by decide)
    refine lv_iconst (v := (-1)) hx hb dX9_feed_13 (by decide) ?_
    exact W.iret (v := (-1)) hx hb hr (fun t ht hW => ⟨⟨(-1), _, rfl, ⟨(-1), ob_tapeSize, fob_tape, (bw (-1) (1400) (bkc (x := (-1)) (c := -1) (by decide)) (by decide)), (bw (0) (1400) h_1024 (by decide)), by have h90 : Int32.toInt (-1) = -1 := (by decide); omega, rfl, rfl⟩, by rw [ht]; exact hP, hD⟩, hS.F ht⟩) hS.2.2 dX9_feed_14

set_option maxHeartbeats 4000000 in
set_option maxRecDepth 100000 in
theorem fend (l : Launch) (G : va_G) (y : Nat → ClassId) (sz : Nat) (ob : Nat) (a1 : Int32) (ob_tape : Nat) (ob_tapeSize : Int32) (ob_reader : Nat) (ob_state : Nat) (ob_images : Nat) (ob_slots : Nat) (ob_rounds : Nat) (ob_ways : Nat) (ob_otherDebts : Nat) (ob_otherKnows : Nat) (p_ob_tapeSize : (0 : Int) ≤ ob_tapeSize.toInt ∧ ob_tapeSize.toInt ≤ 1400) : Met l yX9_end (Cond.code yX9_end cX9_end 2 (some .int) :: wAll) ({ frames := 0, cells := 0, slots := 0, locals := 0 }) (va_Pc [.ref ob, .int a1] (kp G y sz [(ce_X9 ob ob_tape ob_tapeSize ob_reader ob_state ob_images ob_slots ob_rounds ob_ways ob_otherDebts ob_otherKnows)])) (va_Qi (fun (r : Int32) (w : va_W) => (∃ (v_5 : Int32) (v_6 : Int32), ((-1 : Int) ≤ v_5.toInt ∧ v_5.toInt ≤ 1400) ∧ ((0 : Int) ≤ v_6.toInt ∧ v_6.toInt ≤ 1400) ∧ (((v_5 : Int32).toInt = -1 ∧ v_6.toInt = ob_tapeSize.toInt ∧ (a1.toInt < 0 ∨ ob_tapeSize.toInt < a1.toInt)) ∨ ((v_5 : Int32).toInt = a1.toInt ∧ v_6.toInt = a1.toInt ∧ 0 ≤ a1.toInt ∧ a1.toInt ≤ ob_tapeSize.toInt)) ∧ r = v_5 ∧ w = [(ce_X9 ob ob_tape v_6 ob_reader ob_state ob_images ob_slots ob_rounds ob_ways ob_otherDebts ob_otherKnows)])) (kq G (va_A [(ce_X9 ob ob_tape ob_tapeSize ob_reader ob_state ob_images ob_slots ob_rounds ob_ways ob_otherDebts ob_otherKnows)] sz)) (va_A [(ce_X9 ob ob_tape ob_tapeSize ob_reader ob_state ob_images ob_slots ob_rounds ob_ways ob_otherDebts ob_otherKnows)] sz)) 0 0 (va_A [(ce_X9 ob ob_tape ob_tapeSize ob_reader ob_state ob_images ob_slots ob_rounds ob_ways ob_otherDebts ob_otherKnows)] sz) := by
  refine Met.ofW (cc := cX9_end) (maxL := 2) (ret := (some .int)) (by decide) rfl ?_
  intro p e s m args below meth c s₁ B hml hv
  obtain ⟨rfl, hsz, hP, hK, hD0⟩ := hv
  have hx := B.exec
  have hb := B.bytes
  have hr := B.returns
  have hw0 : ∀ w ∈ wAll, w.before _ s = true := fun w h => atoms_spec (ws := Cond.code yX9_end cX9_end 2 (some .int) :: wAll) B.pre w (List.mem_cons_of_mem _ h)
  have hown : s.vm.findClass RX9 = some m.cls := findClass_of_methodNamed B.named
  subst hsz
  have hD := hD0.self (sz := s.heap.size)
  generalize hAe : va_A [(ce_X9 ob ob_tape ob_tapeSize ob_reader ob_state ob_images ob_slots ob_rounds ob_ways ob_otherDebts ob_otherKnows)] s.heap.size = A at hD ⊢
  have hA : ∀ q : Nat, s.heap.size ≤ q → A q := fun q h => by rw [← hAe]; exact Or.inr h
  have hS : va_S A s.heap s.heap [] := va_S.rf
  have hP : va_P G vwCl [(ce_X9 ob ob_tape ob_tapeSize ob_reader ob_state ob_images ob_slots ob_rounds ob_ways ob_otherDebts ob_otherKnows)] s.heap := hP
  have hl := lv_entry ([.ref ob, .int a1]) (n := 2) (Nat.le_of_ble_eq_true rfl)
  rw [lg_entry_eq]
  generalize (lg_sl ([.ref ob, .int a1]) ++ List.replicate (2 - (lg_sl ([.ref ob, .int a1])).length) Slot.unset).toArray = ls at hl ⊢
  have hl : lv_has ls 2 [(0, .ref ob), (1, .int a1)] := hl
  refine lv_iload_n hx hb dX9_end_0 rfl (lv_at hl 1 rfl) ?_
  refine lv_if_lt (tgt := 12) hx hb dX9_end_1 (by decide) (fun c_1001 => ?_) (fun c_1001 => ?_)
  · skip
    have nc_1001 := nb_lt (-1) (0) c_1001 (btop a1) (bkc (x := 0) (c := 0) (by decide)) (by decide)
    refine lv_iconst (v := (-1)) hx hb dX9_end_12 (by decide) ?_
    exact W.iret (v := (-1)) hx hb hr (fun t ht hW => ⟨⟨(-1), _, rfl, ⟨(-1), ob_tapeSize, (bw (-1) (1400) (bkc (x := (-1)) (c := -1) (by decide)) (by decide)), p_ob_tapeSize, by have h90 : Int32.toInt (-1) = -1 := (by decide); omega, rfl, rfl⟩, by rw [ht]; exact hP, hD⟩, hS.F ht⟩) hS.2.2 dX9_end_13
  · skip
    have nc_1001 := nb_nlt (0) (0) c_1001 (bkc (x := 0) (c := 0) (by decide)) (btop a1) (by decide)
    refine lv_iload_n hx hb dX9_end_4 rfl (lv_at hl 1 rfl) ?_
    refine lv_aload_n hx hb dX9_end_5 rfl (lv_at hl 0 rfl) ?_
    refine va_get (D := G) (ci := 9) (v := .int ob_tapeSize) (C := RX9) (T := TX9) (N := 10) hx hb hw0 inA_wsX90 hown hK.1 hP 0 rfl rfl 1 (by decide) (hw0 _ m_1165) (fun _ h9 => h9) rfl dX9_end_6 ?_
    refine lv_icmp_le (tgt := 14) hx hb dX9_end_9 (by decide) (fun c_1002 => ?_) (fun c_1002 => ?_)
    · skip
      have nc_1002 := nb_le (1400) (0) c_1002 nc_1001.2.1 p_ob_tapeSize (by decide)
      refine lv_aload_n hx hb dX9_end_14 rfl (lv_at hl 0 rfl) ?_
      refine lv_iload_n hx hb dX9_end_15 rfl (lv_at hl 1 rfl) ?_
      refine va_put (D := G) (ci := 9) (v := .int a1) (ty := .int) (C := RX9) (T := TX9) (N := 10) hx hb hw0 inA_wsX90 tyX9 tyX9_ok nmX9 hown hK.1 hP hD hS 0 rfl rfl 1 (by decide) (hw0 _ m_1165) (fun _ h9 => h9) rfl fd_X9_1 rfl rfl (Nat.le_of_ble_eq_true rfl) dX9_end_16 (fun H locs hP hD hS => ?_)
      obtain ⟨hP, hD⟩ : vPD G A H [(ce_X9 ob ob_tape a1 ob_reader ob_state ob_images ob_slots ob_rounds ob_ways ob_otherDebts ob_otherKnows)] := ⟨hP, hD⟩
      refine lv_iload_n hx hb dX9_end_19 rfl (lv_at hl 1 rfl) ?_
      exact W.iret (v := a1) hx hb hr (fun t ht hW => ⟨⟨a1, _, rfl, ⟨a1, a1, (bw (-1) (1400) nc_1002.1 (by decide)), nc_1002.1, by omega, rfl, rfl⟩, by rw [ht]; exact hP, hD⟩, hS.F ht⟩) hS.2.2 dX9_end_20
    · skip
      have nc_1002 := nb_nle (1400) (1) c_1002 p_ob_tapeSize nc_1001.2.1 (by decide)
      refine lv_iconst (v := (-1)) hx hb dX9_end_12 (by decide) ?_
      exact W.iret (v := (-1)) hx hb hr (fun t ht hW => ⟨⟨(-1), _, rfl, ⟨(-1), ob_tapeSize, (bw (-1) (1400) (bkc (x := (-1)) (c := -1) (by decide)) (by decide)), nc_1002.1, by have h90 : Int32.toInt (-1) = -1 := (by decide); omega, rfl, rfl⟩, by rw [ht]; exact hP, hD⟩, hS.F ht⟩) hS.2.2 dX9_end_13

set_option maxHeartbeats 4000000 in
set_option maxRecDepth 100000 in
theorem frow0 (l : Launch) (G : va_G) (y : Nat → ClassId) (sz : Nat) (ob : Nat) (a2 : Int32) (a3 : Int32) (ob_tape : Nat) (ob_tapeSize : Int32) (ob_reader : Nat) (ob_state : Nat) (ob_images : Nat) (ob_slots : Nat) (ob_rounds : Nat) (ob_ways : Nat) (ob_otherDebts : Nat) (ob_otherKnows : Nat) (ob_slots0 : Nat) (ob_slots1 : Nat) (ob_slots2 : Nat) (ob_slots3 : Nat) (ob_slots0_filled : Int32) (ob_slots0_width : Int32) (ob_slots0_size : Int32) (ob_slots0_numbers : Nat) (fob_slots0_numbers : Nat → Int64) (p_ob_tapeSize : (0 : Int) ≤ ob_tapeSize.toInt ∧ ob_tapeSize.toInt ≤ 1400) (p_ob_slots0_filled : (0 : Int) ≤ ob_slots0_filled.toInt ∧ ob_slots0_filled.toInt ≤ 1) (p_ob_slots0_size : (0 : Int) ≤ ob_slots0_size.toInt ∧ ob_slots0_size.toInt ≤ 60) : Met l yX9_row (Cond.code yX9_row cX9_row 4 (some .int) :: wAll) ({ frames := 2, cells := 0, slots := 0, locals := 46 }) (va_Pc [.ref ob, .int 0, .int a2, .int a3] (kp G y sz [(ce_X9 ob ob_tape ob_tapeSize ob_reader ob_state ob_images ob_slots ob_rounds ob_ways ob_otherDebts ob_otherKnows), (ce_q4 y ob_slots (va_up (va_up (va_up (va_up (fun _ => none) 0 (some ob_slots0)) 1 (some ob_slots1)) 2 (some ob_slots2)) 3 (some ob_slots3))), (ce_X5 ob_slots0 ob_slots0_filled ob_slots0_width ob_slots0_size ob_slots0_numbers), (ce_l60 y ob_slots0_numbers fob_slots0_numbers)])) (va_Qi (fun (r : Int32) (w : va_W) => ((a2.toInt < 0 ∨ 3 < a2.toInt ∨ 60 < a3.toInt) ∧ r = (-2) ∧ w = [(ce_X9 ob ob_tape ob_tapeSize ob_reader ob_state ob_images ob_slots ob_rounds ob_ways ob_otherDebts ob_otherKnows), (ce_q4 y ob_slots (va_up (va_up (va_up (va_up (fun _ => none) 0 (some ob_slots0)) 1 (some ob_slots1)) 2 (some ob_slots2)) 3 (some ob_slots3))), (ce_X5 ob_slots0 ob_slots0_filled ob_slots0_width ob_slots0_size ob_slots0_numbers), (ce_l60 y ob_slots0_numbers fob_slots0_numbers)]) ∨ (((0 : Int) ≤ a2.toInt ∧ a2.toInt ≤ 3) ∧ (0 ≤ a2.toInt ∧ a2.toInt ≤ 3 ∧ a3.toInt < 0) ∧ r = (-3) ∧ w = [(ce_X9 ob ob_tape ob_tapeSize ob_reader ob_state ob_images ob_slots ob_rounds ob_ways ob_otherDebts ob_otherKnows), (ce_q4 y ob_slots (va_up (va_up (va_up (va_up (fun _ => none) 0 (some ob_slots0)) 1 (some ob_slots1)) 2 (some ob_slots2)) 3 (some ob_slots3))), (ce_X5 ob_slots0 ob_slots0_filled ob_slots0_width ob_slots0_size ob_slots0_numbers), (ce_l60 y ob_slots0_numbers fob_slots0_numbers)]) ∨ (∃ (f_21 : Nat → Int64), ((0 : Int) ≤ a2.toInt ∧ a2.toInt ≤ 3) ∧ ((0 : Int) ≤ a3.toInt ∧ a3.toInt ≤ 60) ∧ (0 ≤ a2.toInt ∧ a2.toInt ≤ 3 ∧ 0 ≤ a3.toInt ∧ a3.toInt ≤ 60) ∧ r = 0 ∧ w = [(ce_X9 ob ob_tape ob_tapeSize ob_reader ob_state ob_images ob_slots ob_rounds ob_ways ob_otherDebts ob_otherKnows), (ce_q4 y ob_slots (va_up (va_up (va_up (va_up (fun _ => none) 0 (some ob_slots0)) 1 (some ob_slots1)) 2 (some ob_slots2)) 3 (some ob_slots3))), (ce_X5 ob_slots0 1 a2 a3 ob_slots0_numbers), (ce_l60 y ob_slots0_numbers f_21)])) (kq G (va_A [(ce_X9 ob ob_tape ob_tapeSize ob_reader ob_state ob_images ob_slots ob_rounds ob_ways ob_otherDebts ob_otherKnows), (ce_q4 y ob_slots (va_up (va_up (va_up (va_up (fun _ => none) 0 (some ob_slots0)) 1 (some ob_slots1)) 2 (some ob_slots2)) 3 (some ob_slots3))), (ce_X5 ob_slots0 ob_slots0_filled ob_slots0_width ob_slots0_size ob_slots0_numbers), (ce_l60 y ob_slots0_numbers fob_slots0_numbers)] sz)) (va_A [(ce_X9 ob ob_tape ob_tapeSize ob_reader ob_state ob_images ob_slots ob_rounds ob_ways ob_otherDebts ob_otherKnows), (ce_q4 y ob_slots (va_up (va_up (va_up (va_up (fun _ => none) 0 (some ob_slots0)) 1 (some ob_slots1)) 2 (some ob_slots2)) 3 (some ob_slots3))), (ce_X5 ob_slots0 ob_slots0_filled ob_slots0_width ob_slots0_size ob_slots0_numbers), (ce_l60 y ob_slots0_numbers fob_slots0_numbers)] sz)) 0 0 (va_A [(ce_X9 ob ob_tape ob_tapeSize ob_reader ob_state ob_images ob_slots ob_rounds ob_ways ob_otherDebts ob_otherKnows), (ce_q4 y ob_slots (va_up (va_up (va_up (va_up (fun _ => none) 0 (some ob_slots0)) 1 (some ob_slots1)) 2 (some ob_slots2)) 3 (some ob_slots3))), (ce_X5 ob_slots0 ob_slots0_filled ob_slots0_width ob_slots0_size ob_slots0_numbers), (ce_l60 y ob_slots0_numbers fob_slots0_numbers)] sz) := by
  refine Met.ofW (cc := cX9_row) (maxL := 4) (ret := (some .int)) (by decide) rfl ?_
  intro p e s m args below meth c s₁ B hml hv
  obtain ⟨rfl, hsz, hP, hK, hD0⟩ := hv
  have hx := B.exec
  have hb := B.bytes
  have hr := B.returns
  have hw0 : ∀ w ∈ wAll, w.before _ s = true := fun w h => atoms_spec (ws := Cond.code yX9_row cX9_row 4 (some .int) :: wAll) B.pre w (List.mem_cons_of_mem _ h)
  have hown : s.vm.findClass RX9 = some m.cls := findClass_of_methodNamed B.named
  subst hsz
  have hD := hD0.self (sz := s.heap.size)
  generalize hAe : va_A [(ce_X9 ob ob_tape ob_tapeSize ob_reader ob_state ob_images ob_slots ob_rounds ob_ways ob_otherDebts ob_otherKnows), (ce_q4 y ob_slots (va_up (va_up (va_up (va_up (fun _ => none) 0 (some ob_slots0)) 1 (some ob_slots1)) 2 (some ob_slots2)) 3 (some ob_slots3))), (ce_X5 ob_slots0 ob_slots0_filled ob_slots0_width ob_slots0_size ob_slots0_numbers), (ce_l60 y ob_slots0_numbers fob_slots0_numbers)] s.heap.size = A at hD ⊢
  have hA : ∀ q : Nat, s.heap.size ≤ q → A q := fun q h => by rw [← hAe]; exact Or.inr h
  have hS : va_S A s.heap s.heap [] := va_S.rf
  have hP : va_P G vwCl [(ce_X9 ob ob_tape ob_tapeSize ob_reader ob_state ob_images ob_slots ob_rounds ob_ways ob_otherDebts ob_otherKnows), (ce_q4 y ob_slots (va_up (va_up (va_up (va_up (fun _ => none) 0 (some ob_slots0)) 1 (some ob_slots1)) 2 (some ob_slots2)) 3 (some ob_slots3))), (ce_X5 ob_slots0 ob_slots0_filled ob_slots0_width ob_slots0_size ob_slots0_numbers), (ce_l60 y ob_slots0_numbers fob_slots0_numbers)] s.heap := hP
  have hl := lv_entry ([.ref ob, .int 0, .int a2, .int a3]) (n := 4) (Nat.le_of_ble_eq_true rfl)
  rw [lg_entry_eq]
  generalize (lg_sl ([.ref ob, .int 0, .int a2, .int a3]) ++ List.replicate (4 - (lg_sl ([.ref ob, .int 0, .int a2, .int a3])).length) Slot.unset).toArray = ls at hl ⊢
  have hl : lv_has ls 4 [(0, .ref ob), (1, .int 0), (2, .int a2), (3, .int a3)] := hl
  refine lv_iload_n hx hb dX9_row_0 rfl (lv_at hl 1 rfl) ?_
  refine cSim (As := [.int 0]) (rest := []) ⟨hx, hb, hml, hown, hw0⟩ hA hK hP hD hS [] (fisSlot l G y _ 0 ) rfl ⟨(callB_of 1 hw0 (gA m_1260) rfl rfl rfl (hw0 _ m_36) (hw0 _ m_1189) cb_X9_isSlot ⟨Nat.le_of_ble_eq_true rfl, Nat.le_of_ble_eq_true rfl⟩), (hw0 _ m_1190)⟩ rfl hl.1 (Nat.le_of_ble_eq_true rfl) dX9_row_1 ⟨Nat.le_of_ble_eq_true rfl, Nat.le_of_ble_eq_true rfl⟩ (fun r_1001 w_1001 H locs hw_1001 hP hD hS => ?_)
  rcases hw_1001 with ⟨h_1002, rfl, rfl⟩ | ⟨h_1003, h_1004, rfl, rfl⟩
  · skip
    exact False.elim (by have h9 : Int32.toInt 0 = 0 := (by decide); omega)
  · skip
    obtain ⟨hP, hD⟩ : vPD G A H [(ce_X9 ob ob_tape ob_tapeSize ob_reader ob_state ob_images ob_slots ob_rounds ob_ways ob_otherDebts ob_otherKnows), (ce_q4 y ob_slots (va_up (va_up (va_up (va_up (fun _ => none) 0 (some ob_slots0)) 1 (some ob_slots1)) 2 (some ob_slots2)) 3 (some ob_slots3))), (ce_X5 ob_slots0 ob_slots0_filled ob_slots0_width ob_slots0_size ob_slots0_numbers), (ce_l60 y ob_slots0_numbers fob_slots0_numbers)] := ⟨hP, hD⟩
    refine lv_if_eq (tgt := 22) hx hb dX9_row_4 (by decide) (fun c9 => absurd c9 (by decide)) (fun _ => ?_)
    refine lv_iload_n hx hb dX9_row_7 rfl (lv_at hl 2 rfl) ?_
    refine lv_if_lt (tgt := 22) hx hb dX9_row_8 (by decide) (fun c_1005 => ?_) (fun c_1005 => ?_)
    · skip
      have nc_1005 := nb_lt (-1) (0) c_1005 (btop a2) (bkc (x := 0) (c := 0) (by decide)) (by decide)
      refine lv_bipush (v := (-2)) hx hb dX9_row_22 (by decide) ?_
      exact W.iret (v := (-2)) hx hb hr (fun t ht hW => ⟨⟨(-2), _, rfl, Or.inl (⟨by have h90 : Int32.toInt (-2) = -2 := (by decide); have h91 : Int32.toInt 0 = 0 := (by decide); omega, rfl, rfl⟩), by rw [ht]; exact hP, hD⟩, hS.F ht⟩) hS.2.2 dX9_row_24
    · skip
      have nc_1005 := nb_nlt (0) (0) c_1005 (bkc (x := 0) (c := 0) (by decide)) (btop a2) (by decide)
      refine lv_iload_n hx hb dX9_row_11 rfl (lv_at hl 2 rfl) ?_
      refine lv_iconst (v := 4) hx hb dX9_row_12 (by decide) ?_
      refine lv_icmp_ge (tgt := 22) hx hb dX9_row_13 (by decide) (fun c_1006 => ?_) (fun c_1006 => ?_)
      · skip
        have nc_1006 := nb_le (4) (4) c_1006 (bkc (x := 4) (c := 4) (by decide)) nc_1005.2.1 (by decide)
        refine lv_bipush (v := (-2)) hx hb dX9_row_22 (by decide) ?_
        exact W.iret (v := (-2)) hx hb hr (fun t ht hW => ⟨⟨(-2), _, rfl, Or.inl (⟨by have h90 : Int32.toInt (-2) = -2 := (by decide); have h91 : Int32.toInt 0 = 0 := (by decide); omega, rfl, rfl⟩), by rw [ht]; exact hP, hD⟩, hS.F ht⟩) hS.2.2 dX9_row_24
      · skip
        have nc_1006 := nb_nle (3) (4) c_1006 nc_1005.2.1 (bkc (x := 4) (c := 4) (by decide)) (by decide)
        refine lv_iload_n hx hb dX9_row_16 rfl (lv_at hl 3 rfl) ?_
        refine lv_bipush (v := 60) hx hb dX9_row_17 (by decide) ?_
        refine lv_icmp_le (tgt := 25) hx hb dX9_row_19 (by decide) (fun c_1007 => ?_) (fun c_1007 => ?_)
        · skip
          have nc_1007 := nb_le (60) (60) c_1007 (btop a3) (bkc (x := 60) (c := 60) (by decide)) (by decide)
          refine lv_iload_n hx hb dX9_row_25 rfl (lv_at hl 3 rfl) ?_
          refine lv_if_ge (tgt := 32) hx hb dX9_row_26 (by decide) (fun c_1008 => ?_) (fun c_1008 => ?_)
          · skip
            have nc_1008 := nb_le (0) (0) c_1008 (bkc (x := 0) (c := 0) (by decide)) nc_1007.1 (by decide)
            refine lv_aload_n hx hb dX9_row_32 rfl (lv_at hl 0 rfl) ?_
            refine va_get (D := G) (ci := 9) (v := .ref ob_slots) (C := RX9) (T := TX9) (N := 10) hx hb hw0 inA_wsX90 hown hK.1 hP 0 rfl rfl 5 (by decide) (hw0 _ m_1191) (fun _ h9 => h9) rfl dX9_row_33 ?_
            refine lv_iload_n hx hb dX9_row_36 rfl (lv_at hl 1 rfl) ?_
            refine va_aldq hx hb hK.1 hP 1 4 rfl rfl (vi (bkc (x := 0) (c := 0) (by decide)) (by decide)) dX9_row_37 ?_
            refine W.eq (g2 := F0 m 38 ls [.ref ob_slots0]) rfl ?_
            refine lv_iload_n hx hb dX9_row_38 rfl (lv_at hl 2 rfl) ?_
            refine lv_iload_n hx hb dX9_row_39 rfl (lv_at hl 3 rfl) ?_
            refine cVvm (As := [.int a2, .int a3]) (rest := []) ⟨hx, hb, hml, hown, hw0⟩ hA hK hP hD hS [false, false, true, true] (sX5_lay l G y _ ob_slots0 a2 a3 ob_slots0_filled ob_slots0_width ob_slots0_size ob_slots0_numbers fob_slots0_numbers p_ob_slots0_filled p_ob_slots0_size nc_1008.2.1) rfl ⟨(callB_of 2 hw0 (gA m_946) rfl rfl rfl (hw0 _ m_858) (hw0 _ m_1316) cb_X5_lay ⟨Nat.le_of_ble_eq_true rfl, Nat.le_of_ble_eq_true rfl⟩), (hw0 _ m_1317), (hw0 _ m_1318)⟩ (ci := 5) (q := (RX5, TX5, 4)) rfl rfl rfl hl.1 (Nat.le_of_ble_eq_true rfl) dX9_row_40 ⟨Nat.le_of_ble_eq_true rfl, Nat.le_of_ble_eq_true rfl⟩ (fun w_1009 H locs hw_1009 hP hD hS => ?_)
            obtain ⟨f_1010, rfl⟩ := hw_1009
            obtain ⟨hP, hD⟩ : vPD G A H [(ce_X9 ob ob_tape ob_tapeSize ob_reader ob_state ob_images ob_slots ob_rounds ob_ways ob_otherDebts ob_otherKnows), (ce_q4 y ob_slots (va_up (va_up (va_up (va_up (fun _ => none) 0 (some ob_slots0)) 1 (some ob_slots1)) 2 (some ob_slots2)) 3 (some ob_slots3))), (ce_X5 ob_slots0 1 a2 a3 ob_slots0_numbers), (ce_l60 y ob_slots0_numbers f_1010)] := ⟨hP, hD⟩
            refine lv_iconst (v := 0) hx hb dX9_row_43 (by decide) ?_
            exact W.iret (v := 0) hx hb hr (fun t ht hW => ⟨⟨0, _, rfl, Or.inr (Or.inr (⟨f_1010, nc_1006.1, nc_1008.2.1, by have h90 : Int32.toInt 0 = 0 := (by decide); have h91 : Int32.toInt 1 = 1 := (by decide); omega, rfl, rfl⟩)), by rw [ht]; exact hP, hD⟩, hS.F ht⟩) hS.2.2 dX9_row_44
          · skip
            have nc_1008 := nb_nle (-1) (0) c_1008 nc_1007.1 (bkc (x := 0) (c := 0) (by decide)) (by decide)
            refine lv_bipush (v := (-3)) hx hb dX9_row_29 (by decide) ?_
            exact W.iret (v := (-3)) hx hb hr (fun t ht hW => ⟨⟨(-3), _, rfl, Or.inr (Or.inl (⟨nc_1006.1, by have h90 : Int32.toInt (-3) = -3 := (by decide); have h91 : Int32.toInt 0 = 0 := (by decide); omega, rfl, rfl⟩)), by rw [ht]; exact hP, hD⟩, hS.F ht⟩) hS.2.2 dX9_row_31
        · skip
          have nc_1007 := nb_nle (60) (61) c_1007 (bkc (x := 60) (c := 60) (by decide)) (btop a3) (by decide)
          refine lv_bipush (v := (-2)) hx hb dX9_row_22 (by decide) ?_
          exact W.iret (v := (-2)) hx hb hr (fun t ht hW => ⟨⟨(-2), _, rfl, Or.inl (⟨by have h90 : Int32.toInt (-2) = -2 := (by decide); have h91 : Int32.toInt 0 = 0 := (by decide); omega, rfl, rfl⟩), by rw [ht]; exact hP, hD⟩, hS.F ht⟩) hS.2.2 dX9_row_24

set_option maxHeartbeats 4000000 in
set_option maxRecDepth 100000 in
theorem fwrite0 (l : Launch) (G : va_G) (y : Nat → ClassId) (sz : Nat) (ob : Nat) (a2 : Int32) (a3 : Int64) (ob_tape : Nat) (ob_tapeSize : Int32) (ob_reader : Nat) (ob_state : Nat) (ob_images : Nat) (ob_slots : Nat) (ob_rounds : Nat) (ob_ways : Nat) (ob_otherDebts : Nat) (ob_otherKnows : Nat) (ob_slots0 : Nat) (ob_slots1 : Nat) (ob_slots2 : Nat) (ob_slots3 : Nat) (ob_slots0_filled : Int32) (ob_slots0_width : Int32) (ob_slots0_size : Int32) (ob_slots0_numbers : Nat) (fob_slots0_numbers : Nat → Int64) (p_ob_tapeSize : (0 : Int) ≤ ob_tapeSize.toInt ∧ ob_tapeSize.toInt ≤ 1400) (p_ob_slots0_filled : (0 : Int) ≤ ob_slots0_filled.toInt ∧ ob_slots0_filled.toInt ≤ 1) (p_ob_slots0_size : (0 : Int) ≤ ob_slots0_size.toInt ∧ ob_slots0_size.toInt ≤ 60) : Met l yX9_write (Cond.code yX9_write cX9_write 6 (some .int) :: wAll) ({ frames := 1, cells := 0, slots := 0, locals := 22 }) (va_Pc [.ref ob, .int 0, .int a2, .long a3] (kp G y sz [(ce_X9 ob ob_tape ob_tapeSize ob_reader ob_state ob_images ob_slots ob_rounds ob_ways ob_otherDebts ob_otherKnows), (ce_q4 y ob_slots (va_up (va_up (va_up (va_up (fun _ => none) 0 (some ob_slots0)) 1 (some ob_slots1)) 2 (some ob_slots2)) 3 (some ob_slots3))), (ce_X5 ob_slots0 ob_slots0_filled ob_slots0_width ob_slots0_size ob_slots0_numbers), (ce_l60 y ob_slots0_numbers fob_slots0_numbers)])) (va_Qi (fun (r : Int32) (w : va_W) => (((0 : Int) ≤ ob_slots0_filled.toInt ∧ ob_slots0_filled.toInt ≤ 0) ∧ (ob_slots0_filled.toInt = 0) ∧ r = (-6) ∧ w = [(ce_X9 ob ob_tape ob_tapeSize ob_reader ob_state ob_images ob_slots ob_rounds ob_ways ob_otherDebts ob_otherKnows), (ce_q4 y ob_slots (va_up (va_up (va_up (va_up (fun _ => none) 0 (some ob_slots0)) 1 (some ob_slots1)) 2 (some ob_slots2)) 3 (some ob_slots3))), (ce_X5 ob_slots0 ob_slots0_filled ob_slots0_width ob_slots0_size ob_slots0_numbers), (ce_l60 y ob_slots0_numbers fob_slots0_numbers)]) ∨ (((1 : Int) ≤ ob_slots0_filled.toInt ∧ ob_slots0_filled.toInt ≤ 1) ∧ (ob_slots0_filled.toInt = 1 ∧ (a2.toInt < 0 ∨ ob_slots0_size.toInt ≤ a2.toInt)) ∧ r = (-7) ∧ w = [(ce_X9 ob ob_tape ob_tapeSize ob_reader ob_state ob_images ob_slots ob_rounds ob_ways ob_otherDebts ob_otherKnows), (ce_q4 y ob_slots (va_up (va_up (va_up (va_up (fun _ => none) 0 (some ob_slots0)) 1 (some ob_slots1)) 2 (some ob_slots2)) 3 (some ob_slots3))), (ce_X5 ob_slots0 ob_slots0_filled ob_slots0_width ob_slots0_size ob_slots0_numbers), (ce_l60 y ob_slots0_numbers fob_slots0_numbers)]) ∨ (∃ (v_25 : Int32) (f_26 : Nat → Int64), ((0 : Int) ≤ a2.toInt ∧ a2.toInt ≤ 59) ∧ ((1 : Int) ≤ ob_slots0_filled.toInt ∧ ob_slots0_filled.toInt ≤ 1) ∧ ((1 : Int) ≤ ob_slots0_size.toInt ∧ ob_slots0_size.toInt ≤ 60) ∧ (ob_slots0_filled.toInt = 1 ∧ 0 ≤ a2.toInt ∧ a2.toInt < ob_slots0_size.toInt) ∧ (v_25.toInt = ob_slots0_width.toInt) ∧ r = 0 ∧ w = [(ce_X9 ob ob_tape ob_tapeSize ob_reader ob_state ob_images ob_slots ob_rounds ob_ways ob_otherDebts ob_otherKnows), (ce_q4 y ob_slots (va_up (va_up (va_up (va_up (fun _ => none) 0 (some ob_slots0)) 1 (some ob_slots1)) 2 (some ob_slots2)) 3 (some ob_slots3))), (ce_X5 ob_slots0 ob_slots0_filled v_25 ob_slots0_size ob_slots0_numbers), (ce_l60 y ob_slots0_numbers f_26)])) (kq G (va_A [(ce_X9 ob ob_tape ob_tapeSize ob_reader ob_state ob_images ob_slots ob_rounds ob_ways ob_otherDebts ob_otherKnows), (ce_q4 y ob_slots (va_up (va_up (va_up (va_up (fun _ => none) 0 (some ob_slots0)) 1 (some ob_slots1)) 2 (some ob_slots2)) 3 (some ob_slots3))), (ce_X5 ob_slots0 ob_slots0_filled ob_slots0_width ob_slots0_size ob_slots0_numbers), (ce_l60 y ob_slots0_numbers fob_slots0_numbers)] sz)) (va_A [(ce_X9 ob ob_tape ob_tapeSize ob_reader ob_state ob_images ob_slots ob_rounds ob_ways ob_otherDebts ob_otherKnows), (ce_q4 y ob_slots (va_up (va_up (va_up (va_up (fun _ => none) 0 (some ob_slots0)) 1 (some ob_slots1)) 2 (some ob_slots2)) 3 (some ob_slots3))), (ce_X5 ob_slots0 ob_slots0_filled ob_slots0_width ob_slots0_size ob_slots0_numbers), (ce_l60 y ob_slots0_numbers fob_slots0_numbers)] sz)) 0 0 (va_A [(ce_X9 ob ob_tape ob_tapeSize ob_reader ob_state ob_images ob_slots ob_rounds ob_ways ob_otherDebts ob_otherKnows), (ce_q4 y ob_slots (va_up (va_up (va_up (va_up (fun _ => none) 0 (some ob_slots0)) 1 (some ob_slots1)) 2 (some ob_slots2)) 3 (some ob_slots3))), (ce_X5 ob_slots0 ob_slots0_filled ob_slots0_width ob_slots0_size ob_slots0_numbers), (ce_l60 y ob_slots0_numbers fob_slots0_numbers)] sz) := by
  refine Met.ofW (cc := cX9_write) (maxL := 6) (ret := (some .int)) (by decide) rfl ?_
  intro p e s m args below meth c s₁ B hml hv
  obtain ⟨rfl, hsz, hP, hK, hD0⟩ := hv
  have hx := B.exec
  have hb := B.bytes
  have hr := B.returns
  have hw0 : ∀ w ∈ wAll, w.before _ s = true := fun w h => atoms_spec (ws := Cond.code yX9_write cX9_write 6 (some .int) :: wAll) B.pre w (List.mem_cons_of_mem _ h)
  have hown : s.vm.findClass RX9 = some m.cls := findClass_of_methodNamed B.named
  subst hsz
  have hD := hD0.self (sz := s.heap.size)
  generalize hAe : va_A [(ce_X9 ob ob_tape ob_tapeSize ob_reader ob_state ob_images ob_slots ob_rounds ob_ways ob_otherDebts ob_otherKnows), (ce_q4 y ob_slots (va_up (va_up (va_up (va_up (fun _ => none) 0 (some ob_slots0)) 1 (some ob_slots1)) 2 (some ob_slots2)) 3 (some ob_slots3))), (ce_X5 ob_slots0 ob_slots0_filled ob_slots0_width ob_slots0_size ob_slots0_numbers), (ce_l60 y ob_slots0_numbers fob_slots0_numbers)] s.heap.size = A at hD ⊢
  have hA : ∀ q : Nat, s.heap.size ≤ q → A q := fun q h => by rw [← hAe]; exact Or.inr h
  have hS : va_S A s.heap s.heap [] := va_S.rf
  have hP : va_P G vwCl [(ce_X9 ob ob_tape ob_tapeSize ob_reader ob_state ob_images ob_slots ob_rounds ob_ways ob_otherDebts ob_otherKnows), (ce_q4 y ob_slots (va_up (va_up (va_up (va_up (fun _ => none) 0 (some ob_slots0)) 1 (some ob_slots1)) 2 (some ob_slots2)) 3 (some ob_slots3))), (ce_X5 ob_slots0 ob_slots0_filled ob_slots0_width ob_slots0_size ob_slots0_numbers), (ce_l60 y ob_slots0_numbers fob_slots0_numbers)] s.heap := hP
  have hl := lv_entry ([.ref ob, .int 0, .int a2, .long a3]) (n := 6) (Nat.le_of_ble_eq_true rfl)
  rw [lg_entry_eq]
  generalize (lg_sl ([.ref ob, .int 0, .int a2, .long a3]) ++ List.replicate (6 - (lg_sl ([.ref ob, .int 0, .int a2, .long a3])).length) Slot.unset).toArray = ls at hl ⊢
  have hl : lv_has ls 6 [(0, .ref ob), (1, .int 0), (2, .int a2), (3, .long a3)] := hl
  refine lv_iload_n hx hb dX9_write_0 rfl (lv_at hl 1 rfl) ?_
  refine cSim (As := [.int 0]) (rest := []) ⟨hx, hb, hml, hown, hw0⟩ hA hK hP hD hS [] (fisSlot l G y _ 0 ) rfl ⟨(callB_of 1 hw0 (gA m_1260) rfl rfl rfl (hw0 _ m_36) (hw0 _ m_1189) cb_X9_isSlot ⟨Nat.le_of_ble_eq_true rfl, Nat.le_of_ble_eq_true rfl⟩), (hw0 _ m_1190)⟩ rfl hl.1 (Nat.le_of_ble_eq_true rfl) dX9_write_1 ⟨Nat.le_of_ble_eq_true rfl, Nat.le_of_ble_eq_true rfl⟩ (fun r_1001 w_1001 H locs hw_1001 hP hD hS => ?_)
  rcases hw_1001 with ⟨h_1002, rfl, rfl⟩ | ⟨h_1003, h_1004, rfl, rfl⟩
  · skip
    exact False.elim (by have h9 : Int32.toInt 0 = 0 := (by decide); omega)
  · skip
    obtain ⟨hP, hD⟩ : vPD G A H [(ce_X9 ob ob_tape ob_tapeSize ob_reader ob_state ob_images ob_slots ob_rounds ob_ways ob_otherDebts ob_otherKnows), (ce_q4 y ob_slots (va_up (va_up (va_up (va_up (fun _ => none) 0 (some ob_slots0)) 1 (some ob_slots1)) 2 (some ob_slots2)) 3 (some ob_slots3))), (ce_X5 ob_slots0 ob_slots0_filled ob_slots0_width ob_slots0_size ob_slots0_numbers), (ce_l60 y ob_slots0_numbers fob_slots0_numbers)] := ⟨hP, hD⟩
    refine lv_if_ne (tgt := 10) hx hb dX9_write_4 (by decide) (fun _ => ?_) (fun c9 => absurd c9 (by decide))
    refine lv_aload_n hx hb dX9_write_10 rfl (lv_at hl 0 rfl) ?_
    refine va_get (D := G) (ci := 9) (v := .ref ob_slots) (C := RX9) (T := TX9) (N := 10) hx hb hw0 inA_wsX90 hown hK.1 hP 0 rfl rfl 5 (by decide) (hw0 _ m_1191) (fun _ h9 => h9) rfl dX9_write_11 ?_
    refine lv_iload_n hx hb dX9_write_14 rfl (lv_at hl 1 rfl) ?_
    refine va_aldq hx hb hK.1 hP 1 4 rfl rfl (vi (bkc (x := 0) (c := 0) (by decide)) (by decide)) dX9_write_15 ?_
    refine W.eq (g2 := F0 m 16 ls [.ref ob_slots0]) rfl ?_
    refine lv_astore (lv' := [(5, .ref ob_slots0), (0, .ref ob), (1, .int 0), (2, .int a2), (3, .long a3)]) hx hb dX9_write_16 hl (by decide) rfl (fun ls hl => ?_)
    refine lv_aload hx hb dX9_write_18 (lv_at hl 0 rfl) ?_
    refine va_get (D := G) (ci := 5) (v := .int ob_slots0_filled) (C := RX5) (T := TX5) (N := 4) hx hb hw0 inA_wsX50 hown hK.1 hP 2 rfl rfl 0 (by decide) (hw0 _ m_1192) (fun _ h9 => h9) rfl dX9_write_20 ?_
    refine lv_if_ne (tgt := 29) hx hb dX9_write_23 (by decide) (fun c_1005 => ?_) (fun c_1005 => ?_)
    · skip
      have nc_1005 := nb_ne (1) (1) c_1005 p_ob_slots0_filled (k := 0) (by decide) (by decide)
      refine lv_iload_n hx hb dX9_write_29 rfl (lv_at hl 3 rfl) ?_
      refine lv_if_lt (tgt := 42) hx hb dX9_write_30 (by decide) (fun c_1006 => ?_) (fun c_1006 => ?_)
      · skip
        have nc_1006 := nb_lt (-1) (0) c_1006 (btop a2) (bkc (x := 0) (c := 0) (by decide)) (by decide)
        refine lv_bipush (v := (-7)) hx hb dX9_write_42 (by decide) ?_
        exact W.iret (v := (-7)) hx hb hr (fun t ht hW => ⟨⟨(-7), _, rfl, Or.inr (Or.inl (⟨nc_1005.1, by have h90 : Int32.toInt (-7) = -7 := (by decide); have h91 : Int32.toInt 0 = 0 := (by decide); omega, rfl, rfl⟩)), by rw [ht]; exact hP, hD⟩, hS.F ht⟩) hS.2.2 dX9_write_44
      · skip
        have nc_1006 := nb_nlt (0) (0) c_1006 (bkc (x := 0) (c := 0) (by decide)) (btop a2) (by decide)
        refine lv_iload_n hx hb dX9_write_33 rfl (lv_at hl 3 rfl) ?_
        refine lv_aload hx hb dX9_write_34 (lv_at hl 0 rfl) ?_
        refine va_get (D := G) (ci := 5) (v := .int ob_slots0_size) (C := RX5) (T := TX5) (N := 4) hx hb hw0 inA_wsX50 hown hK.1 hP 2 rfl rfl 2 (by decide) (hw0 _ m_1193) (fun _ h9 => h9) rfl dX9_write_36 ?_
        refine lv_icmp_lt (tgt := 45) hx hb dX9_write_39 (by decide) (fun c_1007 => ?_) (fun c_1007 => ?_)
        · skip
          have nc_1007 := nb_lt (59) (1) c_1007 nc_1006.2.1 p_ob_slots0_size (by decide)
          refine lv_aload hx hb dX9_write_45 (lv_at hl 0 rfl) ?_
          refine va_get (D := G) (ci := 5) (v := .ref ob_slots0_numbers) (C := RX5) (T := TX5) (N := 4) hx hb hw0 inA_wsX50 hown hK.1 hP 2 rfl rfl 3 (by decide) (hw0 _ m_1293) (fun _ h9 => h9) rfl dX9_write_47 ?_
          refine lv_iload_n hx hb dX9_write_50 rfl (lv_at hl 3 rfl) ?_
          refine lv_aload hx hb dX9_write_51 (lv_at hl 0 rfl) ?_
          refine lv_lload_n hx hb dX9_write_53 rfl (lv_at hl 4 rfl) ?_
          refine cVlm (As := [.long a3]) (rest := [.int a2, .ref ob_slots0_numbers]) ⟨hx, hb, hml, hown, hw0⟩ hA hK hP hD hS [false, false, true] (sX5_cut l G y _ ob_slots0 a3 ob_slots0_filled ob_slots0_width ob_slots0_size ob_slots0_numbers (bw (0) (1) nc_1005.1 (by decide)) (bw (0) (60) nc_1007.2.1 (by decide))) rfl ⟨(callB_of 1 hw0 (gA m_939) rfl rfl rfl (hw0 _ m_858) (hw0 _ m_1335) cb_X5_cut ⟨Nat.le_of_ble_eq_true rfl, Nat.le_of_ble_eq_true rfl⟩), (hw0 _ m_1336), (hw0 _ m_1337)⟩ (ci := 5) (q := (RX5, TX5, 4)) rfl rfl rfl hl.1 (Nat.le_of_ble_eq_true rfl) dX9_write_54 ⟨Nat.le_of_ble_eq_true rfl, Nat.le_of_ble_eq_true rfl⟩ (fun r_1008 w_1008 H locs hw_1008 hP hD hS => ?_)
          obtain ⟨v_1009, v_1010, h_1011, er_1008, rfl⟩ := hw_1008
          subst r_1008
          obtain ⟨hP, hD⟩ : vPD G A H [(ce_X9 ob ob_tape ob_tapeSize ob_reader ob_state ob_images ob_slots ob_rounds ob_ways ob_otherDebts ob_otherKnows), (ce_q4 y ob_slots (va_up (va_up (va_up (va_up (fun _ => none) 0 (some ob_slots0)) 1 (some ob_slots1)) 2 (some ob_slots2)) 3 (some ob_slots3))), (ce_X5 ob_slots0 ob_slots0_filled v_1010 ob_slots0_size ob_slots0_numbers), (ce_l60 y ob_slots0_numbers fob_slots0_numbers)] := ⟨hP, hD⟩
          refine va_last hx hb hK.1 hP hD hS 3 2 rfl rfl (vi nc_1007.1 (by decide)) dX9_write_57 (fun H locs hP hD hS => ?_)
          generalize hf_1012 : (vp_updL fob_slots0_numbers (a2 : Int32).toNatClampNeg v_1009) = f_1012 at hP hD
          obtain ⟨hP, hD⟩ : vPD G A H [(ce_X9 ob ob_tape ob_tapeSize ob_reader ob_state ob_images ob_slots ob_rounds ob_ways ob_otherDebts ob_otherKnows), (ce_q4 y ob_slots (va_up (va_up (va_up (va_up (fun _ => none) 0 (some ob_slots0)) 1 (some ob_slots1)) 2 (some ob_slots2)) 3 (some ob_slots3))), (ce_X5 ob_slots0 ob_slots0_filled v_1010 ob_slots0_size ob_slots0_numbers), (ce_l60 y ob_slots0_numbers f_1012)] := ⟨hP, hD⟩
          refine lv_iconst (v := 0) hx hb dX9_write_58 (by decide) ?_
          exact W.iret (v := 0) hx hb hr (fun t ht hW => ⟨⟨0, _, rfl, Or.inr (Or.inr (⟨v_1010, f_1012, nc_1007.1, nc_1005.1, nc_1007.2.1, by have h90 : Int32.toInt 0 = 0 := (by decide); omega, by have h90 : Int32.toInt 0 = 0 := (by decide); omega, rfl, rfl⟩)), by rw [ht]; exact hP, hD⟩, hS.F ht⟩) hS.2.2 dX9_write_59
        · skip
          have nc_1007 := nb_nlt (60) (0) c_1007 p_ob_slots0_size nc_1006.2.1 (by decide)
          refine lv_bipush (v := (-7)) hx hb dX9_write_42 (by decide) ?_
          exact W.iret (v := (-7)) hx hb hr (fun t ht hW => ⟨⟨(-7), _, rfl, Or.inr (Or.inl (⟨nc_1005.1, by have h90 : Int32.toInt (-7) = -7 := (by decide); have h91 : Int32.toInt 0 = 0 := (by decide); omega, rfl, rfl⟩)), by rw [ht]; exact hP, hD⟩, hS.F ht⟩) hS.2.2 dX9_write_44
    · skip
      have nc_1005 := nb_eq (0) (0) c_1005 p_ob_slots0_filled (bkc (x := 0) (c := 0) (by decide)) (by decide)
      refine lv_bipush (v := (-6)) hx hb dX9_write_26 (by decide) ?_
      exact W.iret (v := (-6)) hx hb hr (fun t ht hW => ⟨⟨(-6), _, rfl, Or.inl (⟨nc_1005.1, by have h90 : Int32.toInt (-6) = -6 := (by decide); have h91 : Int32.toInt 0 = 0 := (by decide); omega, rfl, rfl⟩), by rw [ht]; exact hP, hD⟩, hS.F ht⟩) hS.2.2 dX9_write_28

set_option maxHeartbeats 4000000 in
set_option maxRecDepth 100000 in
theorem frow1 (l : Launch) (G : va_G) (y : Nat → ClassId) (sz : Nat) (ob : Nat) (a2 : Int32) (a3 : Int32) (ob_tape : Nat) (ob_tapeSize : Int32) (ob_reader : Nat) (ob_state : Nat) (ob_images : Nat) (ob_slots : Nat) (ob_rounds : Nat) (ob_ways : Nat) (ob_otherDebts : Nat) (ob_otherKnows : Nat) (ob_slots0 : Nat) (ob_slots1 : Nat) (ob_slots2 : Nat) (ob_slots3 : Nat) (ob_slots1_filled : Int32) (ob_slots1_width : Int32) (ob_slots1_size : Int32) (ob_slots1_numbers : Nat) (fob_slots1_numbers : Nat → Int64) (p_ob_tapeSize : (0 : Int) ≤ ob_tapeSize.toInt ∧ ob_tapeSize.toInt ≤ 1400) (p_ob_slots1_filled : (0 : Int) ≤ ob_slots1_filled.toInt ∧ ob_slots1_filled.toInt ≤ 1) (p_ob_slots1_size : (0 : Int) ≤ ob_slots1_size.toInt ∧ ob_slots1_size.toInt ≤ 60) : Met l yX9_row (Cond.code yX9_row cX9_row 4 (some .int) :: wAll) ({ frames := 2, cells := 0, slots := 0, locals := 46 }) (va_Pc [.ref ob, .int 1, .int a2, .int a3] (kp G y sz [(ce_X9 ob ob_tape ob_tapeSize ob_reader ob_state ob_images ob_slots ob_rounds ob_ways ob_otherDebts ob_otherKnows), (ce_q4 y ob_slots (va_up (va_up (va_up (va_up (fun _ => none) 0 (some ob_slots0)) 1 (some ob_slots1)) 2 (some ob_slots2)) 3 (some ob_slots3))), (ce_X5 ob_slots1 ob_slots1_filled ob_slots1_width ob_slots1_size ob_slots1_numbers), (ce_l60 y ob_slots1_numbers fob_slots1_numbers)])) (va_Qi (fun (r : Int32) (w : va_W) => ((a2.toInt < 0 ∨ 3 < a2.toInt ∨ 60 < a3.toInt) ∧ r = (-2) ∧ w = [(ce_X9 ob ob_tape ob_tapeSize ob_reader ob_state ob_images ob_slots ob_rounds ob_ways ob_otherDebts ob_otherKnows), (ce_q4 y ob_slots (va_up (va_up (va_up (va_up (fun _ => none) 0 (some ob_slots0)) 1 (some ob_slots1)) 2 (some ob_slots2)) 3 (some ob_slots3))), (ce_X5 ob_slots1 ob_slots1_filled ob_slots1_width ob_slots1_size ob_slots1_numbers), (ce_l60 y ob_slots1_numbers fob_slots1_numbers)]) ∨ (((0 : Int) ≤ a2.toInt ∧ a2.toInt ≤ 3) ∧ (0 ≤ a2.toInt ∧ a2.toInt ≤ 3 ∧ a3.toInt < 0) ∧ r = (-3) ∧ w = [(ce_X9 ob ob_tape ob_tapeSize ob_reader ob_state ob_images ob_slots ob_rounds ob_ways ob_otherDebts ob_otherKnows), (ce_q4 y ob_slots (va_up (va_up (va_up (va_up (fun _ => none) 0 (some ob_slots0)) 1 (some ob_slots1)) 2 (some ob_slots2)) 3 (some ob_slots3))), (ce_X5 ob_slots1 ob_slots1_filled ob_slots1_width ob_slots1_size ob_slots1_numbers), (ce_l60 y ob_slots1_numbers fob_slots1_numbers)]) ∨ (∃ (f_21 : Nat → Int64), ((0 : Int) ≤ a2.toInt ∧ a2.toInt ≤ 3) ∧ ((0 : Int) ≤ a3.toInt ∧ a3.toInt ≤ 60) ∧ (0 ≤ a2.toInt ∧ a2.toInt ≤ 3 ∧ 0 ≤ a3.toInt ∧ a3.toInt ≤ 60) ∧ r = 0 ∧ w = [(ce_X9 ob ob_tape ob_tapeSize ob_reader ob_state ob_images ob_slots ob_rounds ob_ways ob_otherDebts ob_otherKnows), (ce_q4 y ob_slots (va_up (va_up (va_up (va_up (fun _ => none) 0 (some ob_slots0)) 1 (some ob_slots1)) 2 (some ob_slots2)) 3 (some ob_slots3))), (ce_X5 ob_slots1 1 a2 a3 ob_slots1_numbers), (ce_l60 y ob_slots1_numbers f_21)])) (kq G (va_A [(ce_X9 ob ob_tape ob_tapeSize ob_reader ob_state ob_images ob_slots ob_rounds ob_ways ob_otherDebts ob_otherKnows), (ce_q4 y ob_slots (va_up (va_up (va_up (va_up (fun _ => none) 0 (some ob_slots0)) 1 (some ob_slots1)) 2 (some ob_slots2)) 3 (some ob_slots3))), (ce_X5 ob_slots1 ob_slots1_filled ob_slots1_width ob_slots1_size ob_slots1_numbers), (ce_l60 y ob_slots1_numbers fob_slots1_numbers)] sz)) (va_A [(ce_X9 ob ob_tape ob_tapeSize ob_reader ob_state ob_images ob_slots ob_rounds ob_ways ob_otherDebts ob_otherKnows), (ce_q4 y ob_slots (va_up (va_up (va_up (va_up (fun _ => none) 0 (some ob_slots0)) 1 (some ob_slots1)) 2 (some ob_slots2)) 3 (some ob_slots3))), (ce_X5 ob_slots1 ob_slots1_filled ob_slots1_width ob_slots1_size ob_slots1_numbers), (ce_l60 y ob_slots1_numbers fob_slots1_numbers)] sz)) 0 0 (va_A [(ce_X9 ob ob_tape ob_tapeSize ob_reader ob_state ob_images ob_slots ob_rounds ob_ways ob_otherDebts ob_otherKnows), (ce_q4 y ob_slots (va_up (va_up (va_up (va_up (fun _ => none) 0 (some ob_slots0)) 1 (some ob_slots1)) 2 (some ob_slots2)) 3 (some ob_slots3))), (ce_X5 ob_slots1 ob_slots1_filled ob_slots1_width ob_slots1_size ob_slots1_numbers), (ce_l60 y ob_slots1_numbers fob_slots1_numbers)] sz) := by
  refine Met.ofW (cc := cX9_row) (maxL := 4) (ret := (some .int)) (by decide) rfl ?_
  intro p e s m args below meth c s₁ B hml hv
  obtain ⟨rfl, hsz, hP, hK, hD0⟩ := hv
  have hx := B.exec
  have hb := B.bytes
  have hr := B.returns
  have hw0 : ∀ w ∈ wAll, w.before _ s = true := fun w h => atoms_spec (ws := Cond.code yX9_row cX9_row 4 (some .int) :: wAll) B.pre w (List.mem_cons_of_mem _ h)
  have hown : s.vm.findClass RX9 = some m.cls := findClass_of_methodNamed B.named
  subst hsz
  have hD := hD0.self (sz := s.heap.size)
  generalize hAe : va_A [(ce_X9 ob ob_tape ob_tapeSize ob_reader ob_state ob_images ob_slots ob_rounds ob_ways ob_otherDebts ob_otherKnows), (ce_q4 y ob_slots (va_up (va_up (va_up (va_up (fun _ => none) 0 (some ob_slots0)) 1 (some ob_slots1)) 2 (some ob_slots2)) 3 (some ob_slots3))), (ce_X5 ob_slots1 ob_slots1_filled ob_slots1_width ob_slots1_size ob_slots1_numbers), (ce_l60 y ob_slots1_numbers fob_slots1_numbers)] s.heap.size = A at hD ⊢
  have hA : ∀ q : Nat, s.heap.size ≤ q → A q := fun q h => by rw [← hAe]; exact Or.inr h
  have hS : va_S A s.heap s.heap [] := va_S.rf
  have hP : va_P G vwCl [(ce_X9 ob ob_tape ob_tapeSize ob_reader ob_state ob_images ob_slots ob_rounds ob_ways ob_otherDebts ob_otherKnows), (ce_q4 y ob_slots (va_up (va_up (va_up (va_up (fun _ => none) 0 (some ob_slots0)) 1 (some ob_slots1)) 2 (some ob_slots2)) 3 (some ob_slots3))), (ce_X5 ob_slots1 ob_slots1_filled ob_slots1_width ob_slots1_size ob_slots1_numbers), (ce_l60 y ob_slots1_numbers fob_slots1_numbers)] s.heap := hP
  have hl := lv_entry ([.ref ob, .int 1, .int a2, .int a3]) (n := 4) (Nat.le_of_ble_eq_true rfl)
  rw [lg_entry_eq]
  generalize (lg_sl ([.ref ob, .int 1, .int a2, .int a3]) ++ List.replicate (4 - (lg_sl ([.ref ob, .int 1, .int a2, .int a3])).length) Slot.unset).toArray = ls at hl ⊢
  have hl : lv_has ls 4 [(0, .ref ob), (1, .int 1), (2, .int a2), (3, .int a3)] := hl
  refine lv_iload_n hx hb dX9_row_0 rfl (lv_at hl 1 rfl) ?_
  refine cSim (As := [.int 1]) (rest := []) ⟨hx, hb, hml, hown, hw0⟩ hA hK hP hD hS [] (fisSlot l G y _ 1 ) rfl ⟨(callB_of 1 hw0 (gA m_1260) rfl rfl rfl (hw0 _ m_36) (hw0 _ m_1189) cb_X9_isSlot ⟨Nat.le_of_ble_eq_true rfl, Nat.le_of_ble_eq_true rfl⟩), (hw0 _ m_1190)⟩ rfl hl.1 (Nat.le_of_ble_eq_true rfl) dX9_row_1 ⟨Nat.le_of_ble_eq_true rfl, Nat.le_of_ble_eq_true rfl⟩ (fun r_1001 w_1001 H locs hw_1001 hP hD hS => ?_)
  rcases hw_1001 with ⟨h_1002, rfl, rfl⟩ | ⟨h_1003, h_1004, rfl, rfl⟩
  · skip
    exact False.elim (by have h9 : Int32.toInt 1 = 1 := (by decide); omega)
  · skip
    obtain ⟨hP, hD⟩ : vPD G A H [(ce_X9 ob ob_tape ob_tapeSize ob_reader ob_state ob_images ob_slots ob_rounds ob_ways ob_otherDebts ob_otherKnows), (ce_q4 y ob_slots (va_up (va_up (va_up (va_up (fun _ => none) 0 (some ob_slots0)) 1 (some ob_slots1)) 2 (some ob_slots2)) 3 (some ob_slots3))), (ce_X5 ob_slots1 ob_slots1_filled ob_slots1_width ob_slots1_size ob_slots1_numbers), (ce_l60 y ob_slots1_numbers fob_slots1_numbers)] := ⟨hP, hD⟩
    refine lv_if_eq (tgt := 22) hx hb dX9_row_4 (by decide) (fun c9 => absurd c9 (by decide)) (fun _ => ?_)
    refine lv_iload_n hx hb dX9_row_7 rfl (lv_at hl 2 rfl) ?_
    refine lv_if_lt (tgt := 22) hx hb dX9_row_8 (by decide) (fun c_1005 => ?_) (fun c_1005 => ?_)
    · skip
      have nc_1005 := nb_lt (-1) (0) c_1005 (btop a2) (bkc (x := 0) (c := 0) (by decide)) (by decide)
      refine lv_bipush (v := (-2)) hx hb dX9_row_22 (by decide) ?_
      exact W.iret (v := (-2)) hx hb hr (fun t ht hW => ⟨⟨(-2), _, rfl, Or.inl (⟨by have h90 : Int32.toInt (-2) = -2 := (by decide); have h91 : Int32.toInt 1 = 1 := (by decide); omega, rfl, rfl⟩), by rw [ht]; exact hP, hD⟩, hS.F ht⟩) hS.2.2 dX9_row_24
    · skip
      have nc_1005 := nb_nlt (0) (0) c_1005 (bkc (x := 0) (c := 0) (by decide)) (btop a2) (by decide)
      refine lv_iload_n hx hb dX9_row_11 rfl (lv_at hl 2 rfl) ?_
      refine lv_iconst (v := 4) hx hb dX9_row_12 (by decide) ?_
      refine lv_icmp_ge (tgt := 22) hx hb dX9_row_13 (by decide) (fun c_1006 => ?_) (fun c_1006 => ?_)
      · skip
        have nc_1006 := nb_le (4) (4) c_1006 (bkc (x := 4) (c := 4) (by decide)) nc_1005.2.1 (by decide)
        refine lv_bipush (v := (-2)) hx hb dX9_row_22 (by decide) ?_
        exact W.iret (v := (-2)) hx hb hr (fun t ht hW => ⟨⟨(-2), _, rfl, Or.inl (⟨by have h90 : Int32.toInt (-2) = -2 := (by decide); have h91 : Int32.toInt 1 = 1 := (by decide); omega, rfl, rfl⟩), by rw [ht]; exact hP, hD⟩, hS.F ht⟩) hS.2.2 dX9_row_24
      · skip
        have nc_1006 := nb_nle (3) (4) c_1006 nc_1005.2.1 (bkc (x := 4) (c := 4) (by decide)) (by decide)
        refine lv_iload_n hx hb dX9_row_16 rfl (lv_at hl 3 rfl) ?_
        refine lv_bipush (v := 60) hx hb dX9_row_17 (by decide) ?_
        refine lv_icmp_le (tgt := 25) hx hb dX9_row_19 (by decide) (fun c_1007 => ?_) (fun c_1007 => ?_)
        · skip
          have nc_1007 := nb_le (60) (60) c_1007 (btop a3) (bkc (x := 60) (c := 60) (by decide)) (by decide)
          refine lv_iload_n hx hb dX9_row_25 rfl (lv_at hl 3 rfl) ?_
          refine lv_if_ge (tgt := 32) hx hb dX9_row_26 (by decide) (fun c_1008 => ?_) (fun c_1008 => ?_)
          · skip
            have nc_1008 := nb_le (0) (0) c_1008 (bkc (x := 0) (c := 0) (by decide)) nc_1007.1 (by decide)
            refine lv_aload_n hx hb dX9_row_32 rfl (lv_at hl 0 rfl) ?_
            refine va_get (D := G) (ci := 9) (v := .ref ob_slots) (C := RX9) (T := TX9) (N := 10) hx hb hw0 inA_wsX90 hown hK.1 hP 0 rfl rfl 5 (by decide) (hw0 _ m_1191) (fun _ h9 => h9) rfl dX9_row_33 ?_
            refine lv_iload_n hx hb dX9_row_36 rfl (lv_at hl 1 rfl) ?_
            refine va_aldq hx hb hK.1 hP 1 4 rfl rfl (vi (bkc (x := 1) (c := 1) (by decide)) (by decide)) dX9_row_37 ?_
            refine W.eq (g2 := F0 m 38 ls [.ref ob_slots1]) rfl ?_
            refine lv_iload_n hx hb dX9_row_38 rfl (lv_at hl 2 rfl) ?_
            refine lv_iload_n hx hb dX9_row_39 rfl (lv_at hl 3 rfl) ?_
            refine cVvm (As := [.int a2, .int a3]) (rest := []) ⟨hx, hb, hml, hown, hw0⟩ hA hK hP hD hS [false, false, true, true] (sX5_lay l G y _ ob_slots1 a2 a3 ob_slots1_filled ob_slots1_width ob_slots1_size ob_slots1_numbers fob_slots1_numbers p_ob_slots1_filled p_ob_slots1_size nc_1008.2.1) rfl ⟨(callB_of 2 hw0 (gA m_946) rfl rfl rfl (hw0 _ m_858) (hw0 _ m_1316) cb_X5_lay ⟨Nat.le_of_ble_eq_true rfl, Nat.le_of_ble_eq_true rfl⟩), (hw0 _ m_1317), (hw0 _ m_1318)⟩ (ci := 5) (q := (RX5, TX5, 4)) rfl rfl rfl hl.1 (Nat.le_of_ble_eq_true rfl) dX9_row_40 ⟨Nat.le_of_ble_eq_true rfl, Nat.le_of_ble_eq_true rfl⟩ (fun w_1009 H locs hw_1009 hP hD hS => ?_)
            obtain ⟨f_1010, rfl⟩ := hw_1009
            obtain ⟨hP, hD⟩ : vPD G A H [(ce_X9 ob ob_tape ob_tapeSize ob_reader ob_state ob_images ob_slots ob_rounds ob_ways ob_otherDebts ob_otherKnows), (ce_q4 y ob_slots (va_up (va_up (va_up (va_up (fun _ => none) 0 (some ob_slots0)) 1 (some ob_slots1)) 2 (some ob_slots2)) 3 (some ob_slots3))), (ce_X5 ob_slots1 1 a2 a3 ob_slots1_numbers), (ce_l60 y ob_slots1_numbers f_1010)] := ⟨hP, hD⟩
            refine lv_iconst (v := 0) hx hb dX9_row_43 (by decide) ?_
            exact W.iret (v := 0) hx hb hr (fun t ht hW => ⟨⟨0, _, rfl, Or.inr (Or.inr (⟨f_1010, nc_1006.1, nc_1008.2.1, by have h90 : Int32.toInt 0 = 0 := (by decide); have h91 : Int32.toInt 1 = 1 := (by decide); omega, rfl, rfl⟩)), by rw [ht]; exact hP, hD⟩, hS.F ht⟩) hS.2.2 dX9_row_44
          · skip
            have nc_1008 := nb_nle (-1) (0) c_1008 nc_1007.1 (bkc (x := 0) (c := 0) (by decide)) (by decide)
            refine lv_bipush (v := (-3)) hx hb dX9_row_29 (by decide) ?_
            exact W.iret (v := (-3)) hx hb hr (fun t ht hW => ⟨⟨(-3), _, rfl, Or.inr (Or.inl (⟨nc_1006.1, by have h90 : Int32.toInt (-3) = -3 := (by decide); have h91 : Int32.toInt 1 = 1 := (by decide); omega, rfl, rfl⟩)), by rw [ht]; exact hP, hD⟩, hS.F ht⟩) hS.2.2 dX9_row_31
        · skip
          have nc_1007 := nb_nle (60) (61) c_1007 (bkc (x := 60) (c := 60) (by decide)) (btop a3) (by decide)
          refine lv_bipush (v := (-2)) hx hb dX9_row_22 (by decide) ?_
          exact W.iret (v := (-2)) hx hb hr (fun t ht hW => ⟨⟨(-2), _, rfl, Or.inl (⟨by have h90 : Int32.toInt (-2) = -2 := (by decide); have h91 : Int32.toInt 1 = 1 := (by decide); omega, rfl, rfl⟩), by rw [ht]; exact hP, hD⟩, hS.F ht⟩) hS.2.2 dX9_row_24

set_option maxHeartbeats 4000000 in
set_option maxRecDepth 100000 in
theorem fwrite1 (l : Launch) (G : va_G) (y : Nat → ClassId) (sz : Nat) (ob : Nat) (a2 : Int32) (a3 : Int64) (ob_tape : Nat) (ob_tapeSize : Int32) (ob_reader : Nat) (ob_state : Nat) (ob_images : Nat) (ob_slots : Nat) (ob_rounds : Nat) (ob_ways : Nat) (ob_otherDebts : Nat) (ob_otherKnows : Nat) (ob_slots0 : Nat) (ob_slots1 : Nat) (ob_slots2 : Nat) (ob_slots3 : Nat) (ob_slots1_filled : Int32) (ob_slots1_width : Int32) (ob_slots1_size : Int32) (ob_slots1_numbers : Nat) (fob_slots1_numbers : Nat → Int64) (p_ob_tapeSize : (0 : Int) ≤ ob_tapeSize.toInt ∧ ob_tapeSize.toInt ≤ 1400) (p_ob_slots1_filled : (0 : Int) ≤ ob_slots1_filled.toInt ∧ ob_slots1_filled.toInt ≤ 1) (p_ob_slots1_size : (0 : Int) ≤ ob_slots1_size.toInt ∧ ob_slots1_size.toInt ≤ 60) : Met l yX9_write (Cond.code yX9_write cX9_write 6 (some .int) :: wAll) ({ frames := 1, cells := 0, slots := 0, locals := 22 }) (va_Pc [.ref ob, .int 1, .int a2, .long a3] (kp G y sz [(ce_X9 ob ob_tape ob_tapeSize ob_reader ob_state ob_images ob_slots ob_rounds ob_ways ob_otherDebts ob_otherKnows), (ce_q4 y ob_slots (va_up (va_up (va_up (va_up (fun _ => none) 0 (some ob_slots0)) 1 (some ob_slots1)) 2 (some ob_slots2)) 3 (some ob_slots3))), (ce_X5 ob_slots1 ob_slots1_filled ob_slots1_width ob_slots1_size ob_slots1_numbers), (ce_l60 y ob_slots1_numbers fob_slots1_numbers)])) (va_Qi (fun (r : Int32) (w : va_W) => (((0 : Int) ≤ ob_slots1_filled.toInt ∧ ob_slots1_filled.toInt ≤ 0) ∧ (ob_slots1_filled.toInt = 0) ∧ r = (-6) ∧ w = [(ce_X9 ob ob_tape ob_tapeSize ob_reader ob_state ob_images ob_slots ob_rounds ob_ways ob_otherDebts ob_otherKnows), (ce_q4 y ob_slots (va_up (va_up (va_up (va_up (fun _ => none) 0 (some ob_slots0)) 1 (some ob_slots1)) 2 (some ob_slots2)) 3 (some ob_slots3))), (ce_X5 ob_slots1 ob_slots1_filled ob_slots1_width ob_slots1_size ob_slots1_numbers), (ce_l60 y ob_slots1_numbers fob_slots1_numbers)]) ∨ (((1 : Int) ≤ ob_slots1_filled.toInt ∧ ob_slots1_filled.toInt ≤ 1) ∧ (ob_slots1_filled.toInt = 1 ∧ (a2.toInt < 0 ∨ ob_slots1_size.toInt ≤ a2.toInt)) ∧ r = (-7) ∧ w = [(ce_X9 ob ob_tape ob_tapeSize ob_reader ob_state ob_images ob_slots ob_rounds ob_ways ob_otherDebts ob_otherKnows), (ce_q4 y ob_slots (va_up (va_up (va_up (va_up (fun _ => none) 0 (some ob_slots0)) 1 (some ob_slots1)) 2 (some ob_slots2)) 3 (some ob_slots3))), (ce_X5 ob_slots1 ob_slots1_filled ob_slots1_width ob_slots1_size ob_slots1_numbers), (ce_l60 y ob_slots1_numbers fob_slots1_numbers)]) ∨ (∃ (v_25 : Int32) (f_26 : Nat → Int64), ((0 : Int) ≤ a2.toInt ∧ a2.toInt ≤ 59) ∧ ((1 : Int) ≤ ob_slots1_filled.toInt ∧ ob_slots1_filled.toInt ≤ 1) ∧ ((1 : Int) ≤ ob_slots1_size.toInt ∧ ob_slots1_size.toInt ≤ 60) ∧ (ob_slots1_filled.toInt = 1 ∧ 0 ≤ a2.toInt ∧ a2.toInt < ob_slots1_size.toInt) ∧ (v_25.toInt = ob_slots1_width.toInt) ∧ r = 0 ∧ w = [(ce_X9 ob ob_tape ob_tapeSize ob_reader ob_state ob_images ob_slots ob_rounds ob_ways ob_otherDebts ob_otherKnows), (ce_q4 y ob_slots (va_up (va_up (va_up (va_up (fun _ => none) 0 (some ob_slots0)) 1 (some ob_slots1)) 2 (some ob_slots2)) 3 (some ob_slots3))), (ce_X5 ob_slots1 ob_slots1_filled v_25 ob_slots1_size ob_slots1_numbers), (ce_l60 y ob_slots1_numbers f_26)])) (kq G (va_A [(ce_X9 ob ob_tape ob_tapeSize ob_reader ob_state ob_images ob_slots ob_rounds ob_ways ob_otherDebts ob_otherKnows), (ce_q4 y ob_slots (va_up (va_up (va_up (va_up (fun _ => none) 0 (some ob_slots0)) 1 (some ob_slots1)) 2 (some ob_slots2)) 3 (some ob_slots3))), (ce_X5 ob_slots1 ob_slots1_filled ob_slots1_width ob_slots1_size ob_slots1_numbers), (ce_l60 y ob_slots1_numbers fob_slots1_numbers)] sz)) (va_A [(ce_X9 ob ob_tape ob_tapeSize ob_reader ob_state ob_images ob_slots ob_rounds ob_ways ob_otherDebts ob_otherKnows), (ce_q4 y ob_slots (va_up (va_up (va_up (va_up (fun _ => none) 0 (some ob_slots0)) 1 (some ob_slots1)) 2 (some ob_slots2)) 3 (some ob_slots3))), (ce_X5 ob_slots1 ob_slots1_filled ob_slots1_width ob_slots1_size ob_slots1_numbers), (ce_l60 y ob_slots1_numbers fob_slots1_numbers)] sz)) 0 0 (va_A [(ce_X9 ob ob_tape ob_tapeSize ob_reader ob_state ob_images ob_slots ob_rounds ob_ways ob_otherDebts ob_otherKnows), (ce_q4 y ob_slots (va_up (va_up (va_up (va_up (fun _ => none) 0 (some ob_slots0)) 1 (some ob_slots1)) 2 (some ob_slots2)) 3 (some ob_slots3))), (ce_X5 ob_slots1 ob_slots1_filled ob_slots1_width ob_slots1_size ob_slots1_numbers), (ce_l60 y ob_slots1_numbers fob_slots1_numbers)] sz) := by
  refine Met.ofW (cc := cX9_write) (maxL := 6) (ret := (some .int)) (by decide) rfl ?_
  intro p e s m args below meth c s₁ B hml hv
  obtain ⟨rfl, hsz, hP, hK, hD0⟩ := hv
  have hx := B.exec
  have hb := B.bytes
  have hr := B.returns
  have hw0 : ∀ w ∈ wAll, w.before _ s = true := fun w h => atoms_spec (ws := Cond.code yX9_write cX9_write 6 (some .int) :: wAll) B.pre w (List.mem_cons_of_mem _ h)
  have hown : s.vm.findClass RX9 = some m.cls := findClass_of_methodNamed B.named
  subst hsz
  have hD := hD0.self (sz := s.heap.size)
  generalize hAe : va_A [(ce_X9 ob ob_tape ob_tapeSize ob_reader ob_state ob_images ob_slots ob_rounds ob_ways ob_otherDebts ob_otherKnows), (ce_q4 y ob_slots (va_up (va_up (va_up (va_up (fun _ => none) 0 (some ob_slots0)) 1 (some ob_slots1)) 2 (some ob_slots2)) 3 (some ob_slots3))), (ce_X5 ob_slots1 ob_slots1_filled ob_slots1_width ob_slots1_size ob_slots1_numbers), (ce_l60 y ob_slots1_numbers fob_slots1_numbers)] s.heap.size = A at hD ⊢
  have hA : ∀ q : Nat, s.heap.size ≤ q → A q := fun q h => by rw [← hAe]; exact Or.inr h
  have hS : va_S A s.heap s.heap [] := va_S.rf
  have hP : va_P G vwCl [(ce_X9 ob ob_tape ob_tapeSize ob_reader ob_state ob_images ob_slots ob_rounds ob_ways ob_otherDebts ob_otherKnows), (ce_q4 y ob_slots (va_up (va_up (va_up (va_up (fun _ => none) 0 (some ob_slots0)) 1 (some ob_slots1)) 2 (some ob_slots2)) 3 (some ob_slots3))), (ce_X5 ob_slots1 ob_slots1_filled ob_slots1_width ob_slots1_size ob_slots1_numbers), (ce_l60 y ob_slots1_numbers fob_slots1_numbers)] s.heap := hP
  have hl := lv_entry ([.ref ob, .int 1, .int a2, .long a3]) (n := 6) (Nat.le_of_ble_eq_true rfl)
  rw [lg_entry_eq]
  generalize (lg_sl ([.ref ob, .int 1, .int a2, .long a3]) ++ List.replicate (6 - (lg_sl ([.ref ob, .int 1, .int a2, .long a3])).length) Slot.unset).toArray = ls at hl ⊢
  have hl : lv_has ls 6 [(0, .ref ob), (1, .int 1), (2, .int a2), (3, .long a3)] := hl
  refine lv_iload_n hx hb dX9_write_0 rfl (lv_at hl 1 rfl) ?_
  refine cSim (As := [.int 1]) (rest := []) ⟨hx, hb, hml, hown, hw0⟩ hA hK hP hD hS [] (fisSlot l G y _ 1 ) rfl ⟨(callB_of 1 hw0 (gA m_1260) rfl rfl rfl (hw0 _ m_36) (hw0 _ m_1189) cb_X9_isSlot ⟨Nat.le_of_ble_eq_true rfl, Nat.le_of_ble_eq_true rfl⟩), (hw0 _ m_1190)⟩ rfl hl.1 (Nat.le_of_ble_eq_true rfl) dX9_write_1 ⟨Nat.le_of_ble_eq_true rfl, Nat.le_of_ble_eq_true rfl⟩ (fun r_1001 w_1001 H locs hw_1001 hP hD hS => ?_)
  rcases hw_1001 with ⟨h_1002, rfl, rfl⟩ | ⟨h_1003, h_1004, rfl, rfl⟩
  · skip
    exact False.elim (by have h9 : Int32.toInt 1 = 1 := (by decide); omega)
  · skip
    obtain ⟨hP, hD⟩ : vPD G A H [(ce_X9 ob ob_tape ob_tapeSize ob_reader ob_state ob_images ob_slots ob_rounds ob_ways ob_otherDebts ob_otherKnows), (ce_q4 y ob_slots (va_up (va_up (va_up (va_up (fun _ => none) 0 (some ob_slots0)) 1 (some ob_slots1)) 2 (some ob_slots2)) 3 (some ob_slots3))), (ce_X5 ob_slots1 ob_slots1_filled ob_slots1_width ob_slots1_size ob_slots1_numbers), (ce_l60 y ob_slots1_numbers fob_slots1_numbers)] := ⟨hP, hD⟩
    refine lv_if_ne (tgt := 10) hx hb dX9_write_4 (by decide) (fun _ => ?_) (fun c9 => absurd c9 (by decide))
    refine lv_aload_n hx hb dX9_write_10 rfl (lv_at hl 0 rfl) ?_
    refine va_get (D := G) (ci := 9) (v := .ref ob_slots) (C := RX9) (T := TX9) (N := 10) hx hb hw0 inA_wsX90 hown hK.1 hP 0 rfl rfl 5 (by decide) (hw0 _ m_1191) (fun _ h9 => h9) rfl dX9_write_11 ?_
    refine lv_iload_n hx hb dX9_write_14 rfl (lv_at hl 1 rfl) ?_
    refine va_aldq hx hb hK.1 hP 1 4 rfl rfl (vi (bkc (x := 1) (c := 1) (by decide)) (by decide)) dX9_write_15 ?_
    refine W.eq (g2 := F0 m 16 ls [.ref ob_slots1]) rfl ?_
    refine lv_astore (lv' := [(5, .ref ob_slots1), (0, .ref ob), (1, .int 1), (2, .int a2), (3, .long a3)]) hx hb dX9_write_16 hl (by decide) rfl (fun ls hl => ?_)
    refine lv_aload hx hb dX9_write_18 (lv_at hl 0 rfl) ?_
    refine va_get (D := G) (ci := 5) (v := .int ob_slots1_filled) (C := RX5) (T := TX5) (N := 4) hx hb hw0 inA_wsX50 hown hK.1 hP 2 rfl rfl 0 (by decide) (hw0 _ m_1192) (fun _ h9 => h9) rfl dX9_write_20 ?_
    refine lv_if_ne (tgt := 29) hx hb dX9_write_23 (by decide) (fun c_1005 => ?_) (fun c_1005 => ?_)
    · skip
      have nc_1005 := nb_ne (1) (1) c_1005 p_ob_slots1_filled (k := 0) (by decide) (by decide)
      refine lv_iload_n hx hb dX9_write_29 rfl (lv_at hl 3 rfl) ?_
      refine lv_if_lt (tgt := 42) hx hb dX9_write_30 (by decide) (fun c_1006 => ?_) (fun c_1006 => ?_)
      · skip
        have nc_1006 := nb_lt (-1) (0) c_1006 (btop a2) (bkc (x := 0) (c := 0) (by decide)) (by decide)
        refine lv_bipush (v := (-7)) hx hb dX9_write_42 (by decide) ?_
        exact W.iret (v := (-7)) hx hb hr (fun t ht hW => ⟨⟨(-7), _, rfl, Or.inr (Or.inl (⟨nc_1005.1, by have h90 : Int32.toInt (-7) = -7 := (by decide); have h91 : Int32.toInt 1 = 1 := (by decide); omega, rfl, rfl⟩)), by rw [ht]; exact hP, hD⟩, hS.F ht⟩) hS.2.2 dX9_write_44
      · skip
        have nc_1006 := nb_nlt (0) (0) c_1006 (bkc (x := 0) (c := 0) (by decide)) (btop a2) (by decide)
        refine lv_iload_n hx hb dX9_write_33 rfl (lv_at hl 3 rfl) ?_
        refine lv_aload hx hb dX9_write_34 (lv_at hl 0 rfl) ?_
        refine va_get (D := G) (ci := 5) (v := .int ob_slots1_size) (C := RX5) (T := TX5) (N := 4) hx hb hw0 inA_wsX50 hown hK.1 hP 2 rfl rfl 2 (by decide) (hw0 _ m_1193) (fun _ h9 => h9) rfl dX9_write_36 ?_
        refine lv_icmp_lt (tgt := 45) hx hb dX9_write_39 (by decide) (fun c_1007 => ?_) (fun c_1007 => ?_)
        · skip
          have nc_1007 := nb_lt (59) (1) c_1007 nc_1006.2.1 p_ob_slots1_size (by decide)
          refine lv_aload hx hb dX9_write_45 (lv_at hl 0 rfl) ?_
          refine va_get (D := G) (ci := 5) (v := .ref ob_slots1_numbers) (C := RX5) (T := TX5) (N := 4) hx hb hw0 inA_wsX50 hown hK.1 hP 2 rfl rfl 3 (by decide) (hw0 _ m_1293) (fun _ h9 => h9) rfl dX9_write_47 ?_
          refine lv_iload_n hx hb dX9_write_50 rfl (lv_at hl 3 rfl) ?_
          refine lv_aload hx hb dX9_write_51 (lv_at hl 0 rfl) ?_
          refine lv_lload_n hx hb dX9_write_53 rfl (lv_at hl 4 rfl) ?_
          refine cVlm (As := [.long a3]) (rest := [.int a2, .ref ob_slots1_numbers]) ⟨hx, hb, hml, hown, hw0⟩ hA hK hP hD hS [false, false, true] (sX5_cut l G y _ ob_slots1 a3 ob_slots1_filled ob_slots1_width ob_slots1_size ob_slots1_numbers (bw (0) (1) nc_1005.1 (by decide)) (bw (0) (60) nc_1007.2.1 (by decide))) rfl ⟨(callB_of 1 hw0 (gA m_939) rfl rfl rfl (hw0 _ m_858) (hw0 _ m_1335) cb_X5_cut ⟨Nat.le_of_ble_eq_true rfl, Nat.le_of_ble_eq_true rfl⟩), (hw0 _ m_1336), (hw0 _ m_1337)⟩ (ci := 5) (q := (RX5, TX5, 4)) rfl rfl rfl hl.1 (Nat.le_of_ble_eq_true rfl) dX9_write_54 ⟨Nat.le_of_ble_eq_true rfl, Nat.le_of_ble_eq_true rfl⟩ (fun r_1008 w_1008 H locs hw_1008 hP hD hS => ?_)
          obtain ⟨v_1009, v_1010, h_1011, er_1008, rfl⟩ := hw_1008
          subst r_1008
          obtain ⟨hP, hD⟩ : vPD G A H [(ce_X9 ob ob_tape ob_tapeSize ob_reader ob_state ob_images ob_slots ob_rounds ob_ways ob_otherDebts ob_otherKnows), (ce_q4 y ob_slots (va_up (va_up (va_up (va_up (fun _ => none) 0 (some ob_slots0)) 1 (some ob_slots1)) 2 (some ob_slots2)) 3 (some ob_slots3))), (ce_X5 ob_slots1 ob_slots1_filled v_1010 ob_slots1_size ob_slots1_numbers), (ce_l60 y ob_slots1_numbers fob_slots1_numbers)] := ⟨hP, hD⟩
          refine va_last hx hb hK.1 hP hD hS 3 2 rfl rfl (vi nc_1007.1 (by decide)) dX9_write_57 (fun H locs hP hD hS => ?_)
          generalize hf_1012 : (vp_updL fob_slots1_numbers (a2 : Int32).toNatClampNeg v_1009) = f_1012 at hP hD
          obtain ⟨hP, hD⟩ : vPD G A H [(ce_X9 ob ob_tape ob_tapeSize ob_reader ob_state ob_images ob_slots ob_rounds ob_ways ob_otherDebts ob_otherKnows), (ce_q4 y ob_slots (va_up (va_up (va_up (va_up (fun _ => none) 0 (some ob_slots0)) 1 (some ob_slots1)) 2 (some ob_slots2)) 3 (some ob_slots3))), (ce_X5 ob_slots1 ob_slots1_filled v_1010 ob_slots1_size ob_slots1_numbers), (ce_l60 y ob_slots1_numbers f_1012)] := ⟨hP, hD⟩
          refine lv_iconst (v := 0) hx hb dX9_write_58 (by decide) ?_
          exact W.iret (v := 0) hx hb hr (fun t ht hW => ⟨⟨0, _, rfl, Or.inr (Or.inr (⟨v_1010, f_1012, nc_1007.1, nc_1005.1, nc_1007.2.1, by have h90 : Int32.toInt 0 = 0 := (by decide); have h91 : Int32.toInt 1 = 1 := (by decide); omega, by have h90 : Int32.toInt 0 = 0 := (by decide); have h91 : Int32.toInt 1 = 1 := (by decide); omega, rfl, rfl⟩)), by rw [ht]; exact hP, hD⟩, hS.F ht⟩) hS.2.2 dX9_write_59
        · skip
          have nc_1007 := nb_nlt (60) (0) c_1007 p_ob_slots1_size nc_1006.2.1 (by decide)
          refine lv_bipush (v := (-7)) hx hb dX9_write_42 (by decide) ?_
          exact W.iret (v := (-7)) hx hb hr (fun t ht hW => ⟨⟨(-7), _, rfl, Or.inr (Or.inl (⟨nc_1005.1, by have h90 : Int32.toInt (-7) = -7 := (by decide); have h91 : Int32.toInt 1 = 1 := (by decide); omega, rfl, rfl⟩)), by rw [ht]; exact hP, hD⟩, hS.F ht⟩) hS.2.2 dX9_write_44
    · skip
      have nc_1005 := nb_eq (0) (0) c_1005 p_ob_slots1_filled (bkc (x := 0) (c := 0) (by decide)) (by decide)
      refine lv_bipush (v := (-6)) hx hb dX9_write_26 (by decide) ?_
      exact W.iret (v := (-6)) hx hb hr (fun t ht hW => ⟨⟨(-6), _, rfl, Or.inl (⟨nc_1005.1, by have h90 : Int32.toInt (-6) = -6 := (by decide); have h91 : Int32.toInt 1 = 1 := (by decide); omega, rfl, rfl⟩), by rw [ht]; exact hP, hD⟩, hS.F ht⟩) hS.2.2 dX9_write_28

set_option maxHeartbeats 4000000 in
set_option maxRecDepth 100000 in
theorem frow2 (l : Launch) (G : va_G) (y : Nat → ClassId) (sz : Nat) (ob : Nat) (a2 : Int32) (a3 : Int32) (ob_tape : Nat) (ob_tapeSize : Int32) (ob_reader : Nat) (ob_state : Nat) (ob_images : Nat) (ob_slots : Nat) (ob_rounds : Nat) (ob_ways : Nat) (ob_otherDebts : Nat) (ob_otherKnows : Nat) (ob_slots0 : Nat) (ob_slots1 : Nat) (ob_slots2 : Nat) (ob_slots3 : Nat) (ob_slots2_filled : Int32) (ob_slots2_width : Int32) (ob_slots2_size : Int32) (ob_slots2_numbers : Nat) (fob_slots2_numbers : Nat → Int64) (p_ob_tapeSize : (0 : Int) ≤ ob_tapeSize.toInt ∧ ob_tapeSize.toInt ≤ 1400) (p_ob_slots2_filled : (0 : Int) ≤ ob_slots2_filled.toInt ∧ ob_slots2_filled.toInt ≤ 1) (p_ob_slots2_size : (0 : Int) ≤ ob_slots2_size.toInt ∧ ob_slots2_size.toInt ≤ 60) : Met l yX9_row (Cond.code yX9_row cX9_row 4 (some .int) :: wAll) ({ frames := 2, cells := 0, slots := 0, locals := 46 }) (va_Pc [.ref ob, .int 2, .int a2, .int a3] (kp G y sz [(ce_X9 ob ob_tape ob_tapeSize ob_reader ob_state ob_images ob_slots ob_rounds ob_ways ob_otherDebts ob_otherKnows), (ce_q4 y ob_slots (va_up (va_up (va_up (va_up (fun _ => none) 0 (some ob_slots0)) 1 (some ob_slots1)) 2 (some ob_slots2)) 3 (some ob_slots3))), (ce_X5 ob_slots2 ob_slots2_filled ob_slots2_width ob_slots2_size ob_slots2_numbers), (ce_l60 y ob_slots2_numbers fob_slots2_numbers)])) (va_Qi (fun (r : Int32) (w : va_W) => ((a2.toInt < 0 ∨ 3 < a2.toInt ∨ 60 < a3.toInt) ∧ r = (-2) ∧ w = [(ce_X9 ob ob_tape ob_tapeSize ob_reader ob_state ob_images ob_slots ob_rounds ob_ways ob_otherDebts ob_otherKnows), (ce_q4 y ob_slots (va_up (va_up (va_up (va_up (fun _ => none) 0 (some ob_slots0)) 1 (some ob_slots1)) 2 (some ob_slots2)) 3 (some ob_slots3))), (ce_X5 ob_slots2 ob_slots2_filled ob_slots2_width ob_slots2_size ob_slots2_numbers), (ce_l60 y ob_slots2_numbers fob_slots2_numbers)]) ∨ (((0 : Int) ≤ a2.toInt ∧ a2.toInt ≤ 3) ∧ (0 ≤ a2.toInt ∧ a2.toInt ≤ 3 ∧ a3.toInt < 0) ∧ r = (-3) ∧ w = [(ce_X9 ob ob_tape ob_tapeSize ob_reader ob_state ob_images ob_slots ob_rounds ob_ways ob_otherDebts ob_otherKnows), (ce_q4 y ob_slots (va_up (va_up (va_up (va_up (fun _ => none) 0 (some ob_slots0)) 1 (some ob_slots1)) 2 (some ob_slots2)) 3 (some ob_slots3))), (ce_X5 ob_slots2 ob_slots2_filled ob_slots2_width ob_slots2_size ob_slots2_numbers), (ce_l60 y ob_slots2_numbers fob_slots2_numbers)]) ∨ (∃ (f_21 : Nat → Int64), ((0 : Int) ≤ a2.toInt ∧ a2.toInt ≤ 3) ∧ ((0 : Int) ≤ a3.toInt ∧ a3.toInt ≤ 60) ∧ (0 ≤ a2.toInt ∧ a2.toInt ≤ 3 ∧ 0 ≤ a3.toInt ∧ a3.toInt ≤ 60) ∧ r = 0 ∧ w = [(ce_X9 ob ob_tape ob_tapeSize ob_reader ob_state ob_images ob_slots ob_rounds ob_ways ob_otherDebts ob_otherKnows), (ce_q4 y ob_slots (va_up (va_up (va_up (va_up (fun _ => none) 0 (some ob_slots0)) 1 (some ob_slots1)) 2 (some ob_slots2)) 3 (some ob_slots3))), (ce_X5 ob_slots2 1 a2 a3 ob_slots2_numbers), (ce_l60 y ob_slots2_numbers f_21)])) (kq G (va_A [(ce_X9 ob ob_tape ob_tapeSize ob_reader ob_state ob_images ob_slots ob_rounds ob_ways ob_otherDebts ob_otherKnows), (ce_q4 y ob_slots (va_up (va_up (va_up (va_up (fun _ => none) 0 (some ob_slots0)) 1 (some ob_slots1)) 2 (some ob_slots2)) 3 (some ob_slots3))), (ce_X5 ob_slots2 ob_slots2_filled ob_slots2_width ob_slots2_size ob_slots2_numbers), (ce_l60 y ob_slots2_numbers fob_slots2_numbers)] sz)) (va_A [(ce_X9 ob ob_tape ob_tapeSize ob_reader ob_state ob_images ob_slots ob_rounds ob_ways ob_otherDebts ob_otherKnows), (ce_q4 y ob_slots (va_up (va_up (va_up (va_up (fun _ => none) 0 (some ob_slots0)) 1 (some ob_slots1)) 2 (some ob_slots2)) 3 (some ob_slots3))), (ce_X5 ob_slots2 ob_slots2_filled ob_slots2_width ob_slots2_size ob_slots2_numbers), (ce_l60 y ob_slots2_numbers fob_slots2_numbers)] sz)) 0 0 (va_A [(ce_X9 ob ob_tape ob_tapeSize ob_reader ob_state ob_images ob_slots ob_rounds ob_ways ob_otherDebts ob_otherKnows), (ce_q4 y ob_slots (va_up (va_up (va_up (va_up (fun _ => none) 0 (some ob_slots0)) 1 (some ob_slots1)) 2 (some ob_slots2)) 3 (some ob_slots3))), (ce_X5 ob_slots2 ob_slots2_filled ob_slots2_width ob_slots2_size ob_slots2_numbers), (ce_l60 y ob_slots2_numbers fob_slots2_numbers)] sz) := by
  refine Met.ofW (cc := cX9_row) (maxL := 4) (ret := (some .int)) (by decide) rfl ?_
  intro p e s m args below meth c s₁ B hml hv
  obtain ⟨rfl, hsz, hP, hK, hD0⟩ := hv
  have hx := B.exec
  have hb := B.bytes
  have hr := B.returns
  have hw0 : ∀ w ∈ wAll, w.before _ s = true := fun w h => atoms_spec (ws := Cond.code yX9_row cX9_row 4 (some .int) :: wAll) B.pre w (List.mem_cons_of_mem _ h)
  have hown : s.vm.findClass RX9 = some m.cls := findClass_of_methodNamed B.named
  subst hsz
  have hD := hD0.self (sz := s.heap.size)
  generalize hAe : va_A [(ce_X9 ob ob_tape ob_tapeSize ob_reader ob_state ob_images ob_slots ob_rounds ob_ways ob_otherDebts ob_otherKnows), (ce_q4 y ob_slots (va_up (va_up (va_up (va_up (fun _ => none) 0 (some ob_slots0)) 1 (some ob_slots1)) 2 (some ob_slots2)) 3 (some ob_slots3))), (ce_X5 ob_slots2 ob_slots2_filled ob_slots2_width ob_slots2_size ob_slots2_numbers), (ce_l60 y ob_slots2_numbers fob_slots2_numbers)] s.heap.size = A at hD ⊢
  have hA : ∀ q : Nat, s.heap.size ≤ q → A q := fun q h => by rw [← hAe]; exact Or.inr h
  have hS : va_S A s.heap s.heap [] := va_S.rf
  have hP : va_P G vwCl [(ce_X9 ob ob_tape ob_tapeSize ob_reader ob_state ob_images ob_slots ob_rounds ob_ways ob_otherDebts ob_otherKnows), (ce_q4 y ob_slots (va_up (va_up (va_up (va_up (fun _ => none) 0 (some ob_slots0)) 1 (some ob_slots1)) 2 (some ob_slots2)) 3 (some ob_slots3))), (ce_X5 ob_slots2 ob_slots2_filled ob_slots2_width ob_slots2_size ob_slots2_numbers), (ce_l60 y ob_slots2_numbers fob_slots2_numbers)] s.heap := hP
  have hl := lv_entry ([.ref ob, .int 2, .int a2, .int a3]) (n := 4) (Nat.le_of_ble_eq_true rfl)
  rw [lg_entry_eq]
  generalize (lg_sl ([.ref ob, .int 2, .int a2, .int a3]) ++ List.replicate (4 - (lg_sl ([.ref ob, .int 2, .int a2, .int a3])).length) Slot.unset).toArray = ls at hl ⊢
  have hl : lv_has ls 4 [(0, .ref ob), (1, .int 2), (2, .int a2), (3, .int a3)] := hl
  refine lv_iload_n hx hb dX9_row_0 rfl (lv_at hl 1 rfl) ?_
  refine cSim (As := [.int 2]) (rest := []) ⟨hx, hb, hml, hown, hw0⟩ hA hK hP hD hS [] (fisSlot l G y _ 2 ) rfl ⟨(callB_of 1 hw0 (gA m_1260) rfl rfl rfl (hw0 _ m_36) (hw0 _ m_1189) cb_X9_isSlot ⟨Nat.le_of_ble_eq_true rfl, Nat.le_of_ble_eq_true rfl⟩), (hw0 _ m_1190)⟩ rfl hl.1 (Nat.le_of_ble_eq_true rfl) dX9_row_1 ⟨Nat.le_of_ble_eq_true rfl, Nat.le_of_ble_eq_true rfl⟩ (fun r_1001 w_1001 H locs hw_1001 hP hD hS => ?_)
  rcases hw_1001 with ⟨h_1002, rfl, rfl⟩ | ⟨h_1003, h_1004, rfl, rfl⟩
  · skip
    exact False.elim (by have h9 : Int32.toInt 2 = 2 := (by decide); omega)
  · skip
    obtain ⟨hP, hD⟩ : vPD G A H [(ce_X9 ob ob_tape ob_tapeSize ob_reader ob_state ob_images ob_slots ob_rounds ob_ways ob_otherDebts ob_otherKnows), (ce_q4 y ob_slots (va_up (va_up (va_up (va_up (fun _ => none) 0 (some ob_slots0)) 1 (some ob_slots1)) 2 (some ob_slots2)) 3 (some ob_slots3))), (ce_X5 ob_slots2 ob_slots2_filled ob_slots2_width ob_slots2_size ob_slots2_numbers), (ce_l60 y ob_slots2_numbers fob_slots2_numbers)] := ⟨hP, hD⟩
    refine lv_if_eq (tgt := 22) hx hb dX9_row_4 (by decide) (fun c9 => absurd c9 (by decide)) (fun _ => ?_)
    refine lv_iload_n hx hb dX9_row_7 rfl (lv_at hl 2 rfl) ?_
    refine lv_if_lt (tgt := 22) hx hb dX9_row_8 (by decide) (fun c_1005 => ?_) (fun c_1005 => ?_)
    · skip
      have nc_1005 := nb_lt (-1) (0) c_1005 (btop a2) (bkc (x := 0) (c := 0) (by decide)) (by decide)
      refine lv_bipush (v := (-2)) hx hb dX9_row_22 (by decide) ?_
      exact W.iret (v := (-2)) hx hb hr (fun t ht hW => ⟨⟨(-2), _, rfl, Or.inl (⟨by have h90 : Int32.toInt (-2) = -2 := (by decide); have h91 : Int32.toInt 2 = 2 := (by decide); omega, rfl, rfl⟩), by rw [ht]; exact hP, hD⟩, hS.F ht⟩) hS.2.2 dX9_row_24
    · skip
      have nc_1005 := nb_nlt (0) (0) c_1005 (bkc (x := 0) (c := 0) (by decide)) (btop a2) (by decide)
      refine lv_iload_n hx hb dX9_row_11 rfl (lv_at hl 2 rfl) ?_
      refine lv_iconst (v := 4) hx hb dX9_row_12 (by decide) ?_
      refine lv_icmp_ge (tgt := 22) hx hb dX9_row_13 (by decide) (fun c_1006 => ?_) (fun c_1006 => ?_)
      · skip
        have nc_1006 := nb_le (4) (4) c_1006 (bkc (x := 4) (c := 4) (by decide)) nc_1005.2.1 (by decide)
        refine lv_bipush (v := (-2)) hx hb dX9_row_22 (by decide) ?_
        exact W.iret (v := (-2)) hx hb hr (fun t ht hW => ⟨⟨(-2), _, rfl, Or.inl (⟨by have h90 : Int32.toInt (-2) = -2 := (by decide); have h91 : Int32.toInt 2 = 2 := (by decide); omega, rfl, rfl⟩), by rw [ht]; exact hP, hD⟩, hS.F ht⟩) hS.2.2 dX9_row_24
      · skip
        have nc_1006 := nb_nle (3) (4) c_1006 nc_1005.2.1 (bkc (x := 4) (c := 4) (by decide)) (by decide)
        refine lv_iload_n hx hb dX9_row_16 rfl (lv_at hl 3 rfl) ?_
        refine lv_bipush (v := 60) hx hb dX9_row_17 (by decide) ?_
        refine lv_icmp_le (tgt := 25) hx hb dX9_row_19 (by decide) (fun c_1007 => ?_) (fun c_1007 => ?_)
        · skip
          have nc_1007 := nb_le (60) (60) c_1007 (btop a3) (bkc (x := 60) (c := 60) (by decide)) (by decide)
          refine lv_iload_n hx hb dX9_row_25 rfl (lv_at hl 3 rfl) ?_
          refine lv_if_ge (tgt := 32) hx hb dX9_row_26 (by decide) (fun c_1008 => ?_) (fun c_1008 => ?_)
          · skip
            have nc_1008 := nb_le (0) (0) c_1008 (bkc (x := 0) (c := 0) (by decide)) nc_1007.1 (by decide)
            refine lv_aload_n hx hb dX9_row_32 rfl (lv_at hl 0 rfl) ?_
            refine va_get (D := G) (ci := 9) (v := .ref ob_slots) (C := RX9) (T := TX9) (N := 10) hx hb hw0 inA_wsX90 hown hK.1 hP 0 rfl rfl 5 (by decide) (hw0 _ m_1191) (fun _ h9 => h9) rfl dX9_row_33 ?_
            refine lv_iload_n hx hb dX9_row_36 rfl (lv_at hl 1 rfl) ?_
            refine va_aldq hx hb hK.1 hP 1 4 rfl rfl (vi (bkc (x := 2) (c := 2) (by decide)) (by decide)) dX9_row_37 ?_
            refine W.eq (g2 := F0 m 38 ls [.ref ob_slots2]) rfl ?_
            refine lv_iload_n hx hb dX9_row_38 rfl (lv_at hl 2 rfl) ?_
            refine lv_iload_n hx hb dX9_row_39 rfl (lv_at hl 3 rfl) ?_
            refine cVvm (As := [.int a2, .int a3]) (rest := []) ⟨hx, hb, hml, hown, hw0⟩ hA hK hP hD hS [false, false, true, true] (sX5_lay l G y _ ob_slots2 a2 a3 ob_slots2_filled ob_slots2_width ob_slots2_size ob_slots2_numbers fob_slots2_numbers p_ob_slots2_filled p_ob_slots2_size nc_1008.2.1) rfl ⟨(callB_of 2 hw0 (gA m_946) rfl rfl rfl (hw0 _ m_858) (hw0 _ m_1316) cb_X5_lay ⟨Nat.le_of_ble_eq_true rfl, Nat.le_of_ble_eq_true rfl⟩), (hw0 _ m_1317), (hw0 _ m_1318)⟩ (ci := 5) (q := (RX5, TX5, 4)) rfl rfl rfl hl.1 (Nat.le_of_ble_eq_true rfl) dX9_row_40 ⟨Nat.le_of_ble_eq_true rfl, Nat.le_of_ble_eq_true rfl⟩ (fun w_1009 H locs hw_1009 hP hD hS => ?_)
            obtain ⟨f_1010, rfl⟩ := hw_1009
            obtain ⟨hP, hD⟩ : vPD G A H [(ce_X9 ob ob_tape ob_tapeSize ob_reader ob_state ob_images ob_slots ob_rounds ob_ways ob_otherDebts ob_otherKnows), (ce_q4 y ob_slots (va_up (va_up (va_up (va_up (fun _ => none) 0 (some ob_slots0)) 1 (some ob_slots1)) 2 (some ob_slots2)) 3 (some ob_slots3))), (ce_X5 ob_slots2 1 a2 a3 ob_slots2_numbers), (ce_l60 y ob_slots2_numbers f_1010)] := ⟨hP, hD⟩
            refine lv_iconst (v := 0) hx hb dX9_row_43 (by decide) ?_
            exact W.iret (v := 0) hx hb hr (fun t ht hW => ⟨⟨0, _, rfl, Or.inr (Or.inr (⟨f_1010, nc_1006.1, nc_1008.2.1, by have h90 : Int32.toInt 0 = 0 := (by decide); have h91 : Int32.toInt 1 = 1 := (by decide); have h92 : Int32.toInt 2 = 2 := (by decide); omega, rfl, rfl⟩)), by rw [ht]; exact hP, hD⟩, hS.F ht⟩) hS.2.2 dX9_row_44
          · skip
            have nc_1008 := nb_nle (-1) (0) c_1008 nc_1007.1 (bkc (x := 0) (c := 0) (by decide)) (by decide)
            refine lv_bipush (v := (-3)) hx hb dX9_row_29 (by decide) ?_
            exact W.iret (v := (-3)) hx hb hr (fun t ht hW => ⟨⟨(-3), _, rfl, Or.inr (Or.inl (⟨nc_1006.1, by have h90 : Int32.toInt (-3) = -3 := (by decide); have h91 : Int32.toInt 2 = 2 := (by decide); omega, rfl, rfl⟩)), by rw [ht]; exact hP, hD⟩, hS.F ht⟩) hS.2.2 dX9_row_31
        · skip
          have nc_1007 := nb_nle (60) (61) c_1007 (bkc (x := 60) (c := 60) (by decide)) (btop a3) (by decide)
          refine lv_bipush (v := (-2)) hx hb dX9_row_22 (by decide) ?_
          exact W.iret (v := (-2)) hx hb hr (fun t ht hW => ⟨⟨(-2), _, rfl, Or.inl (⟨by have h90 : Int32.toInt (-2) = -2 := (by decide); have h91 : Int32.toInt 2 = 2 := (by decide); omega, rfl, rfl⟩), by rw [ht]; exact hP, hD⟩, hS.F ht⟩) hS.2.2 dX9_row_24

set_option maxHeartbeats 4000000 in
set_option maxRecDepth 100000 in
theorem fwrite2 (l : Launch) (G : va_G) (y : Nat → ClassId) (sz : Nat) (ob : Nat) (a2 : Int32) (a3 : Int64) (ob_tape : Nat) (ob_tapeSize : Int32) (ob_reader : Nat) (ob_state : Nat) (ob_images : Nat) (ob_slots : Nat) (ob_rounds : Nat) (ob_ways : Nat) (ob_otherDebts : Nat) (ob_otherKnows : Nat) (ob_slots0 : Nat) (ob_slots1 : Nat) (ob_slots2 : Nat) (ob_slots3 : Nat) (ob_slots2_filled : Int32) (ob_slots2_width : Int32) (ob_slots2_size : Int32) (ob_slots2_numbers : Nat) (fob_slots2_numbers : Nat → Int64) (p_ob_tapeSize : (0 : Int) ≤ ob_tapeSize.toInt ∧ ob_tapeSize.toInt ≤ 1400) (p_ob_slots2_filled : (0 : Int) ≤ ob_slots2_filled.toInt ∧ ob_slots2_filled.toInt ≤ 1) (p_ob_slots2_size : (0 : Int) ≤ ob_slots2_size.toInt ∧ ob_slots2_size.toInt ≤ 60) : Met l yX9_write (Cond.code yX9_write cX9_write 6 (some .int) :: wAll) ({ frames := 1, cells := 0, slots := 0, locals := 22 }) (va_Pc [.ref ob, .int 2, .int a2, .long a3] (kp G y sz [(ce_X9 ob ob_tape ob_tapeSize ob_reader ob_state ob_images ob_slots ob_rounds ob_ways ob_otherDebts ob_otherKnows), (ce_q4 y ob_slots (va_up (va_up (va_up (va_up (fun _ => none) 0 (some ob_slots0)) 1 (some ob_slots1)) 2 (some ob_slots2)) 3 (some ob_slots3))), (ce_X5 ob_slots2 ob_slots2_filled ob_slots2_width ob_slots2_size ob_slots2_numbers), (ce_l60 y ob_slots2_numbers fob_slots2_numbers)])) (va_Qi (fun (r : Int32) (w : va_W) => (((0 : Int) ≤ ob_slots2_filled.toInt ∧ ob_slots2_filled.toInt ≤ 0) ∧ (ob_slots2_filled.toInt = 0) ∧ r = (-6) ∧ w = [(ce_X9 ob ob_tape ob_tapeSize ob_reader ob_state ob_images ob_slots ob_rounds ob_ways ob_otherDebts ob_otherKnows), (ce_q4 y ob_slots (va_up (va_up (va_up (va_up (fun _ => none) 0 (some ob_slots0)) 1 (some ob_slots1)) 2 (some ob_slots2)) 3 (some ob_slots3))), (ce_X5 ob_slots2 ob_slots2_filled ob_slots2_width ob_slots2_size ob_slots2_numbers), (ce_l60 y ob_slots2_numbers fob_slots2_numbers)]) ∨ (((1 : Int) ≤ ob_slots2_filled.toInt ∧ ob_slots2_filled.toInt ≤ 1) ∧ (ob_slots2_filled.toInt = 1 ∧ (a2.toInt < 0 ∨ ob_slots2_size.toInt ≤ a2.toInt)) ∧ r = (-7) ∧ w = [(ce_X9 ob ob_tape ob_tapeSize ob_reader ob_state ob_images ob_slots ob_rounds ob_ways ob_otherDebts ob_otherKnows), (ce_q4 y ob_slots (va_up (va_up (va_up (va_up (fun _ => none) 0 (some ob_slots0)) 1 (some ob_slots1)) 2 (some ob_slots2)) 3 (some ob_slots3))), (ce_X5 ob_slots2 ob_slots2_filled ob_slots2_width ob_slots2_size ob_slots2_numbers), (ce_l60 y ob_slots2_numbers fob_slots2_numbers)]) ∨ (∃ (v_25 : Int32) (f_26 : Nat → Int64), ((0 : Int) ≤ a2.toInt ∧ a2.toInt ≤ 59) ∧ ((1 : Int) ≤ ob_slots2_filled.toInt ∧ ob_slots2_filled.toInt ≤ 1) ∧ ((1 : Int) ≤ ob_slots2_size.toInt ∧ ob_slots2_size.toInt ≤ 60) ∧ (ob_slots2_filled.toInt = 1 ∧ 0 ≤ a2.toInt ∧ a2.toInt < ob_slots2_size.toInt) ∧ (v_25.toInt = ob_slots2_width.toInt) ∧ r = 0 ∧ w = [(ce_X9 ob ob_tape ob_tapeSize ob_reader ob_state ob_images ob_slots ob_rounds ob_ways ob_otherDebts ob_otherKnows), (ce_q4 y ob_slots (va_up (va_up (va_up (va_up (fun _ => none) 0 (some ob_slots0)) 1 (some ob_slots1)) 2 (some ob_slots2)) 3 (some ob_slots3))), (ce_X5 ob_slots2 ob_slots2_filled v_25 ob_slots2_size ob_slots2_numbers), (ce_l60 y ob_slots2_numbers f_26)])) (kq G (va_A [(ce_X9 ob ob_tape ob_tapeSize ob_reader ob_state ob_images ob_slots ob_rounds ob_ways ob_otherDebts ob_otherKnows), (ce_q4 y ob_slots (va_up (va_up (va_up (va_up (fun _ => none) 0 (some ob_slots0)) 1 (some ob_slots1)) 2 (some ob_slots2)) 3 (some ob_slots3))), (ce_X5 ob_slots2 ob_slots2_filled ob_slots2_width ob_slots2_size ob_slots2_numbers), (ce_l60 y ob_slots2_numbers fob_slots2_numbers)] sz)) (va_A [(ce_X9 ob ob_tape ob_tapeSize ob_reader ob_state ob_images ob_slots ob_rounds ob_ways ob_otherDebts ob_otherKnows), (ce_q4 y ob_slots (va_up (va_up (va_up (va_up (fun _ => none) 0 (some ob_slots0)) 1 (some ob_slots1)) 2 (some ob_slots2)) 3 (some ob_slots3))), (ce_X5 ob_slots2 ob_slots2_filled ob_slots2_width ob_slots2_size ob_slots2_numbers), (ce_l60 y ob_slots2_numbers fob_slots2_numbers)] sz)) 0 0 (va_A [(ce_X9 ob ob_tape ob_tapeSize ob_reader ob_state ob_images ob_slots ob_rounds ob_ways ob_otherDebts ob_otherKnows), (ce_q4 y ob_slots (va_up (va_up (va_up (va_up (fun _ => none) 0 (some ob_slots0)) 1 (some ob_slots1)) 2 (some ob_slots2)) 3 (some ob_slots3))), (ce_X5 ob_slots2 ob_slots2_filled ob_slots2_width ob_slots2_size ob_slots2_numbers), (ce_l60 y ob_slots2_numbers fob_slots2_numbers)] sz) := by
  refine Met.ofW (cc := cX9_write) (maxL := 6) (ret := (some .int)) (by decide) rfl ?_
  intro p e s m args below meth c s₁ B hml hv
  obtain ⟨rfl, hsz, hP, hK, hD0⟩ := hv
  have hx := B.exec
  have hb := B.bytes
  have hr := B.returns
  have hw0 : ∀ w ∈ wAll, w.before _ s = true := fun w h => atoms_spec (ws := Cond.code yX9_write cX9_write 6 (some .int) :: wAll) B.pre w (List.mem_cons_of_mem _ h)
  have hown : s.vm.findClass RX9 = some m.cls := findClass_of_methodNamed B.named
  subst hsz
  have hD := hD0.self (sz := s.heap.size)
  generalize hAe : va_A [(ce_X9 ob ob_tape ob_tapeSize ob_reader ob_state ob_images ob_slots ob_rounds ob_ways ob_otherDebts ob_otherKnows), (ce_q4 y ob_slots (va_up (va_up (va_up (va_up (fun _ => none) 0 (some ob_slots0)) 1 (some ob_slots1)) 2 (some ob_slots2)) 3 (some ob_slots3))), (ce_X5 ob_slots2 ob_slots2_filled ob_slots2_width ob_slots2_size ob_slots2_numbers), (ce_l60 y ob_slots2_numbers fob_slots2_numbers)] s.heap.size = A at hD ⊢
  have hA : ∀ q : Nat, s.heap.size ≤ q → A q := fun q h => by rw [← hAe]; exact Or.inr h
  have hS : va_S A s.heap s.heap [] := va_S.rf
  have hP : va_P G vwCl [(ce_X9 ob ob_tape ob_tapeSize ob_reader ob_state ob_images ob_slots ob_rounds ob_ways ob_otherDebts ob_otherKnows), (ce_q4 y ob_slots (va_up (va_up (va_up (va_up (fun _ => none) 0 (some ob_slots0)) 1 (some ob_slots1)) 2 (some ob_slots2)) 3 (some ob_slots3))), (ce_X5 ob_slots2 ob_slots2_filled ob_slots2_width ob_slots2_size ob_slots2_numbers), (ce_l60 y ob_slots2_numbers fob_slots2_numbers)] s.heap := hP
  have hl := lv_entry ([.ref ob, .int 2, .int a2, .long a3]) (n := 6) (Nat.le_of_ble_eq_true rfl)
  rw [lg_entry_eq]
  generalize (lg_sl ([.ref ob, .int 2, .int a2, .long a3]) ++ List.replicate (6 - (lg_sl ([.ref ob, .int 2, .int a2, .long a3])).length) Slot.unset).toArray = ls at hl ⊢
  have hl : lv_has ls 6 [(0, .ref ob), (1, .int 2), (2, .int a2), (3, .long a3)] := hl
  refine lv_iload_n hx hb dX9_write_0 rfl (lv_at hl 1 rfl) ?_
  refine cSim (As := [.int 2]) (rest := []) ⟨hx, hb, hml, hown, hw0⟩ hA hK hP hD hS [] (fisSlot l G y _ 2 ) rfl ⟨(callB_of 1 hw0 (gA m_1260) rfl rfl rfl (hw0 _ m_36) (hw0 _ m_1189) cb_X9_isSlot ⟨Nat.le_of_ble_eq_true rfl, Nat.le_of_ble_eq_true rfl⟩), (hw0 _ m_1190)⟩ rfl hl.1 (Nat.le_of_ble_eq_true rfl) dX9_write_1 ⟨Nat.le_of_ble_eq_true rfl, Nat.le_of_ble_eq_true rfl⟩ (fun r_1001 w_1001 H locs hw_1001 hP hD hS => ?_)
  rcases hw_1001 with ⟨h_1002, rfl, rfl⟩ | ⟨h_1003, h_1004, rfl, rfl⟩
  · skip
    exact False.elim (by have h9 : Int32.toInt 2 = 2 := (by decide); omega)
  · skip
    obtain ⟨hP, hD⟩ : vPD G A H [(ce_X9 ob ob_tape ob_tapeSize ob_reader ob_state ob_images ob_slots ob_rounds ob_ways ob_otherDebts ob_otherKnows), (ce_q4 y ob_slots (va_up (va_up (va_up (va_up (fun _ => none) 0 (some ob_slots0)) 1 (some ob_slots1)) 2 (some ob_slots2)) 3 (some ob_slots3))), (ce_X5 ob_slots2 ob_slots2_filled ob_slots2_width ob_slots2_size ob_slots2_numbers), (ce_l60 y ob_slots2_numbers fob_slots2_numbers)] := ⟨hP, hD⟩
    refine lv_if_ne (tgt := 10) hx hb dX9_write_4 (by decide) (fun _ => ?_) (fun c9 => absurd c9 (by decide))
    refine lv_aload_n hx hb dX9_write_10 rfl (lv_at hl 0 rfl) ?_
    refine va_get (D := G) (ci := 9) (v := .ref ob_slots) (C := RX9) (T := TX9) (N := 10) hx hb hw0 inA_wsX90 hown hK.1 hP 0 rfl rfl 5 (by decide) (hw0 _ m_1191) (fun _ h9 => h9) rfl dX9_write_11 ?_
    refine lv_iload_n hx hb dX9_write_14 rfl (lv_at hl 1 rfl) ?_
    refine va_aldq hx hb hK.1 hP 1 4 rfl rfl (vi (bkc (x := 2) (c := 2) (by decide)) (by decide)) dX9_write_15 ?_
    refine W.eq (g2 := F0 m 16 ls [.ref ob_slots2]) rfl ?_
    refine lv_astore (lv' := [(5, .ref ob_slots2), (0, .ref ob), (1, .int 2), (2, .int a2), (3, .long a3)]) hx hb dX9_write_16 hl (by decide) rfl (fun ls hl => ?_)
    refine lv_aload hx hb dX9_write_18 (lv_at hl 0 rfl) ?_
    refine va_get (D := G) (ci := 5) (v := .int ob_slots2_filled) (C := RX5) (T := TX5) (N := 4) hx hb hw0 inA_wsX50 hown hK.1 hP 2 rfl rfl 0 (by decide) (hw0 _ m_1192) (fun _ h9 => h9) rfl dX9_write_20 ?_
    refine lv_if_ne (tgt := 29) hx hb dX9_write_23 (by decide) (fun c_1005 => ?_) (fun c_1005 => ?_)
    · skip
      have nc_1005 := nb_ne (1) (1) c_1005 p_ob_slots2_filled (k := 0) (by decide) (by decide)
      refine lv_iload_n hx hb dX9_write_29 rfl (lv_at hl 3 rfl) ?_
      refine lv_if_lt (tgt := 42) hx hb dX9_write_30 (by decide) (fun c_1006 => ?_) (fun c_1006 => ?_)
      · skip
        have nc_1006 := nb_lt (-1) (0) c_1006 (btop a2) (bkc (x := 0) (c := 0) (by decide)) (by decide)
        refine lv_bipush (v := (-7)) hx hb dX9_write_42 (by decide) ?_
        exact W.iret (v := (-7)) hx hb hr (fun t ht hW => ⟨⟨(-7), _, rfl, Or.inr (Or.inl (⟨nc_1005.1, by have h90 : Int32.toInt (-7) = -7 := (by decide); have h91 : Int32.toInt 2 = 2 := (by decide); omega, rfl, rfl⟩)), by rw [ht]; exact hP, hD⟩, hS.F ht⟩) hS.2.2 dX9_write_44
      · skip
        have nc_1006 := nb_nlt (0) (0) c_1006 (bkc (x := 0) (c := 0) (by decide)) (btop a2) (by decide)
        refine lv_iload_n hx hb dX9_write_33 rfl (lv_at hl 3 rfl) ?_
        refine lv_aload hx hb dX9_write_34 (lv_at hl 0 rfl) ?_
        refine va_get (D := G) (ci := 5) (v := .int ob_slots2_size) (C := RX5) (T := TX5) (N := 4) hx hb hw0 inA_wsX50 hown hK.1 hP 2 rfl rfl 2 (by decide) (hw0 _ m_1193) (fun _ h9 => h9) rfl dX9_write_36 ?_
        refine lv_icmp_lt (tgt := 45) hx hb dX9_write_39 (by decide) (fun c_1007 => ?_) (fun c_1007 => ?_)
        · skip
          have nc_1007 := nb_lt (59) (1) c_1007 nc_1006.2.1 p_ob_slots2_size (by decide)
          refine lv_aload hx hb dX9_write_45 (lv_at hl 0 rfl) ?_
          refine va_get (D := G) (ci := 5) (v := .ref ob_slots2_numbers) (C := RX5) (T := TX5) (N := 4) hx hb hw0 inA_wsX50 hown hK.1 hP 2 rfl rfl 3 (by decide) (hw0 _ m_1293) (fun _ h9 => h9) rfl dX9_write_47 ?_
          refine lv_iload_n hx hb dX9_write_50 rfl (lv_at hl 3 rfl) ?_
          refine lv_aload hx hb dX9_write_51 (lv_at hl 0 rfl) ?_
          refine lv_lload_n hx hb dX9_write_53 rfl (lv_at hl 4 rfl) ?_
          refine cVlm (As := [.long a3]) (rest := [.int a2, .ref ob_slots2_numbers]) ⟨hx, hb, hml, hown, hw0⟩ hA hK hP hD hS [false, false, true] (sX5_cut l G y _ ob_slots2 a3 ob_slots2_filled ob_slots2_width ob_slots2_size ob_slots2_numbers (bw (0) (1) nc_1005.1 (by decide)) (bw (0) (60) nc_1007.2.1 (by decide))) rfl ⟨(callB_of 1 hw0 (gA m_939) rfl rfl rfl (hw0 _ m_858) (hw0 _ m_1335) cb_X5_cut ⟨Nat.le_of_ble_eq_true rfl, Nat.le_of_ble_eq_true rfl⟩), (hw0 _ m_1336), (hw0 _ m_1337)⟩ (ci := 5) (q := (RX5, TX5, 4)) rfl rfl rfl hl.1 (Nat.le_of_ble_eq_true rfl) dX9_write_54 ⟨Nat.le_of_ble_eq_true rfl, Nat.le_of_ble_eq_true rfl⟩ (fun r_1008 w_1008 H locs hw_1008 hP hD hS => ?_)
          obtain ⟨v_1009, v_1010, h_1011, er_1008, rfl⟩ := hw_1008
          subst r_1008
          obtain ⟨hP, hD⟩ : vPD G A H [(ce_X9 ob ob_tape ob_tapeSize ob_reader ob_state ob_images ob_slots ob_rounds ob_ways ob_otherDebts ob_otherKnows), (ce_q4 y ob_slots (va_up (va_up (va_up (va_up (fun _ => none) 0 (some ob_slots0)) 1 (some ob_slots1)) 2 (some ob_slots2)) 3 (some ob_slots3))), (ce_X5 ob_slots2 ob_slots2_filled v_1010 ob_slots2_size ob_slots2_numbers), (ce_l60 y ob_slots2_numbers fob_slots2_numbers)] := ⟨hP, hD⟩
          refine va_last hx hb hK.1 hP hD hS 3 2 rfl rfl (vi nc_1007.1 (by decide)) dX9_write_57 (fun H locs hP hD hS => ?_)
          generalize hf_1012 : (vp_updL fob_slots2_numbers (a2 : Int32).toNatClampNeg v_1009) = f_1012 at hP hD
          obtain ⟨hP, hD⟩ : vPD G A H [(ce_X9 ob ob_tape ob_tapeSize ob_reader ob_state ob_images ob_slots ob_rounds ob_ways ob_otherDebts ob_otherKnows), (ce_q4 y ob_slots (va_up (va_up (va_up (va_up (fun _ => none) 0 (some ob_slots0)) 1 (some ob_slots1)) 2 (some ob_slots2)) 3 (some ob_slots3))), (ce_X5 ob_slots2 ob_slots2_filled v_1010 ob_slots2_size ob_slots2_numbers), (ce_l60 y ob_slots2_numbers f_1012)] := ⟨hP, hD⟩
          refine lv_iconst (v := 0) hx hb dX9_write_58 (by decide) ?_
          exact W.iret (v := 0) hx hb hr (fun t ht hW => ⟨⟨0, _, rfl, Or.inr (Or.inr (⟨v_1010, f_1012, nc_1007.1, nc_1005.1, nc_1007.2.1, by have h90 : Int32.toInt 0 = 0 := (by decide); have h91 : Int32.toInt 2 = 2 := (by decide); omega, by have h90 : Int32.toInt 0 = 0 := (by decide); have h91 : Int32.toInt 2 = 2 := (by decide); omega, rfl, rfl⟩)), by rw [ht]; exact hP, hD⟩, hS.F ht⟩) hS.2.2 dX9_write_59
        · skip
          have nc_1007 := nb_nlt (60) (0) c_1007 p_ob_slots2_size nc_1006.2.1 (by decide)
          refine lv_bipush (v := (-7)) hx hb dX9_write_42 (by decide) ?_
          exact W.iret (v := (-7)) hx hb hr (fun t ht hW => ⟨⟨(-7), _, rfl, Or.inr (Or.inl (⟨nc_1005.1, by have h90 : Int32.toInt (-7) = -7 := (by decide); have h91 : Int32.toInt 2 = 2 := (by decide); omega, rfl, rfl⟩)), by rw [ht]; exact hP, hD⟩, hS.F ht⟩) hS.2.2 dX9_write_44
    · skip
      have nc_1005 := nb_eq (0) (0) c_1005 p_ob_slots2_filled (bkc (x := 0) (c := 0) (by decide)) (by decide)
      refine lv_bipush (v := (-6)) hx hb dX9_write_26 (by decide) ?_
      exact W.iret (v := (-6)) hx hb hr (fun t ht hW => ⟨⟨(-6), _, rfl, Or.inl (⟨nc_1005.1, by have h90 : Int32.toInt (-6) = -6 := (by decide); have h91 : Int32.toInt 2 = 2 := (by decide); omega, rfl, rfl⟩), by rw [ht]; exact hP, hD⟩, hS.F ht⟩) hS.2.2 dX9_write_28

set_option maxHeartbeats 4000000 in
set_option maxRecDepth 100000 in
theorem frow3 (l : Launch) (G : va_G) (y : Nat → ClassId) (sz : Nat) (ob : Nat) (a2 : Int32) (a3 : Int32) (ob_tape : Nat) (ob_tapeSize : Int32) (ob_reader : Nat) (ob_state : Nat) (ob_images : Nat) (ob_slots : Nat) (ob_rounds : Nat) (ob_ways : Nat) (ob_otherDebts : Nat) (ob_otherKnows : Nat) (ob_slots0 : Nat) (ob_slots1 : Nat) (ob_slots2 : Nat) (ob_slots3 : Nat) (ob_slots3_filled : Int32) (ob_slots3_width : Int32) (ob_slots3_size : Int32) (ob_slots3_numbers : Nat) (fob_slots3_numbers : Nat → Int64) (p_ob_tapeSize : (0 : Int) ≤ ob_tapeSize.toInt ∧ ob_tapeSize.toInt ≤ 1400) (p_ob_slots3_filled : (0 : Int) ≤ ob_slots3_filled.toInt ∧ ob_slots3_filled.toInt ≤ 1) (p_ob_slots3_size : (0 : Int) ≤ ob_slots3_size.toInt ∧ ob_slots3_size.toInt ≤ 60) : Met l yX9_row (Cond.code yX9_row cX9_row 4 (some .int) :: wAll) ({ frames := 2, cells := 0, slots := 0, locals := 46 }) (va_Pc [.ref ob, .int 3, .int a2, .int a3] (kp G y sz [(ce_X9 ob ob_tape ob_tapeSize ob_reader ob_state ob_images ob_slots ob_rounds ob_ways ob_otherDebts ob_otherKnows), (ce_q4 y ob_slots (va_up (va_up (va_up (va_up (fun _ => none) 0 (some ob_slots0)) 1 (some ob_slots1)) 2 (some ob_slots2)) 3 (some ob_slots3))), (ce_X5 ob_slots3 ob_slots3_filled ob_slots3_width ob_slots3_size ob_slots3_numbers), (ce_l60 y ob_slots3_numbers fob_slots3_numbers)])) (va_Qi (fun (r : Int32) (w : va_W) => ((a2.toInt < 0 ∨ 3 < a2.toInt ∨ 60 < a3.toInt) ∧ r = (-2) ∧ w = [(ce_X9 ob ob_tape ob_tapeSize ob_reader ob_state ob_images ob_slots ob_rounds ob_ways ob_otherDebts ob_otherKnows), (ce_q4 y ob_slots (va_up (va_up (va_up (va_up (fun _ => none) 0 (some ob_slots0)) 1 (some ob_slots1)) 2 (some ob_slots2)) 3 (some ob_slots3))), (ce_X5 ob_slots3 ob_slots3_filled ob_slots3_width ob_slots3_size ob_slots3_numbers), (ce_l60 y ob_slots3_numbers fob_slots3_numbers)]) ∨ (((0 : Int) ≤ a2.toInt ∧ a2.toInt ≤ 3) ∧ (0 ≤ a2.toInt ∧ a2.toInt ≤ 3 ∧ a3.toInt < 0) ∧ r = (-3) ∧ w = [(ce_X9 ob ob_tape ob_tapeSize ob_reader ob_state ob_images ob_slots ob_rounds ob_ways ob_otherDebts ob_otherKnows), (ce_q4 y ob_slots (va_up (va_up (va_up (va_up (fun _ => none) 0 (some ob_slots0)) 1 (some ob_slots1)) 2 (some ob_slots2)) 3 (some ob_slots3))), (ce_X5 ob_slots3 ob_slots3_filled ob_slots3_width ob_slots3_size ob_slots3_numbers), (ce_l60 y ob_slots3_numbers fob_slots3_numbers)]) ∨ (∃ (f_21 : Nat → Int64), ((0 : Int) ≤ a2.toInt ∧ a2.toInt ≤ 3) ∧ ((0 : Int) ≤ a3.toInt ∧ a3.toInt ≤ 60) ∧ (0 ≤ a2.toInt ∧ a2.toInt ≤ 3 ∧ 0 ≤ a3.toInt ∧ a3.toInt ≤ 60) ∧ r = 0 ∧ w = [(ce_X9 ob ob_tape ob_tapeSize ob_reader ob_state ob_images ob_slots ob_rounds ob_ways ob_otherDebts ob_otherKnows), (ce_q4 y ob_slots (va_up (va_up (va_up (va_up (fun _ => none) 0 (some ob_slots0)) 1 (some ob_slots1)) 2 (some ob_slots2)) 3 (some ob_slots3))), (ce_X5 ob_slots3 1 a2 a3 ob_slots3_numbers), (ce_l60 y ob_slots3_numbers f_21)])) (kq G (va_A [(ce_X9 ob ob_tape ob_tapeSize ob_reader ob_state ob_images ob_slots ob_rounds ob_ways ob_otherDebts ob_otherKnows), (ce_q4 y ob_slots (va_up (va_up (va_up (va_up (fun _ => none) 0 (some ob_slots0)) 1 (some ob_slots1)) 2 (some ob_slots2)) 3 (some ob_slots3))), (ce_X5 ob_slots3 ob_slots3_filled ob_slots3_width ob_slots3_size ob_slots3_numbers), (ce_l60 y ob_slots3_numbers fob_slots3_numbers)] sz)) (va_A [(ce_X9 ob ob_tape ob_tapeSize ob_reader ob_state ob_images ob_slots ob_rounds ob_ways ob_otherDebts ob_otherKnows), (ce_q4 y ob_slots (va_up (va_up (va_up (va_up (fun _ => none) 0 (some ob_slots0)) 1 (some ob_slots1)) 2 (some ob_slots2)) 3 (some ob_slots3))), (ce_X5 ob_slots3 ob_slots3_filled ob_slots3_width ob_slots3_size ob_slots3_numbers), (ce_l60 y ob_slots3_numbers fob_slots3_numbers)] sz)) 0 0 (va_A [(ce_X9 ob ob_tape ob_tapeSize ob_reader ob_state ob_images ob_slots ob_rounds ob_ways ob_otherDebts ob_otherKnows), (ce_q4 y ob_slots (va_up (va_up (va_up (va_up (fun _ => none) 0 (some ob_slots0)) 1 (some ob_slots1)) 2 (some ob_slots2)) 3 (some ob_slots3))), (ce_X5 ob_slots3 ob_slots3_filled ob_slots3_width ob_slots3_size ob_slots3_numbers), (ce_l60 y ob_slots3_numbers fob_slots3_numbers)] sz) := by
  refine Met.ofW (cc := cX9_row) (maxL := 4) (ret := (some .int)) (by decide) rfl ?_
  intro p e s m args below meth c s₁ B hml hv
  obtain ⟨rfl, hsz, hP, hK, hD0⟩ := hv
  have hx := B.exec
  have hb := B.bytes
  have hr := B.returns
  have hw0 : ∀ w ∈ wAll, w.before _ s = true := fun w h => atoms_spec (ws := Cond.code yX9_row cX9_row 4 (some .int) :: wAll) B.pre w (List.mem_cons_of_mem _ h)
  have hown : s.vm.findClass RX9 = some m.cls := findClass_of_methodNamed B.named
  subst hsz
  have hD := hD0.self (sz := s.heap.size)
  generalize hAe : va_A [(ce_X9 ob ob_tape ob_tapeSize ob_reader ob_state ob_images ob_slots ob_rounds ob_ways ob_otherDebts ob_otherKnows), (ce_q4 y ob_slots (va_up (va_up (va_up (va_up (fun _ => none) 0 (some ob_slots0)) 1 (some ob_slots1)) 2 (some ob_slots2)) 3 (some ob_slots3))), (ce_X5 ob_slots3 ob_slots3_filled ob_slots3_width ob_slots3_size ob_slots3_numbers), (ce_l60 y ob_slots3_numbers fob_slots3_numbers)] s.heap.size = A at hD ⊢
  have hA : ∀ q : Nat, s.heap.size ≤ q → A q := fun q h => by rw [← hAe]; exact Or.inr h
  have hS : va_S A s.heap s.heap [] := va_S.rf
  have hP : va_P G vwCl [(ce_X9 ob ob_tape ob_tapeSize ob_reader ob_state ob_images ob_slots ob_rounds ob_ways ob_otherDebts ob_otherKnows), (ce_q4 y ob_slots (va_up (va_up (va_up (va_up (fun _ => none) 0 (some ob_slots0)) 1 (some ob_slots1)) 2 (some ob_slots2)) 3 (some ob_slots3))), (ce_X5 ob_slots3 ob_slots3_filled ob_slots3_width ob_slots3_size ob_slots3_numbers), (ce_l60 y ob_slots3_numbers fob_slots3_numbers)] s.heap := hP
  have hl := lv_entry ([.ref ob, .int 3, .int a2, .int a3]) (n := 4) (Nat.le_of_ble_eq_true rfl)
  rw [lg_entry_eq]
  generalize (lg_sl ([.ref ob, .int 3, .int a2, .int a3]) ++ List.replicate (4 - (lg_sl ([.ref ob, .int 3, .int a2, .int a3])).length) Slot.unset).toArray = ls at hl ⊢
  have hl : lv_has ls 4 [(0, .ref ob), (1, .int 3), (2, .int a2), (3, .int a3)] := hl
  refine lv_iload_n hx hb dX9_row_0 rfl (lv_at hl 1 rfl) ?_
  refine cSim (As := [.int 3]) (rest := []) ⟨hx, hb, hml, hown, hw0⟩ hA hK hP hD hS [] (fisSlot l G y _ 3 ) rfl ⟨(callB_of 1 hw0 (gA m_1260) rfl rfl rfl (hw0 _ m_36) (hw0 _ m_1189) cb_X9_isSlot ⟨Nat.le_of_ble_eq_true rfl, Nat.le_of_ble_eq_true rfl⟩), (hw0 _ m_1190)⟩ rfl hl.1 (Nat.le_of_ble_eq_true rfl) dX9_row_1 ⟨Nat.le_of_ble_eq_true rfl, Nat.le_of_ble_eq_true rfl⟩ (fun r_1001 w_1001 H locs hw_1001 hP hD hS => ?_)
  rcases hw_1001 with ⟨h_1002, rfl, rfl⟩ | ⟨h_1003, h_1004, rfl, rfl⟩
  · skip
    exact False.elim (by have h9 : Int32.toInt 3 = 3 := (by decide); omega)
  · skip
    obtain ⟨hP, hD⟩ : vPD G A H [(ce_X9 ob ob_tape ob_tapeSize ob_reader ob_state ob_images ob_slots ob_rounds ob_ways ob_otherDebts ob_otherKnows), (ce_q4 y ob_slots (va_up (va_up (va_up (va_up (fun _ => none) 0 (some ob_slots0)) 1 (some ob_slots1)) 2 (some ob_slots2)) 3 (some ob_slots3))), (ce_X5 ob_slots3 ob_slots3_filled ob_slots3_width ob_slots3_size ob_slots3_numbers), (ce_l60 y ob_slots3_numbers fob_slots3_numbers)] := ⟨hP, hD⟩
    refine lv_if_eq (tgt := 22) hx hb dX9_row_4 (by decide) (fun c9 => absurd c9 (by decide)) (fun _ => ?_)
    refine lv_iload_n hx hb dX9_row_7 rfl (lv_at hl 2 rfl) ?_
    refine lv_if_lt (tgt := 22) hx hb dX9_row_8 (by decide) (fun c_1005 => ?_) (fun c_1005 => ?_)
    · skip
      have nc_1005 := nb_lt (-1) (0) c_1005 (btop a2) (bkc (x := 0) (c := 0) (by decide)) (by decide)
      refine lv_bipush (v := (-2)) hx hb dX9_row_22 (by decide) ?_
      exact W.iret (v := (-2)) hx hb hr (fun t ht hW => ⟨⟨(-2), _, rfl, Or.inl (⟨by have h90 : Int32.toInt (-2) = -2 := (by decide); have h91 : Int32.toInt 3 = 3 := (by decide); omega, rfl, rfl⟩), by rw [ht]; exact hP, hD⟩, hS.F ht⟩) hS.2.2 dX9_row_24
    · skip
      have nc_1005 := nb_nlt (0) (0) c_1005 (bkc (x := 0) (c := 0) (by decide)) (btop a2) (by decide)
      refine lv_iload_n hx hb dX9_row_11 rfl (lv_at hl 2 rfl) ?_
      refine lv_iconst (v := 4) hx hb dX9_row_12 (by decide) ?_
      refine lv_icmp_ge (tgt := 22) hx hb dX9_row_13 (by decide) (fun c_1006 => ?_) (fun c_1006 => ?_)
      · skip
        have nc_1006 := nb_le (4) (4) c_1006 (bkc (x := 4) (c := 4) (by decide)) nc_1005.2.1 (by decide)
        refine lv_bipush (v := (-2)) hx hb dX9_row_22 (by decide) ?_
        exact W.iret (v := (-2)) hx hb hr (fun t ht hW => ⟨⟨(-2), _, rfl, Or.inl (⟨by have h90 : Int32.toInt (-2) = -2 := (by decide); have h91 : Int32.toInt 3 = 3 := (by decide); omega, rfl, rfl⟩), by rw [ht]; exact hP, hD⟩, hS.F ht⟩) hS.2.2 dX9_row_24
      · skip
        have nc_1006 := nb_nle (3) (4) c_1006 nc_1005.2.1 (bkc (x := 4) (c := 4) (by decide)) (by decide)
        refine lv_iload_n hx hb dX9_row_16 rfl (lv_at hl 3 rfl) ?_
        refine lv_bipush (v := 60) hx hb dX9_row_17 (by decide) ?_
        refine lv_icmp_le (tgt := 25) hx hb dX9_row_19 (by decide) (fun c_1007 => ?_) (fun c_1007 => ?_)
        · skip
          have nc_1007 := nb_le (60) (60) c_1007 (btop a3) (bkc (x := 60) (c := 60) (by decide)) (by decide)
          refine lv_iload_n hx hb dX9_row_25 rfl (lv_at hl 3 rfl) ?_
          refine lv_if_ge (tgt := 32) hx hb dX9_row_26 (by decide) (fun c_1008 => ?_) (fun c_1008 => ?_)
          · skip
            have nc_1008 := nb_le (0) (0) c_1008 (bkc (x := 0) (c := 0) (by decide)) nc_1007.1 (by decide)
            refine lv_aload_n hx hb dX9_row_32 rfl (lv_at hl 0 rfl) ?_
            refine va_get (D := G) (ci := 9) (v := .ref ob_slots) (C := RX9) (T := TX9) (N := 10) hx hb hw0 inA_wsX90 hown hK.1 hP 0 rfl rfl 5 (by decide) (hw0 _ m_1191) (fun _ h9 => h9) rfl dX9_row_33 ?_
            refine lv_iload_n hx hb dX9_row_36 rfl (lv_at hl 1 rfl) ?_
            refine va_aldq hx hb hK.1 hP 1 4 rfl rfl (vi (bkc (x := 3) (c := 3) (by decide)) (by decide)) dX9_row_37 ?_
            refine W.eq (g2 := F0 m 38 ls [.ref ob_slots3]) rfl ?_
            refine lv_iload_n hx hb dX9_row_38 rfl (lv_at hl 2 rfl) ?_
            refine lv_iload_n hx hb dX9_row_39 rfl (lv_at hl 3 rfl) ?_
            refine cVvm (As := [.int a2, .int a3]) (rest := []) ⟨hx, hb, hml, hown, hw0⟩ hA hK hP hD hS [false, false, true, true] (sX5_lay l G y _ ob_slots3 a2 a3 ob_slots3_filled ob_slots3_width ob_slots3_size ob_slots3_numbers fob_slots3_numbers p_ob_slots3_filled p_ob_slots3_size nc_1008.2.1) rfl ⟨(callB_of 2 hw0 (gA m_946) rfl rfl rfl (hw0 _ m_858) (hw0 _ m_1316) cb_X5_lay ⟨Nat.le_of_ble_eq_true rfl, Nat.le_of_ble_eq_true rfl⟩), (hw0 _ m_1317), (hw0 _ m_1318)⟩ (ci := 5) (q := (RX5, TX5, 4)) rfl rfl rfl hl.1 (Nat.le_of_ble_eq_true rfl) dX9_row_40 ⟨Nat.le_of_ble_eq_true rfl, Nat.le_of_ble_eq_true rfl⟩ (fun w_1009 H locs hw_1009 hP hD hS => ?_)
            obtain ⟨f_1010, rfl⟩ := hw_1009
            obtain ⟨hP, hD⟩ : vPD G A H [(ce_X9 ob ob_tape ob_tapeSize ob_reader ob_state ob_images ob_slots ob_rounds ob_ways ob_otherDebts ob_otherKnows), (ce_q4 y ob_slots (va_up (va_up (va_up (va_up (fun _ => none) 0 (some ob_slots0)) 1 (some ob_slots1)) 2 (some ob_slots2)) 3 (some ob_slots3))), (ce_X5 ob_slots3 1 a2 a3 ob_slots3_numbers), (ce_l60 y ob_slots3_numbers f_1010)] := ⟨hP, hD⟩
            refine lv_iconst (v := 0) hx hb dX9_row_43 (by decide) ?_
            exact W.iret (v := 0) hx hb hr (fun t ht hW => ⟨⟨0, _, rfl, Or.inr (Or.inr (⟨f_1010, nc_1006.1, nc_1008.2.1, by have h90 : Int32.toInt 0 = 0 := (by decide); have h91 : Int32.toInt 1 = 1 := (by decide); have h92 : Int32.toInt 3 = 3 := (by decide); omega, rfl, rfl⟩)), by rw [ht]; exact hP, hD⟩, hS.F ht⟩) hS.2.2 dX9_row_44
          · skip
            have nc_1008 := nb_nle (-1) (0) c_1008 nc_1007.1 (bkc (x := 0) (c := 0) (by decide)) (by decide)
            refine lv_bipush (v := (-3)) hx hb dX9_row_29 (by decide) ?_
            exact W.iret (v := (-3)) hx hb hr (fun t ht hW => ⟨⟨(-3), _, rfl, Or.inr (Or.inl (⟨nc_1006.1, by have h90 : Int32.toInt (-3) = -3 := (by decide); have h91 : Int32.toInt 3 = 3 := (by decide); omega, rfl, rfl⟩)), by rw [ht]; exact hP, hD⟩, hS.F ht⟩) hS.2.2 dX9_row_31
        · skip
          have nc_1007 := nb_nle (60) (61) c_1007 (bkc (x := 60) (c := 60) (by decide)) (btop a3) (by decide)
          refine lv_bipush (v := (-2)) hx hb dX9_row_22 (by decide) ?_
          exact W.iret (v := (-2)) hx hb hr (fun t ht hW => ⟨⟨(-2), _, rfl, Or.inl (⟨by have h90 : Int32.toInt (-2) = -2 := (by decide); have h91 : Int32.toInt 3 = 3 := (by decide); omega, rfl, rfl⟩), by rw [ht]; exact hP, hD⟩, hS.F ht⟩) hS.2.2 dX9_row_24

set_option maxHeartbeats 4000000 in
set_option maxRecDepth 100000 in
theorem fwrite3 (l : Launch) (G : va_G) (y : Nat → ClassId) (sz : Nat) (ob : Nat) (a2 : Int32) (a3 : Int64) (ob_tape : Nat) (ob_tapeSize : Int32) (ob_reader : Nat) (ob_state : Nat) (ob_images : Nat) (ob_slots : Nat) (ob_rounds : Nat) (ob_ways : Nat) (ob_otherDebts : Nat) (ob_otherKnows : Nat) (ob_slots0 : Nat) (ob_slots1 : Nat) (ob_slots2 : Nat) (ob_slots3 : Nat) (ob_slots3_filled : Int32) (ob_slots3_width : Int32) (ob_slots3_size : Int32) (ob_slots3_numbers : Nat) (fob_slots3_numbers : Nat → Int64) (p_ob_tapeSize : (0 : Int) ≤ ob_tapeSize.toInt ∧ ob_tapeSize.toInt ≤ 1400) (p_ob_slots3_filled : (0 : Int) ≤ ob_slots3_filled.toInt ∧ ob_slots3_filled.toInt ≤ 1) (p_ob_slots3_size : (0 : Int) ≤ ob_slots3_size.toInt ∧ ob_slots3_size.toInt ≤ 60) : Met l yX9_write (Cond.code yX9_write cX9_write 6 (some .int) :: wAll) ({ frames := 1, cells := 0, slots := 0, locals := 22 }) (va_Pc [.ref ob, .int 3, .int a2, .long a3] (kp G y sz [(ce_X9 ob ob_tape ob_tapeSize ob_reader ob_state ob_images ob_slots ob_rounds ob_ways ob_otherDebts ob_otherKnows), (ce_q4 y ob_slots (va_up (va_up (va_up (va_up (fun _ => none) 0 (some ob_slots0)) 1 (some ob_slots1)) 2 (some ob_slots2)) 3 (some ob_slots3))), (ce_X5 ob_slots3 ob_slots3_filled ob_slots3_width ob_slots3_size ob_slots3_numbers), (ce_l60 y ob_slots3_numbers fob_slots3_numbers)])) (va_Qi (fun (r : Int32) (w : va_W) => (((0 : Int) ≤ ob_slots3_filled.toInt ∧ ob_slots3_filled.toInt ≤ 0) ∧ (ob_slots3_filled.toInt = 0) ∧ r = (-6) ∧ w = [(ce_X9 ob ob_tape ob_tapeSize ob_reader ob_state ob_images ob_slots ob_rounds ob_ways ob_otherDebts ob_otherKnows), (ce_q4 y ob_slots (va_up (va_up (va_up (va_up (fun _ => none) 0 (some ob_slots0)) 1 (some ob_slots1)) 2 (some ob_slots2)) 3 (some ob_slots3))), (ce_X5 ob_slots3 ob_slots3_filled ob_slots3_width ob_slots3_size ob_slots3_numbers), (ce_l60 y ob_slots3_numbers fob_slots3_numbers)]) ∨ (((1 : Int) ≤ ob_slots3_filled.toInt ∧ ob_slots3_filled.toInt ≤ 1) ∧ (ob_slots3_filled.toInt = 1 ∧ (a2.toInt < 0 ∨ ob_slots3_size.toInt ≤ a2.toInt)) ∧ r = (-7) ∧ w = [(ce_X9 ob ob_tape ob_tapeSize ob_reader ob_state ob_images ob_slots ob_rounds ob_ways ob_otherDebts ob_otherKnows), (ce_q4 y ob_slots (va_up (va_up (va_up (va_up (fun _ => none) 0 (some ob_slots0)) 1 (some ob_slots1)) 2 (some ob_slots2)) 3 (some ob_slots3))), (ce_X5 ob_slots3 ob_slots3_filled ob_slots3_width ob_slots3_size ob_slots3_numbers), (ce_l60 y ob_slots3_numbers fob_slots3_numbers)]) ∨ (∃ (v_25 : Int32) (f_26 : Nat → Int64), ((0 : Int) ≤ a2.toInt ∧ a2.toInt ≤ 59) ∧ ((1 : Int) ≤ ob_slots3_filled.toInt ∧ ob_slots3_filled.toInt ≤ 1) ∧ ((1 : Int) ≤ ob_slots3_size.toInt ∧ ob_slots3_size.toInt ≤ 60) ∧ (ob_slots3_filled.toInt = 1 ∧ 0 ≤ a2.toInt ∧ a2.toInt < ob_slots3_size.toInt) ∧ (v_25.toInt = ob_slots3_width.toInt) ∧ r = 0 ∧ w = [(ce_X9 ob ob_tape ob_tapeSize ob_reader ob_state ob_images ob_slots ob_rounds ob_ways ob_otherDebts ob_otherKnows), (ce_q4 y ob_slots (va_up (va_up (va_up (va_up (fun _ => none) 0 (some ob_slots0)) 1 (some ob_slots1)) 2 (some ob_slots2)) 3 (some ob_slots3))), (ce_X5 ob_slots3 ob_slots3_filled v_25 ob_slots3_size ob_slots3_numbers), (ce_l60 y ob_slots3_numbers f_26)])) (kq G (va_A [(ce_X9 ob ob_tape ob_tapeSize ob_reader ob_state ob_images ob_slots ob_rounds ob_ways ob_otherDebts ob_otherKnows), (ce_q4 y ob_slots (va_up (va_up (va_up (va_up (fun _ => none) 0 (some ob_slots0)) 1 (some ob_slots1)) 2 (some ob_slots2)) 3 (some ob_slots3))), (ce_X5 ob_slots3 ob_slots3_filled ob_slots3_width ob_slots3_size ob_slots3_numbers), (ce_l60 y ob_slots3_numbers fob_slots3_numbers)] sz)) (va_A [(ce_X9 ob ob_tape ob_tapeSize ob_reader ob_state ob_images ob_slots ob_rounds ob_ways ob_otherDebts ob_otherKnows), (ce_q4 y ob_slots (va_up (va_up (va_up (va_up (fun _ => none) 0 (some ob_slots0)) 1 (some ob_slots1)) 2 (some ob_slots2)) 3 (some ob_slots3))), (ce_X5 ob_slots3 ob_slots3_filled ob_slots3_width ob_slots3_size ob_slots3_numbers), (ce_l60 y ob_slots3_numbers fob_slots3_numbers)] sz)) 0 0 (va_A [(ce_X9 ob ob_tape ob_tapeSize ob_reader ob_state ob_images ob_slots ob_rounds ob_ways ob_otherDebts ob_otherKnows), (ce_q4 y ob_slots (va_up (va_up (va_up (va_up (fun _ => none) 0 (some ob_slots0)) 1 (some ob_slots1)) 2 (some ob_slots2)) 3 (some ob_slots3))), (ce_X5 ob_slots3 ob_slots3_filled ob_slots3_width ob_slots3_size ob_slots3_numbers), (ce_l60 y ob_slots3_numbers fob_slots3_numbers)] sz) := by
  refine Met.ofW (cc := cX9_write) (maxL := 6) (ret := (some .int)) (by decide) rfl ?_
  intro p e s m args below meth c s₁ B hml hv
  obtain ⟨rfl, hsz, hP, hK, hD0⟩ := hv
  have hx := B.exec
  have hb := B.bytes
  have hr := B.returns
  have hw0 : ∀ w ∈ wAll, w.before _ s = true := fun w h => atoms_spec (ws := Cond.code yX9_write cX9_write 6 (some .int) :: wAll) B.pre w (List.mem_cons_of_mem _ h)
  have hown : s.vm.findClass RX9 = some m.cls := findClass_of_methodNamed B.named
  subst hsz
  have hD := hD0.self (sz := s.heap.size)
  generalize hAe : va_A [(ce_X9 ob ob_tape ob_tapeSize ob_reader ob_state ob_images ob_slots ob_rounds ob_ways ob_otherDebts ob_otherKnows), (ce_q4 y ob_slots (va_up (va_up (va_up (va_up (fun _ => none) 0 (some ob_slots0)) 1 (some ob_slots1)) 2 (some ob_slots2)) 3 (some ob_slots3))), (ce_X5 ob_slots3 ob_slots3_filled ob_slots3_width ob_slots3_size ob_slots3_numbers), (ce_l60 y ob_slots3_numbers fob_slots3_numbers)] s.heap.size = A at hD ⊢
  have hA : ∀ q : Nat, s.heap.size ≤ q → A q := fun q h => by rw [← hAe]; exact Or.inr h
  have hS : va_S A s.heap s.heap [] := va_S.rf
  have hP : va_P G vwCl [(ce_X9 ob ob_tape ob_tapeSize ob_reader ob_state ob_images ob_slots ob_rounds ob_ways ob_otherDebts ob_otherKnows), (ce_q4 y ob_slots (va_up (va_up (va_up (va_up (fun _ => none) 0 (some ob_slots0)) 1 (some ob_slots1)) 2 (some ob_slots2)) 3 (some ob_slots3))), (ce_X5 ob_slots3 ob_slots3_filled ob_slots3_width ob_slots3_size ob_slots3_numbers), (ce_l60 y ob_slots3_numbers fob_slots3_numbers)] s.heap := hP
  have hl := lv_entry ([.ref ob, .int 3, .int a2, .long a3]) (n := 6) (Nat.le_of_ble_eq_true rfl)
  rw [lg_entry_eq]
  generalize (lg_sl ([.ref ob, .int 3, .int a2, .long a3]) ++ List.replicate (6 - (lg_sl ([.ref ob, .int 3, .int a2, .long a3])).length) Slot.unset).toArray = ls at hl ⊢
  have hl : lv_has ls 6 [(0, .ref ob), (1, .int 3), (2, .int a2), (3, .long a3)] := hl
  refine lv_iload_n hx hb dX9_write_0 rfl (lv_at hl 1 rfl) ?_
  refine cSim (As := [.int 3]) (rest := []) ⟨hx, hb, hml, hown, hw0⟩ hA hK hP hD hS [] (fisSlot l G y _ 3 ) rfl ⟨(callB_of 1 hw0 (gA m_1260) rfl rfl rfl (hw0 _ m_36) (hw0 _ m_1189) cb_X9_isSlot ⟨Nat.le_of_ble_eq_true rfl, Nat.le_of_ble_eq_true rfl⟩), (hw0 _ m_1190)⟩ rfl hl.1 (Nat.le_of_ble_eq_true rfl) dX9_write_1 ⟨Nat.le_of_ble_eq_true rfl, Nat.le_of_ble_eq_true rfl⟩ (fun r_1001 w_1001 H locs hw_1001 hP hD hS => ?_)
  rcases hw_1001 with ⟨h_1002, rfl, rfl⟩ | ⟨h_1003, h_1004, rfl, rfl⟩
  · skip
    exact False.elim (by have h9 : Int32.toInt 3 = 3 := (by decide); omega)
  · skip
    obtain ⟨hP, hD⟩ : vPD G A H [(ce_X9 ob ob_tape ob_tapeSize ob_reader ob_state ob_images ob_slots ob_rounds ob_ways ob_otherDebts ob_otherKnows), (ce_q4 y ob_slots (va_up (va_up (va_up (va_up (fun _ => none) 0 (some ob_slots0)) 1 (some ob_slots1)) 2 (some ob_slots2)) 3 (some ob_slots3))), (ce_X5 ob_slots3 ob_slots3_filled ob_slots3_width ob_slots3_size ob_slots3_numbers), (ce_l60 y ob_slots3_numbers fob_slots3_numbers)] := ⟨hP, hD⟩
    refine lv_if_ne (tgt := 10) hx hb dX9_write_4 (by decide) (fun _ => ?_) (fun c9 => absurd c9 (by decide))
    refine lv_aload_n hx hb dX9_write_10 rfl (lv_at hl 0 rfl) ?_
    refine va_get (D := G) (ci := 9) (v := .ref ob_slots) (C := RX9) (T := TX9) (N := 10) hx hb hw0 inA_wsX90 hown hK.1 hP 0 rfl rfl 5 (by decide) (hw0 _ m_1191) (fun _ h9 => h9) rfl dX9_write_11 ?_
    refine lv_iload_n hx hb dX9_write_14 rfl (lv_at hl 1 rfl) ?_
    refine va_aldq hx hb hK.1 hP 1 4 rfl rfl (vi (bkc (x := 3) (c := 3) (by decide)) (by decide)) dX9_write_15 ?_
    refine W.eq (g2 := F0 m 16 ls [.ref ob_slots3]) rfl ?_
    refine lv_astore (lv' := [(5, .ref ob_slots3), (0, .ref ob), (1, .int 3), (2, .int a2), (3, .long a3)]) hx hb dX9_write_16 hl (by decide) rfl (fun ls hl => ?_)
    refine lv_aload hx hb dX9_write_18 (lv_at hl 0 rfl) ?_
    refine va_get (D := G) (ci := 5) (v := .int ob_slots3_filled) (C := RX5) (T := TX5) (N := 4) hx hb hw0 inA_wsX50 hown hK.1 hP 2 rfl rfl 0 (by decide) (hw0 _ m_1192) (fun _ h9 => h9) rfl dX9_write_20 ?_
    refine lv_if_ne (tgt := 29) hx hb dX9_write_23 (by decide) (fun c_1005 => ?_) (fun c_1005 => ?_)
    · skip
      have nc_1005 := nb_ne (1) (1) c_1005 p_ob_slots3_filled (k := 0) (by decide) (by decide)
      refine lv_iload_n hx hb dX9_write_29 rfl (lv_at hl 3 rfl) ?_
      refine lv_if_lt (tgt := 42) hx hb dX9_write_30 (by decide) (fun c_1006 => ?_) (fun c_1006 => ?_)
      · skip
        have nc_1006 := nb_lt (-1) (0) c_1006 (btop a2) (bkc (x := 0) (c := 0) (by decide)) (by decide)
        refine lv_bipush (v := (-7)) hx hb dX9_write_42 (by decide) ?_
        exact W.iret (v := (-7)) hx hb hr (fun t ht hW => ⟨⟨(-7), _, rfl, Or.inr (Or.inl (⟨nc_1005.1, by have h90 : Int32.toInt (-7) = -7 := (by decide); have h91 : Int32.toInt 3 = 3 := (by decide); omega, rfl, rfl⟩)), by rw [ht]; exact hP, hD⟩, hS.F ht⟩) hS.2.2 dX9_write_44
      · skip
        have nc_1006 := nb_nlt (0) (0) c_1006 (bkc (x := 0) (c := 0) (by decide)) (btop a2) (by decide)
        refine lv_iload_n hx hb dX9_write_33 rfl (lv_at hl 3 rfl) ?_
        refine lv_aload hx hb dX9_write_34 (lv_at hl 0 rfl) ?_
        refine va_get (D := G) (ci := 5) (v := .int ob_slots3_size) (C := RX5) (T := TX5) (N := 4) hx hb hw0 inA_wsX50 hown hK.1 hP 2 rfl rfl 2 (by decide) (hw0 _ m_1193) (fun _ h9 => h9) rfl dX9_write_36 ?_
        refine lv_icmp_lt (tgt := 45) hx hb dX9_write_39 (by decide) (fun c_1007 => ?_) (fun c_1007 => ?_)
        · skip
          have nc_1007 := nb_lt (59) (1) c_1007 nc_1006.2.1 p_ob_slots3_size (by decide)
          refine lv_aload hx hb dX9_write_45 (lv_at hl 0 rfl) ?_
          refine va_get (D := G) (ci := 5) (v := .ref ob_slots3_numbers) (C := RX5) (T := TX5) (N := 4) hx hb hw0 inA_wsX50 hown hK.1 hP 2 rfl rfl 3 (by decide) (hw0 _ m_1293) (fun _ h9 => h9) rfl dX9_write_47 ?_
          refine lv_iload_n hx hb dX9_write_50 rfl (lv_at hl 3 rfl) ?_
          refine lv_aload hx hb dX9_write_51 (lv_at hl 0 rfl) ?_
          refine lv_lload_n hx hb dX9_write_53 rfl (lv_at hl 4 rfl) ?_
          refine cVlm (As := [.long a3]) (rest := [.int a2, .ref ob_slots3_numbers]) ⟨hx, hb, hml, hown, hw0⟩ hA hK hP hD hS [false, false, true] (sX5_cut l G y _ ob_slots3 a3 ob_slots3_filled ob_slots3_width ob_slots3_size ob_slots3_numbers (bw (0) (1) nc_1005.1 (by decide)) (bw (0) (60) nc_1007.2.1 (by decide))) rfl ⟨(callB_of 1 hw0 (gA m_939) rfl rfl rfl (hw0 _ m_858) (hw0 _ m_1335) cb_X5_cut ⟨Nat.le_of_ble_eq_true rfl, Nat.le_of_ble_eq_true rfl⟩), (hw0 _ m_1336), (hw0 _ m_1337)⟩ (ci := 5) (q := (RX5, TX5, 4)) rfl rfl rfl hl.1 (Nat.le_of_ble_eq_true rfl) dX9_write_54 ⟨Nat.le_of_ble_eq_true rfl, Nat.le_of_ble_eq_true rfl⟩ (fun r_1008 w_1008 H locs hw_1008 hP hD hS => ?_)
          obtain ⟨v_1009, v_1010, h_1011, er_1008, rfl⟩ := hw_1008
          subst r_1008
          obtain ⟨hP, hD⟩ : vPD G A H [(ce_X9 ob ob_tape ob_tapeSize ob_reader ob_state ob_images ob_slots ob_rounds ob_ways ob_otherDebts ob_otherKnows), (ce_q4 y ob_slots (va_up (va_up (va_up (va_up (fun _ => none) 0 (some ob_slots0)) 1 (some ob_slots1)) 2 (some ob_slots2)) 3 (some ob_slots3))), (ce_X5 ob_slots3 ob_slots3_filled v_1010 ob_slots3_size ob_slots3_numbers), (ce_l60 y ob_slots3_numbers fob_slots3_numbers)] := ⟨hP, hD⟩
          refine va_last hx hb hK.1 hP hD hS 3 2 rfl rfl (vi nc_1007.1 (by decide)) dX9_write_57 (fun H locs hP hD hS => ?_)
          generalize hf_1012 : (vp_updL fob_slots3_numbers (a2 : Int32).toNatClampNeg v_1009) = f_1012 at hP hD
          obtain ⟨hP, hD⟩ : vPD G A H [(ce_X9 ob ob_tape ob_tapeSize ob_reader ob_state ob_images ob_slots ob_rounds ob_ways ob_otherDebts ob_otherKnows), (ce_q4 y ob_slots (va_up (va_up (va_up (va_up (fun _ => none) 0 (some ob_slots0)) 1 (some ob_slots1)) 2 (some ob_slots2)) 3 (some ob_slots3))), (ce_X5 ob_slots3 ob_slots3_filled v_1010 ob_slots3_size ob_slots3_numbers), (ce_l60 y ob_slots3_numbers f_1012)] := ⟨hP, hD⟩
          refine lv_iconst (v := 0) hx hb dX9_write_58 (by decide) ?_
          exact W.iret (v := 0) hx hb hr (fun t ht hW => ⟨⟨0, _, rfl, Or.inr (Or.inr (⟨v_1010, f_1012, nc_1007.1, nc_1005.1, nc_1007.2.1, by have h90 : Int32.toInt 0 = 0 := (by decide); have h91 : Int32.toInt 3 = 3 := (by decide); omega, by have h90 : Int32.toInt 0 = 0 := (by decide); have h91 : Int32.toInt 3 = 3 := (by decide); omega, rfl, rfl⟩)), by rw [ht]; exact hP, hD⟩, hS.F ht⟩) hS.2.2 dX9_write_59
        · skip
          have nc_1007 := nb_nlt (60) (0) c_1007 p_ob_slots3_size nc_1006.2.1 (by decide)
          refine lv_bipush (v := (-7)) hx hb dX9_write_42 (by decide) ?_
          exact W.iret (v := (-7)) hx hb hr (fun t ht hW => ⟨⟨(-7), _, rfl, Or.inr (Or.inl (⟨nc_1005.1, by have h90 : Int32.toInt (-7) = -7 := (by decide); have h91 : Int32.toInt 3 = 3 := (by decide); omega, rfl, rfl⟩)), by rw [ht]; exact hP, hD⟩, hS.F ht⟩) hS.2.2 dX9_write_44
    · skip
      have nc_1005 := nb_eq (0) (0) c_1005 p_ob_slots3_filled (bkc (x := 0) (c := 0) (by decide)) (by decide)
      refine lv_bipush (v := (-6)) hx hb dX9_write_26 (by decide) ?_
      exact W.iret (v := (-6)) hx hb hr (fun t ht hW => ⟨⟨(-6), _, rfl, Or.inl (⟨nc_1005.1, by have h90 : Int32.toInt (-6) = -6 := (by decide); have h91 : Int32.toInt 3 = 3 := (by decide); omega, rfl, rfl⟩), by rw [ht]; exact hP, hD⟩, hS.F ht⟩) hS.2.2 dX9_write_28

set_option maxHeartbeats 4000000 in
set_option maxRecDepth 100000 in
theorem srowlo (l : Launch) (G : va_G) (y : Nat → ClassId) (sz : Nat) (ob : Nat) (a1 : Int32) (a2 : Int32) (a3 : Int32) (ob_tape : Nat) (ob_tapeSize : Int32) (ob_reader : Nat) (ob_state : Nat) (ob_images : Nat) (ob_slots : Nat) (ob_rounds : Nat) (ob_ways : Nat) (ob_otherDebts : Nat) (ob_otherKnows : Nat) (p_ob_tapeSize : (0 : Int) ≤ ob_tapeSize.toInt ∧ ob_tapeSize.toInt ≤ 1400) (p_a1 : (-2147483648 : Int) ≤ a1.toInt ∧ a1.toInt ≤ -1) : Met l yX9_row (Cond.code yX9_row cX9_row 4 (some .int) :: wAll) ({ frames := 1, cells := 0, slots := 0, locals := 20 }) (va_Pc [.ref ob, .int a1, .int a2, .int a3] (kp G y sz [(ce_X9 ob ob_tape ob_tapeSize ob_reader ob_state ob_images ob_slots ob_rounds ob_ways ob_otherDebts ob_otherKnows)])) (va_Qi (fun (r : Int32) (w : va_W) => (r = (-2) ∧ w = [(ce_X9 ob ob_tape ob_tapeSize ob_reader ob_state ob_images ob_slots ob_rounds ob_ways ob_otherDebts ob_otherKnows)])) (kq G (va_A [(ce_X9 ob ob_tape ob_tapeSize ob_reader ob_state ob_images ob_slots ob_rounds ob_ways ob_otherDebts ob_otherKnows)] sz)) (va_A [(ce_X9 ob ob_tape ob_tapeSize ob_reader ob_state ob_images ob_slots ob_rounds ob_ways ob_otherDebts ob_otherKnows)] sz)) 0 0 (va_A [(ce_X9 ob ob_tape ob_tapeSize ob_reader ob_state ob_images ob_slots ob_rounds ob_ways ob_otherDebts ob_otherKnows)] sz) := by
  refine Met.ofW (cc := cX9_row) (maxL := 4) (ret := (some .int)) (by decide) rfl ?_
  intro p e s m args below meth c s₁ B hml hv
  obtain ⟨rfl, hsz, hP, hK, hD0⟩ := hv
  have hx := B.exec
  have hb := B.bytes
  have hr := B.returns
  have hw0 : ∀ w ∈ wAll, w.before _ s = true := fun w h => atoms_spec (ws := Cond.code yX9_row cX9_row 4 (some .int) :: wAll) B.pre w (List.mem_cons_of_mem _ h)
  have hown : s.vm.findClass RX9 = some m.cls := findClass_of_methodNamed B.named
  subst hsz
  have hD := hD0.self (sz := s.heap.size)
  generalize hAe : va_A [(ce_X9 ob ob_tape ob_tapeSize ob_reader ob_state ob_images ob_slots ob_rounds ob_ways ob_otherDebts ob_otherKnows)] s.heap.size = A at hD ⊢
  have hA : ∀ q : Nat, s.heap.size ≤ q → A q := fun q h => by rw [← hAe]; exact Or.inr h
  have hS : va_S A s.heap s.heap [] := va_S.rf
  have hP : va_P G vwCl [(ce_X9 ob ob_tape ob_tapeSize ob_reader ob_state ob_images ob_slots ob_rounds ob_ways ob_otherDebts ob_otherKnows)] s.heap := hP
  have hl := lv_entry ([.ref ob, .int a1, .int a2, .int a3]) (n := 4) (Nat.le_of_ble_eq_true rfl)
  rw [lg_entry_eq]
  generalize (lg_sl ([.ref ob, .int a1, .int a2, .int a3]) ++ List.replicate (4 - (lg_sl ([.ref ob, .int a1, .int a2, .int a3])).length) Slot.unset).toArray = ls at hl ⊢
  have hl : lv_has ls 4 [(0, .ref ob), (1, .int a1), (2, .int a2), (3, .int a3)] := hl
  refine lv_iload_n hx hb dX9_row_0 rfl (lv_at hl 1 rfl) ?_
  refine cutW 22 (fun H locs ls st => st = [] ∧ vPD G A H [(ce_X9 ob ob_tape ob_tapeSize ob_reader ob_state ob_images ob_slots ob_rounds ob_ways ob_otherDebts ob_otherKnows)] ∧ va_S A s.heap H locs ∧ lv_has ls 4 []) ?_ (fun J_22_1005 => ?_)
  · rintro H locs ls st ⟨rfl, ⟨hP, hD⟩, hS, hl⟩
    refine lv_bipush (v := (-2)) hx hb dX9_row_22 (by decide) ?_
    exact W.iret (v := (-2)) hx hb hr (fun t ht hW => ⟨⟨(-2), _, rfl, ⟨rfl, rfl⟩, by rw [ht]; exact hP, hD⟩, hS.F ht⟩) hS.2.2 dX9_row_24
  · skip
    refine cSim (As := [.int a1]) (rest := []) ⟨hx, hb, hml, hown, hw0⟩ hA hK hP hD hS [] (fisSlot l G y _ a1 ) rfl ⟨(callB_of 1 hw0 (gA m_1260) rfl rfl rfl (hw0 _ m_36) (hw0 _ m_1189) cb_X9_isSlot ⟨Nat.le_of_ble_eq_true rfl, Nat.le_of_ble_eq_true rfl⟩), (hw0 _ m_1190)⟩ rfl hl.1 (Nat.le_of_ble_eq_true rfl) dX9_row_1 ⟨Nat.le_of_ble_eq_true rfl, Nat.le_of_ble_eq_true rfl⟩ (fun r_1006 w_1006 H locs hw_1006 hP hD hS => ?_)
    rcases hw_1006 with ⟨h_1007, rfl, rfl⟩ | ⟨h_1008, h_1009, rfl, rfl⟩
    · skip
      obtain ⟨hP, hD⟩ : vPD G A H [(ce_X9 ob ob_tape ob_tapeSize ob_reader ob_state ob_images ob_slots ob_rounds ob_ways ob_otherDebts ob_otherKnows)] := ⟨hP, hD⟩
      refine lv_if_eq (tgt := 22) hx hb dX9_row_4 (by decide) (fun _ => ?_) (fun c9 => absurd (by decide) c9)
      exact J_22_1005 _ _ _ _ ⟨rfl, ⟨hP, hD⟩, hS, lv_sub hl [] rfl⟩
    · skip
      have h_1010 := b_in p_a1 h_1008
      exact absurd (Int.le_trans (h_1010).1 (h_1010).2) (by decide)

set_option maxHeartbeats 4000000 in
set_option maxRecDepth 100000 in
theorem srowhi (l : Launch) (G : va_G) (y : Nat → ClassId) (sz : Nat) (ob : Nat) (a1 : Int32) (a2 : Int32) (a3 : Int32) (ob_tape : Nat) (ob_tapeSize : Int32) (ob_reader : Nat) (ob_state : Nat) (ob_images : Nat) (ob_slots : Nat) (ob_rounds : Nat) (ob_ways : Nat) (ob_otherDebts : Nat) (ob_otherKnows : Nat) (p_ob_tapeSize : (0 : Int) ≤ ob_tapeSize.toInt ∧ ob_tapeSize.toInt ≤ 1400) (p_a1 : (4 : Int) ≤ a1.toInt ∧ a1.toInt ≤ 2147483647) : Met l yX9_row (Cond.code yX9_row cX9_row 4 (some .int) :: wAll) ({ frames := 1, cells := 0, slots := 0, locals := 20 }) (va_Pc [.ref ob, .int a1, .int a2, .int a3] (kp G y sz [(ce_X9 ob ob_tape ob_tapeSize ob_reader ob_state ob_images ob_slots ob_rounds ob_ways ob_otherDebts ob_otherKnows)])) (va_Qi (fun (r : Int32) (w : va_W) => (r = (-2) ∧ w = [(ce_X9 ob ob_tape ob_tapeSize ob_reader ob_state ob_images ob_slots ob_rounds ob_ways ob_otherDebts ob_otherKnows)])) (kq G (va_A [(ce_X9 ob ob_tape ob_tapeSize ob_reader ob_state ob_images ob_slots ob_rounds ob_ways ob_otherDebts ob_otherKnows)] sz)) (va_A [(ce_X9 ob ob_tape ob_tapeSize ob_reader ob_state ob_images ob_slots ob_rounds ob_ways ob_otherDebts ob_otherKnows)] sz)) 0 0 (va_A [(ce_X9 ob ob_tape ob_tapeSize ob_reader ob_state ob_images ob_slots ob_rounds ob_ways ob_otherDebts ob_otherKnows)] sz) := by
  refine Met.ofW (cc := cX9_row) (maxL := 4) (ret := (some .int)) (by decide) rfl ?_
  intro p e s m args below meth c s₁ B hml hv
  obtain ⟨rfl, hsz, hP, hK, hD0⟩ := hv
  have hx := B.exec
  have hb := B.bytes
  have hr := B.returns
  have hw0 : ∀ w ∈ wAll, w.before _ s = true := fun w h => atoms_spec (ws := Cond.code yX9_row cX9_row 4 (some .int) :: wAll) B.pre w (List.mem_cons_of_mem _ h)
  have hown : s.vm.findClass RX9 = some m.cls := findClass_of_methodNamed B.named
  subst hsz
  have hD := hD0.self (sz := s.heap.size)
  generalize hAe : va_A [(ce_X9 ob ob_tape ob_tapeSize ob_reader ob_state ob_images ob_slots ob_rounds ob_ways ob_otherDebts ob_otherKnows)] s.heap.size = A at hD ⊢
  have hA : ∀ q : Nat, s.heap.size ≤ q → A q := fun q h => by rw [← hAe]; exact Or.inr h
  have hS : va_S A s.heap s.heap [] := va_S.rf
  have hP : va_P G vwCl [(ce_X9 ob ob_tape ob_tapeSize ob_reader ob_state ob_images ob_slots ob_rounds ob_ways ob_otherDebts ob_otherKnows)] s.heap := hP
  have hl := lv_entry ([.ref ob, .int a1, .int a2, .int a3]) (n := 4) (Nat.le_of_ble_eq_true rfl)
  rw [lg_entry_eq]
  generalize (lg_sl ([.ref ob, .int a1, .int a2, .int a3]) ++ List.replicate (4 - (lg_sl ([.ref ob, .int a1, .int a2, .int a3])).length) Slot.unset).toArray = ls at hl ⊢
  have hl : lv_has ls 4 [(0, .ref ob), (1, .int a1), (2, .int a2), (3, .int a3)] := hl
  refine lv_iload_n hx hb dX9_row_0 rfl (lv_at hl 1 rfl) ?_
  refine cutW 22 (fun H locs ls st => st = [] ∧ vPD G A H [(ce_X9 ob ob_tape ob_tapeSize ob_reader ob_state ob_images ob_slots ob_rounds ob_ways ob_otherDebts ob_otherKnows)] ∧ va_S A s.heap H locs ∧ lv_has ls 4 []) ?_ (fun J_22_1005 => ?_)
  · rintro H locs ls st ⟨rfl, ⟨hP, hD⟩, hS, hl⟩
    refine lv_bipush (v := (-2)) hx hb dX9_row_22 (by decide) ?_
    exact W.iret (v := (-2)) hx hb hr (fun t ht hW => ⟨⟨(-2), _, rfl, ⟨rfl, rfl⟩, by rw [ht]; exact hP, hD⟩, hS.F ht⟩) hS.2.2 dX9_row_24
  · skip
    refine cSim (As := [.int a1]) (rest := []) ⟨hx, hb, hml, hown, hw0⟩ hA hK hP hD hS [] (fisSlot l G y _ a1 ) rfl ⟨(callB_of 1 hw0 (gA m_1260) rfl rfl rfl (hw0 _ m_36) (hw0 _ m_1189) cb_X9_isSlot ⟨Nat.le_of_ble_eq_true rfl, Nat.le_of_ble_eq_true rfl⟩), (hw0 _ m_1190)⟩ rfl hl.1 (Nat.le_of_ble_eq_true rfl) dX9_row_1 ⟨Nat.le_of_ble_eq_true rfl, Nat.le_of_ble_eq_true rfl⟩ (fun r_1006 w_1006 H locs hw_1006 hP hD hS => ?_)
    rcases hw_1006 with ⟨h_1007, rfl, rfl⟩ | ⟨h_1008, h_1009, rfl, rfl⟩
    · skip
      obtain ⟨hP, hD⟩ : vPD G A H [(ce_X9 ob ob_tape ob_tapeSize ob_reader ob_state ob_images ob_slots ob_rounds ob_ways ob_otherDebts ob_otherKnows)] := ⟨hP, hD⟩
      refine lv_if_eq (tgt := 22) hx hb dX9_row_4 (by decide) (fun _ => ?_) (fun c9 => absurd (by decide) c9)
      exact J_22_1005 _ _ _ _ ⟨rfl, ⟨hP, hD⟩, hS, lv_sub hl [] rfl⟩
    · skip
      have h_1010 := b_in p_a1 h_1008
      exact absurd (Int.le_trans (h_1010).1 (h_1010).2) (by decide)

set_option maxHeartbeats 4000000 in
set_option maxRecDepth 100000 in
theorem swritelo (l : Launch) (G : va_G) (y : Nat → ClassId) (sz : Nat) (ob : Nat) (a1 : Int32) (a2 : Int32) (a3 : Int64) (ob_tape : Nat) (ob_tapeSize : Int32) (ob_reader : Nat) (ob_state : Nat) (ob_images : Nat) (ob_slots : Nat) (ob_rounds : Nat) (ob_ways : Nat) (ob_otherDebts : Nat) (ob_otherKnows : Nat) (p_ob_tapeSize : (0 : Int) ≤ ob_tapeSize.toInt ∧ ob_tapeSize.toInt ≤ 1400) (p_a1 : (-2147483648 : Int) ≤ a1.toInt ∧ a1.toInt ≤ -1) : Met l yX9_write (Cond.code yX9_write cX9_write 6 (some .int) :: wAll) ({ frames := 1, cells := 0, slots := 0, locals := 20 }) (va_Pc [.ref ob, .int a1, .int a2, .long a3] (kp G y sz [(ce_X9 ob ob_tape ob_tapeSize ob_reader ob_state ob_images ob_slots ob_rounds ob_ways ob_otherDebts ob_otherKnows)])) (va_Qi (fun (r : Int32) (w : va_W) => (r = (-2) ∧ w = [(ce_X9 ob ob_tape ob_tapeSize ob_reader ob_state ob_images ob_slots ob_rounds ob_ways ob_otherDebts ob_otherKnows)])) (kq G (va_A [(ce_X9 ob ob_tape ob_tapeSize ob_reader ob_state ob_images ob_slots ob_rounds ob_ways ob_otherDebts ob_otherKnows)] sz)) (va_A [(ce_X9 ob ob_tape ob_tapeSize ob_reader ob_state ob_images ob_slots ob_rounds ob_ways ob_otherDebts ob_otherKnows)] sz)) 0 0 (va_A [(ce_X9 ob ob_tape ob_tapeSize ob_reader ob_state ob_images ob_slots ob_rounds ob_ways ob_otherDebts ob_otherKnows)] sz) := by
  refine Met.ofW (cc := cX9_write) (maxL := 6) (ret := (some .int)) (by decide) rfl ?_
  intro p e s m args below meth c s₁ B hml hv
  obtain ⟨rfl, hsz, hP, hK, hD0⟩ := hv
  have hx := B.exec
  have hb := B.bytes
  have hr := B.returns
  have hw0 : ∀ w ∈ wAll, w.before _ s = true := fun w h => atoms_spec (ws := Cond.code yX9_write cX9_write 6 (some .int) :: wAll) B.pre w (List.mem_cons_of_mem _ h)
  have hown : s.vm.findClass RX9 = some m.cls := findClass_of_methodNamed B.named
  subst hsz
  have hD := hD0.self (sz := s.heap.size)
  generalize hAe : va_A [(ce_X9 ob ob_tape ob_tapeSize ob_reader ob_state ob_images ob_slots ob_rounds ob_ways ob_otherDebts ob_otherKnows)] s.heap.size = A at hD ⊢
  have hA : ∀ q : Nat, s.heap.size ≤ q → A q := fun q h => by rw [← hAe]; exact Or.inr h
  have hS : va_S A s.heap s.heap [] := va_S.rf
  have hP : va_P G vwCl [(ce_X9 ob ob_tape ob_tapeSize ob_reader ob_state ob_images ob_slots ob_rounds ob_ways ob_otherDebts ob_otherKnows)] s.heap := hP
  have hl := lv_entry ([.ref ob, .int a1, .int a2, .long a3]) (n := 6) (Nat.le_of_ble_eq_true rfl)
  rw [lg_entry_eq]
  generalize (lg_sl ([.ref ob, .int a1, .int a2, .long a3]) ++ List.replicate (6 - (lg_sl ([.ref ob, .int a1, .int a2, .long a3])).length) Slot.unset).toArray = ls at hl ⊢
  have hl : lv_has ls 6 [(0, .ref ob), (1, .int a1), (2, .int a2), (3, .long a3)] := hl
  refine lv_iload_n hx hb dX9_write_0 rfl (lv_at hl 1 rfl) ?_
  refine cSim (As := [.int a1]) (rest := []) ⟨hx, hb, hml, hown, hw0⟩ hA hK hP hD hS [] (fisSlot l G y _ a1 ) rfl ⟨(callB_of 1 hw0 (gA m_1260) rfl rfl rfl (hw0 _ m_36) (hw0 _ m_1189) cb_X9_isSlot ⟨Nat.le_of_ble_eq_true rfl, Nat.le_of_ble_eq_true rfl⟩), (hw0 _ m_1190)⟩ rfl hl.1 (Nat.le_of_ble_eq_true rfl) dX9_write_1 ⟨Nat.le_of_ble_eq_true rfl, Nat.le_of_ble_eq_true rfl⟩ (fun r_1001 w_1001 H locs hw_1001 hP hD hS => ?_)
  rcases hw_1001 with ⟨h_1002, rfl, rfl⟩ | ⟨h_1003, h_1004, rfl, rfl⟩
  · skip
    obtain ⟨hP, hD⟩ : vPD G A H [(ce_X9 ob ob_tape ob_tapeSize ob_reader ob_state ob_images ob_slots ob_rounds ob_ways ob_otherDebts ob_otherKnows)] := ⟨hP, hD⟩
    refine lv_if_ne (tgt := 10) hx hb dX9_write_4 (by decide) (fun c9 => absurd (by decide) c9) (fun _ => ?_)
    refine lv_bipush (v := (-2)) hx hb dX9_write_7 (by decide) ?_
    exact W.iret (v := (-2)) hx hb hr (fun t ht hW => ⟨⟨(-2), _, rfl, ⟨rfl, rfl⟩, by rw [ht]; exact hP, hD⟩, hS.F ht⟩) hS.2.2 dX9_write_9
  · skip
    have h_1005 := b_in p_a1 h_1003
    exact absurd (Int.le_trans (h_1005).1 (h_1005).2) (by decide)

set_option maxHeartbeats 4000000 in
set_option maxRecDepth 100000 in
theorem swritehi (l : Launch) (G : va_G) (y : Nat → ClassId) (sz : Nat) (ob : Nat) (a1 : Int32) (a2 : Int32) (a3 : Int64) (ob_tape : Nat) (ob_tapeSize : Int32) (ob_reader : Nat) (ob_state : Nat) (ob_images : Nat) (ob_slots : Nat) (ob_rounds : Nat) (ob_ways : Nat) (ob_otherDebts : Nat) (ob_otherKnows : Nat) (p_ob_tapeSize : (0 : Int) ≤ ob_tapeSize.toInt ∧ ob_tapeSize.toInt ≤ 1400) (p_a1 : (4 : Int) ≤ a1.toInt ∧ a1.toInt ≤ 2147483647) : Met l yX9_write (Cond.code yX9_write cX9_write 6 (some .int) :: wAll) ({ frames := 1, cells := 0, slots := 0, locals := 20 }) (va_Pc [.ref ob, .int a1, .int a2, .long a3] (kp G y sz [(ce_X9 ob ob_tape ob_tapeSize ob_reader ob_state ob_images ob_slots ob_rounds ob_ways ob_otherDebts ob_otherKnows)])) (va_Qi (fun (r : Int32) (w : va_W) => (r = (-2) ∧ w = [(ce_X9 ob ob_tape ob_tapeSize ob_reader ob_state ob_images ob_slots ob_rounds ob_ways ob_otherDebts ob_otherKnows)])) (kq G (va_A [(ce_X9 ob ob_tape ob_tapeSize ob_reader ob_state ob_images ob_slots ob_rounds ob_ways ob_otherDebts ob_otherKnows)] sz)) (va_A [(ce_X9 ob ob_tape ob_tapeSize ob_reader ob_state ob_images ob_slots ob_rounds ob_ways ob_otherDebts ob_otherKnows)] sz)) 0 0 (va_A [(ce_X9 ob ob_tape ob_tapeSize ob_reader ob_state ob_images ob_slots ob_rounds ob_ways ob_otherDebts ob_otherKnows)] sz) := by
  refine Met.ofW (cc := cX9_write) (maxL := 6) (ret := (some .int)) (by decide) rfl ?_
  intro p e s m args below meth c s₁ B hml hv
  obtain ⟨rfl, hsz, hP, hK, hD0⟩ := hv
  have hx := B.exec
  have hb := B.bytes
  have hr := B.returns
  have hw0 : ∀ w ∈ wAll, w.before _ s = true := fun w h => atoms_spec (ws := Cond.code yX9_write cX9_write 6 (some .int) :: wAll) B.pre w (List.mem_cons_of_mem _ h)
  have hown : s.vm.findClass RX9 = some m.cls := findClass_of_methodNamed B.named
  subst hsz
  have hD := hD0.self (sz := s.heap.size)
  generalize hAe : va_A [(ce_X9 ob ob_tape ob_tapeSize ob_reader ob_state ob_images ob_slots ob_rounds ob_ways ob_otherDebts ob_otherKnows)] s.heap.size = A at hD ⊢
  have hA : ∀ q : Nat, s.heap.size ≤ q → A q := fun q h => by rw [← hAe]; exact Or.inr h
  have hS : va_S A s.heap s.heap [] := va_S.rf
  have hP : va_P G vwCl [(ce_X9 ob ob_tape ob_tapeSize ob_reader ob_state ob_images ob_slots ob_rounds ob_ways ob_otherDebts ob_otherKnows)] s.heap := hP
  have hl := lv_entry ([.ref ob, .int a1, .int a2, .long a3]) (n := 6) (Nat.le_of_ble_eq_true rfl)
  rw [lg_entry_eq]
  generalize (lg_sl ([.ref ob, .int a1, .int a2, .long a3]) ++ List.replicate (6 - (lg_sl ([.ref ob, .int a1, .int a2, .long a3])).length) Slot.unset).toArray = ls at hl ⊢
  have hl : lv_has ls 6 [(0, .ref ob), (1, .int a1), (2, .int a2), (3, .long a3)] := hl
  refine lv_iload_n hx hb dX9_write_0 rfl (lv_at hl 1 rfl) ?_
  refine cSim (As := [.int a1]) (rest := []) ⟨hx, hb, hml, hown, hw0⟩ hA hK hP hD hS [] (fisSlot l G y _ a1 ) rfl ⟨(callB_of 1 hw0 (gA m_1260) rfl rfl rfl (hw0 _ m_36) (hw0 _ m_1189) cb_X9_isSlot ⟨Nat.le_of_ble_eq_true rfl, Nat.le_of_ble_eq_true rfl⟩), (hw0 _ m_1190)⟩ rfl hl.1 (Nat.le_of_ble_eq_true rfl) dX9_write_1 ⟨Nat.le_of_ble_eq_true rfl, Nat.le_of_ble_eq_true rfl⟩ (fun r_1001 w_1001 H locs hw_1001 hP hD hS => ?_)
  rcases hw_1001 with ⟨h_1002, rfl, rfl⟩ | ⟨h_1003, h_1004, rfl, rfl⟩
  · skip
    obtain ⟨hP, hD⟩ : vPD G A H [(ce_X9 ob ob_tape ob_tapeSize ob_reader ob_state ob_images ob_slots ob_rounds ob_ways ob_otherDebts ob_otherKnows)] := ⟨hP, hD⟩
    refine lv_if_ne (tgt := 10) hx hb dX9_write_4 (by decide) (fun c9 => absurd (by decide) c9) (fun _ => ?_)
    refine lv_bipush (v := (-2)) hx hb dX9_write_7 (by decide) ?_
    exact W.iret (v := (-2)) hx hb hr (fun t ht hW => ⟨⟨(-2), _, rfl, ⟨rfl, rfl⟩, by rw [ht]; exact hP, hD⟩, hS.F ht⟩) hS.2.2 dX9_write_9
  · skip
    have h_1005 := b_in p_a1 h_1003
    exact absurd (Int.le_trans (h_1005).1 (h_1005).2) (by decide)
