set_option maxHeartbeats 4000000 in
set_option maxRecDepth 100000 in
theorem gones (l : Launch) (G : va_G) (y : Nat → ClassId) (sz : Nat) (a1 : Int32) (p_a1 : (0 : Int) ≤ a1.toInt ∧ a1.toInt ≤ 65535) : Met l yX10_ones (Cond.code yX10_ones cX10_ones 3 (some .int) :: wAll) ({ frames := 0, cells := 0, slots := 0, locals := 0 }) (va_Pc [.int a1] (kp G y sz [])) (va_Qi (fun (r : Int32) (w : va_W) => (∃ (v_67 : Int32), ((0 : Int) ≤ v_67.toInt ∧ v_67.toInt ≤ 16) ∧ ((v_67 : Int32).toInt = (cb 16 a1.toInt.toNat : Int)) ∧ r = v_67 ∧ w = [])) (kq G (va_A [] sz)) (va_A [] sz)) 0 0 (va_A [] sz) := by
  refine Met.ofW (cc := cX10_ones) (maxL := 3) (ret := (some .int)) (by decide) rfl ?_
  intro p e s m args below meth c s₁ B hml hv
  obtain ⟨rfl, hsz, hP, hK, hD0⟩ := hv
  have hx := B.exec
  have hb := B.bytes
  have hr := B.returns
  have hw0 : ∀ w ∈ wAll, w.before _ s = true := fun w h => atoms_spec (ws := Cond.code yX10_ones cX10_ones 3 (some .int) :: wAll) B.pre w (List.mem_cons_of_mem _ h)
  have hown : s.vm.findClass RX10 = some m.cls := findClass_of_methodNamed B.named
  subst hsz
  have hD := hD0.self (sz := s.heap.size)
  generalize hAe : va_A [] s.heap.size = A at hD ⊢
  have hA : ∀ q : Nat, s.heap.size ≤ q → A q := fun q h => by rw [← hAe]; exact Or.inr h
  have hS : va_S A s.heap s.heap [] := va_S.rf
  have hP : va_P G vwCl [] s.heap := hP
  have hl := lv_entry ([.int a1]) (n := 3) (Nat.le_of_ble_eq_true rfl)
  rw [lg_entry_eq]
  generalize (lg_sl ([.int a1]) ++ List.replicate (3 - (lg_sl ([.int a1])).length) Slot.unset).toArray = ls at hl ⊢
  have hl : lv_has ls 3 [(0, .int a1)] := hl
  refine lv_iconst (v := 0) hx hb dX10_ones_0 (by decide) ?_
  refine lv_istore_n (lv' := [(1, .int 0), (0, .int a1)]) hx hb dX10_ones_1 rfl hl (by decide) rfl (fun ls hl => ?_)
  refine lv_iconst (v := 0) hx hb dX10_ones_2 (by decide) ?_
  refine lv_istore_n (lv' := [(2, .int 0), (1, .int 0), (0, .int a1)]) hx hb dX10_ones_3 rfl hl (by decide) rfl (fun ls hl => ?_)
  refine loopX (fun n H locs ls st => ∃ (v_1020 : Int32) (v_1021 : Int32), (16 - v_1020.toInt).toNat = n ∧ ((0 : Int) ≤ v_1020.toInt ∧ v_1020.toInt ≤ 16) ∧ ((0 : Int) ≤ v_1021.toInt ∧ v_1021.toInt ≤ 16) ∧ (v_1021.toInt = (cb v_1020.toInt.toNat a1.toInt.toNat : Int)) ∧ (v_1021.toInt ≤ v_1020.toInt) ∧ st = [] ∧ vPD G A H [] ∧ va_S A s.heap H locs ∧ lv_has ls 3 [(2, .int v_1020), (1, .int v_1021), (0, .int a1)]) ?_ (n := (16 - (0 : Int32).toInt).toNat) ⟨0, 0, rfl, (bw (0) (16) (bkc (x := 0) (c := 0) (by decide)) (by decide)), (bw (0) (16) (bkc (x := 0) (c := 0) (by decide)) (by decide)), (cbs_0 (by decide) (by decide)), (by have h90 : Int32.toInt 0 = 0 := (by decide); omega), rfl, ⟨hP, hD⟩, hS, lv_sub hl [0, 1, 2] rfl⟩
  rintro n ih_1027 H locs ls st ⟨v_1020, v_1021, hn_1027, bv_1020, bv_1021, rl1021_0, rl1021_1, rfl, ⟨hP, hD⟩, hS, hl⟩
  refine lv_iload_n hx hb dX10_ones_4 rfl (lv_at hl 0 rfl) ?_
  refine lv_bipush (v := 16) hx hb dX10_ones_5 (by decide) ?_
  refine lv_icmp_ge (tgt := 24) hx hb dX10_ones_7 (by decide) (fun c_1028 => ?_) (fun c_1028 => ?_)
  · skip
    have nc_1028 := nb_le (16) (16) c_1028 (bkc (x := 16) (c := 16) (by decide)) bv_1020 (by decide)
    refine lv_iload_n hx hb dX10_ones_24 rfl (lv_at hl 1 rfl) ?_
    exact W.iret (v := v_1021) hx hb hr (fun t ht hW => ⟨⟨v_1021, _, rfl, ⟨v_1021, bv_1021, (cbs_e rl1021_0 (by omega)), rfl, rfl⟩, by rw [ht]; exact hP, hD⟩, hS.F ht⟩) hS.2.2 dX10_ones_25
  · skip
    have nc_1028 := nb_nle (15) (16) c_1028 bv_1020 (bkc (x := 16) (c := 16) (by decide)) (by decide)
    refine lv_iload_n hx hb dX10_ones_10 rfl (lv_at hl 1 rfl) ?_
    refine lv_iload_n hx hb dX10_ones_11 rfl (lv_at hl 2 rfl) ?_
    refine lv_iload_n hx hb dX10_ones_12 rfl (lv_at hl 0 rfl) ?_
    refine lv_ishr hx hb dX10_ones_13 ?_
    refine lv_topi (fun v_1029 ev_1029 => ?_)
    have bv_1029 : (0 : Int) ≤ v_1029.toInt ∧ v_1029.toInt ≤ 65535 := ba_shr ev_1029 p_a1 (by decide)
    refine lv_iconst (v := 1) hx hb dX10_ones_14 (by decide) ?_
    refine lv_iand hx hb dX10_ones_15 ?_
    refine lv_topi (fun v_1030 ev_1030 => ?_)
    have bv_1030 : (0 : Int) ≤ v_1030.toInt ∧ v_1030.toInt ≤ 1 := ba_andr ev_1030 (bkc (x := 1) (c := 1) (by decide)) (by decide)
    refine lv_iadd hx hb dX10_ones_16 ?_
    refine lv_topi (fun v_1031 ev_1031 => ?_)
    have qv_1031 := ba_add ev_1031 bv_1021 bv_1030 (by decide)
    have bv_1031 : (0 : Int) ≤ v_1031.toInt ∧ v_1031.toInt ≤ 17 := bq_add qv_1031 bv_1021 bv_1030 _ _ (by decide)
    have h_1032 : (0 : Int) ≤ v_1031.toInt ∧ v_1031.toInt ≤ 16 := by omega
    refine lv_istore_n (lv' := [(1, .int v_1031), (2, .int v_1020), (0, .int a1)]) hx hb dX10_ones_17 rfl hl (by decide) rfl (fun ls hl => ?_)
    obtain ⟨v_1033, ev_1033⟩ : ∃ z : Int32, z = v_1020 + 1 := ⟨_, rfl⟩
    have qv_1033 := ba_add ev_1033 nc_1028.1 (bkc (x := 1) (c := 1) (by decide)) (by decide)
    have bv_1033 : (1 : Int) ≤ v_1033.toInt ∧ v_1033.toInt ≤ 16 := bq_add qv_1033 nc_1028.1 (bkc (x := 1) (c := 1) (by decide)) _ _ (by decide)
    have qv_1033 : v_1033.toInt = v_1020.toInt + (1) := qv_1033
    refine lv_iinc (v := v_1033) (lv' := [(2, .int v_1033), (1, .int v_1031), (0, .int a1)]) hx hb dX10_ones_18 hl (k := 1) rfl (ev_1033.symm) (by decide) rfl (fun ls hl => ?_)
    refine lv_goto (tgt := 4) hx hb dX10_ones_21 (by decide) ?_
    exact ih_1027 _ (ml_inc (hi := 16) hn_1027 qv_1033 (by decide) ((bw (0) (16) bv_1033 (by decide))).2) _ _ _ _ ⟨v_1033, v_1031, rfl, (bw (0) (16) bv_1033 (by decide)), h_1032, (cbs_s rl1021_0 ev_1029 ev_1030 (by omega) rfl ⟨by omega, by omega⟩ (by omega) (by omega)), (by omega), rfl, ⟨hP, hD⟩, hS, lv_sub hl [0, 1, 2] rfl⟩

set_option maxHeartbeats 4000000 in
set_option maxRecDepth 100000 in
theorem gofHouse3 (l : Launch) (G : va_G) (y : Nat → ClassId) (sz : Nat) (ob : Nat) (a1 : Int32) (ob_thrown : Int32) (ob_world : Nat) (ob_images : Nat) (ob_hasImage : Nat) (ob_tape : Nat) (ob_taped : Int32) (ob_five : Nat) (ob_size : Int32) (ob_at : Int32) (ob_from : Int32) (ob_token : Int32) (ob_value : Int32) (ob_faultKind : Int32) (ob_faultPlace : Int32) (ob_fresh : Nat) (ob_parts : Nat) (ob_houses : Nat) (ob_houseMany : Int32) (ob_worthOf : Nat) (ob_byCall : Nat) (ob_over : Nat) (ob_bestSet : Int32) (ob_bestOver : Int32) (ob_bestWorth : Int32) (ob_row : Nat) (ob_tenDebts : Nat) (ob_tenMany : Int32) (ob_fewestBy : Nat) (ob_covered : Nat) (ob_queue : Nat) (ob_cameBy : Nat) (ob_parent : Nat) (ob_met : Nat) (ob_calls : Nat) (ob_callMany : Int32) (ob_calledOn : Nat) (ob_saved : Nat) (ob_many : Nat) (ob_width : Nat) (ob_numbers : Nat) (ob_moving : Nat) (fob_world : Nat → Int32) (p_fob_world : RWw fob_world) (p_ob_taped : (0 : Int) ≤ ob_taped.toInt ∧ ob_taped.toInt ≤ 1400) (p_ob_size : (0 : Int) ≤ ob_size.toInt ∧ ob_size.toInt ≤ 1400) (p_ob_at : (0 : Int) ≤ ob_at.toInt ∧ ob_at.toInt ≤ 1400) (p_ob_from : (0 : Int) ≤ ob_from.toInt ∧ ob_from.toInt ≤ 1400) (p_ob_token : (0 : Int) ≤ ob_token.toInt ∧ ob_token.toInt ≤ 4) (p_ob_value : (0 : Int) ≤ ob_value.toInt ∧ ob_value.toInt ≤ 9999) (p_ob_faultKind : (0 : Int) ≤ ob_faultKind.toInt ∧ ob_faultKind.toInt ≤ 3) (p_ob_houseMany : (0 : Int) ≤ ob_houseMany.toInt ∧ ob_houseMany.toInt ≤ 10) (p_ob_bestSet : (0 : Int) ≤ ob_bestSet.toInt ∧ ob_bestSet.toInt ≤ 1023) (p_ob_bestOver : (-1 : Int) ≤ ob_bestOver.toInt ∧ ob_bestOver.toInt ≤ 180) (p_ob_tenMany : (0 : Int) ≤ ob_tenMany.toInt ∧ ob_tenMany.toInt ≤ 10) (p_ob_callMany : (0 : Int) ≤ ob_callMany.toInt ∧ ob_callMany.toInt ≤ 16) (p_a1 : (0 : Int) ≤ a1.toInt ∧ a1.toInt ≤ 15) : Met l yX10_ofHouse (Cond.code yX10_ofHouse cX10_ofHouse 3 (some .int) :: wAll) ({ frames := 0, cells := 0, slots := 0, locals := 0 }) (va_Pc [.ref ob, .int a1, .int 3] (kp G y sz [(ce_X10 ob ob_thrown ob_world ob_images ob_hasImage ob_tape ob_taped ob_five ob_size ob_at ob_from ob_token ob_value ob_faultKind ob_faultPlace ob_fresh ob_parts ob_houses ob_houseMany ob_worthOf ob_byCall ob_over ob_bestSet ob_bestOver ob_bestWorth ob_row ob_tenDebts ob_tenMany ob_fewestBy ob_covered ob_queue ob_cameBy ob_parent ob_met ob_calls ob_callMany ob_calledOn ob_saved ob_many ob_width ob_numbers ob_moving), (ce_i9080 y ob_world fob_world)])) (va_Qi (fun (r : Int32) (w : va_W) => (∃ (v_9 : Int32), ((-1 : Int) ≤ v_9.toInt ∧ v_9.toInt ≤ 6) ∧ ((v_9 : Int32).toInt = (fob_world (13 + 9 * a1.toInt.toNat)).toInt) ∧ r = v_9 ∧ w = [(ce_X10 ob ob_thrown ob_world ob_images ob_hasImage ob_tape ob_taped ob_five ob_size ob_at ob_from ob_token ob_value ob_faultKind ob_faultPlace ob_fresh ob_parts ob_houses ob_houseMany ob_worthOf ob_byCall ob_over ob_bestSet ob_bestOver ob_bestWorth ob_row ob_tenDebts ob_tenMany ob_fewestBy ob_covered ob_queue ob_cameBy ob_parent ob_met ob_calls ob_callMany ob_calledOn ob_saved ob_many ob_width ob_numbers ob_moving), (ce_i9080 y ob_world fob_world)])) (kq G (va_A [(ce_X10 ob ob_thrown ob_world ob_images ob_hasImage ob_tape ob_taped ob_five ob_size ob_at ob_from ob_token ob_value ob_faultKind ob_faultPlace ob_fresh ob_parts ob_houses ob_houseMany ob_worthOf ob_byCall ob_over ob_bestSet ob_bestOver ob_bestWorth ob_row ob_tenDebts ob_tenMany ob_fewestBy ob_covered ob_queue ob_cameBy ob_parent ob_met ob_calls ob_callMany ob_calledOn ob_saved ob_many ob_width ob_numbers ob_moving), (ce_i9080 y ob_world fob_world)] sz)) (va_A [(ce_X10 ob ob_thrown ob_world ob_images ob_hasImage ob_tape ob_taped ob_five ob_size ob_at ob_from ob_token ob_value ob_faultKind ob_faultPlace ob_fresh ob_parts ob_houses ob_houseMany ob_worthOf ob_byCall ob_over ob_bestSet ob_bestOver ob_bestWorth ob_row ob_tenDebts ob_tenMany ob_fewestBy ob_covered ob_queue ob_cameBy ob_parent ob_met ob_calls ob_callMany ob_calledOn ob_saved ob_many ob_width ob_numbers ob_moving), (ce_i9080 y ob_world fob_world)] sz)) 0 0 (va_A [(ce_X10 ob ob_thrown ob_world ob_images ob_hasImage ob_tape ob_taped ob_five ob_size ob_at ob_from ob_token ob_value ob_faultKind ob_faultPlace ob_fresh ob_parts ob_houses ob_houseMany ob_worthOf ob_byCall ob_over ob_bestSet ob_bestOver ob_bestWorth ob_row ob_tenDebts ob_tenMany ob_fewestBy ob_covered ob_queue ob_cameBy ob_parent ob_met ob_calls ob_callMany ob_calledOn ob_saved ob_many ob_width ob_numbers ob_moving), (ce_i9080 y ob_world fob_world)] sz) := by
  refine Met.ofW (cc := cX10_ofHouse) (maxL := 3) (ret := (some .int)) (by decide) rfl ?_
  intro p e s m args below meth c s₁ B hml hv
  obtain ⟨rfl, hsz, hP, hK, hD0⟩ := hv
  have hx := B.exec
  have hb := B.bytes
  have hr := B.returns
  have hw0 : ∀ w ∈ wAll, w.before _ s = true := fun w h => atoms_spec (ws := Cond.code yX10_ofHouse cX10_ofHouse 3 (some .int) :: wAll) B.pre w (List.mem_cons_of_mem _ h)
  have hown : s.vm.findClass RX10 = some m.cls := findClass_of_methodNamed B.named
  subst hsz
  have hD := hD0.self (sz := s.heap.size)
  generalize hAe : va_A [(ce_X10 ob ob_thrown ob_world ob_images ob_hasImage ob_tape ob_taped ob_five ob_size ob_at ob_from ob_token ob_value ob_faultKind ob_faultPlace ob_fresh ob_parts ob_houses ob_houseMany ob_worthOf ob_byCall ob_over ob_bestSet ob_bestOver ob_bestWorth ob_row ob_tenDebts ob_tenMany ob_fewestBy ob_covered ob_queue ob_cameBy ob_parent ob_met ob_calls ob_callMany ob_calledOn ob_saved ob_many ob_width ob_numbers ob_moving), (ce_i9080 y ob_world fob_world)] s.heap.size = A at hD ⊢
  have hA : ∀ q : Nat, s.heap.size ≤ q → A q := fun q h => by rw [← hAe]; exact Or.inr h
  have hS : va_S A s.heap s.heap [] := va_S.rf
  have hP : va_P G vwCl [(ce_X10 ob ob_thrown ob_world ob_images ob_hasImage ob_tape ob_taped ob_five ob_size ob_at ob_from ob_token ob_value ob_faultKind ob_faultPlace ob_fresh ob_parts ob_houses ob_houseMany ob_worthOf ob_byCall ob_over ob_bestSet ob_bestOver ob_bestWorth ob_row ob_tenDebts ob_tenMany ob_fewestBy ob_covered ob_queue ob_cameBy ob_parent ob_met ob_calls ob_callMany ob_calledOn ob_saved ob_many ob_width ob_numbers ob_moving), (ce_i9080 y ob_world fob_world)] s.heap := hP
  have hl := lv_entry ([.ref ob, .int a1, .int 3]) (n := 3) (Nat.le_of_ble_eq_true rfl)
  rw [lg_entry_eq]
  generalize (lg_sl ([.ref ob, .int a1, .int 3]) ++ List.replicate (3 - (lg_sl ([.ref ob, .int a1, .int 3])).length) Slot.unset).toArray = ls at hl ⊢
  have hl : lv_has ls 3 [(0, .ref ob), (1, .int a1), (2, .int 3)] := hl
  refine lv_aload_n hx hb dX10_ofHouse_0 rfl (lv_at hl 0 rfl) ?_
  refine va_get (D := G) (ci := 10) (v := .ref ob_world) (C := RX10) (T := TX10) (N := 41) hx hb hw0 inA_wsX100 hown hK.1 hP 0 rfl rfl 1 (by decide) (hw0 _ m_352) (fun _ h9 => h9) rfl dX10_ofHouse_1 ?_
  refine lv_bipush (v := 10) hx hb dX10_ofHouse_4 (by decide) ?_
  refine lv_bipush (v := 9) hx hb dX10_ofHouse_6 (by decide) ?_
  refine lv_iload_n hx hb dX10_ofHouse_8 rfl (lv_at hl 1 rfl) ?_
  refine lv_imul hx hb dX10_ofHouse_9 ?_
  refine lv_topi (fun v_1001 ev_1001 => ?_)
  have qv_1001 := ba_mul 9 (ev_1001.trans (Int32.mul_comm _ _)) p_a1 (by decide) (by decide) (by decide)
  have bv_1001 : (0 : Int) ≤ v_1001.toInt ∧ v_1001.toInt ≤ 135 := qv_1001.2
  refine lv_iadd hx hb dX10_ofHouse_10 ?_
  refine lv_topi (fun v_1002 ev_1002 => ?_)
  have qv_1002 := ba_add ev_1002 (bkc (x := 10) (c := 10) (by decide)) bv_1001 (by decide)
  have bv_1002 : (10 : Int) ≤ v_1002.toInt ∧ v_1002.toInt ≤ 145 := bq_add qv_1002 (bkc (x := 10) (c := 10) (by decide)) bv_1001 _ _ (by decide)
  have qv_1002 : v_1002.toInt = (10) + v_1001.toInt := qv_1002
  refine lv_iload_n hx hb dX10_ofHouse_11 rfl (lv_at hl 2 rfl) ?_
  refine lv_iadd hx hb dX10_ofHouse_12 ?_
  refine lv_topi (fun v_1003 ev_1003 => ?_)
  have qv_1003 := ba_add ev_1003 bv_1002 (bkc (x := 3) (c := 3) (by decide)) (by decide)
  have bv_1003 : (13 : Int) ≤ v_1003.toInt ∧ v_1003.toInt ≤ 148 := bq_add qv_1003 bv_1002 (bkc (x := 3) (c := 3) (by decide)) _ _ (by decide)
  have qv_1003 : v_1003.toInt = v_1002.toInt + (3) := qv_1003
  refine va_iald hx hb hK.1 hP 1 1 rfl rfl (vi bv_1003 (by decide)) dX10_ofHouse_13 ?_
  refine lv_topi (fun v_1004 ev_1004 => ?_)
  have bv_1004 : (-1 : Int) ≤ v_1004.toInt ∧ v_1004.toInt ≤ 6 := rdw ev_1004 (p_fob_world).1.1 pl_3 (by omega) (p_a1)
  have wv_1004 : v_1004.toInt = (fob_world (13 + 9 * a1.toInt.toNat)).toInt := by rw [ev_1004, el_at (c := 13) (a := 9) (x := a1) (by omega) (by omega)]
  exact W.iret (v := v_1004) hx hb hr (fun t ht hW => ⟨⟨v_1004, _, rfl, ⟨v_1004, bv_1004, wv_1004, rfl, rfl⟩, by rw [ht]; exact hP, hD⟩, hS.F ht⟩) hS.2.2 dX10_ofHouse_14

set_option maxHeartbeats 4000000 in
set_option maxRecDepth 100000 in
theorem gofHouse6 (l : Launch) (G : va_G) (y : Nat → ClassId) (sz : Nat) (ob : Nat) (a1 : Int32) (ob_thrown : Int32) (ob_world : Nat) (ob_images : Nat) (ob_hasImage : Nat) (ob_tape : Nat) (ob_taped : Int32) (ob_five : Nat) (ob_size : Int32) (ob_at : Int32) (ob_from : Int32) (ob_token : Int32) (ob_value : Int32) (ob_faultKind : Int32) (ob_faultPlace : Int32) (ob_fresh : Nat) (ob_parts : Nat) (ob_houses : Nat) (ob_houseMany : Int32) (ob_worthOf : Nat) (ob_byCall : Nat) (ob_over : Nat) (ob_bestSet : Int32) (ob_bestOver : Int32) (ob_bestWorth : Int32) (ob_row : Nat) (ob_tenDebts : Nat) (ob_tenMany : Int32) (ob_fewestBy : Nat) (ob_covered : Nat) (ob_queue : Nat) (ob_cameBy : Nat) (ob_parent : Nat) (ob_met : Nat) (ob_calls : Nat) (ob_callMany : Int32) (ob_calledOn : Nat) (ob_saved : Nat) (ob_many : Nat) (ob_width : Nat) (ob_numbers : Nat) (ob_moving : Nat) (fob_world : Nat → Int32) (p_fob_world : RWw fob_world) (p_ob_taped : (0 : Int) ≤ ob_taped.toInt ∧ ob_taped.toInt ≤ 1400) (p_ob_size : (0 : Int) ≤ ob_size.toInt ∧ ob_size.toInt ≤ 1400) (p_ob_at : (0 : Int) ≤ ob_at.toInt ∧ ob_at.toInt ≤ 1400) (p_ob_from : (0 : Int) ≤ ob_from.toInt ∧ ob_from.toInt ≤ 1400) (p_ob_token : (0 : Int) ≤ ob_token.toInt ∧ ob_token.toInt ≤ 4) (p_ob_value : (0 : Int) ≤ ob_value.toInt ∧ ob_value.toInt ≤ 9999) (p_ob_faultKind : (0 : Int) ≤ ob_faultKind.toInt ∧ ob_faultKind.toInt ≤ 3) (p_ob_houseMany : (0 : Int) ≤ ob_houseMany.toInt ∧ ob_houseMany.toInt ≤ 10) (p_ob_bestSet : (0 : Int) ≤ ob_bestSet.toInt ∧ ob_bestSet.toInt ≤ 1023) (p_ob_bestOver : (-1 : Int) ≤ ob_bestOver.toInt ∧ ob_bestOver.toInt ≤ 180) (p_ob_tenMany : (0 : Int) ≤ ob_tenMany.toInt ∧ ob_tenMany.toInt ≤ 10) (p_ob_callMany : (0 : Int) ≤ ob_callMany.toInt ∧ ob_callMany.toInt ≤ 16) (p_a1 : (0 : Int) ≤ a1.toInt ∧ a1.toInt ≤ 15) : Met l yX10_ofHouse (Cond.code yX10_ofHouse cX10_ofHouse 3 (some .int) :: wAll) ({ frames := 0, cells := 0, slots := 0, locals := 0 }) (va_Pc [.ref ob, .int a1, .int 6] (kp G y sz [(ce_X10 ob ob_thrown ob_world ob_images ob_hasImage ob_tape ob_taped ob_five ob_size ob_at ob_from ob_token ob_value ob_faultKind ob_faultPlace ob_fresh ob_parts ob_houses ob_houseMany ob_worthOf ob_byCall ob_over ob_bestSet ob_bestOver ob_bestWorth ob_row ob_tenDebts ob_tenMany ob_fewestBy ob_covered ob_queue ob_cameBy ob_parent ob_met ob_calls ob_callMany ob_calledOn ob_saved ob_many ob_width ob_numbers ob_moving), (ce_i9080 y ob_world fob_world)])) (va_Qi (fun (r : Int32) (w : va_W) => (∃ (v_9 : Int32), ((0 : Int) ≤ v_9.toInt ∧ v_9.toInt ≤ 399) ∧ ((v_9 : Int32).toInt = (fob_world (16 + 9 * a1.toInt.toNat)).toInt) ∧ r = v_9 ∧ w = [(ce_X10 ob ob_thrown ob_world ob_images ob_hasImage ob_tape ob_taped ob_five ob_size ob_at ob_from ob_token ob_value ob_faultKind ob_faultPlace ob_fresh ob_parts ob_houses ob_houseMany ob_worthOf ob_byCall ob_over ob_bestSet ob_bestOver ob_bestWorth ob_row ob_tenDebts ob_tenMany ob_fewestBy ob_covered ob_queue ob_cameBy ob_parent ob_met ob_calls ob_callMany ob_calledOn ob_saved ob_many ob_width ob_numbers ob_moving), (ce_i9080 y ob_world fob_world)])) (kq G (va_A [(ce_X10 ob ob_thrown ob_world ob_images ob_hasImage ob_tape ob_taped ob_five ob_size ob_at ob_from ob_token ob_value ob_faultKind ob_faultPlace ob_fresh ob_parts ob_houses ob_houseMany ob_worthOf ob_byCall ob_over ob_bestSet ob_bestOver ob_bestWorth ob_row ob_tenDebts ob_tenMany ob_fewestBy ob_covered ob_queue ob_cameBy ob_parent ob_met ob_calls ob_callMany ob_calledOn ob_saved ob_many ob_width ob_numbers ob_moving), (ce_i9080 y ob_world fob_world)] sz)) (va_A [(ce_X10 ob ob_thrown ob_world ob_images ob_hasImage ob_tape ob_taped ob_five ob_size ob_at ob_from ob_token ob_value ob_faultKind ob_faultPlace ob_fresh ob_parts ob_houses ob_houseMany ob_worthOf ob_byCall ob_over ob_bestSet ob_bestOver ob_bestWorth ob_row ob_tenDebts ob_tenMany ob_fewestBy ob_covered ob_queue ob_cameBy ob_parent ob_met ob_calls ob_callMany ob_calledOn ob_saved ob_many ob_width ob_numbers ob_moving), (ce_i9080 y ob_world fob_world)] sz)) 0 0 (va_A [(ce_X10 ob ob_thrown ob_world ob_images ob_hasImage ob_tape ob_taped ob_five ob_size ob_at ob_from ob_token ob_value ob_faultKind ob_faultPlace ob_fresh ob_parts ob_houses ob_houseMany ob_worthOf ob_byCall ob_over ob_bestSet ob_bestOver ob_bestWorth ob_row ob_tenDebts ob_tenMany ob_fewestBy ob_covered ob_queue ob_cameBy ob_parent ob_met ob_calls ob_callMany ob_calledOn ob_saved ob_many ob_width ob_numbers ob_moving), (ce_i9080 y ob_world fob_world)] sz) := by
  refine Met.ofW (cc := cX10_ofHouse) (maxL := 3) (ret := (some .int)) (by decide) rfl ?_
  intro p e s m args below meth c s₁ B hml hv
  obtain ⟨rfl, hsz, hP, hK, hD0⟩ := hv
  have hx := B.exec
  have hb := B.bytes
  have hr := B.returns
  have hw0 : ∀ w ∈ wAll, w.before _ s = true := fun w h => atoms_spec (ws := Cond.code yX10_ofHouse cX10_ofHouse 3 (some .int) :: wAll) B.pre w (List.mem_cons_of_mem _ h)
  have hown : s.vm.findClass RX10 = some m.cls := findClass_of_methodNamed B.named
  subst hsz
  have hD := hD0.self (sz := s.heap.size)
  generalize hAe : va_A [(ce_X10 ob ob_thrown ob_world ob_images ob_hasImage ob_tape ob_taped ob_five ob_size ob_at ob_from ob_token ob_value ob_faultKind ob_faultPlace ob_fresh ob_parts ob_houses ob_houseMany ob_worthOf ob_byCall ob_over ob_bestSet ob_bestOver ob_bestWorth ob_row ob_tenDebts ob_tenMany ob_fewestBy ob_covered ob_queue ob_cameBy ob_parent ob_met ob_calls ob_callMany ob_calledOn ob_saved ob_many ob_width ob_numbers ob_moving), (ce_i9080 y ob_world fob_world)] s.heap.size = A at hD ⊢
  have hA : ∀ q : Nat, s.heap.size ≤ q → A q := fun q h => by rw [← hAe]; exact Or.inr h
  have hS : va_S A s.heap s.heap [] := va_S.rf
  have hP : va_P G vwCl [(ce_X10 ob ob_thrown ob_world ob_images ob_hasImage ob_tape ob_taped ob_five ob_size ob_at ob_from ob_token ob_value ob_faultKind ob_faultPlace ob_fresh ob_parts ob_houses ob_houseMany ob_worthOf ob_byCall ob_over ob_bestSet ob_bestOver ob_bestWorth ob_row ob_tenDebts ob_tenMany ob_fewestBy ob_covered ob_queue ob_cameBy ob_parent ob_met ob_calls ob_callMany ob_calledOn ob_saved ob_many ob_width ob_numbers ob_moving), (ce_i9080 y ob_world fob_world)] s.heap := hP
  have hl := lv_entry ([.ref ob, .int a1, .int 6]) (n := 3) (Nat.le_of_ble_eq_true rfl)
  rw [lg_entry_eq]
  generalize (lg_sl ([.ref ob, .int a1, .int 6]) ++ List.replicate (3 - (lg_sl ([.ref ob, .int a1, .int 6])).length) Slot.unset).toArray = ls at hl ⊢
  have hl : lv_has ls 3 [(0, .ref ob), (1, .int a1), (2, .int 6)] := hl
  refine lv_aload_n hx hb dX10_ofHouse_0 rfl (lv_at hl 0 rfl) ?_
  refine va_get (D := G) (ci := 10) (v := .ref ob_world) (C := RX10) (T := TX10) (N := 41) hx hb hw0 inA_wsX100 hown hK.1 hP 0 rfl rfl 1 (by decide) (hw0 _ m_352) (fun _ h9 => h9) rfl dX10_ofHouse_1 ?_
  refine lv_bipush (v := 10) hx hb dX10_ofHouse_4 (by decide) ?_
  refine lv_bipush (v := 9) hx hb dX10_ofHouse_6 (by decide) ?_
  refine lv_iload_n hx hb dX10_ofHouse_8 rfl (lv_at hl 1 rfl) ?_
  refine lv_imul hx hb dX10_ofHouse_9 ?_
  refine lv_topi (fun v_1001 ev_1001 => ?_)
  have qv_1001 := ba_mul 9 (ev_1001.trans (Int32.mul_comm _ _)) p_a1 (by decide) (by decide) (by decide)
  have bv_1001 : (0 : Int) ≤ v_1001.toInt ∧ v_1001.toInt ≤ 135 := qv_1001.2
  refine lv_iadd hx hb dX10_ofHouse_10 ?_
  refine lv_topi (fun v_1002 ev_1002 => ?_)
  have qv_1002 := ba_add ev_1002 (bkc (x := 10) (c := 10) (by decide)) bv_1001 (by decide)
  have bv_1002 : (10 : Int) ≤ v_1002.toInt ∧ v_1002.toInt ≤ 145 := bq_add qv_1002 (bkc (x := 10) (c := 10) (by decide)) bv_1001 _ _ (by decide)
  have qv_1002 : v_1002.toInt = (10) + v_1001.toInt := qv_1002
  refine lv_iload_n hx hb dX10_ofHouse_11 rfl (lv_at hl 2 rfl) ?_
  refine lv_iadd hx hb dX10_ofHouse_12 ?_
  refine lv_topi (fun v_1003 ev_1003 => ?_)
  have qv_1003 := ba_add ev_1003 bv_1002 (bkc (x := 6) (c := 6) (by decide)) (by decide)
  have bv_1003 : (16 : Int) ≤ v_1003.toInt ∧ v_1003.toInt ≤ 151 := bq_add qv_1003 bv_1002 (bkc (x := 6) (c := 6) (by decide)) _ _ (by decide)
  have qv_1003 : v_1003.toInt = v_1002.toInt + (6) := qv_1003
  refine va_iald hx hb hK.1 hP 1 1 rfl rfl (vi bv_1003 (by decide)) dX10_ofHouse_13 ?_
  refine lv_topi (fun v_1004 ev_1004 => ?_)
  have bv_1004 : (0 : Int) ≤ v_1004.toInt ∧ v_1004.toInt ≤ 399 := rdw ev_1004 (p_fob_world).1.1 pl_6 (by omega) (p_a1)
  have wv_1004 : v_1004.toInt = (fob_world (16 + 9 * a1.toInt.toNat)).toInt := by rw [ev_1004, el_at (c := 16) (a := 9) (x := a1) (by omega) (by omega)]
  exact W.iret (v := v_1004) hx hb hr (fun t ht hW => ⟨⟨v_1004, _, rfl, ⟨v_1004, bv_1004, wv_1004, rfl, rfl⟩, by rw [ht]; exact hP, hD⟩, hS.F ht⟩) hS.2.2 dX10_ofHouse_14

set_option maxHeartbeats 4000000 in
set_option maxRecDepth 100000 in
theorem gofHouse7 (l : Launch) (G : va_G) (y : Nat → ClassId) (sz : Nat) (ob : Nat) (a1 : Int32) (ob_thrown : Int32) (ob_world : Nat) (ob_images : Nat) (ob_hasImage : Nat) (ob_tape : Nat) (ob_taped : Int32) (ob_five : Nat) (ob_size : Int32) (ob_at : Int32) (ob_from : Int32) (ob_token : Int32) (ob_value : Int32) (ob_faultKind : Int32) (ob_faultPlace : Int32) (ob_fresh : Nat) (ob_parts : Nat) (ob_houses : Nat) (ob_houseMany : Int32) (ob_worthOf : Nat) (ob_byCall : Nat) (ob_over : Nat) (ob_bestSet : Int32) (ob_bestOver : Int32) (ob_bestWorth : Int32) (ob_row : Nat) (ob_tenDebts : Nat) (ob_tenMany : Int32) (ob_fewestBy : Nat) (ob_covered : Nat) (ob_queue : Nat) (ob_cameBy : Nat) (ob_parent : Nat) (ob_met : Nat) (ob_calls : Nat) (ob_callMany : Int32) (ob_calledOn : Nat) (ob_saved : Nat) (ob_many : Nat) (ob_width : Nat) (ob_numbers : Nat) (ob_moving : Nat) (fob_world : Nat → Int32) (p_fob_world : RWw fob_world) (p_ob_taped : (0 : Int) ≤ ob_taped.toInt ∧ ob_taped.toInt ≤ 1400) (p_ob_size : (0 : Int) ≤ ob_size.toInt ∧ ob_size.toInt ≤ 1400) (p_ob_at : (0 : Int) ≤ ob_at.toInt ∧ ob_at.toInt ≤ 1400) (p_ob_from : (0 : Int) ≤ ob_from.toInt ∧ ob_from.toInt ≤ 1400) (p_ob_token : (0 : Int) ≤ ob_token.toInt ∧ ob_token.toInt ≤ 4) (p_ob_value : (0 : Int) ≤ ob_value.toInt ∧ ob_value.toInt ≤ 9999) (p_ob_faultKind : (0 : Int) ≤ ob_faultKind.toInt ∧ ob_faultKind.toInt ≤ 3) (p_ob_houseMany : (0 : Int) ≤ ob_houseMany.toInt ∧ ob_houseMany.toInt ≤ 10) (p_ob_bestSet : (0 : Int) ≤ ob_bestSet.toInt ∧ ob_bestSet.toInt ≤ 1023) (p_ob_bestOver : (-1 : Int) ≤ ob_bestOver.toInt ∧ ob_bestOver.toInt ≤ 180) (p_ob_tenMany : (0 : Int) ≤ ob_tenMany.toInt ∧ ob_tenMany.toInt ≤ 10) (p_ob_callMany : (0 : Int) ≤ ob_callMany.toInt ∧ ob_callMany.toInt ≤ 16) (p_a1 : (0 : Int) ≤ a1.toInt ∧ a1.toInt ≤ 15) : Met l yX10_ofHouse (Cond.code yX10_ofHouse cX10_ofHouse 3 (some .int) :: wAll) ({ frames := 0, cells := 0, slots := 0, locals := 0 }) (va_Pc [.ref ob, .int a1, .int 7] (kp G y sz [(ce_X10 ob ob_thrown ob_world ob_images ob_hasImage ob_tape ob_taped ob_five ob_size ob_at ob_from ob_token ob_value ob_faultKind ob_faultPlace ob_fresh ob_parts ob_houses ob_houseMany ob_worthOf ob_byCall ob_over ob_bestSet ob_bestOver ob_bestWorth ob_row ob_tenDebts ob_tenMany ob_fewestBy ob_covered ob_queue ob_cameBy ob_parent ob_met ob_calls ob_callMany ob_calledOn ob_saved ob_many ob_width ob_numbers ob_moving), (ce_i9080 y ob_world fob_world)])) (va_Qi (fun (r : Int32) (w : va_W) => (∃ (v_9 : Int32), ((0 : Int) ≤ v_9.toInt ∧ v_9.toInt ≤ 99) ∧ ((v_9 : Int32).toInt = (fob_world (17 + 9 * a1.toInt.toNat)).toInt) ∧ r = v_9 ∧ w = [(ce_X10 ob ob_thrown ob_world ob_images ob_hasImage ob_tape ob_taped ob_five ob_size ob_at ob_from ob_token ob_value ob_faultKind ob_faultPlace ob_fresh ob_parts ob_houses ob_houseMany ob_worthOf ob_byCall ob_over ob_bestSet ob_bestOver ob_bestWorth ob_row ob_tenDebts ob_tenMany ob_fewestBy ob_covered ob_queue ob_cameBy ob_parent ob_met ob_calls ob_callMany ob_calledOn ob_saved ob_many ob_width ob_numbers ob_moving), (ce_i9080 y ob_world fob_world)])) (kq G (va_A [(ce_X10 ob ob_thrown ob_world ob_images ob_hasImage ob_tape ob_taped ob_five ob_size ob_at ob_from ob_token ob_value ob_faultKind ob_faultPlace ob_fresh ob_parts ob_houses ob_houseMany ob_worthOf ob_byCall ob_over ob_bestSet ob_bestOver ob_bestWorth ob_row ob_tenDebts ob_tenMany ob_fewestBy ob_covered ob_queue ob_cameBy ob_parent ob_met ob_calls ob_callMany ob_calledOn ob_saved ob_many ob_width ob_numbers ob_moving), (ce_i9080 y ob_world fob_world)] sz)) (va_A [(ce_X10 ob ob_thrown ob_world ob_images ob_hasImage ob_tape ob_taped ob_five ob_size ob_at ob_from ob_token ob_value ob_faultKind ob_faultPlace ob_fresh ob_parts ob_houses ob_houseMany ob_worthOf ob_byCall ob_over ob_bestSet ob_bestOver ob_bestWorth ob_row ob_tenDebts ob_tenMany ob_fewestBy ob_covered ob_queue ob_cameBy ob_parent ob_met ob_calls ob_callMany ob_calledOn ob_saved ob_many ob_width ob_numbers ob_moving), (ce_i9080 y ob_world fob_world)] sz)) 0 0 (va_A [(ce_X10 ob ob_thrown ob_world ob_images ob_hasImage ob_tape ob_taped ob_five ob_size ob_at ob_from ob_token ob_value ob_faultKind ob_faultPlace ob_fresh ob_parts ob_houses ob_houseMany ob_worthOf ob_byCall ob_over ob_bestSet ob_bestOver ob_bestWorth ob_row ob_tenDebts ob_tenMany ob_fewestBy ob_covered ob_queue ob_cameBy ob_parent ob_met ob_calls ob_callMany ob_calledOn ob_saved ob_many ob_width ob_numbers ob_moving), (ce_i9080 y ob_world fob_world)] sz) := by
  refine Met.ofW (cc := cX10_ofHouse) (maxL := 3) (ret := (some .int)) (by decide) rfl ?_
  intro p e s m args below meth c s₁ B hml hv
  obtain ⟨rfl, hsz, hP, hK, hD0⟩ := hv
  have hx := B.exec
  have hb := B.bytes
  have hr := B.returns
  have hw0 : ∀ w ∈ wAll, w.before _ s = true := fun w h => atoms_spec (ws := Cond.code yX10_ofHouse cX10_ofHouse 3 (some .int) :: wAll) B.pre w (List.mem_cons_of_mem _ h)
  have hown : s.vm.findClass RX10 = some m.cls := findClass_of_methodNamed B.named
  subst hsz
  have hD := hD0.self (sz := s.heap.size)
  generalize hAe : va_A [(ce_X10 ob ob_thrown ob_world ob_images ob_hasImage ob_tape ob_taped ob_five ob_size ob_at ob_from ob_token ob_value ob_faultKind ob_faultPlace ob_fresh ob_parts ob_houses ob_houseMany ob_worthOf ob_byCall ob_over ob_bestSet ob_bestOver ob_bestWorth ob_row ob_tenDebts ob_tenMany ob_fewestBy ob_covered ob_queue ob_cameBy ob_parent ob_met ob_calls ob_callMany ob_calledOn ob_saved ob_many ob_width ob_numbers ob_moving), (ce_i9080 y ob_world fob_world)] s.heap.size = A at hD ⊢
  have hA : ∀ q : Nat, s.heap.size ≤ q → A q := fun q h => by rw [← hAe]; exact Or.inr h
  have hS : va_S A s.heap s.heap [] := va_S.rf
  have hP : va_P G vwCl [(ce_X10 ob ob_thrown ob_world ob_images ob_hasImage ob_tape ob_taped ob_five ob_size ob_at ob_from ob_token ob_value ob_faultKind ob_faultPlace ob_fresh ob_parts ob_houses ob_houseMany ob_worthOf ob_byCall ob_over ob_bestSet ob_bestOver ob_bestWorth ob_row ob_tenDebts ob_tenMany ob_fewestBy ob_covered ob_queue ob_cameBy ob_parent ob_met ob_calls ob_callMany ob_calledOn ob_saved ob_many ob_width ob_numbers ob_moving), (ce_i9080 y ob_world fob_world)] s.heap := hP
  have hl := lv_entry ([.ref ob, .int a1, .int 7]) (n := 3) (Nat.le_of_ble_eq_true rfl)
  rw [lg_entry_eq]
  generalize (lg_sl ([.ref ob, .int a1, .int 7]) ++ List.replicate (3 - (lg_sl ([.ref ob, .int a1, .int 7])).length) Slot.unset).toArray = ls at hl ⊢
  have hl : lv_has ls 3 [(0, .ref ob), (1, .int a1), (2, .int 7)] := hl
  refine lv_aload_n hx hb dX10_ofHouse_0 rfl (lv_at hl 0 rfl) ?_
  refine va_get (D := G) (ci := 10) (v := .ref ob_world) (C := RX10) (T := TX10) (N := 41) hx hb hw0 inA_wsX100 hown hK.1 hP 0 rfl rfl 1 (by decide) (hw0 _ m_352) (fun _ h9 => h9) rfl dX10_ofHouse_1 ?_
  refine lv_bipush (v := 10) hx hb dX10_ofHouse_4 (by decide) ?_
  refine lv_bipush (v := 9) hx hb dX10_ofHouse_6 (by decide) ?_
  refine lv_iload_n hx hb dX10_ofHouse_8 rfl (lv_at hl 1 rfl) ?_
  refine lv_imul hx hb dX10_ofHouse_9 ?_
  refine lv_topi (fun v_1001 ev_1001 => ?_)
  have qv_1001 := ba_mul 9 (ev_1001.trans (Int32.mul_comm _ _)) p_a1 (by decide) (by decide) (by decide)
  have bv_1001 : (0 : Int) ≤ v_1001.toInt ∧ v_1001.toInt ≤ 135 := qv_1001.2
  refine lv_iadd hx hb dX10_ofHouse_10 ?_
  refine lv_topi (fun v_1002 ev_1002 => ?_)
  have qv_1002 := ba_add ev_1002 (bkc (x := 10) (c := 10) (by decide)) bv_1001 (by decide)
  have bv_1002 : (10 : Int) ≤ v_1002.toInt ∧ v_1002.toInt ≤ 145 := bq_add qv_1002 (bkc (x := 10) (c := 10) (by decide)) bv_1001 _ _ (by decide)
  have qv_1002 : v_1002.toInt = (10) + v_1001.toInt := qv_1002
  refine lv_iload_n hx hb dX10_ofHouse_11 rfl (lv_at hl 2 rfl) ?_
  refine lv_iadd hx hb dX10_ofHouse_12 ?_
  refine lv_topi (fun v_1003 ev_1003 => ?_)
  have qv_1003 := ba_add ev_1003 bv_1002 (bkc (x := 7) (c := 7) (by decide)) (by decide)
  have bv_1003 : (17 : Int) ≤ v_1003.toInt ∧ v_1003.toInt ≤ 152 := bq_add qv_1003 bv_1002 (bkc (x := 7) (c := 7) (by decide)) _ _ (by decide)
  have qv_1003 : v_1003.toInt = v_1002.toInt + (7) := qv_1003
  refine va_iald hx hb hK.1 hP 1 1 rfl rfl (vi bv_1003 (by decide)) dX10_ofHouse_13 ?_
  refine lv_topi (fun v_1004 ev_1004 => ?_)
  have bv_1004 : (0 : Int) ≤ v_1004.toInt ∧ v_1004.toInt ≤ 99 := rdw ev_1004 (p_fob_world).1.1 pl_7 (by omega) (p_a1)
  have wv_1004 : v_1004.toInt = (fob_world (17 + 9 * a1.toInt.toNat)).toInt := by rw [ev_1004, el_at (c := 17) (a := 9) (x := a1) (by omega) (by omega)]
  exact W.iret (v := v_1004) hx hb hr (fun t ht hW => ⟨⟨v_1004, _, rfl, ⟨v_1004, bv_1004, wv_1004, rfl, rfl⟩, by rw [ht]; exact hP, hD⟩, hS.F ht⟩) hS.2.2 dX10_ofHouse_14

set_option maxHeartbeats 4000000 in
set_option maxRecDepth 100000 in
theorem gisThere (l : Launch) (G : va_G) (y : Nat → ClassId) (sz : Nat) (ob : Nat) (a1 : Int32) (a2 : Int32) (ob_thrown : Int32) (ob_world : Nat) (ob_images : Nat) (ob_hasImage : Nat) (ob_tape : Nat) (ob_taped : Int32) (ob_five : Nat) (ob_size : Int32) (ob_at : Int32) (ob_from : Int32) (ob_token : Int32) (ob_value : Int32) (ob_faultKind : Int32) (ob_faultPlace : Int32) (ob_fresh : Nat) (ob_parts : Nat) (ob_houses : Nat) (ob_houseMany : Int32) (ob_worthOf : Nat) (ob_byCall : Nat) (ob_over : Nat) (ob_bestSet : Int32) (ob_bestOver : Int32) (ob_bestWorth : Int32) (ob_row : Nat) (ob_tenDebts : Nat) (ob_tenMany : Int32) (ob_fewestBy : Nat) (ob_covered : Nat) (ob_queue : Nat) (ob_cameBy : Nat) (ob_parent : Nat) (ob_met : Nat) (ob_calls : Nat) (ob_callMany : Int32) (ob_calledOn : Nat) (ob_saved : Nat) (ob_many : Nat) (ob_width : Nat) (ob_numbers : Nat) (ob_moving : Nat) (fob_world : Nat → Int32) (p_fob_world : RWw fob_world) (p_ob_taped : (0 : Int) ≤ ob_taped.toInt ∧ ob_taped.toInt ≤ 1400) (p_ob_size : (0 : Int) ≤ ob_size.toInt ∧ ob_size.toInt ≤ 1400) (p_ob_at : (0 : Int) ≤ ob_at.toInt ∧ ob_at.toInt ≤ 1400) (p_ob_from : (0 : Int) ≤ ob_from.toInt ∧ ob_from.toInt ≤ 1400) (p_ob_token : (0 : Int) ≤ ob_token.toInt ∧ ob_token.toInt ≤ 4) (p_ob_value : (0 : Int) ≤ ob_value.toInt ∧ ob_value.toInt ≤ 9999) (p_ob_faultKind : (0 : Int) ≤ ob_faultKind.toInt ∧ ob_faultKind.toInt ≤ 3) (p_ob_houseMany : (0 : Int) ≤ ob_houseMany.toInt ∧ ob_houseMany.toInt ≤ 10) (p_ob_bestSet : (0 : Int) ≤ ob_bestSet.toInt ∧ ob_bestSet.toInt ≤ 1023) (p_ob_bestOver : (-1 : Int) ≤ ob_bestOver.toInt ∧ ob_bestOver.toInt ≤ 180) (p_ob_tenMany : (0 : Int) ≤ ob_tenMany.toInt ∧ ob_tenMany.toInt ≤ 10) (p_ob_callMany : (0 : Int) ≤ ob_callMany.toInt ∧ ob_callMany.toInt ≤ 16) (p_a1 : (0 : Int) ≤ a1.toInt ∧ a1.toInt ≤ 15) (p_a2 : (0 : Int) ≤ a2.toInt ∧ a2.toInt ≤ 399) : Met l yX10_isThere (Cond.code yX10_isThere cX10_isThere 3 (some .boolean) :: wAll) ({ frames := 1, cells := 0, slots := 0, locals := 22 }) (va_Pc [.ref ob, .int a1, .int a2] (kp G y sz [(ce_X10 ob ob_thrown ob_world ob_images ob_hasImage ob_tape ob_taped ob_five ob_size ob_at ob_from ob_token ob_value ob_faultKind ob_faultPlace ob_fresh ob_parts ob_houses ob_houseMany ob_worthOf ob_byCall ob_over ob_bestSet ob_bestOver ob_bestWorth ob_row ob_tenDebts ob_tenMany ob_fewestBy ob_covered ob_queue ob_cameBy ob_parent ob_met ob_calls ob_callMany ob_calledOn ob_saved ob_many ob_width ob_numbers ob_moving), (ce_i9080 y ob_world fob_world)])) (va_Qi (fun (r : Int32) (w : va_W) => (((0 : Int) ≤ a2.toInt ∧ a2.toInt ≤ 398) ∧ (a2.toInt < (fob_world (16 + 9 * a1.toInt.toNat)).toInt) ∧ r = 0 ∧ w = [(ce_X10 ob ob_thrown ob_world ob_images ob_hasImage ob_tape ob_taped ob_five ob_size ob_at ob_from ob_token ob_value ob_faultKind ob_faultPlace ob_fresh ob_parts ob_houses ob_houseMany ob_worthOf ob_byCall ob_over ob_bestSet ob_bestOver ob_bestWorth ob_row ob_tenDebts ob_tenMany ob_fewestBy ob_covered ob_queue ob_cameBy ob_parent ob_met ob_calls ob_callMany ob_calledOn ob_saved ob_many ob_width ob_numbers ob_moving), (ce_i9080 y ob_world fob_world)]) ∨ (((fob_world (16 + 9 * a1.toInt.toNat)).toInt ≤ a2.toInt) ∧ r = 1 ∧ w = [(ce_X10 ob ob_thrown ob_world ob_images ob_hasImage ob_tape ob_taped ob_five ob_size ob_at ob_from ob_token ob_value ob_faultKind ob_faultPlace ob_fresh ob_parts ob_houses ob_houseMany ob_worthOf ob_byCall ob_over ob_bestSet ob_bestOver ob_bestWorth ob_row ob_tenDebts ob_tenMany ob_fewestBy ob_covered ob_queue ob_cameBy ob_parent ob_met ob_calls ob_callMany ob_calledOn ob_saved ob_many ob_width ob_numbers ob_moving), (ce_i9080 y ob_world fob_world)])) (kq G (va_A [(ce_X10 ob ob_thrown ob_world ob_images ob_hasImage ob_tape ob_taped ob_five ob_size ob_at ob_from ob_token ob_value ob_faultKind ob_faultPlace ob_fresh ob_parts ob_houses ob_houseMany ob_worthOf ob_byCall ob_over ob_bestSet ob_bestOver ob_bestWorth ob_row ob_tenDebts ob_tenMany ob_fewestBy ob_covered ob_queue ob_cameBy ob_parent ob_met ob_calls ob_callMany ob_calledOn ob_saved ob_many ob_width ob_numbers ob_moving), (ce_i9080 y ob_world fob_world)] sz)) (va_A [(ce_X10 ob ob_thrown ob_world ob_images ob_hasImage ob_tape ob_taped ob_five ob_size ob_at ob_from ob_token ob_value ob_faultKind ob_faultPlace ob_fresh ob_parts ob_houses ob_houseMany ob_worthOf ob_byCall ob_over ob_bestSet ob_bestOver ob_bestWorth ob_row ob_tenDebts ob_tenMany ob_fewestBy ob_covered ob_queue ob_cameBy ob_parent ob_met ob_calls ob_callMany ob_calledOn ob_saved ob_many ob_width ob_numbers ob_moving), (ce_i9080 y ob_world fob_world)] sz)) 0 0 (va_A [(ce_X10 ob ob_thrown ob_world ob_images ob_hasImage ob_tape ob_taped ob_five ob_size ob_at ob_from ob_token ob_value ob_faultKind ob_faultPlace ob_fresh ob_parts ob_houses ob_houseMany ob_worthOf ob_byCall ob_over ob_bestSet ob_bestOver ob_bestWorth ob_row ob_tenDebts ob_tenMany ob_fewestBy ob_covered ob_queue ob_cameBy ob_parent ob_met ob_calls ob_callMany ob_calledOn ob_saved ob_many ob_width ob_numbers ob_moving), (ce_i9080 y ob_world fob_world)] sz) := by
  refine Met.ofW (cc := cX10_isThere) (maxL := 3) (ret := (some .boolean)) (by decide) rfl ?_
  intro p e s m args below meth c s₁ B hml hv
  obtain ⟨rfl, hsz, hP, hK, hD0⟩ := hv
  have hx := B.exec
  have hb := B.bytes
  have hr := B.returns
  have hw0 : ∀ w ∈ wAll, w.before _ s = true := fun w h => atoms_spec (ws := Cond.code yX10_isThere cX10_isThere 3 (some .boolean) :: wAll) B.pre w (List.mem_cons_of_mem _ h)
  have hown : s.vm.findClass RX10 = some m.cls := findClass_of_methodNamed B.named
  subst hsz
  have hD := hD0.self (sz := s.heap.size)
  generalize hAe : va_A [(ce_X10 ob ob_thrown ob_world ob_images ob_hasImage ob_tape ob_taped ob_five ob_size ob_at ob_from ob_token ob_value ob_faultKind ob_faultPlace ob_fresh ob_parts ob_houses ob_houseMany ob_worthOf ob_byCall ob_over ob_bestSet ob_bestOver ob_bestWorth ob_row ob_tenDebts ob_tenMany ob_fewestBy ob_covered ob_queue ob_cameBy ob_parent ob_met ob_calls ob_callMany ob_calledOn ob_saved ob_many ob_width ob_numbers ob_moving), (ce_i9080 y ob_world fob_world)] s.heap.size = A at hD ⊢
  have hA : ∀ q : Nat, s.heap.size ≤ q → A q := fun q h => by rw [← hAe]; exact Or.inr h
  have hS : va_S A s.heap s.heap [] := va_S.rf
  have hP : va_P G vwCl [(ce_X10 ob ob_thrown ob_world ob_images ob_hasImage ob_tape ob_taped ob_five ob_size ob_at ob_from ob_token ob_value ob_faultKind ob_faultPlace ob_fresh ob_parts ob_houses ob_houseMany ob_worthOf ob_byCall ob_over ob_bestSet ob_bestOver ob_bestWorth ob_row ob_tenDebts ob_tenMany ob_fewestBy ob_covered ob_queue ob_cameBy ob_parent ob_met ob_calls ob_callMany ob_calledOn ob_saved ob_many ob_width ob_numbers ob_moving), (ce_i9080 y ob_world fob_world)] s.heap := hP
  have hl := lv_entry ([.ref ob, .int a1, .int a2]) (n := 3) (Nat.le_of_ble_eq_true rfl)
  rw [lg_entry_eq]
  generalize (lg_sl ([.ref ob, .int a1, .int a2]) ++ List.replicate (3 - (lg_sl ([.ref ob, .int a1, .int a2])).length) Slot.unset).toArray = ls at hl ⊢
  have hl : lv_has ls 3 [(0, .ref ob), (1, .int a1), (2, .int a2)] := hl
  refine lv_aload_n hx hb dX10_isThere_0 rfl (lv_at hl 0 rfl) ?_
  refine lv_iload_n hx hb dX10_isThere_1 rfl (lv_at hl 1 rfl) ?_
  refine lv_bipush (v := 6) hx hb dX10_isThere_2 (by decide) ?_
  refine cVim (As := [.int a1, .int 6]) (rest := []) ⟨hx, hb, hml, hown, hw0⟩ hA hK hP hD hS [true, true] (gofHouse6 l G y _ ob a1 ob_thrown ob_world ob_images ob_hasImage ob_tape ob_taped ob_five ob_size ob_at ob_from ob_token ob_value ob_faultKind ob_faultPlace ob_fresh ob_parts ob_houses ob_houseMany ob_worthOf ob_byCall ob_over ob_bestSet ob_bestOver ob_bestWorth ob_row ob_tenDebts ob_tenMany ob_fewestBy ob_covered ob_queue ob_cameBy ob_parent ob_met ob_calls ob_callMany ob_calledOn ob_saved ob_many ob_width ob_numbers ob_moving fob_world p_fob_world p_ob_taped p_ob_size p_ob_at p_ob_from p_ob_token p_ob_value p_ob_faultKind p_ob_houseMany p_ob_bestSet p_ob_bestOver p_ob_tenMany p_ob_callMany p_a1) rfl ⟨(callB_of 2 hw0 (gA m_577) rfl rfl rfl (hw0 _ m_41) (hw0 _ m_388) cb_X10_ofHouse ⟨Nat.le_of_ble_eq_true rfl, Nat.le_of_ble_eq_true rfl⟩), (hw0 _ m_389), (hw0 _ m_390)⟩ (ci := 10) (q := (RX10, TX10, 41)) rfl rfl rfl hl.1 (Nat.le_of_ble_eq_true rfl) dX10_isThere_4 ⟨Nat.le_of_ble_eq_true rfl, Nat.le_of_ble_eq_true rfl⟩ (fun r_1001 w_1001 H locs hw_1001 hP hD hS => ?_)
  obtain ⟨v_1002, bv_1002, h_1003, er_1001, rfl⟩ := hw_1001
  subst r_1001
  obtain ⟨hP, hD⟩ : vPD G A H [(ce_X10 ob ob_thrown ob_world ob_images ob_hasImage ob_tape ob_taped ob_five ob_size ob_at ob_from ob_token ob_value ob_faultKind ob_faultPlace ob_fresh ob_parts ob_houses ob_houseMany ob_worthOf ob_byCall ob_over ob_bestSet ob_bestOver ob_bestWorth ob_row ob_tenDebts ob_tenMany ob_fewestBy ob_covered ob_queue ob_cameBy ob_parent ob_met ob_calls ob_callMany ob_calledOn ob_saved ob_many ob_width ob_numbers ob_moving), (ce_i9080 y ob_world fob_world)] := ⟨hP, hD⟩
  refine lv_iload_n hx hb dX10_isThere_7 rfl (lv_at hl 2 rfl) ?_
  refine lv_icmp_gt (tgt := 15) hx hb dX10_isThere_8 (by decide) (fun c_1004 => ?_) (fun c_1004 => ?_)
  · skip
    have nc_1004 := nb_lt (398) (1) c_1004 p_a2 bv_1002 (by decide)
    refine lv_iconst (v := 0) hx hb dX10_isThere_15 (by decide) ?_
    exact W.zret (v := 0) hx hb hr rfl (fun t ht hW => ⟨⟨0, _, rfl, Or.inl (⟨nc_1004.1, by have h90 : Int32.toInt 0 = 0 := (by decide); omega, rfl, rfl⟩), by rw [ht]; exact hP, hD⟩, hS.F ht⟩) hS.2.2 dX10_isThere_16
  · skip
    have nc_1004 := nb_nlt (399) (0) c_1004 bv_1002 p_a2 (by decide)
    refine lv_iconst (v := 1) hx hb dX10_isThere_11 (by decide) ?_
    refine lv_goto (tgt := 16) hx hb dX10_isThere_12 (by decide) ?_
    exact W.zret (v := 1) hx hb hr rfl (fun t ht hW => ⟨⟨1, _, rfl, Or.inr (⟨by have h90 : Int32.toInt 1 = 1 := (by decide); omega, rfl, rfl⟩), by rw [ht]; exact hP, hD⟩, hS.F ht⟩) hS.2.2 dX10_isThere_16

set_option maxHeartbeats 4000000 in
set_option maxRecDepth 100000 in
theorem gisNew (l : Launch) (G : va_G) (y : Nat → ClassId) (sz : Nat) (ob : Nat) (a1 : Int32) (ob_thrown : Int32) (ob_world : Nat) (ob_images : Nat) (ob_hasImage : Nat) (ob_tape : Nat) (ob_taped : Int32) (ob_five : Nat) (ob_size : Int32) (ob_at : Int32) (ob_from : Int32) (ob_token : Int32) (ob_value : Int32) (ob_faultKind : Int32) (ob_faultPlace : Int32) (ob_fresh : Nat) (ob_parts : Nat) (ob_houses : Nat) (ob_houseMany : Int32) (ob_worthOf : Nat) (ob_byCall : Nat) (ob_over : Nat) (ob_bestSet : Int32) (ob_bestOver : Int32) (ob_bestWorth : Int32) (ob_row : Nat) (ob_tenDebts : Nat) (ob_tenMany : Int32) (ob_fewestBy : Nat) (ob_covered : Nat) (ob_queue : Nat) (ob_cameBy : Nat) (ob_parent : Nat) (ob_met : Nat) (ob_calls : Nat) (ob_callMany : Int32) (ob_calledOn : Nat) (ob_saved : Nat) (ob_many : Nat) (ob_width : Nat) (ob_numbers : Nat) (ob_moving : Nat) (fob_world : Nat → Int32) (p_fob_world : RWw fob_world) (p_ob_taped : (0 : Int) ≤ ob_taped.toInt ∧ ob_taped.toInt ≤ 1400) (p_ob_size : (0 : Int) ≤ ob_size.toInt ∧ ob_size.toInt ≤ 1400) (p_ob_at : (0 : Int) ≤ ob_at.toInt ∧ ob_at.toInt ≤ 1400) (p_ob_from : (0 : Int) ≤ ob_from.toInt ∧ ob_from.toInt ≤ 1400) (p_ob_token : (0 : Int) ≤ ob_token.toInt ∧ ob_token.toInt ≤ 4) (p_ob_value : (0 : Int) ≤ ob_value.toInt ∧ ob_value.toInt ≤ 9999) (p_ob_faultKind : (0 : Int) ≤ ob_faultKind.toInt ∧ ob_faultKind.toInt ≤ 3) (p_ob_houseMany : (0 : Int) ≤ ob_houseMany.toInt ∧ ob_houseMany.toInt ≤ 10) (p_ob_bestSet : (0 : Int) ≤ ob_bestSet.toInt ∧ ob_bestSet.toInt ≤ 1023) (p_ob_bestOver : (-1 : Int) ≤ ob_bestOver.toInt ∧ ob_bestOver.toInt ≤ 180) (p_ob_tenMany : (0 : Int) ≤ ob_tenMany.toInt ∧ ob_tenMany.toInt ≤ 10) (p_ob_callMany : (0 : Int) ≤ ob_callMany.toInt ∧ ob_callMany.toInt ≤ 16) (p_a1 : (0 : Int) ≤ a1.toInt ∧ a1.toInt ≤ 15) : Met l yX10_isNew (Cond.code yX10_isNew cX10_isNew 2 (some .boolean) :: wAll) ({ frames := 1, cells := 0, slots := 0, locals := 22 }) (va_Pc [.ref ob, .int a1] (kp G y sz [(ce_X10 ob ob_thrown ob_world ob_images ob_hasImage ob_tape ob_taped ob_five ob_size ob_at ob_from ob_token ob_value ob_faultKind ob_faultPlace ob_fresh ob_parts ob_houses ob_houseMany ob_worthOf ob_byCall ob_over ob_bestSet ob_bestOver ob_bestWorth ob_row ob_tenDebts ob_tenMany ob_fewestBy ob_covered ob_queue ob_cameBy ob_parent ob_met ob_calls ob_callMany ob_calledOn ob_saved ob_many ob_width ob_numbers ob_moving), (ce_i9080 y ob_world fob_world)])) (va_Qi (fun (r : Int32) (w : va_W) => (((fob_world 4).toInt < (fob_world 6).toInt - (fob_world (16 + 9 * a1.toInt.toNat)).toInt) ∧ r = 0 ∧ w = [(ce_X10 ob ob_thrown ob_world ob_images ob_hasImage ob_tape ob_taped ob_five ob_size ob_at ob_from ob_token ob_value ob_faultKind ob_faultPlace ob_fresh ob_parts ob_houses ob_houseMany ob_worthOf ob_byCall ob_over ob_bestSet ob_bestOver ob_bestWorth ob_row ob_tenDebts ob_tenMany ob_fewestBy ob_covered ob_queue ob_cameBy ob_parent ob_met ob_calls ob_callMany ob_calledOn ob_saved ob_many ob_width ob_numbers ob_moving), (ce_i9080 y ob_world fob_world)]) ∨ (((fob_world 6).toInt - (fob_world (16 + 9 * a1.toInt.toNat)).toInt ≤ (fob_world 4).toInt) ∧ r = 1 ∧ w = [(ce_X10 ob ob_thrown ob_world ob_images ob_hasImage ob_tape ob_taped ob_five ob_size ob_at ob_from ob_token ob_value ob_faultKind ob_faultPlace ob_fresh ob_parts ob_houses ob_houseMany ob_worthOf ob_byCall ob_over ob_bestSet ob_bestOver ob_bestWorth ob_row ob_tenDebts ob_tenMany ob_fewestBy ob_covered ob_queue ob_cameBy ob_parent ob_met ob_calls ob_callMany ob_calledOn ob_saved ob_many ob_width ob_numbers ob_moving), (ce_i9080 y ob_world fob_world)])) (kq G (va_A [(ce_X10 ob ob_thrown ob_world ob_images ob_hasImage ob_tape ob_taped ob_five ob_size ob_at ob_from ob_token ob_value ob_faultKind ob_faultPlace ob_fresh ob_parts ob_houses ob_houseMany ob_worthOf ob_byCall ob_over ob_bestSet ob_bestOver ob_bestWorth ob_row ob_tenDebts ob_tenMany ob_fewestBy ob_covered ob_queue ob_cameBy ob_parent ob_met ob_calls ob_callMany ob_calledOn ob_saved ob_many ob_width ob_numbers ob_moving), (ce_i9080 y ob_world fob_world)] sz)) (va_A [(ce_X10 ob ob_thrown ob_world ob_images ob_hasImage ob_tape ob_taped ob_five ob_size ob_at ob_from ob_token ob_value ob_faultKind ob_faultPlace ob_fresh ob_parts ob_houses ob_houseMany ob_worthOf ob_byCall ob_over ob_bestSet ob_bestOver ob_bestWorth ob_row ob_tenDebts ob_tenMany ob_fewestBy ob_covered ob_queue ob_cameBy ob_parent ob_met ob_calls ob_callMany ob_calledOn ob_saved ob_many ob_width ob_numbers ob_moving), (ce_i9080 y ob_world fob_world)] sz)) 0 0 (va_A [(ce_X10 ob ob_thrown ob_world ob_images ob_hasImage ob_tape ob_taped ob_five ob_size ob_at ob_from ob_token ob_value ob_faultKind ob_faultPlace ob_fresh ob_parts ob_houses ob_houseMany ob_worthOf ob_byCall ob_over ob_bestSet ob_bestOver ob_bestWorth ob_row ob_tenDebts ob_tenMany ob_fewestBy ob_covered ob_queue ob_cameBy ob_parent ob_met ob_calls ob_callMany ob_calledOn ob_saved ob_many ob_width ob_numbers ob_moving), (ce_i9080 y ob_world fob_world)] sz) := by
  refine Met.ofW (cc := cX10_isNew) (maxL := 2) (ret := (some .boolean)) (by decide) rfl ?_
  intro p e s m args below meth c s₁ B hml hv
  obtain ⟨rfl, hsz, hP, hK, hD0⟩ := hv
  have hx := B.exec
  have hb := B.bytes
  have hr := B.returns
  have hw0 : ∀ w ∈ wAll, w.before _ s = true := fun w h => atoms_spec (ws := Cond.code yX10_isNew cX10_isNew 2 (some .boolean) :: wAll) B.pre w (List.mem_cons_of_mem _ h)
  have hown : s.vm.findClass RX10 = some m.cls := findClass_of_methodNamed B.named
  subst hsz
  have hD := hD0.self (sz := s.heap.size)
  generalize hAe : va_A [(ce_X10 ob ob_thrown ob_world ob_images ob_hasImage ob_tape ob_taped ob_five ob_size ob_at ob_from ob_token ob_value ob_faultKind ob_faultPlace ob_fresh ob_parts ob_houses ob_houseMany ob_worthOf ob_byCall ob_over ob_bestSet ob_bestOver ob_bestWorth ob_row ob_tenDebts ob_tenMany ob_fewestBy ob_covered ob_queue ob_cameBy ob_parent ob_met ob_calls ob_callMany ob_calledOn ob_saved ob_many ob_width ob_numbers ob_moving), (ce_i9080 y ob_world fob_world)] s.heap.size = A at hD ⊢
  have hA : ∀ q : Nat, s.heap.size ≤ q → A q := fun q h => by rw [← hAe]; exact Or.inr h
  have hS : va_S A s.heap s.heap [] := va_S.rf
  have hP : va_P G vwCl [(ce_X10 ob ob_thrown ob_world ob_images ob_hasImage ob_tape ob_taped ob_five ob_size ob_at ob_from ob_token ob_value ob_faultKind ob_faultPlace ob_fresh ob_parts ob_houses ob_houseMany ob_worthOf ob_byCall ob_over ob_bestSet ob_bestOver ob_bestWorth ob_row ob_tenDebts ob_tenMany ob_fewestBy ob_covered ob_queue ob_cameBy ob_parent ob_met ob_calls ob_callMany ob_calledOn ob_saved ob_many ob_width ob_numbers ob_moving), (ce_i9080 y ob_world fob_world)] s.heap := hP
  have hl := lv_entry ([.ref ob, .int a1]) (n := 2) (Nat.le_of_ble_eq_true rfl)
  rw [lg_entry_eq]
  generalize (lg_sl ([.ref ob, .int a1]) ++ List.replicate (2 - (lg_sl ([.ref ob, .int a1])).length) Slot.unset).toArray = ls at hl ⊢
  have hl : lv_has ls 2 [(0, .ref ob), (1, .int a1)] := hl
  refine lv_aload_n hx hb dX10_isNew_0 rfl (lv_at hl 0 rfl) ?_
  refine cVim (As := []) (rest := []) ⟨hx, hb, hml, hown, hw0⟩ hA hK hP hD hS [true, true] (sX10_today l G y _ ob ob_thrown ob_world ob_images ob_hasImage ob_tape ob_taped ob_five ob_size ob_at ob_from ob_token ob_value ob_faultKind ob_faultPlace ob_fresh ob_parts ob_houses ob_houseMany ob_worthOf ob_byCall ob_over ob_bestSet ob_bestOver ob_bestWorth ob_row ob_tenDebts ob_tenMany ob_fewestBy ob_covered ob_queue ob_cameBy ob_parent ob_met ob_calls ob_callMany ob_calledOn ob_saved ob_many ob_width ob_numbers ob_moving fob_world p_fob_world p_ob_taped p_ob_size p_ob_at p_ob_from p_ob_token p_ob_value p_ob_faultKind p_ob_houseMany p_ob_bestSet p_ob_bestOver p_ob_tenMany p_ob_callMany) rfl ⟨(callB_of 0 hw0 (gA m_689) rfl rfl rfl (hw0 _ m_41) (hw0 _ m_373) cb_X10_today ⟨Nat.le_of_ble_eq_true rfl, Nat.le_of_ble_eq_true rfl⟩), (hw0 _ m_374), (hw0 _ m_375)⟩ (ci := 10) (q := (RX10, TX10, 41)) rfl rfl rfl hl.1 (Nat.le_of_ble_eq_true rfl) dX10_isNew_1 ⟨Nat.le_of_ble_eq_true rfl, Nat.le_of_ble_eq_true rfl⟩ (fun r_1001 w_1001 H locs hw_1001 hP hD hS => ?_)
  obtain ⟨v_1002, bv_1002, h_1003, er_1001, rfl⟩ := hw_1001
  subst r_1001
  obtain ⟨hP, hD⟩ : vPD G A H [(ce_X10 ob ob_thrown ob_world ob_images ob_hasImage ob_tape ob_taped ob_five ob_size ob_at ob_from ob_token ob_value ob_faultKind ob_faultPlace ob_fresh ob_parts ob_houses ob_houseMany ob_worthOf ob_byCall ob_over ob_bestSet ob_bestOver ob_bestWorth ob_row ob_tenDebts ob_tenMany ob_fewestBy ob_covered ob_queue ob_cameBy ob_parent ob_met ob_calls ob_callMany ob_calledOn ob_saved ob_many ob_width ob_numbers ob_moving), (ce_i9080 y ob_world fob_world)] := ⟨hP, hD⟩
  refine lv_aload_n hx hb dX10_isNew_4 rfl (lv_at hl 0 rfl) ?_
  refine lv_iload_n hx hb dX10_isNew_5 rfl (lv_at hl 1 rfl) ?_
  refine lv_bipush (v := 6) hx hb dX10_isNew_6 (by decide) ?_
  refine cVim (As := [.int a1, .int 6]) (rest := [.int v_1002]) ⟨hx, hb, hml, hown, hw0⟩ hA hK hP hD hS [true, true] (gofHouse6 l G y _ ob a1 ob_thrown ob_world ob_images ob_hasImage ob_tape ob_taped ob_five ob_size ob_at ob_from ob_token ob_value ob_faultKind ob_faultPlace ob_fresh ob_parts ob_houses ob_houseMany ob_worthOf ob_byCall ob_over ob_bestSet ob_bestOver ob_bestWorth ob_row ob_tenDebts ob_tenMany ob_fewestBy ob_covered ob_queue ob_cameBy ob_parent ob_met ob_calls ob_callMany ob_calledOn ob_saved ob_many ob_width ob_numbers ob_moving fob_world p_fob_world p_ob_taped p_ob_size p_ob_at p_ob_from p_ob_token p_ob_value p_ob_faultKind p_ob_houseMany p_ob_bestSet p_ob_bestOver p_ob_tenMany p_ob_callMany p_a1) rfl ⟨(callB_of 2 hw0 (gA m_577) rfl rfl rfl (hw0 _ m_41) (hw0 _ m_388) cb_X10_ofHouse ⟨Nat.le_of_ble_eq_true rfl, Nat.le_of_ble_eq_true rfl⟩), (hw0 _ m_389), (hw0 _ m_390)⟩ (ci := 10) (q := (RX10, TX10, 41)) rfl rfl rfl hl.1 (Nat.le_of_ble_eq_true rfl) dX10_isNew_8 ⟨Nat.le_of_ble_eq_true rfl, Nat.le_of_ble_eq_true rfl⟩ (fun r_1004 w_1004 H locs hw_1004 hP hD hS => ?_)
  obtain ⟨v_1005, bv_1005, h_1006, er_1004, rfl⟩ := hw_1004
  subst r_1004
  obtain ⟨hP, hD⟩ : vPD G A H [(ce_X10 ob ob_thrown ob_world ob_images ob_hasImage ob_tape ob_taped ob_five ob_size ob_at ob_from ob_token ob_value ob_faultKind ob_faultPlace ob_fresh ob_parts ob_houses ob_houseMany ob_worthOf ob_byCall ob_over ob_bestSet ob_bestOver ob_bestWorth ob_row ob_tenDebts ob_tenMany ob_fewestBy ob_covered ob_queue ob_cameBy ob_parent ob_met ob_calls ob_callMany ob_calledOn ob_saved ob_many ob_width ob_numbers ob_moving), (ce_i9080 y ob_world fob_world)] := ⟨hP, hD⟩
  refine lv_isub hx hb dX10_isNew_11 ?_
  refine lv_topi (fun v_1007 ev_1007 => ?_)
  have qv_1007 := ba_sub ev_1007 bv_1002 bv_1005 (by decide)
  have bv_1007 : (-399 : Int) ≤ v_1007.toInt ∧ v_1007.toInt ≤ 399 := bq_sub qv_1007 bv_1002 bv_1005 _ _ (by decide)
  refine lv_aload_n hx hb dX10_isNew_12 rfl (lv_at hl 0 rfl) ?_
  refine va_get (D := G) (ci := 10) (v := .ref ob_world) (C := RX10) (T := TX10) (N := 41) hx hb hw0 inA_wsX100 hown hK.1 hP 0 rfl rfl 1 (by decide) (hw0 _ m_352) (fun _ h9 => h9) rfl dX10_isNew_13 ?_
  refine lv_iconst (v := 4) hx hb dX10_isNew_16 (by decide) ?_
  refine va_iald hx hb hK.1 hP 1 1 rfl rfl (vi (bkc (x := 4) (c := 4) (by decide)) (by decide)) dX10_isNew_17 ?_
  refine lv_topi (fun v_1008 ev_1008 => ?_)
  have yv_1008 : v_1008.toInt = (fob_world 4).toInt := congrArg Int32.toInt ev_1008
  refine lv_icmp_gt (tgt := 25) hx hb dX10_isNew_18 (by decide) (fun c_1009 => ?_) (fun c_1009 => ?_)
  · skip
    have nc_1009 := nb_lt (398) (-399) c_1009 (btop v_1008) bv_1007 (by decide)
    refine lv_iconst (v := 0) hx hb dX10_isNew_25 (by decide) ?_
    exact W.zret (v := 0) hx hb hr rfl (fun t ht hW => ⟨⟨0, _, rfl, Or.inl (⟨by have h90 : Int32.toInt 0 = 0 := (by decide); omega, rfl, rfl⟩), by rw [ht]; exact hP, hD⟩, hS.F ht⟩) hS.2.2 dX10_isNew_26
  · skip
    have nc_1009 := nb_nlt (399) (-399) c_1009 bv_1007 (btop v_1008) (by decide)
    refine lv_iconst (v := 1) hx hb dX10_isNew_21 (by decide) ?_
    refine lv_goto (tgt := 26) hx hb dX10_isNew_22 (by decide) ?_
    exact W.zret (v := 1) hx hb hr rfl (fun t ht hW => ⟨⟨1, _, rfl, Or.inr (⟨by have h90 : Int32.toInt 1 = 1 := (by decide); omega, rfl, rfl⟩), by rw [ht]; exact hP, hD⟩, hS.F ht⟩) hS.2.2 dX10_isNew_26

set_option maxHeartbeats 4000000 in
set_option maxRecDepth 100000 in
theorem gareKnown (l : Launch) (G : va_G) (y : Nat → ClassId) (sz : Nat) (ob : Nat) (a1 : Int32) (a2 : Int32) (ob_thrown : Int32) (ob_world : Nat) (ob_images : Nat) (ob_hasImage : Nat) (ob_tape : Nat) (ob_taped : Int32) (ob_five : Nat) (ob_size : Int32) (ob_at : Int32) (ob_from : Int32) (ob_token : Int32) (ob_value : Int32) (ob_faultKind : Int32) (ob_faultPlace : Int32) (ob_fresh : Nat) (ob_parts : Nat) (ob_houses : Nat) (ob_houseMany : Int32) (ob_worthOf : Nat) (ob_byCall : Nat) (ob_over : Nat) (ob_bestSet : Int32) (ob_bestOver : Int32) (ob_bestWorth : Int32) (ob_row : Nat) (ob_tenDebts : Nat) (ob_tenMany : Int32) (ob_fewestBy : Nat) (ob_covered : Nat) (ob_queue : Nat) (ob_cameBy : Nat) (ob_parent : Nat) (ob_met : Nat) (ob_calls : Nat) (ob_callMany : Int32) (ob_calledOn : Nat) (ob_saved : Nat) (ob_many : Nat) (ob_width : Nat) (ob_numbers : Nat) (ob_moving : Nat) (fob_world : Nat → Int32) (p_fob_world : RWw fob_world) (p_ob_taped : (0 : Int) ≤ ob_taped.toInt ∧ ob_taped.toInt ≤ 1400) (p_ob_size : (0 : Int) ≤ ob_size.toInt ∧ ob_size.toInt ≤ 1400) (p_ob_at : (0 : Int) ≤ ob_at.toInt ∧ ob_at.toInt ≤ 1400) (p_ob_from : (0 : Int) ≤ ob_from.toInt ∧ ob_from.toInt ≤ 1400) (p_ob_token : (0 : Int) ≤ ob_token.toInt ∧ ob_token.toInt ≤ 4) (p_ob_value : (0 : Int) ≤ ob_value.toInt ∧ ob_value.toInt ≤ 9999) (p_ob_faultKind : (0 : Int) ≤ ob_faultKind.toInt ∧ ob_faultKind.toInt ≤ 3) (p_ob_houseMany : (0 : Int) ≤ ob_houseMany.toInt ∧ ob_houseMany.toInt ≤ 10) (p_ob_bestSet : (0 : Int) ≤ ob_bestSet.toInt ∧ ob_bestSet.toInt ≤ 1023) (p_ob_bestOver : (-1 : Int) ≤ ob_bestOver.toInt ∧ ob_bestOver.toInt ≤ 180) (p_ob_tenMany : (0 : Int) ≤ ob_tenMany.toInt ∧ ob_tenMany.toInt ≤ 10) (p_ob_callMany : (0 : Int) ≤ ob_callMany.toInt ∧ ob_callMany.toInt ≤ 16) (p_a1 : (0 : Int) ≤ a1.toInt ∧ a1.toInt ≤ 15) (p_a2 : (0 : Int) ≤ a2.toInt ∧ a2.toInt ≤ 15) : Met l yX10_areKnown (Cond.code yX10_areKnown cX10_areKnown 3 (some .boolean) :: wAll) ({ frames := 1, cells := 0, slots := 0, locals := 21 }) (va_Pc [.ref ob, .int a1, .int a2] (kp G y sz [(ce_X10 ob ob_thrown ob_world ob_images ob_hasImage ob_tape ob_taped ob_five ob_size ob_at ob_from ob_token ob_value ob_faultKind ob_faultPlace ob_fresh ob_parts ob_houses ob_houseMany ob_worthOf ob_byCall ob_over ob_bestSet ob_bestOver ob_bestWorth ob_row ob_tenDebts ob_tenMany ob_fewestBy ob_covered ob_queue ob_cameBy ob_parent ob_met ob_calls ob_callMany ob_calledOn ob_saved ob_many ob_width ob_numbers ob_moving), (ce_i9080 y ob_world fob_world)])) (va_Qi (fun (r : Int32) (w : va_W) => ((gk fob_world a1.toInt a2.toInt = 0) ∧ r = 0 ∧ w = [(ce_X10 ob ob_thrown ob_world ob_images ob_hasImage ob_tape ob_taped ob_five ob_size ob_at ob_from ob_token ob_value ob_faultKind ob_faultPlace ob_fresh ob_parts ob_houses ob_houseMany ob_worthOf ob_byCall ob_over ob_bestSet ob_bestOver ob_bestWorth ob_row ob_tenDebts ob_tenMany ob_fewestBy ob_covered ob_queue ob_cameBy ob_parent ob_met ob_calls ob_callMany ob_calledOn ob_saved ob_many ob_width ob_numbers ob_moving), (ce_i9080 y ob_world fob_world)]) ∨ ((gk fob_world a1.toInt a2.toInt = 1) ∧ r = 1 ∧ w = [(ce_X10 ob ob_thrown ob_world ob_images ob_hasImage ob_tape ob_taped ob_five ob_size ob_at ob_from ob_token ob_value ob_faultKind ob_faultPlace ob_fresh ob_parts ob_houses ob_houseMany ob_worthOf ob_byCall ob_over ob_bestSet ob_bestOver ob_bestWorth ob_row ob_tenDebts ob_tenMany ob_fewestBy ob_covered ob_queue ob_cameBy ob_parent ob_met ob_calls ob_callMany ob_calledOn ob_saved ob_many ob_width ob_numbers ob_moving), (ce_i9080 y ob_world fob_world)])) (kq G (va_A [(ce_X10 ob ob_thrown ob_world ob_images ob_hasImage ob_tape ob_taped ob_five ob_size ob_at ob_from ob_token ob_value ob_faultKind ob_faultPlace ob_fresh ob_parts ob_houses ob_houseMany ob_worthOf ob_byCall ob_over ob_bestSet ob_bestOver ob_bestWorth ob_row ob_tenDebts ob_tenMany ob_fewestBy ob_covered ob_queue ob_cameBy ob_parent ob_met ob_calls ob_callMany ob_calledOn ob_saved ob_many ob_width ob_numbers ob_moving), (ce_i9080 y ob_world fob_world)] sz)) (va_A [(ce_X10 ob ob_thrown ob_world ob_images ob_hasImage ob_tape ob_taped ob_five ob_size ob_at ob_from ob_token ob_value ob_faultKind ob_faultPlace ob_fresh ob_parts ob_houses ob_houseMany ob_worthOf ob_byCall ob_over ob_bestSet ob_bestOver ob_bestWorth ob_row ob_tenDebts ob_tenMany ob_fewestBy ob_covered ob_queue ob_cameBy ob_parent ob_met ob_calls ob_callMany ob_calledOn ob_saved ob_many ob_width ob_numbers ob_moving), (ce_i9080 y ob_world fob_world)] sz)) 0 0 (va_A [(ce_X10 ob ob_thrown ob_world ob_images ob_hasImage ob_tape ob_taped ob_five ob_size ob_at ob_from ob_token ob_value ob_faultKind ob_faultPlace ob_fresh ob_parts ob_houses ob_houseMany ob_worthOf ob_byCall ob_over ob_bestSet ob_bestOver ob_bestWorth ob_row ob_tenDebts ob_tenMany ob_fewestBy ob_covered ob_queue ob_cameBy ob_parent ob_met ob_calls ob_callMany ob_calledOn ob_saved ob_many ob_width ob_numbers ob_moving), (ce_i9080 y ob_world fob_world)] sz) := by
  refine Met.ofW (cc := cX10_areKnown) (maxL := 3) (ret := (some .boolean)) (by decide) rfl ?_
  intro p e s m args below meth c s₁ B hml hv
  obtain ⟨rfl, hsz, hP, hK, hD0⟩ := hv
  have hx := B.exec
  have hb := B.bytes
  have hr := B.returns
  have hw0 : ∀ w ∈ wAll, w.before _ s = true := fun w h => atoms_spec (ws := Cond.code yX10_areKnown cX10_areKnown 3 (some .boolean) :: wAll) B.pre w (List.mem_cons_of_mem _ h)
  have hown : s.vm.findClass RX10 = some m.cls := findClass_of_methodNamed B.named
  subst hsz
  have hD := hD0.self (sz := s.heap.size)
  generalize hAe : va_A [(ce_X10 ob ob_thrown ob_world ob_images ob_hasImage ob_tape ob_taped ob_five ob_size ob_at ob_from ob_token ob_value ob_faultKind ob_faultPlace ob_fresh ob_parts ob_houses ob_houseMany ob_worthOf ob_byCall ob_over ob_bestSet ob_bestOver ob_bestWorth ob_row ob_tenDebts ob_tenMany ob_fewestBy ob_covered ob_queue ob_cameBy ob_parent ob_met ob_calls ob_callMany ob_calledOn ob_saved ob_many ob_width ob_numbers ob_moving), (ce_i9080 y ob_world fob_world)] s.heap.size = A at hD ⊢
  have hA : ∀ q : Nat, s.heap.size ≤ q → A q := fun q h => by rw [← hAe]; exact Or.inr h
  have hS : va_S A s.heap s.heap [] := va_S.rf
  have hP : va_P G vwCl [(ce_X10 ob ob_thrown ob_world ob_images ob_hasImage ob_tape ob_taped ob_five ob_size ob_at ob_from ob_token ob_value ob_faultKind ob_faultPlace ob_fresh ob_parts ob_houses ob_houseMany ob_worthOf ob_byCall ob_over ob_bestSet ob_bestOver ob_bestWorth ob_row ob_tenDebts ob_tenMany ob_fewestBy ob_covered ob_queue ob_cameBy ob_parent ob_met ob_calls ob_callMany ob_calledOn ob_saved ob_many ob_width ob_numbers ob_moving), (ce_i9080 y ob_world fob_world)] s.heap := hP
  have hl := lv_entry ([.ref ob, .int a1, .int a2]) (n := 3) (Nat.le_of_ble_eq_true rfl)
  rw [lg_entry_eq]
  generalize (lg_sl ([.ref ob, .int a1, .int a2]) ++ List.replicate (3 - (lg_sl ([.ref ob, .int a1, .int a2])).length) Slot.unset).toArray = ls at hl ⊢
  have hl : lv_has ls 3 [(0, .ref ob), (1, .int a1), (2, .int a2)] := hl
  refine lv_aload_n hx hb dX10_areKnown_0 rfl (lv_at hl 0 rfl) ?_
  refine va_get (D := G) (ci := 10) (v := .ref ob_world) (C := RX10) (T := TX10) (N := 41) hx hb hw0 inA_wsX100 hown hK.1 hP 0 rfl rfl 1 (by decide) (hw0 _ m_352) (fun _ h9 => h9) rfl dX10_areKnown_1 ?_
  refine lv_sipush (v := 1864) hx hb dX10_areKnown_4 (by decide) ?_
  refine lv_iload_n hx hb dX10_areKnown_7 rfl (lv_at hl 1 rfl) ?_
  refine lv_iadd hx hb dX10_areKnown_8 ?_
  refine lv_topi (fun v_1001 ev_1001 => ?_)
  have qv_1001 := ba_add ev_1001 (bkc (x := 1864) (c := 1864) (by decide)) p_a1 (by decide)
  have bv_1001 : (1864 : Int) ≤ v_1001.toInt ∧ v_1001.toInt ≤ 1879 := bq_add qv_1001 (bkc (x := 1864) (c := 1864) (by decide)) p_a1 _ _ (by decide)
  have qv_1001 : v_1001.toInt = (1864) + a1.toInt := qv_1001
  refine va_iald hx hb hK.1 hP 1 1 rfl rfl (vi bv_1001 (by decide)) dX10_areKnown_9 ?_
  refine lv_topi (fun v_1002 ev_1002 => ?_)
  have bv_1002 : (0 : Int) ≤ v_1002.toInt ∧ v_1002.toInt ≤ 65535 := rdw ev_1002 (p_fob_world).1.1 pl_12 (by omega) (p_a1)
  refine lv_iload_n hx hb dX10_areKnown_10 rfl (lv_at hl 2 rfl) ?_
  refine cSim (As := [.int v_1002, .int a2]) (rest := []) ⟨hx, hb, hml, hown, hw0⟩ hA hK hP hD hS [] (sholdB l G y _ v_1002 a2 bv_1002 p_a2) rfl ⟨(callB_of 2 hw0 (gA m_512) rfl rfl rfl (hw0 _ m_41) (hw0 _ m_353) cb_X10_holds ⟨Nat.le_of_ble_eq_true rfl, Nat.le_of_ble_eq_true rfl⟩), (hw0 _ m_354)⟩ rfl hl.1 (Nat.le_of_ble_eq_true rfl) dX10_areKnown_11 ⟨Nat.le_of_ble_eq_true rfl, Nat.le_of_ble_eq_true rfl⟩ (fun r_1003 w_1003 H locs hw_1003 hP hD hS => ?_)
  rcases hw_1003 with ⟨h_1004, rfl, rfl⟩ | ⟨h_1005, rfl, rfl⟩
  · skip
    obtain ⟨hP, hD⟩ : vPD G A H [(ce_X10 ob ob_thrown ob_world ob_images ob_hasImage ob_tape ob_taped ob_five ob_size ob_at ob_from ob_token ob_value ob_faultKind ob_faultPlace ob_fresh ob_parts ob_houses ob_houseMany ob_worthOf ob_byCall ob_over ob_bestSet ob_bestOver ob_bestWorth ob_row ob_tenDebts ob_tenMany ob_fewestBy ob_covered ob_queue ob_cameBy ob_parent ob_met ob_calls ob_callMany ob_calledOn ob_saved ob_many ob_width ob_numbers ob_moving), (ce_i9080 y ob_world fob_world)] := ⟨hP, hD⟩
    exact W.zret (v := 0) hx hb hr rfl (fun t ht hW => ⟨⟨0, _, rfl, Or.inl (⟨(gk_h ev_1002 (by omega) (by omega) h_1004), rfl, rfl⟩), by rw [ht]; exact hP, hD⟩, hS.F ht⟩) hS.2.2 dX10_areKnown_14
  · skip
    obtain ⟨hP, hD⟩ : vPD G A H [(ce_X10 ob ob_thrown ob_world ob_images ob_hasImage ob_tape ob_taped ob_five ob_size ob_at ob_from ob_token ob_value ob_faultKind ob_faultPlace ob_fresh ob_parts ob_houses ob_houseMany ob_worthOf ob_byCall ob_over ob_bestSet ob_bestOver ob_bestWorth ob_row ob_tenDebts ob_tenMany ob_fewestBy ob_covered ob_queue ob_cameBy ob_parent ob_met ob_calls ob_callMany ob_calledOn ob_saved ob_many ob_width ob_numbers ob_moving), (ce_i9080 y ob_world fob_world)] := ⟨hP, hD⟩
    exact W.zret (v := 1) hx hb hr rfl (fun t ht hW => ⟨⟨1, _, rfl, Or.inr (⟨(gk_h ev_1002 (by omega) (by omega) h_1005), rfl, rfl⟩), by rw [ht]; exact hP, hD⟩, hS.F ht⟩) hS.2.2 dX10_areKnown_14

set_option maxHeartbeats 4000000 in
set_option maxRecDepth 100000 in
theorem gisIntroduced (l : Launch) (G : va_G) (y : Nat → ClassId) (sz : Nat) (ob : Nat) (a1 : Int32) (a2 : Int32) (ob_thrown : Int32) (ob_world : Nat) (ob_images : Nat) (ob_hasImage : Nat) (ob_tape : Nat) (ob_taped : Int32) (ob_five : Nat) (ob_size : Int32) (ob_at : Int32) (ob_from : Int32) (ob_token : Int32) (ob_value : Int32) (ob_faultKind : Int32) (ob_faultPlace : Int32) (ob_fresh : Nat) (ob_parts : Nat) (ob_houses : Nat) (ob_houseMany : Int32) (ob_worthOf : Nat) (ob_byCall : Nat) (ob_over : Nat) (ob_bestSet : Int32) (ob_bestOver : Int32) (ob_bestWorth : Int32) (ob_row : Nat) (ob_tenDebts : Nat) (ob_tenMany : Int32) (ob_fewestBy : Nat) (ob_covered : Nat) (ob_queue : Nat) (ob_cameBy : Nat) (ob_parent : Nat) (ob_met : Nat) (ob_calls : Nat) (ob_callMany : Int32) (ob_calledOn : Nat) (ob_saved : Nat) (ob_many : Nat) (ob_width : Nat) (ob_numbers : Nat) (ob_moving : Nat) (fob_world : Nat → Int32) (p_fob_world : RWw fob_world) (p_ob_taped : (0 : Int) ≤ ob_taped.toInt ∧ ob_taped.toInt ≤ 1400) (p_ob_size : (0 : Int) ≤ ob_size.toInt ∧ ob_size.toInt ≤ 1400) (p_ob_at : (0 : Int) ≤ ob_at.toInt ∧ ob_at.toInt ≤ 1400) (p_ob_from : (0 : Int) ≤ ob_from.toInt ∧ ob_from.toInt ≤ 1400) (p_ob_token : (0 : Int) ≤ ob_token.toInt ∧ ob_token.toInt ≤ 4) (p_ob_value : (0 : Int) ≤ ob_value.toInt ∧ ob_value.toInt ≤ 9999) (p_ob_faultKind : (0 : Int) ≤ ob_faultKind.toInt ∧ ob_faultKind.toInt ≤ 3) (p_ob_houseMany : (0 : Int) ≤ ob_houseMany.toInt ∧ ob_houseMany.toInt ≤ 10) (p_ob_bestSet : (0 : Int) ≤ ob_bestSet.toInt ∧ ob_bestSet.toInt ≤ 1023) (p_ob_bestOver : (-1 : Int) ≤ ob_bestOver.toInt ∧ ob_bestOver.toInt ≤ 180) (p_ob_tenMany : (0 : Int) ≤ ob_tenMany.toInt ∧ ob_tenMany.toInt ≤ 10) (p_ob_callMany : (0 : Int) ≤ ob_callMany.toInt ∧ ob_callMany.toInt ≤ 16) (p_a1 : (0 : Int) ≤ a1.toInt ∧ a1.toInt ≤ 65535) (p_a2 : (0 : Int) ≤ a2.toInt ∧ a2.toInt ≤ 15) : Met l yX10_isIntroduced (Cond.code yX10_isIntroduced cX10_isIntroduced 3 (some .boolean) :: wAll) ({ frames := 1, cells := 0, slots := 0, locals := 22 }) (va_Pc [.ref ob, .int a1, .int a2] (kp G y sz [(ce_X10 ob ob_thrown ob_world ob_images ob_hasImage ob_tape ob_taped ob_five ob_size ob_at ob_from ob_token ob_value ob_faultKind ob_faultPlace ob_fresh ob_parts ob_houses ob_houseMany ob_worthOf ob_byCall ob_over ob_bestSet ob_bestOver ob_bestWorth ob_row ob_tenDebts ob_tenMany ob_fewestBy ob_covered ob_queue ob_cameBy ob_parent ob_met ob_calls ob_callMany ob_calledOn ob_saved ob_many ob_width ob_numbers ob_moving), (ce_i9080 y ob_world fob_world)])) (va_Qi (fun (r : Int32) (w : va_W) => (((fob_world 5).toInt > (cb 16 (a1.toInt.toNat &&& (fob_world (1864 + a2.toInt.toNat)).toInt.toNat) : Int)) ∧ r = 0 ∧ w = [(ce_X10 ob ob_thrown ob_world ob_images ob_hasImage ob_tape ob_taped ob_five ob_size ob_at ob_from ob_token ob_value ob_faultKind ob_faultPlace ob_fresh ob_parts ob_houses ob_houseMany ob_worthOf ob_byCall ob_over ob_bestSet ob_bestOver ob_bestWorth ob_row ob_tenDebts ob_tenMany ob_fewestBy ob_covered ob_queue ob_cameBy ob_parent ob_met ob_calls ob_callMany ob_calledOn ob_saved ob_many ob_width ob_numbers ob_moving), (ce_i9080 y ob_world fob_world)]) ∨ (((fob_world 5).toInt ≤ (cb 16 (a1.toInt.toNat &&& (fob_world (1864 + a2.toInt.toNat)).toInt.toNat) : Int)) ∧ r = 1 ∧ w = [(ce_X10 ob ob_thrown ob_world ob_images ob_hasImage ob_tape ob_taped ob_five ob_size ob_at ob_from ob_token ob_value ob_faultKind ob_faultPlace ob_fresh ob_parts ob_houses ob_houseMany ob_worthOf ob_byCall ob_over ob_bestSet ob_bestOver ob_bestWorth ob_row ob_tenDebts ob_tenMany ob_fewestBy ob_covered ob_queue ob_cameBy ob_parent ob_met ob_calls ob_callMany ob_calledOn ob_saved ob_many ob_width ob_numbers ob_moving), (ce_i9080 y ob_world fob_world)])) (kq G (va_A [(ce_X10 ob ob_thrown ob_world ob_images ob_hasImage ob_tape ob_taped ob_five ob_size ob_at ob_from ob_token ob_value ob_faultKind ob_faultPlace ob_fresh ob_parts ob_houses ob_houseMany ob_worthOf ob_byCall ob_over ob_bestSet ob_bestOver ob_bestWorth ob_row ob_tenDebts ob_tenMany ob_fewestBy ob_covered ob_queue ob_cameBy ob_parent ob_met ob_calls ob_callMany ob_calledOn ob_saved ob_many ob_width ob_numbers ob_moving), (ce_i9080 y ob_world fob_world)] sz)) (va_A [(ce_X10 ob ob_thrown ob_world ob_images ob_hasImage ob_tape ob_taped ob_five ob_size ob_at ob_from ob_token ob_value ob_faultKind ob_faultPlace ob_fresh ob_parts ob_houses ob_houseMany ob_worthOf ob_byCall ob_over ob_bestSet ob_bestOver ob_bestWorth ob_row ob_tenDebts ob_tenMany ob_fewestBy ob_covered ob_queue ob_cameBy ob_parent ob_met ob_calls ob_callMany ob_calledOn ob_saved ob_many ob_width ob_numbers ob_moving), (ce_i9080 y ob_world fob_world)] sz)) 0 0 (va_A [(ce_X10 ob ob_thrown ob_world ob_images ob_hasImage ob_tape ob_taped ob_five ob_size ob_at ob_from ob_token ob_value ob_faultKind ob_faultPlace ob_fresh ob_parts ob_houses ob_houseMany ob_worthOf ob_byCall ob_over ob_bestSet ob_bestOver ob_bestWorth ob_row ob_tenDebts ob_tenMany ob_fewestBy ob_covered ob_queue ob_cameBy ob_parent ob_met ob_calls ob_callMany ob_calledOn ob_saved ob_many ob_width ob_numbers ob_moving), (ce_i9080 y ob_world fob_world)] sz) := by
  refine Met.ofW (cc := cX10_isIntroduced) (maxL := 3) (ret := (some .boolean)) (by decide) rfl ?_
  intro p e s m args below meth c s₁ B hml hv
  obtain ⟨rfl, hsz, hP, hK, hD0⟩ := hv
  have hx := B.exec
  have hb := B.bytes
  have hr := B.returns
  have hw0 : ∀ w ∈ wAll, w.before _ s = true := fun w h => atoms_spec (ws := Cond.code yX10_isIntroduced cX10_isIntroduced 3 (some .boolean) :: wAll) B.pre w (List.mem_cons_of_mem _ h)
  have hown : s.vm.findClass RX10 = some m.cls := findClass_of_methodNamed B.named
  subst hsz
  have hD := hD0.self (sz := s.heap.size)
  generalize hAe : va_A [(ce_X10 ob ob_thrown ob_world ob_images ob_hasImage ob_tape ob_taped ob_five ob_size ob_at ob_from ob_token ob_value ob_faultKind ob_faultPlace ob_fresh ob_parts ob_houses ob_houseMany ob_worthOf ob_byCall ob_over ob_bestSet ob_bestOver ob_bestWorth ob_row ob_tenDebts ob_tenMany ob_fewestBy ob_covered ob_queue ob_cameBy ob_parent ob_met ob_calls ob_callMany ob_calledOn ob_saved ob_many ob_width ob_numbers ob_moving), (ce_i9080 y ob_world fob_world)] s.heap.size = A at hD ⊢
  have hA : ∀ q : Nat, s.heap.size ≤ q → A q := fun q h => by rw [← hAe]; exact Or.inr h
  have hS : va_S A s.heap s.heap [] := va_S.rf
  have hP : va_P G vwCl [(ce_X10 ob ob_thrown ob_world ob_images ob_hasImage ob_tape ob_taped ob_five ob_size ob_at ob_from ob_token ob_value ob_faultKind ob_faultPlace ob_fresh ob_parts ob_houses ob_houseMany ob_worthOf ob_byCall ob_over ob_bestSet ob_bestOver ob_bestWorth ob_row ob_tenDebts ob_tenMany ob_fewestBy ob_covered ob_queue ob_cameBy ob_parent ob_met ob_calls ob_callMany ob_calledOn ob_saved ob_many ob_width ob_numbers ob_moving), (ce_i9080 y ob_world fob_world)] s.heap := hP
  have hl := lv_entry ([.ref ob, .int a1, .int a2]) (n := 3) (Nat.le_of_ble_eq_true rfl)
  rw [lg_entry_eq]
  generalize (lg_sl ([.ref ob, .int a1, .int a2]) ++ List.replicate (3 - (lg_sl ([.ref ob, .int a1, .int a2])).length) Slot.unset).toArray = ls at hl ⊢
  have hl : lv_has ls 3 [(0, .ref ob), (1, .int a1), (2, .int a2)] := hl
  refine lv_iload_n hx hb dX10_isIntroduced_0 rfl (lv_at hl 1 rfl) ?_
  refine lv_aload_n hx hb dX10_isIntroduced_1 rfl (lv_at hl 0 rfl) ?_
  refine va_get (D := G) (ci := 10) (v := .ref ob_world) (C := RX10) (T := TX10) (N := 41) hx hb hw0 inA_wsX100 hown hK.1 hP 0 rfl rfl 1 (by decide) (hw0 _ m_352) (fun _ h9 => h9) rfl dX10_isIntroduced_2 ?_
  refine lv_sipush (v := 1864) hx hb dX10_isIntroduced_5 (by decide) ?_
  refine lv_iload_n hx hb dX10_isIntroduced_8 rfl (lv_at hl 2 rfl) ?_
  refine lv_iadd hx hb dX10_isIntroduced_9 ?_
  refine lv_topi (fun v_1001 ev_1001 => ?_)
  have qv_1001 := ba_add ev_1001 (bkc (x := 1864) (c := 1864) (by decide)) p_a2 (by decide)
  have bv_1001 : (1864 : Int) ≤ v_1001.toInt ∧ v_1001.toInt ≤ 1879 := bq_add qv_1001 (bkc (x := 1864) (c := 1864) (by decide)) p_a2 _ _ (by decide)
  have qv_1001 : v_1001.toInt = (1864) + a2.toInt := qv_1001
  refine va_iald hx hb hK.1 hP 1 1 rfl rfl (vi bv_1001 (by decide)) dX10_isIntroduced_10 ?_
  refine lv_topi (fun v_1002 ev_1002 => ?_)
  have bv_1002 : (0 : Int) ≤ v_1002.toInt ∧ v_1002.toInt ≤ 65535 := rdw ev_1002 (p_fob_world).1.1 pl_12 (by omega) (p_a2)
  refine lv_iand hx hb dX10_isIntroduced_11 ?_
  refine lv_topi (fun v_1003 ev_1003 => ?_)
  have bv_1003 : (0 : Int) ≤ v_1003.toInt ∧ v_1003.toInt ≤ 65535 := ba_andl ev_1003 p_a1 (by decide)
  refine cSim (As := [.int v_1003]) (rest := []) ⟨hx, hb, hml, hown, hw0⟩ hA hK hP hD hS [] (gones l G y _ v_1003 bv_1003) rfl ⟨(callB_of 1 hw0 (gA m_578) rfl rfl rfl (hw0 _ m_41) (hw0 _ m_447) cb_X10_ones ⟨Nat.le_of_ble_eq_true rfl, Nat.le_of_ble_eq_true rfl⟩), (hw0 _ m_448)⟩ rfl hl.1 (Nat.le_of_ble_eq_true rfl) dX10_isIntroduced_12 ⟨Nat.le_of_ble_eq_true rfl, Nat.le_of_ble_eq_true rfl⟩ (fun r_1004 w_1004 H locs hw_1004 hP hD hS => ?_)
  obtain ⟨v_1005, bv_1005, h_1006, er_1004, rfl⟩ := hw_1004
  subst r_1004
  obtain ⟨hP, hD⟩ : vPD G A H [(ce_X10 ob ob_thrown ob_world ob_images ob_hasImage ob_tape ob_taped ob_five ob_size ob_at ob_from ob_token ob_value ob_faultKind ob_faultPlace ob_fresh ob_parts ob_houses ob_houseMany ob_worthOf ob_byCall ob_over ob_bestSet ob_bestOver ob_bestWorth ob_row ob_tenDebts ob_tenMany ob_fewestBy ob_covered ob_queue ob_cameBy ob_parent ob_met ob_calls ob_callMany ob_calledOn ob_saved ob_many ob_width ob_numbers ob_moving), (ce_i9080 y ob_world fob_world)] := ⟨hP, hD⟩
  refine lv_aload_n hx hb dX10_isIntroduced_15 rfl (lv_at hl 0 rfl) ?_
  refine va_get (D := G) (ci := 10) (v := .ref ob_world) (C := RX10) (T := TX10) (N := 41) hx hb hw0 inA_wsX100 hown hK.1 hP 0 rfl rfl 1 (by decide) (hw0 _ m_352) (fun _ h9 => h9) rfl dX10_isIntroduced_16 ?_
  refine lv_iconst (v := 5) hx hb dX10_isIntroduced_19 (by decide) ?_
  refine va_iald hx hb hK.1 hP 1 1 rfl rfl (vi (bkc (x := 5) (c := 5) (by decide)) (by decide)) dX10_isIntroduced_20 ?_
  refine lv_topi (fun v_1007 ev_1007 => ?_)
  have yv_1007 : v_1007.toInt = (fob_world 5).toInt := congrArg Int32.toInt ev_1007
  refine lv_icmp_lt (tgt := 28) hx hb dX10_isIntroduced_21 (by decide) (fun c_1008 => ?_) (fun c_1008 => ?_)
  · skip
    have nc_1008 := nb_lt (16) (1) c_1008 bv_1005 (btop v_1007) (by decide)
    refine lv_iconst (v := 0) hx hb dX10_isIntroduced_28 (by decide) ?_
    exact W.zret (v := 0) hx hb hr rfl (fun t ht hW => ⟨⟨0, _, rfl, Or.inl (⟨(by have lm1 : Int32.toInt (-1) = -1 := (by decide); have l91 : Int32.toInt 1 = 1 := (by decide); have l92 : Int32.toInt 2 = 2 := (by decide); have l93 : Int32.toInt 3 = 3 := (by decide); have h90 : Int32.toInt 0 = 0 := (by decide); have h9 := qin_m ev_1003 ev_1002 (by omega) (by omega) (by omega) (by omega) h_1006; omega), rfl, rfl⟩), by rw [ht]; exact hP, hD⟩, hS.F ht⟩) hS.2.2 dX10_isIntroduced_29
  · skip
    have nc_1008 := nb_nlt (16) (0) c_1008 (btop v_1007) bv_1005 (by decide)
    refine lv_iconst (v := 1) hx hb dX10_isIntroduced_24 (by decide) ?_
    refine lv_goto (tgt := 29) hx hb dX10_isIntroduced_25 (by decide) ?_
    exact W.zret (v := 1) hx hb hr rfl (fun t ht hW => ⟨⟨1, _, rfl, Or.inr (⟨(by have lm1 : Int32.toInt (-1) = -1 := (by decide); have l91 : Int32.toInt 1 = 1 := (by decide); have l92 : Int32.toInt 2 = 2 := (by decide); have l93 : Int32.toInt 3 = 3 := (by decide); have h90 : Int32.toInt 1 = 1 := (by decide); have h9 := qin_m ev_1003 ev_1002 (by omega) (by omega) (by omega) (by omega) h_1006; omega), rfl, rfl⟩), by rw [ht]; exact hP, hD⟩, hS.F ht⟩) hS.2.2 dX10_isIntroduced_29
