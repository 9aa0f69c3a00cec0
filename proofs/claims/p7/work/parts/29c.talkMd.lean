set_option maxHeartbeats 4000000 in
set_option maxRecDepth 100000 in
theorem ggoes (l : Launch) (G : va_G) (y : Nat → ClassId) (sz : Nat) (ob : Nat) (a1 : Int32) (a2 : Int32) (a3 : Int32) (a4 : Int32) (ob_thrown : Int32) (ob_world : Nat) (ob_images : Nat) (ob_hasImage : Nat) (ob_tape : Nat) (ob_taped : Int32) (ob_five : Nat) (ob_size : Int32) (ob_at : Int32) (ob_from : Int32) (ob_token : Int32) (ob_value : Int32) (ob_faultKind : Int32) (ob_faultPlace : Int32) (ob_fresh : Nat) (ob_parts : Nat) (ob_houses : Nat) (ob_houseMany : Int32) (ob_worthOf : Nat) (ob_byCall : Nat) (ob_over : Nat) (ob_bestSet : Int32) (ob_bestOver : Int32) (ob_bestWorth : Int32) (ob_row : Nat) (ob_tenDebts : Nat) (ob_tenMany : Int32) (ob_fewestBy : Nat) (ob_covered : Nat) (ob_queue : Nat) (ob_cameBy : Nat) (ob_parent : Nat) (ob_met : Nat) (ob_calls : Nat) (ob_callMany : Int32) (ob_calledOn : Nat) (ob_saved : Nat) (ob_many : Nat) (ob_width : Nat) (ob_numbers : Nat) (ob_moving : Nat) (fob_world : Nat → Int32) (fob_parts : Nat → Int32) (p_fob_world : RWw fob_world) (p_ob_taped : (0 : Int) ≤ ob_taped.toInt ∧ ob_taped.toInt ≤ 1400) (p_ob_size : (0 : Int) ≤ ob_size.toInt ∧ ob_size.toInt ≤ 1400) (p_ob_at : (0 : Int) ≤ ob_at.toInt ∧ ob_at.toInt ≤ 1400) (p_ob_from : (0 : Int) ≤ ob_from.toInt ∧ ob_from.toInt ≤ 1400) (p_ob_token : (0 : Int) ≤ ob_token.toInt ∧ ob_token.toInt ≤ 4) (p_ob_value : (0 : Int) ≤ ob_value.toInt ∧ ob_value.toInt ≤ 9999) (p_ob_faultKind : (0 : Int) ≤ ob_faultKind.toInt ∧ ob_faultKind.toInt ≤ 3) (p_ob_houseMany : (0 : Int) ≤ ob_houseMany.toInt ∧ ob_houseMany.toInt ≤ 10) (p_ob_bestSet : (0 : Int) ≤ ob_bestSet.toInt ∧ ob_bestSet.toInt ≤ 1023) (p_ob_bestOver : (-1 : Int) ≤ ob_bestOver.toInt ∧ ob_bestOver.toInt ≤ 180) (p_ob_tenMany : (0 : Int) ≤ ob_tenMany.toInt ∧ ob_tenMany.toInt ≤ 10) (p_ob_callMany : (0 : Int) ≤ ob_callMany.toInt ∧ ob_callMany.toInt ≤ 16) (p_a1 : (0 : Int) ≤ a1.toInt ∧ a1.toInt ≤ 15) (p_a2 : (0 : Int) ≤ a2.toInt ∧ a2.toInt ≤ 15) (hq0 : (fob_world 7).toInt < (fob_world 8).toInt) : Met l yX10_goes (Cond.code yX10_goes cX10_goes 8 (some .int) :: wAll) ({ frames := 3, cells := 0, slots := 0, locals := 84 }) (va_Pc [.ref ob, .int a1, .int a2, .int a3, .int a4] (kp G y sz [(ce_X10 ob ob_thrown ob_world ob_images ob_hasImage ob_tape ob_taped ob_five ob_size ob_at ob_from ob_token ob_value ob_faultKind ob_faultPlace ob_fresh ob_parts ob_houses ob_houseMany ob_worthOf ob_byCall ob_over ob_bestSet ob_bestOver ob_bestWorth ob_row ob_tenDebts ob_tenMany ob_fewestBy ob_covered ob_queue ob_cameBy ob_parent ob_met ob_calls ob_callMany ob_calledOn ob_saved ob_many ob_width ob_numbers ob_moving), (ce_i9080 y ob_world fob_world), (ce_i6 y ob_parts fob_parts)])) (va_Qi (fun (r : Int32) (w : va_W) => (∃ (v_229 : Int32) (f_230 : Nat → Int32) (f_231 : Nat → Int32), ((0 : Int) ≤ v_229.toInt ∧ v_229.toInt ≤ 600) ∧ (RWw f_230) ∧ ((f_230 7).toInt ≤ (fob_world 7).toInt + 1 ∧ (f_230 8).toInt = (fob_world 8).toInt) ∧ (tgd (gkn fob_world a1.toInt a2.toInt a3.toInt) f_230) ∧ (0 ≤ (v_229 : Int32).toInt) ∧ (wfr fob_world f_230) ∧ r = v_229 ∧ w = [(ce_X10 ob ob_thrown ob_world ob_images ob_hasImage ob_tape ob_taped ob_five ob_size ob_at ob_from ob_token ob_value ob_faultKind ob_faultPlace ob_fresh ob_parts ob_houses ob_houseMany ob_worthOf ob_byCall ob_over ob_bestSet ob_bestOver ob_bestWorth ob_row ob_tenDebts ob_tenMany ob_fewestBy ob_covered ob_queue ob_cameBy ob_parent ob_met ob_calls ob_callMany ob_calledOn ob_saved ob_many ob_width ob_numbers ob_moving), (ce_i9080 y ob_world f_230), (ce_i6 y ob_parts f_231)])) (kq G (va_A [(ce_X10 ob ob_thrown ob_world ob_images ob_hasImage ob_tape ob_taped ob_five ob_size ob_at ob_from ob_token ob_value ob_faultKind ob_faultPlace ob_fresh ob_parts ob_houses ob_houseMany ob_worthOf ob_byCall ob_over ob_bestSet ob_bestOver ob_bestWorth ob_row ob_tenDebts ob_tenMany ob_fewestBy ob_covered ob_queue ob_cameBy ob_parent ob_met ob_calls ob_callMany ob_calledOn ob_saved ob_many ob_width ob_numbers ob_moving), (ce_i9080 y ob_world fob_world), (ce_i6 y ob_parts fob_parts)] sz)) (va_A [(ce_X10 ob ob_thrown ob_world ob_images ob_hasImage ob_tape ob_taped ob_five ob_size ob_at ob_from ob_token ob_value ob_faultKind ob_faultPlace ob_fresh ob_parts ob_houses ob_houseMany ob_worthOf ob_byCall ob_over ob_bestSet ob_bestOver ob_bestWorth ob_row ob_tenDebts ob_tenMany ob_fewestBy ob_covered ob_queue ob_cameBy ob_parent ob_met ob_calls ob_callMany ob_calledOn ob_saved ob_many ob_width ob_numbers ob_moving), (ce_i9080 y ob_world fob_world), (ce_i6 y ob_parts fob_parts)] sz)) 0 0 (va_A [(ce_X10 ob ob_thrown ob_world ob_images ob_hasImage ob_tape ob_taped ob_five ob_size ob_at ob_from ob_token ob_value ob_faultKind ob_faultPlace ob_fresh ob_parts ob_houses ob_houseMany ob_worthOf ob_byCall ob_over ob_bestSet ob_bestOver ob_bestWorth ob_row ob_tenDebts ob_tenMany ob_fewestBy ob_covered ob_queue ob_cameBy ob_parent ob_met ob_calls ob_callMany ob_calledOn ob_saved ob_many ob_width ob_numbers ob_moving), (ce_i9080 y ob_world fob_world), (ce_i6 y ob_parts fob_parts)] sz) := by
  refine Met.ofW (cc := cX10_goes) (maxL := 8) (ret := (some .int)) (by decide) rfl ?_
  intro p e s m args below meth c s₁ B hml hv
  obtain ⟨rfl, hsz, hP, hK, hD0⟩ := hv
  have hx := B.exec
  have hb := B.bytes
  have hr := B.returns
  have hw0 : ∀ w ∈ wAll, w.before _ s = true := fun w h => atoms_spec (ws := Cond.code yX10_goes cX10_goes 8 (some .int) :: wAll) B.pre w (List.mem_cons_of_mem _ h)
  have hown : s.vm.findClass RX10 = some m.cls := findClass_of_methodNamed B.named
  subst hsz
  have hD := hD0.self (sz := s.heap.size)
  generalize hAe : va_A [(ce_X10 ob ob_thrown ob_world ob_images ob_hasImage ob_tape ob_taped ob_five ob_size ob_at ob_from ob_token ob_value ob_faultKind ob_faultPlace ob_fresh ob_parts ob_houses ob_houseMany ob_worthOf ob_byCall ob_over ob_bestSet ob_bestOver ob_bestWorth ob_row ob_tenDebts ob_tenMany ob_fewestBy ob_covered ob_queue ob_cameBy ob_parent ob_met ob_calls ob_callMany ob_calledOn ob_saved ob_many ob_width ob_numbers ob_moving), (ce_i9080 y ob_world fob_world), (ce_i6 y ob_parts fob_parts)] s.heap.size = A at hD ⊢
  have hA : ∀ q : Nat, s.heap.size ≤ q → A q := fun q h => by rw [← hAe]; exact Or.inr h
  have hS : va_S A s.heap s.heap [] := va_S.rf
  have hP : va_P G vwCl [(ce_X10 ob ob_thrown ob_world ob_images ob_hasImage ob_tape ob_taped ob_five ob_size ob_at ob_from ob_token ob_value ob_faultKind ob_faultPlace ob_fresh ob_parts ob_houses ob_houseMany ob_worthOf ob_byCall ob_over ob_bestSet ob_bestOver ob_bestWorth ob_row ob_tenDebts ob_tenMany ob_fewestBy ob_covered ob_queue ob_cameBy ob_parent ob_met ob_calls ob_callMany ob_calledOn ob_saved ob_many ob_width ob_numbers ob_moving), (ce_i9080 y ob_world fob_world), (ce_i6 y ob_parts fob_parts)] s.heap := hP
  have hl := lv_entry ([.ref ob, .int a1, .int a2, .int a3, .int a4]) (n := 8) (Nat.le_of_ble_eq_true rfl)
  rw [lg_entry_eq]
  generalize (lg_sl ([.ref ob, .int a1, .int a2, .int a3, .int a4]) ++ List.replicate (8 - (lg_sl ([.ref ob, .int a1, .int a2, .int a3, .int a4])).length) Slot.unset).toArray = ls at hl ⊢
  have hl : lv_has ls 8 [(0, .ref ob), (1, .int a1), (2, .int a2), (3, .int a3), (4, .int a4)] := hl
  refine lv_iload_n hx hb dX10_goes_0 rfl (lv_at hl 3 rfl) ?_
  refine lv_iconst (v := 4) hx hb dX10_goes_1 (by decide) ?_
  refine lv_icmp_ne (tgt := 13) hx hb dX10_goes_2 (by decide) (fun c_1001 => ?_) (fun c_1001 => ?_)
  · skip
    have nc_1001 := nb_ne (-2147483648) (2147483647) c_1001 (btop a3) (k := 4) (by decide) (by decide)
    refine lv_aload_n hx hb dX10_goes_13 rfl (lv_at hl 0 rfl) ?_
    refine lv_iload_n hx hb dX10_goes_14 rfl (lv_at hl 1 rfl) ?_
    refine lv_iload_n hx hb dX10_goes_15 rfl (lv_at hl 2 rfl) ?_
    refine lv_iload_n hx hb dX10_goes_16 rfl (lv_at hl 3 rfl) ?_
    refine cVim (As := [.int a1, .int a2, .int a3]) (rest := []) ⟨hx, hb, hml, hown, hw0⟩ hA hK hP hD hS [true, true] (sX10_pays l G y _ ob a1 a2 a3 ob_thrown ob_world ob_images ob_hasImage ob_tape ob_taped ob_five ob_size ob_at ob_from ob_token ob_value ob_faultKind ob_faultPlace ob_fresh ob_parts ob_houses ob_houseMany ob_worthOf ob_byCall ob_over ob_bestSet ob_bestOver ob_bestWorth ob_row ob_tenDebts ob_tenMany ob_fewestBy ob_covered ob_queue ob_cameBy ob_parent ob_met ob_calls ob_callMany ob_calledOn ob_saved ob_many ob_width ob_numbers ob_moving fob_world p_fob_world p_ob_taped p_ob_size p_ob_at p_ob_from p_ob_token p_ob_value p_ob_faultKind p_ob_houseMany p_ob_bestSet p_ob_bestOver p_ob_tenMany p_ob_callMany) rfl ⟨(callB_of 3 hw0 (gA m_595) rfl rfl rfl (hw0 _ m_41) (hw0 _ m_493) cb_X10_pays ⟨Nat.le_of_ble_eq_true rfl, Nat.le_of_ble_eq_true rfl⟩), (hw0 _ m_494), (hw0 _ m_495)⟩ (ci := 10) (q := (RX10, TX10, 41)) rfl rfl rfl hl.1 (Nat.le_of_ble_eq_true rfl) dX10_goes_17 ⟨Nat.le_of_ble_eq_true rfl, Nat.le_of_ble_eq_true rfl⟩ (fun r_1002 w_1002 H locs hw_1002 hP hD hS => ?_)
    obtain ⟨v_1003, f_1004, bv_1003, bf_1004, h_1005, h_1006, h_1007, er_1002, rfl⟩ := hw_1002
    subst r_1002
    obtain ⟨hP, hD⟩ : vPD G A H [(ce_X10 ob ob_thrown ob_world ob_images ob_hasImage ob_tape ob_taped ob_five ob_size ob_at ob_from ob_token ob_value ob_faultKind ob_faultPlace ob_fresh ob_parts ob_houses ob_houseMany ob_worthOf ob_byCall ob_over ob_bestSet ob_bestOver ob_bestWorth ob_row ob_tenDebts ob_tenMany ob_fewestBy ob_covered ob_queue ob_cameBy ob_parent ob_met ob_calls ob_callMany ob_calledOn ob_saved ob_many ob_width ob_numbers ob_moving), (ce_i9080 y ob_world f_1004), (ce_i6 y ob_parts fob_parts)] := ⟨hP, hD⟩
    refine lv_istore (lv' := [(5, .int v_1003), (0, .ref ob), (1, .int a1), (2, .int a2), (3, .int a3), (4, .int a4)]) hx hb dX10_goes_20 hl (by decide) rfl (fun ls hl => ?_)
    refine lv_aload_n hx hb dX10_goes_22 rfl (lv_at hl 1 rfl) ?_
    refine lv_iload_n hx hb dX10_goes_23 rfl (lv_at hl 2 rfl) ?_
    refine lv_iload_n hx hb dX10_goes_24 rfl (lv_at hl 3 rfl) ?_
    refine lv_iload_n hx hb dX10_goes_25 rfl (lv_at hl 4 rfl) ?_
    refine lv_aload_n hx hb dX10_goes_26 rfl (lv_at hl 1 rfl) ?_
    refine lv_iload_n hx hb dX10_goes_27 rfl (lv_at hl 2 rfl) ?_
    refine lv_iload_n hx hb dX10_goes_28 rfl (lv_at hl 3 rfl) ?_
    refine cutW 107 (fun H locs ls st => ∃ (f_1055 : Nat → Int32) (f_1056 : Nat → Int32), (RWw f_1055) ∧ ((f_1055 7).toInt ≤ (fob_world 7).toInt + 1 ∧ (f_1055 8).toInt = (fob_world 8).toInt) ∧ (tgd fob_world f_1055) ∧ (0 ≤ v_1003.toInt) ∧ (wfr fob_world f_1055) ∧ st = [] ∧ vPD G A H [(ce_X10 ob ob_thrown ob_world ob_images ob_hasImage ob_tape ob_taped ob_five ob_size ob_at ob_from ob_token ob_value ob_faultKind ob_faultPlace ob_fresh ob_parts ob_houses ob_houseMany ob_worthOf ob_byCall ob_over ob_bestSet ob_bestOver ob_bestWorth ob_row ob_tenDebts ob_tenMany ob_fewestBy ob_covered ob_queue ob_cameBy ob_parent ob_met ob_calls ob_callMany ob_calledOn ob_saved ob_many ob_width ob_numbers ob_moving), (ce_i9080 y ob_world f_1055), (ce_i6 y ob_parts f_1056)] ∧ va_S A s.heap H locs ∧ lv_has ls 8 [(5, .int v_1003), (0, .ref ob), (1, .int a1), (2, .int a2), (3, .int a3)]) ?_ (fun J_107_1056 => ?_)
    · rintro H locs ls st ⟨f_1055, f_1056, bf_1055, rl1056_0, rl1056_1, rl1056_2, rl1056_3, rfl, ⟨hP, hD⟩, hS, hl⟩
      refine lv_iload_n hx hb dX10_goes_107 rfl (lv_at hl 4 rfl) ?_
      refine lv_iconst (v := 2) hx hb dX10_goes_108 (by decide) ?_
      refine lv_icmp_lt (tgt := 118) hx hb dX10_goes_109 (by decide) (fun c_1057 => ?_) (fun c_1057 => ?_)
      · skip
        have nc_1057 := nb_lt (1) (2) c_1057 nc_1001.1 (bkc (x := 2) (c := 2) (by decide)) (by decide)
        refine lv_iload hx hb dX10_goes_118 (lv_at hl 0 rfl) ?_
        exact W.iret (v := v_1003) hx hb hr (fun t ht hW => ⟨⟨v_1003, _, rfl, ⟨v_1003, f_1055, f_1056, bv_1003, bf_1055, by omega, (by have lm1 : Int32.toInt (-1) = -1 := (by decide); have l91 : Int32.toInt 1 = 1 := (by decide); have l92 : Int32.toInt 2 = 2 := (by decide); have l93 : Int32.toInt 3 = 3 := (by decide); exact gkn_n (by omega) rl1056_1), by omega, rl1056_3, rfl, rfl⟩, by rw [ht]; exact hP, hD⟩, hS.F ht⟩) hS.2.2 dX10_goes_120
      · skip
        have nc_1057 := nb_nlt (2) (2) c_1057 (bkc (x := 2) (c := 2) (by decide)) nc_1001.1 (by decide)
        refine lv_aload_n hx hb dX10_goes_112 rfl (lv_at hl 1 rfl) ?_
        refine lv_iload_n hx hb dX10_goes_113 rfl (lv_at hl 2 rfl) ?_
        refine lv_iload_n hx hb dX10_goes_114 rfl (lv_at hl 3 rfl) ?_
        refine cVvm (As := [.int a1, .int a2]) (rest := []) ⟨hx, hb, hml, hown, hw0⟩ hA hK hP hD hS [true, true] (gmeets l G y _ ob a1 a2 ob_thrown ob_world ob_images ob_hasImage ob_tape ob_taped ob_five ob_size ob_at ob_from ob_token ob_value ob_faultKind ob_faultPlace ob_fresh ob_parts ob_houses ob_houseMany ob_worthOf ob_byCall ob_over ob_bestSet ob_bestOver ob_bestWorth ob_row ob_tenDebts ob_tenMany ob_fewestBy ob_covered ob_queue ob_cameBy ob_parent ob_met ob_calls ob_callMany ob_calledOn ob_saved ob_many ob_width ob_numbers ob_moving f_1055 bf_1055 p_ob_taped p_ob_size p_ob_at p_ob_from p_ob_token p_ob_value p_ob_faultKind p_ob_houseMany p_ob_bestSet p_ob_bestOver p_ob_tenMany p_ob_callMany p_a1 p_a2) rfl ⟨(callB_of 2 hw0 (gA m_559) rfl rfl rfl (hw0 _ m_41) (hw0 _ m_490) cb_X10_meets ⟨Nat.le_of_ble_eq_true rfl, Nat.le_of_ble_eq_true rfl⟩), (hw0 _ m_491), (hw0 _ m_492)⟩ (ci := 10) (q := (RX10, TX10, 41)) rfl rfl rfl hl.1 (Nat.le_of_ble_eq_true rfl) dX10_goes_115 ⟨Nat.le_of_ble_eq_true rfl, Nat.le_of_ble_eq_true rfl⟩ (fun w_1058 H locs hw_1058 hP hD hS => ?_)
        obtain ⟨f_1059, bf_1059, h_1060, h_1061, h_1062, rfl⟩ := hw_1058
        obtain ⟨hP, hD⟩ : vPD G A H [(ce_X10 ob ob_thrown ob_world ob_images ob_hasImage ob_tape ob_taped ob_five ob_size ob_at ob_from ob_token ob_value ob_faultKind ob_faultPlace ob_fresh ob_parts ob_houses ob_houseMany ob_worthOf ob_byCall ob_over ob_bestSet ob_bestOver ob_bestWorth ob_row ob_tenDebts ob_tenMany ob_fewestBy ob_covered ob_queue ob_cameBy ob_parent ob_met ob_calls ob_callMany ob_calledOn ob_saved ob_many ob_width ob_numbers ob_moving), (ce_i9080 y ob_world f_1059), (ce_i6 y ob_parts f_1056)] := ⟨hP, hD⟩
        refine lv_iload hx hb dX10_goes_118 (lv_at hl 0 rfl) ?_
        exact W.iret (v := v_1003) hx hb hr (fun t ht hW => ⟨⟨v_1003, _, rfl, ⟨v_1003, f_1059, f_1056, bv_1003, bf_1059, by omega, (by have lm1 : Int32.toInt (-1) = -1 := (by decide); have l91 : Int32.toInt 1 = 1 := (by decide); have l92 : Int32.toInt 2 = 2 := (by decide); have l93 : Int32.toInt 3 = 3 := (by decide); exact gkn_y (by omega) rl1056_1 h_1061), by omega, (wfr_t rl1056_3 h_1062), rfl, rfl⟩, by rw [ht]; exact hP, hD⟩, hS.F ht⟩) hS.2.2 dX10_goes_120
    · skip
      refine cVim (As := [.int a1, .int a2]) (rest := [.int a3, .int a2, .int a1, .ref ob]) ⟨hx, hb, hml, hown, hw0⟩ hA hK hP hD hS [true, true] (gareKnown l G y _ ob a1 a2 ob_thrown ob_world ob_images ob_hasImage ob_tape ob_taped ob_five ob_size ob_at ob_from ob_token ob_value ob_faultKind ob_faultPlace ob_fresh ob_parts ob_houses ob_houseMany ob_worthOf ob_byCall ob_over ob_bestSet ob_bestOver ob_bestWorth ob_row ob_tenDebts ob_tenMany ob_fewestBy ob_covered ob_queue ob_cameBy ob_parent ob_met ob_calls ob_callMany ob_calledOn ob_saved ob_many ob_width ob_numbers ob_moving f_1004 bf_1004 p_ob_taped p_ob_size p_ob_at p_ob_from p_ob_token p_ob_value p_ob_faultKind p_ob_houseMany p_ob_bestSet p_ob_bestOver p_ob_tenMany p_ob_callMany p_a1 p_a2) rfl ⟨(callB_of 2 hw0 (gA m_351) rfl rfl rfl (hw0 _ m_41) (hw0 _ m_379) cb_X10_areKnown ⟨Nat.le_of_ble_eq_true rfl, Nat.le_of_ble_eq_true rfl⟩), (hw0 _ m_380), (hw0 _ m_381)⟩ (ci := 10) (q := (RX10, TX10, 41)) rfl rfl rfl hl.1 (Nat.le_of_ble_eq_true rfl) dX10_goes_29 ⟨Nat.le_of_ble_eq_true rfl, Nat.le_of_ble_eq_true rfl⟩ (fun r_1063 w_1063 H locs hw_1063 hP hD hS => ?_)
      rcases hw_1063 with ⟨h_1064, rfl, rfl⟩ | ⟨h_1065, rfl, rfl⟩
      · skip
        obtain ⟨hP, hD⟩ : vPD G A H [(ce_X10 ob ob_thrown ob_world ob_images ob_hasImage ob_tape ob_taped ob_five ob_size ob_at ob_from ob_token ob_value ob_faultKind ob_faultPlace ob_fresh ob_parts ob_houses ob_houseMany ob_worthOf ob_byCall ob_over ob_bestSet ob_bestOver ob_bestWorth ob_row ob_tenDebts ob_tenMany ob_fewestBy ob_covered ob_queue ob_cameBy ob_parent ob_met ob_calls ob_callMany ob_calledOn ob_saved ob_many ob_width ob_numbers ob_moving), (ce_i9080 y ob_world f_1004), (ce_i6 y ob_parts fob_parts)] := ⟨hP, hD⟩
        refine lv_iload hx hb dX10_goes_32 (lv_at hl 5 rfl) ?_
        refine cVim (As := [.int a1, .int a2, .int a3, .int 0, .int a4]) (rest := []) ⟨hx, hb, hml, hown, hw0⟩ hA hK hP hD hS [true, true, true] (sX10_lineFor l G y _ ob a1 a2 a3 0 a4 ob_thrown ob_world ob_images ob_hasImage ob_tape ob_taped ob_five ob_size ob_at ob_from ob_token ob_value ob_faultKind ob_faultPlace ob_fresh ob_parts ob_houses ob_houseMany ob_worthOf ob_byCall ob_over ob_bestSet ob_bestOver ob_bestWorth ob_row ob_tenDebts ob_tenMany ob_fewestBy ob_covered ob_queue ob_cameBy ob_parent ob_met ob_calls ob_callMany ob_calledOn ob_saved ob_many ob_width ob_numbers ob_moving f_1004 fob_parts bf_1004 p_ob_taped p_ob_size p_ob_at p_ob_from p_ob_token p_ob_value p_ob_faultKind p_ob_houseMany p_ob_bestSet p_ob_bestOver p_ob_tenMany p_ob_callMany p_a1 p_a2 (bw (0) (1) (bkc (x := 0) (c := 0) (by decide)) (by decide))) rfl ⟨(callB_of 5 hw0 (gA m_547) rfl rfl rfl (hw0 _ m_41) (hw0 _ m_496) cb_X10_lineFor ⟨Nat.le_of_ble_eq_true rfl, Nat.le_of_ble_eq_true rfl⟩), (hw0 _ m_497), (hw0 _ m_498)⟩ (ci := 10) (q := (RX10, TX10, 41)) rfl rfl rfl hl.1 (Nat.le_of_ble_eq_true rfl) dX10_goes_34 ⟨Nat.le_of_ble_eq_true rfl, Nat.le_of_ble_eq_true rfl⟩ (fun r_1066 w_1066 H locs hw_1066 hP hD hS => ?_)
        obtain ⟨v_1067, f_1068, bv_1067, er_1066, rfl⟩ := hw_1066
        subst r_1066
        obtain ⟨hP, hD⟩ : vPD G A H [(ce_X10 ob ob_thrown ob_world ob_images ob_hasImage ob_tape ob_taped ob_five ob_size ob_at ob_from ob_token ob_value ob_faultKind ob_faultPlace ob_fresh ob_parts ob_houses ob_houseMany ob_worthOf ob_byCall ob_over ob_bestSet ob_bestOver ob_bestWorth ob_row ob_tenDebts ob_tenMany ob_fewestBy ob_covered ob_queue ob_cameBy ob_parent ob_met ob_calls ob_callMany ob_calledOn ob_saved ob_many ob_width ob_numbers ob_moving), (ce_i9080 y ob_world f_1004), (ce_i6 y ob_parts f_1068)] := ⟨hP, hD⟩
        refine lv_istore (lv' := [(6, .int v_1067), (5, .int v_1003), (0, .ref ob), (1, .int a1), (2, .int a2), (3, .int a3), (4, .int a4)]) hx hb dX10_goes_37 hl (by decide) rfl (fun ls hl => ?_)
        refine lv_iload hx hb dX10_goes_39 (lv_at hl 0 rfl) ?_
        refine lv_iconst (v := (-1)) hx hb dX10_goes_41 (by decide) ?_
        refine lv_icmp_eq (tgt := 107) hx hb dX10_goes_42 (by decide) (fun c_1069 => ?_) (fun c_1069 => ?_)
        · skip
          have nc_1069 := nb_eq (-1) (-1) c_1069 bv_1067 (bkc (x := (-1)) (c := -1) (by decide)) (by decide)
          exact J_107_1056 _ _ _ _ ⟨f_1004, f_1068, bf_1004, (by omega), h_1007, (by omega), h_1006, rfl, ⟨hP, hD⟩, hS, lv_sub hl [1, 2, 3, 4, 5] rfl⟩
        · skip
          have nc_1069 := nb_ne (0) (23) c_1069 bv_1067 (k := -1) (by decide) (by decide)
          refine lv_aload_n hx hb dX10_goes_45 rfl (lv_at hl 2 rfl) ?_
          refine va_get (D := G) (ci := 10) (v := .ref ob_world) (C := RX10) (T := TX10) (N := 41) hx hb hw0 inA_wsX100 hown hK.1 hP 0 rfl rfl 1 (by decide) (hw0 _ m_352) (fun _ h9 => h9) rfl dX10_goes_46 ?_
          refine lv_sipush (v := 154) hx hb dX10_goes_49 (by decide) ?_
          refine lv_iconst (v := 5) hx hb dX10_goes_52 (by decide) ?_
          refine lv_iload hx hb dX10_goes_53 (lv_at hl 0 rfl) ?_
          refine lv_imul hx hb dX10_goes_55 ?_
          refine lv_topi (fun v_1070 ev_1070 => ?_)
          have qv_1070 := ba_mul 5 (ev_1070.trans (Int32.mul_comm _ _)) nc_1069.1 (by decide) (by decide) (by decide)
          have bv_1070 : (0 : Int) ≤ v_1070.toInt ∧ v_1070.toInt ≤ 115 := qv_1070.2
          refine lv_iadd hx hb dX10_goes_56 ?_
          refine lv_topi (fun v_1071 ev_1071 => ?_)
          have qv_1071 := ba_add ev_1071 (bkc (x := 154) (c := 154) (by decide)) bv_1070 (by decide)
          have bv_1071 : (154 : Int) ≤ v_1071.toInt ∧ v_1071.toInt ≤ 269 := bq_add qv_1071 (bkc (x := 154) (c := 154) (by decide)) bv_1070 _ _ (by decide)
          have qv_1071 : v_1071.toInt = (154) + v_1070.toInt := qv_1071
          refine lv_iconst (v := 1) hx hb dX10_goes_57 (by decide) ?_
          refine lv_iadd hx hb dX10_goes_58 ?_
          refine lv_topi (fun v_1072 ev_1072 => ?_)
          have qv_1072 := ba_add ev_1072 bv_1071 (bkc (x := 1) (c := 1) (by decide)) (by decide)
          have bv_1072 : (155 : Int) ≤ v_1072.toInt ∧ v_1072.toInt ≤ 270 := bq_add qv_1072 bv_1071 (bkc (x := 1) (c := 1) (by decide)) _ _ (by decide)
          have qv_1072 : v_1072.toInt = v_1071.toInt + (1) := qv_1072
          refine va_iald hx hb hK.1 hP 1 1 rfl rfl (vi bv_1072 (by decide)) dX10_goes_59 ?_
          refine lv_topi (fun v_1073 ev_1073 => ?_)
          refine lv_istore (lv' := [(7, .int v_1073), (6, .int v_1067), (5, .int v_1003), (0, .ref ob), (1, .int a1), (2, .int a2), (3, .int a3), (4, .int a4)]) hx hb dX10_goes_60 hl (by decide) rfl (fun ls hl => ?_)
          refine lv_aload_n hx hb dX10_goes_62 rfl (lv_at hl 3 rfl) ?_
          refine lv_iload_n hx hb dX10_goes_63 rfl (lv_at hl 5 rfl) ?_
          refine lv_iload_n hx hb dX10_goes_64 rfl (lv_at hl 4 rfl) ?_
          refine lv_iload hx hb dX10_goes_65 (lv_at hl 0 rfl) ?_
          refine cVim (As := [.int a2, .int a1, .int v_1073]) (rest := []) ⟨hx, hb, hml, hown, hw0⟩ hA hK hP hD hS [true, true] (sX10_owesAlready l G y _ ob a2 a1 v_1073 ob_thrown ob_world ob_images ob_hasImage ob_tape ob_taped ob_five ob_size ob_at ob_from ob_token ob_value ob_faultKind ob_faultPlace ob_fresh ob_parts ob_houses ob_houseMany ob_worthOf ob_byCall ob_over ob_bestSet ob_bestOver ob_bestWorth ob_row ob_tenDebts ob_tenMany ob_fewestBy ob_covered ob_queue ob_cameBy ob_parent ob_met ob_calls ob_callMany ob_calledOn ob_saved ob_many ob_width ob_numbers ob_moving f_1004 bf_1004 p_ob_taped p_ob_size p_ob_at p_ob_from p_ob_token p_ob_value p_ob_faultKind p_ob_houseMany p_ob_bestSet p_ob_bestOver p_ob_tenMany p_ob_callMany) rfl ⟨(callB_of 3 hw0 (gA m_586) rfl rfl rfl (hw0 _ m_41) (hw0 _ m_499) cb_X10_owesAlready ⟨Nat.le_of_ble_eq_true rfl, Nat.le_of_ble_eq_true rfl⟩), (hw0 _ m_500), (hw0 _ m_501)⟩ (ci := 10) (q := (RX10, TX10, 41)) rfl rfl rfl hl.1 (Nat.le_of_ble_eq_true rfl) dX10_goes_67 ⟨Nat.le_of_ble_eq_true rfl, Nat.le_of_ble_eq_true rfl⟩ (fun r_1074 w_1074 H locs hw_1074 hP hD hS => ?_)
          rcases hw_1074 with ⟨rfl, rfl⟩ | ⟨h_1075, h_1076, rfl, rfl⟩
          · skip
            obtain ⟨hP, hD⟩ : vPD G A H [(ce_X10 ob ob_thrown ob_world ob_images ob_hasImage ob_tape ob_taped ob_five ob_size ob_at ob_from ob_token ob_value ob_faultKind ob_faultPlace ob_fresh ob_parts ob_houses ob_houseMany ob_worthOf ob_byCall ob_over ob_bestSet ob_bestOver ob_bestWorth ob_row ob_tenDebts ob_tenMany ob_fewestBy ob_covered ob_queue ob_cameBy ob_parent ob_met ob_calls ob_callMany ob_calledOn ob_saved ob_many ob_width ob_numbers ob_moving), (ce_i9080 y ob_world f_1004), (ce_i6 y ob_parts f_1068)] := ⟨hP, hD⟩
            refine lv_if_ne (tgt := 107) hx hb dX10_goes_70 (by decide) (fun c9 => absurd (by decide) c9) (fun _ => ?_)
            refine lv_aload_n hx hb dX10_goes_73 rfl (lv_at hl 3 rfl) ?_
            refine lv_iload_n hx hb dX10_goes_74 rfl (lv_at hl 5 rfl) ?_
            refine lv_iload_n hx hb dX10_goes_75 rfl (lv_at hl 4 rfl) ?_
            refine lv_iload hx hb dX10_goes_76 (lv_at hl 0 rfl) ?_
            refine lv_sipush (v := 399) hx hb dX10_goes_78 (by decide) ?_
            refine lv_iload hx hb dX10_goes_81 (lv_at hl 7 rfl) ?_
            refine lv_aload_n hx hb dX10_goes_83 rfl (lv_at hl 3 rfl) ?_
            refine va_get (D := G) (ci := 10) (v := .ref ob_world) (C := RX10) (T := TX10) (N := 41) hx hb hw0 inA_wsX100 hown hK.1 hP 0 rfl rfl 1 (by decide) (hw0 _ m_352) (fun _ h9 => h9) rfl dX10_goes_84 ?_
            refine lv_sipush (v := 154) hx hb dX10_goes_87 (by decide) ?_
            refine lv_iconst (v := 5) hx hb dX10_goes_90 (by decide) ?_
            refine lv_iload hx hb dX10_goes_91 (lv_at hl 1 rfl) ?_
            refine lv_imul hx hb dX10_goes_93 ?_
            refine lv_topi (fun v_1077 ev_1077 => ?_)
            obtain rfl : v_1070 = v_1077 := (ev_1077.trans (ev_1070.symm)).symm
            refine lv_iadd hx hb dX10_goes_94 ?_
            refine lv_topi (fun v_1078 ev_1078 => ?_)
            obtain rfl : v_1071 = v_1078 := (ev_1078.trans (ev_1071.symm)).symm
            refine lv_iconst (v := 2) hx hb dX10_goes_95 (by decide) ?_
            refine lv_iadd hx hb dX10_goes_96 ?_
            refine lv_topi (fun v_1079 ev_1079 => ?_)
            have qv_1079 := ba_add ev_1079 bv_1071 (bkc (x := 2) (c := 2) (by decide)) (by decide)
            have bv_1079 : (156 : Int) ≤ v_1079.toInt ∧ v_1079.toInt ≤ 271 := bq_add qv_1079 bv_1071 (bkc (x := 2) (c := 2) (by decide)) _ _ (by decide)
            have qv_1079 : v_1079.toInt = v_1071.toInt + (2) := qv_1079
            refine va_iald hx hb hK.1 hP 1 1 rfl rfl (vi bv_1079 (by decide)) dX10_goes_97 ?_
            refine lv_topi (fun v_1080 ev_1080 => ?_)
            refine lv_iadd hx hb dX10_goes_98 ?_
            refine lv_topi (fun v_1081 ev_1081 => ?_)
            refine va_mmin (own := RX10) hx hb (by rw [hml]; exact hl.1.symm) hown (hw0 _ m_350) (hw0 _ m_282) (hw0 _ m_283) (hw0 _ m_284) (Nat.le_of_ble_eq_true rfl) (Nat.le_of_ble_eq_true rfl) (Nat.zero_le _) (Nat.zero_le _) dX10_goes_99 ?_
            refine lv_topi (fun v_1082 ev_1082 => ?_)
            have bv_1082 : (-2147483648 : Int) ≤ v_1082.toInt ∧ v_1082.toInt ≤ 399 := bm_min ev_1082 (bkc (x := 399) (c := 399) (by decide)) (btop v_1081) _ _ (by decide)
            refine lv_iload hx hb dX10_goes_102 (lv_at hl 7 rfl) ?_
            refine cVvm (As := [.int a2, .int a1, .int v_1073, .int v_1082, .int a4]) (rest := []) ⟨hx, hb, hml, hown, hw0⟩ hA hK hP hD hS [true, true] (sX10_comes l G y _ ob a2 a1 v_1073 v_1082 a4 ob_thrown ob_world ob_images ob_hasImage ob_tape ob_taped ob_five ob_size ob_at ob_from ob_token ob_value ob_faultKind ob_faultPlace ob_fresh ob_parts ob_houses ob_houseMany ob_worthOf ob_byCall ob_over ob_bestSet ob_bestOver ob_bestWorth ob_row ob_tenDebts ob_tenMany ob_fewestBy ob_covered ob_queue ob_cameBy ob_parent ob_met ob_calls ob_callMany ob_calledOn ob_saved ob_many ob_width ob_numbers ob_moving f_1004 bf_1004 p_ob_taped p_ob_size p_ob_at p_ob_from p_ob_token p_ob_value p_ob_faultKind p_ob_houseMany p_ob_bestSet p_ob_bestOver p_ob_tenMany p_ob_callMany p_a2 p_a1 (by omega)) rfl ⟨(callB_of 5 hw0 (gA m_399) rfl rfl rfl (hw0 _ m_41) (hw0 _ m_502) cb_X10_comes ⟨Nat.le_of_ble_eq_true rfl, Nat.le_of_ble_eq_true rfl⟩), (hw0 _ m_503), (hw0 _ m_504)⟩ (ci := 10) (q := (RX10, TX10, 41)) rfl rfl rfl hl.1 (Nat.le_of_ble_eq_true rfl) dX10_goes_104 ⟨Nat.le_of_ble_eq_true rfl, Nat.le_of_ble_eq_true rfl⟩ (fun w_1083 H locs hw_1083 hP hD hS => ?_)
            obtain ⟨f_1084, bf_1084, h_1085, h_1086, h_1087, rfl⟩ := hw_1083
            obtain ⟨hP, hD⟩ : vPD G A H [(ce_X10 ob ob_thrown ob_world ob_images ob_hasImage ob_tape ob_taped ob_five ob_size ob_at ob_from ob_token ob_value ob_faultKind ob_faultPlace ob_fresh ob_parts ob_houses ob_houseMany ob_worthOf ob_byCall ob_over ob_bestSet ob_bestOver ob_bestWorth ob_row ob_tenDebts ob_tenMany ob_fewestBy ob_covered ob_queue ob_cameBy ob_parent ob_met ob_calls ob_callMany ob_calledOn ob_saved ob_many ob_width ob_numbers ob_moving), (ce_i9080 y ob_world f_1084), (ce_i6 y ob_parts f_1068)] := ⟨hP, hD⟩
            exact J_107_1056 _ _ _ _ ⟨f_1084, f_1068, bf_1084, (by omega), (tgd_t h_1007 h_1087), (by omega), (wfr_t h_1006 h_1086), rfl, ⟨hP, hD⟩, hS, lv_sub hl [2, 3, 4, 5, 6] rfl⟩
          · skip
            obtain ⟨hP, hD⟩ : vPD G A H [(ce_X10 ob ob_thrown ob_world ob_images ob_hasImage ob_tape ob_taped ob_five ob_size ob_at ob_from ob_token ob_value ob_faultKind ob_faultPlace ob_fresh ob_parts ob_houses ob_houseMany ob_worthOf ob_byCall ob_over ob_bestSet ob_bestOver ob_bestWorth ob_row ob_tenDebts ob_tenMany ob_fewestBy ob_covered ob_queue ob_cameBy ob_parent ob_met ob_calls ob_callMany ob_calledOn ob_saved ob_many ob_width ob_numbers ob_moving), (ce_i9080 y ob_world f_1004), (ce_i6 y ob_parts f_1068)] := ⟨hP, hD⟩
            refine lv_if_ne (tgt := 107) hx hb dX10_goes_70 (by decide) (fun _ => ?_) (fun c9 => absurd c9 (by decide))
            exact J_107_1056 _ _ _ _ ⟨f_1004, f_1068, bf_1004, (by omega), h_1007, (by omega), h_1006, rfl, ⟨hP, hD⟩, hS, lv_sub hl [2, 3, 4, 5, 6] rfl⟩
      · skip
        obtain ⟨hP, hD⟩ : vPD G A H [(ce_X10 ob ob_thrown ob_world ob_images ob_hasImage ob_tape ob_taped ob_five ob_size ob_at ob_from ob_token ob_value ob_faultKind ob_faultPlace ob_fresh ob_parts ob_houses ob_houseMany ob_worthOf ob_byCall ob_over ob_bestSet ob_bestOver ob_bestWorth ob_row ob_tenDebts ob_tenMany ob_fewestBy ob_covered ob_queue ob_cameBy ob_parent ob_met ob_calls ob_callMany ob_calledOn ob_saved ob_many ob_width ob_numbers ob_moving), (ce_i9080 y ob_world f_1004), (ce_i6 y ob_parts fob_parts)] := ⟨hP, hD⟩
        refine lv_iload hx hb dX10_goes_32 (lv_at hl 5 rfl) ?_
        refine cVim (As := [.int a1, .int a2, .int a3, .int 1, .int a4]) (rest := []) ⟨hx, hb, hml, hown, hw0⟩ hA hK hP hD hS [true, true, true] (sX10_lineFor l G y _ ob a1 a2 a3 1 a4 ob_thrown ob_world ob_images ob_hasImage ob_tape ob_taped ob_five ob_size ob_at ob_from ob_token ob_value ob_faultKind ob_faultPlace ob_fresh ob_parts ob_houses ob_houseMany ob_worthOf ob_byCall ob_over ob_bestSet ob_bestOver ob_bestWorth ob_row ob_tenDebts ob_tenMany ob_fewestBy ob_covered ob_queue ob_cameBy ob_parent ob_met ob_calls ob_callMany ob_calledOn ob_saved ob_many ob_width ob_numbers ob_moving f_1004 fob_parts bf_1004 p_ob_taped p_ob_size p_ob_at p_ob_from p_ob_token p_ob_value p_ob_faultKind p_ob_houseMany p_ob_bestSet p_ob_bestOver p_ob_tenMany p_ob_callMany p_a1 p_a2 (bw (0) (1) (bkc (x := 1) (c := 1) (by decide)) (by decide))) rfl ⟨(callB_of 5 hw0 (gA m_547) rfl rfl rfl (hw0 _ m_41) (hw0 _ m_496) cb_X10_lineFor ⟨Nat.le_of_ble_eq_true rfl, Nat.le_of_ble_eq_true rfl⟩), (hw0 _ m_497), (hw0 _ m_498)⟩ (ci := 10) (q := (RX10, TX10, 41)) rfl rfl rfl hl.1 (Nat.le_of_ble_eq_true rfl) dX10_goes_34 ⟨Nat.le_of_ble_eq_true rfl, Nat.le_of_ble_eq_true rfl⟩ (fun r_1088 w_1088 H locs hw_1088 hP hD hS => ?_)
        obtain ⟨v_1089, f_1090, bv_1089, er_1088, rfl⟩ := hw_1088
        subst r_1088
        obtain ⟨hP, hD⟩ : vPD G A H [(ce_X10 ob ob_thrown ob_world ob_images ob_hasImage ob_tape ob_taped ob_five ob_size ob_at ob_from ob_token ob_value ob_faultKind ob_faultPlace ob_fresh ob_parts ob_houses ob_houseMany ob_worthOf ob_byCall ob_over ob_bestSet ob_bestOver ob_bestWorth ob_row ob_tenDebts ob_tenMany ob_fewestBy ob_covered ob_queue ob_cameBy ob_parent ob_met ob_calls ob_callMany ob_calledOn ob_saved ob_many ob_width ob_numbers ob_moving), (ce_i9080 y ob_world f_1004), (ce_i6 y ob_parts f_1090)] := ⟨hP, hD⟩
        refine lv_istore (lv' := [(6, .int v_1089), (5, .int v_1003), (0, .ref ob), (1, .int a1), (2, .int a2), (3, .int a3), (4, .int a4)]) hx hb dX10_goes_37 hl (by decide) rfl (fun ls hl => ?_)
        refine lv_iload hx hb dX10_goes_39 (lv_at hl 0 rfl) ?_
        refine lv_iconst (v := (-1)) hx hb dX10_goes_41 (by decide) ?_
        refine lv_icmp_eq (tgt := 107) hx hb dX10_goes_42 (by decide) (fun c_1091 => ?_) (fun c_1091 => ?_)
        · skip
          have nc_1091 := nb_eq (-1) (-1) c_1091 bv_1089 (bkc (x := (-1)) (c := -1) (by decide)) (by decide)
          exact J_107_1056 _ _ _ _ ⟨f_1004, f_1090, bf_1004, (by omega), h_1007, (by omega), h_1006, rfl, ⟨hP, hD⟩, hS, lv_sub hl [1, 2, 3, 4, 5] rfl⟩
        · skip
          have nc_1091 := nb_ne (0) (23) c_1091 bv_1089 (k := -1) (by decide) (by decide)
          refine lv_aload_n hx hb dX10_goes_45 rfl (lv_at hl 2 rfl) ?_
          refine va_get (D := G) (ci := 10) (v := .ref ob_world) (C := RX10) (T := TX10) (N := 41) hx hb hw0 inA_wsX100 hown hK.1 hP 0 rfl rfl 1 (by decide) (hw0 _ m_352) (fun _ h9 => h9) rfl dX10_goes_46 ?_
          refine lv_sipush (v := 154) hx hb dX10_goes_49 (by decide) ?_
          refine lv_iconst (v := 5) hx hb dX10_goes_52 (by decide) ?_
          refine lv_iload hx hb dX10_goes_53 (lv_at hl 0 rfl) ?_
          refine lv_imul hx hb dX10_goes_55 ?_
          refine lv_topi (fun v_1092 ev_1092 => ?_)
          have qv_1092 := ba_mul 5 (ev_1092.trans (Int32.mul_comm _ _)) nc_1091.1 (by decide) (by decide) (by decide)
          have bv_1092 : (0 : Int) ≤ v_1092.toInt ∧ v_1092.toInt ≤ 115 := qv_1092.2
          refine lv_iadd hx hb dX10_goes_56 ?_
          refine lv_topi (fun v_1093 ev_1093 => ?_)
          have qv_1093 := ba_add ev_1093 (bkc (x := 154) (c := 154) (by decide)) bv_1092 (by decide)
          have bv_1093 : (154 : Int) ≤ v_1093.toInt ∧ v_1093.toInt ≤ 269 := bq_add qv_1093 (bkc (x := 154) (c := 154) (by decide)) bv_1092 _ _ (by decide)
          have qv_1093 : v_1093.toInt = (154) + v_1092.toInt := qv_1093
          refine lv_iconst (v := 1) hx hb dX10_goes_57 (by decide) ?_
          refine lv_iadd hx hb dX10_goes_58 ?_
          refine lv_topi (fun v_1094 ev_1094 => ?_)
          have qv_1094 := ba_add ev_1094 bv_1093 (bkc (x := 1) (c := 1) (by decide)) (by decide)
          have bv_1094 : (155 : Int) ≤ v_1094.toInt ∧ v_1094.toInt ≤ 270 := bq_add qv_1094 bv_1093 (bkc (x := 1) (c := 1) (by decide)) _ _ (by decide)
          have qv_1094 : v_1094.toInt = v_1093.toInt + (1) := qv_1094
          refine va_iald hx hb hK.1 hP 1 1 rfl rfl (vi bv_1094 (by decide)) dX10_goes_59 ?_
          refine lv_topi (fun v_1095 ev_1095 => ?_)
          refine lv_istore (lv' := [(7, .int v_1095), (6, .int v_1089), (5, .int v_1003), (0, .ref ob), (1, .int a1), (2, .int a2), (3, .int a3), (4, .int a4)]) hx hb dX10_goes_60 hl (by decide) rfl (fun ls hl => ?_)
          refine lv_aload_n hx hb dX10_goes_62 rfl (lv_at hl 3 rfl) ?_
          refine lv_iload_n hx hb dX10_goes_63 rfl (lv_at hl 5 rfl) ?_
          refine lv_iload_n hx hb dX10_goes_64 rfl (lv_at hl 4 rfl) ?_
          refine lv_iload hx hb dX10_goes_65 (lv_at hl 0 rfl) ?_
          refine cVim (As := [.int a2, .int a1, .int v_1095]) (rest := []) ⟨hx, hb, hml, hown, hw0⟩ hA hK hP hD hS [true, true] (sX10_owesAlready l G y _ ob a2 a1 v_1095 ob_thrown ob_world ob_images ob_hasImage ob_tape ob_taped ob_five ob_size ob_at ob_from ob_token ob_value ob_faultKind ob_faultPlace ob_fresh ob_parts ob_houses ob_houseMany ob_worthOf ob_byCall ob_over ob_bestSet ob_bestOver ob_bestWorth ob_row ob_tenDebts ob_tenMany ob_fewestBy ob_covered ob_queue ob_cameBy ob_parent ob_met ob_calls ob_callMany ob_calledOn ob_saved ob_many ob_width ob_numbers ob_moving f_1004 bf_1004 p_ob_taped p_ob_size p_ob_at p_ob_from p_ob_token p_ob_value p_ob_faultKind p_ob_houseMany p_ob_bestSet p_ob_bestOver p_ob_tenMany p_ob_callMany) rfl ⟨(callB_of 3 hw0 (gA m_586) rfl rfl rfl (hw0 _ m_41) (hw0 _ m_499) cb_X10_owesAlready ⟨Nat.le_of_ble_eq_true rfl, Nat.le_of_ble_eq_true rfl⟩), (hw0 _ m_500), (hw0 _ m_501)⟩ (ci := 10) (q := (RX10, TX10, 41)) rfl rfl rfl hl.1 (Nat.le_of_ble_eq_true rfl) dX10_goes_67 ⟨Nat.le_of_ble_eq_true rfl, Nat.le_of_ble_eq_true rfl⟩ (fun r_1096 w_1096 H locs hw_1096 hP hD hS => ?_)
          rcases hw_1096 with ⟨rfl, rfl⟩ | ⟨h_1097, h_1098, rfl, rfl⟩
          · skip
            obtain ⟨hP, hD⟩ : vPD G A H [(ce_X10 ob ob_thrown ob_world ob_images ob_hasImage ob_tape ob_taped ob_five ob_size ob_at ob_from ob_token ob_value ob_faultKind ob_faultPlace ob_fresh ob_parts ob_houses ob_houseMany ob_worthOf ob_byCall ob_over ob_bestSet ob_bestOver ob_bestWorth ob_row ob_tenDebts ob_tenMany ob_fewestBy ob_covered ob_queue ob_cameBy ob_parent ob_met ob_calls ob_callMany ob_calledOn ob_saved ob_many ob_width ob_numbers ob_moving), (ce_i9080 y ob_world f_1004), (ce_i6 y ob_parts f_1090)] := ⟨hP, hD⟩
            refine lv_if_ne (tgt := 107) hx hb dX10_goes_70 (by decide) (fun c9 => absurd (by decide) c9) (fun _ => ?_)
            refine lv_aload_n hx hb dX10_goes_73 rfl (lv_at hl 3 rfl) ?_
            refine lv_iload_n hx hb dX10_goes_74 rfl (lv_at hl 5 rfl) ?_
            refine lv_iload_n hx hb dX10_goes_75 rfl (lv_at hl 4 rfl) ?_
            refine lv_iload hx hb dX10_goes_76 (lv_at hl 0 rfl) ?_
            refine lv_sipush (v := 399) hx hb dX10_goes_78 (by decide) ?_
            refine lv_iload hx hb dX10_goes_81 (lv_at hl 7 rfl) ?_
            refine lv_aload_n hx hb dX10_goes_83 rfl (lv_at hl 3 rfl) ?_
            refine va_get (D := G) (ci := 10) (v := .ref ob_world) (C := RX10) (T := TX10) (N := 41) hx hb hw0 inA_wsX100 hown hK.1 hP 0 rfl rfl 1 (by decide) (hw0 _ m_352) (fun _ h9 => h9) rfl dX10_goes_84 ?_
            refine lv_sipush (v := 154) hx hb dX10_goes_87 (by decide) ?_
            refine lv_iconst (v := 5) hx hb dX10_goes_90 (by decide) ?_
            refine lv_iload hx hb dX10_goes_91 (lv_at hl 1 rfl) ?_
            refine lv_imul hx hb dX10_goes_93 ?_
            refine lv_topi (fun v_1099 ev_1099 => ?_)
            obtain rfl : v_1092 = v_1099 := (ev_1099.trans (ev_1092.symm)).symm
            refine lv_iadd hx hb dX10_goes_94 ?_
            refine lv_topi (fun v_1100 ev_1100 => ?_)
            obtain rfl : v_1093 = v_1100 := (ev_1100.trans (ev_1093.symm)).symm
            refine lv_iconst (v := 2) hx hb dX10_goes_95 (by decide) ?_
            refine lv_iadd hx hb dX10_goes_96 ?_
            refine lv_topi (fun v_1101 ev_1101 => ?_)
            have qv_1101 := ba_add ev_1101 bv_1093 (bkc (x := 2) (c := 2) (by decide)) (by decide)
            have bv_1101 : (156 : Int) ≤ v_1101.toInt ∧ v_1101.toInt ≤ 271 := bq_add qv_1101 bv_1093 (bkc (x := 2) (c := 2) (by decide)) _ _ (by decide)
            have qv_1101 : v_1101.toInt = v_1093.toInt + (2) := qv_1101
            refine va_iald hx hb hK.1 hP 1 1 rfl rfl (vi bv_1101 (by decide)) dX10_goes_97 ?_
            refine lv_topi (fun v_1102 ev_1102 => ?_)
            refine lv_iadd hx hb dX10_goes_98 ?_
            refine lv_topi (fun v_1103 ev_1103 => ?_)
            refine va_mmin (own := RX10) hx hb (by rw [hml]; exact hl.1.symm) hown (hw0 _ m_350) (hw0 _ m_282) (hw0 _ m_283) (hw0 _ m_284) (Nat.le_of_ble_eq_true rfl) (Nat.le_of_ble_eq_true rfl) (Nat.zero_le _) (Nat.zero_le _) dX10_goes_99 ?_
            refine lv_topi (fun v_1104 ev_1104 => ?_)
            have bv_1104 : (-2147483648 : Int) ≤ v_1104.toInt ∧ v_1104.toInt ≤ 399 := bm_min ev_1104 (bkc (x := 399) (c := 399) (by decide)) (btop v_1103) _ _ (by decide)
            refine lv_iload hx hb dX10_goes_102 (lv_at hl 7 rfl) ?_
            refine cVvm (As := [.int a2, .int a1, .int v_1095, .int v_1104, .int a4]) (rest := []) ⟨hx, hb, hml, hown, hw0⟩ hA hK hP hD hS [true, true] (sX10_comes l G y _ ob a2 a1 v_1095 v_1104 a4 ob_thrown ob_world ob_images ob_hasImage ob_tape ob_taped ob_five ob_size ob_at ob_from ob_token ob_value ob_faultKind ob_faultPlace ob_fresh ob_parts ob_houses ob_houseMany ob_worthOf ob_byCall ob_over ob_bestSet ob_bestOver ob_bestWorth ob_row ob_tenDebts ob_tenMany ob_fewestBy ob_covered ob_queue ob_cameBy ob_parent ob_met ob_calls ob_callMany ob_calledOn ob_saved ob_many ob_width ob_numbers ob_moving f_1004 bf_1004 p_ob_taped p_ob_size p_ob_at p_ob_from p_ob_token p_ob_value p_ob_faultKind p_ob_houseMany p_ob_bestSet p_ob_bestOver p_ob_tenMany p_ob_callMany p_a2 p_a1 (by omega)) rfl ⟨(callB_of 5 hw0 (gA m_399) rfl rfl rfl (hw0 _ m_41) (hw0 _ m_502) cb_X10_comes ⟨Nat.le_of_ble_eq_true rfl, Nat.le_of_ble_eq_true rfl⟩), (hw0 _ m_503), (hw0 _ m_504)⟩ (ci := 10) (q := (RX10, TX10, 41)) rfl rfl rfl hl.1 (Nat.le_of_ble_eq_true rfl) dX10_goes_104 ⟨Nat.le_of_ble_eq_true rfl, Nat.le_of_ble_eq_true rfl⟩ (fun w_1105 H locs hw_1105 hP hD hS => ?_)
            obtain ⟨f_1106, bf_1106, h_1107, h_1108, h_1109, rfl⟩ := hw_1105
            obtain ⟨hP, hD⟩ : vPD G A H [(ce_X10 ob ob_thrown ob_world ob_images ob_hasImage ob_tape ob_taped ob_five ob_size ob_at ob_from ob_token ob_value ob_faultKind ob_faultPlace ob_fresh ob_parts ob_houses ob_houseMany ob_worthOf ob_byCall ob_over ob_bestSet ob_bestOver ob_bestWorth ob_row ob_tenDebts ob_tenMany ob_fewestBy ob_covered ob_queue ob_cameBy ob_parent ob_met ob_calls ob_callMany ob_calledOn ob_saved ob_many ob_width ob_numbers ob_moving), (ce_i9080 y ob_world f_1106), (ce_i6 y ob_parts f_1090)] := ⟨hP, hD⟩
            exact J_107_1056 _ _ _ _ ⟨f_1106, f_1090, bf_1106, (by omega), (tgd_t h_1007 h_1109), (by omega), (wfr_t h_1006 h_1108), rfl, ⟨hP, hD⟩, hS, lv_sub hl [2, 3, 4, 5, 6] rfl⟩
          · skip
            obtain ⟨hP, hD⟩ : vPD G A H [(ce_X10 ob ob_thrown ob_world ob_images ob_hasImage ob_tape ob_taped ob_five ob_size ob_at ob_from ob_token ob_value ob_faultKind ob_faultPlace ob_fresh ob_parts ob_houses ob_houseMany ob_worthOf ob_byCall ob_over ob_bestSet ob_bestOver ob_bestWorth ob_row ob_tenDebts ob_tenMany ob_fewestBy ob_covered ob_queue ob_cameBy ob_parent ob_met ob_calls ob_callMany ob_calledOn ob_saved ob_many ob_width ob_numbers ob_moving), (ce_i9080 y ob_world f_1004), (ce_i6 y ob_parts f_1090)] := ⟨hP, hD⟩
            refine lv_if_ne (tgt := 107) hx hb dX10_goes_70 (by decide) (fun _ => ?_) (fun c9 => absurd c9 (by decide))
            exact J_107_1056 _ _ _ _ ⟨f_1004, f_1090, bf_1004, (by omega), h_1007, (by omega), h_1006, rfl, ⟨hP, hD⟩, hS, lv_sub hl [2, 3, 4, 5, 6] rfl⟩
  · skip
    have nc_1001 := nb_eq (4) (4) c_1001 (btop a3) (bkc (x := 4) (c := 4) (by decide)) (by decide)
    refine lv_aload_n hx hb dX10_goes_5 rfl (lv_at hl 0 rfl) ?_
    refine lv_iload_n hx hb dX10_goes_6 rfl (lv_at hl 1 rfl) ?_
    refine lv_iload_n hx hb dX10_goes_7 rfl (lv_at hl 2 rfl) ?_
    refine cVvm (As := [.int a1, .int a2]) (rest := []) ⟨hx, hb, hml, hown, hw0⟩ hA hK hP hD hS [true, true] (gmeets l G y _ ob a1 a2 ob_thrown ob_world ob_images ob_hasImage ob_tape ob_taped ob_five ob_size ob_at ob_from ob_token ob_value ob_faultKind ob_faultPlace ob_fresh ob_parts ob_houses ob_houseMany ob_worthOf ob_byCall ob_over ob_bestSet ob_bestOver ob_bestWorth ob_row ob_tenDebts ob_tenMany ob_fewestBy ob_covered ob_queue ob_cameBy ob_parent ob_met ob_calls ob_callMany ob_calledOn ob_saved ob_many ob_width ob_numbers ob_moving fob_world p_fob_world p_ob_taped p_ob_size p_ob_at p_ob_from p_ob_token p_ob_value p_ob_faultKind p_ob_houseMany p_ob_bestSet p_ob_bestOver p_ob_tenMany p_ob_callMany p_a1 p_a2) rfl ⟨(callB_of 2 hw0 (gA m_559) rfl rfl rfl (hw0 _ m_41) (hw0 _ m_490) cb_X10_meets ⟨Nat.le_of_ble_eq_true rfl, Nat.le_of_ble_eq_true rfl⟩), (hw0 _ m_491), (hw0 _ m_492)⟩ (ci := 10) (q := (RX10, TX10, 41)) rfl rfl rfl hl.1 (Nat.le_of_ble_eq_true rfl) dX10_goes_8 ⟨Nat.le_of_ble_eq_true rfl, Nat.le_of_ble_eq_true rfl⟩ (fun w_1110 H locs hw_1110 hP hD hS => ?_)
    obtain ⟨f_1111, bf_1111, h_1112, h_1113, h_1114, rfl⟩ := hw_1110
    obtain ⟨hP, hD⟩ : vPD G A H [(ce_X10 ob ob_thrown ob_world ob_images ob_hasImage ob_tape ob_taped ob_five ob_size ob_at ob_from ob_token ob_value ob_faultKind ob_faultPlace ob_fresh ob_parts ob_houses ob_houseMany ob_worthOf ob_byCall ob_over ob_bestSet ob_bestOver ob_bestWorth ob_row ob_tenDebts ob_tenMany ob_fewestBy ob_covered ob_queue ob_cameBy ob_parent ob_met ob_calls ob_callMany ob_calledOn ob_saved ob_many ob_width ob_numbers ob_moving), (ce_i9080 y ob_world f_1111), (ce_i6 y ob_parts fob_parts)] := ⟨hP, hD⟩
    refine lv_iconst (v := 0) hx hb dX10_goes_11 (by decide) ?_
    exact W.iret (v := 0) hx hb hr (fun t ht hW => ⟨⟨0, _, rfl, ⟨0, f_1111, fob_parts, (bw (0) (600) (bkc (x := 0) (c := 0) (by decide)) (by decide)), bf_1111, by have h90 : Int32.toInt 0 = 0 := (by decide); omega, (by have lm1 : Int32.toInt (-1) = -1 := (by decide); have l91 : Int32.toInt 1 = 1 := (by decide); have l92 : Int32.toInt 2 = 2 := (by decide); have l93 : Int32.toInt 3 = 3 := (by decide); have h90 : Int32.toInt 0 = 0 := (by decide); exact gkn_y (by omega) tgd_r h_1113), by have h90 : Int32.toInt 0 = 0 := (by decide); omega, h_1114, rfl, rfl⟩, by rw [ht]; exact hP, hD⟩, hS.F ht⟩) hS.2.2 dX10_goes_12

set_option maxHeartbeats 4000000 in
set_option maxRecDepth 100000 in
theorem gnotes (l : Launch) (G : va_G) (y : Nat → ClassId) (sz : Nat) (ob : Nat) (a1 : Int32) (a2 : Int32) (a3 : Int32) (ob_thrown : Int32) (ob_world : Nat) (ob_images : Nat) (ob_hasImage : Nat) (ob_tape : Nat) (ob_taped : Int32) (ob_five : Nat) (ob_size : Int32) (ob_at : Int32) (ob_from : Int32) (ob_token : Int32) (ob_value : Int32) (ob_faultKind : Int32) (ob_faultPlace : Int32) (ob_fresh : Nat) (ob_parts : Nat) (ob_houses : Nat) (ob_houseMany : Int32) (ob_worthOf : Nat) (ob_byCall : Nat) (ob_over : Nat) (ob_bestSet : Int32) (ob_bestOver : Int32) (ob_bestWorth : Int32) (ob_row : Nat) (ob_tenDebts : Nat) (ob_tenMany : Int32) (ob_fewestBy : Nat) (ob_covered : Nat) (ob_queue : Nat) (ob_cameBy : Nat) (ob_parent : Nat) (ob_met : Nat) (ob_calls : Nat) (ob_callMany : Int32) (ob_calledOn : Nat) (ob_saved : Nat) (ob_many : Nat) (ob_width : Nat) (ob_numbers : Nat) (ob_moving : Nat) (fob_world : Nat → Int32) (fob_parts : Nat → Int32) (p_fob_world : RWw fob_world) (p_ob_taped : (0 : Int) ≤ ob_taped.toInt ∧ ob_taped.toInt ≤ 1400) (p_ob_size : (0 : Int) ≤ ob_size.toInt ∧ ob_size.toInt ≤ 1400) (p_ob_at : (0 : Int) ≤ ob_at.toInt ∧ ob_at.toInt ≤ 1400) (p_ob_from : (0 : Int) ≤ ob_from.toInt ∧ ob_from.toInt ≤ 1400) (p_ob_token : (0 : Int) ≤ ob_token.toInt ∧ ob_token.toInt ≤ 4) (p_ob_value : (0 : Int) ≤ ob_value.toInt ∧ ob_value.toInt ≤ 9999) (p_ob_faultKind : (0 : Int) ≤ ob_faultKind.toInt ∧ ob_faultKind.toInt ≤ 3) (p_ob_houseMany : (0 : Int) ≤ ob_houseMany.toInt ∧ ob_houseMany.toInt ≤ 10) (p_ob_bestSet : (0 : Int) ≤ ob_bestSet.toInt ∧ ob_bestSet.toInt ≤ 1023) (p_ob_bestOver : (-1 : Int) ≤ ob_bestOver.toInt ∧ ob_bestOver.toInt ≤ 180) (p_ob_tenMany : (0 : Int) ≤ ob_tenMany.toInt ∧ ob_tenMany.toInt ≤ 10) (p_ob_callMany : (0 : Int) ≤ ob_callMany.toInt ∧ ob_callMany.toInt ≤ 16) (p_a1 : (0 : Int) ≤ a1.toInt ∧ a1.toInt ≤ 15) (p_a2 : (0 : Int) ≤ a2.toInt ∧ a2.toInt ≤ 15) (p_a3 : (0 : Int) ≤ a3.toInt ∧ a3.toInt ≤ 4) (hq0 : (fob_world 8).toInt ≤ 599) : Met l yX10_notes (Cond.code yX10_notes cX10_notes 6 (some .int) :: wAll) ({ frames := 4, cells := 0, slots := 0, locals := 111 }) (va_Pc [.ref ob, .int a1, .int a2, .int a3] (kp G y sz [(ce_X10 ob ob_thrown ob_world ob_images ob_hasImage ob_tape ob_taped ob_five ob_size ob_at ob_from ob_token ob_value ob_faultKind ob_faultPlace ob_fresh ob_parts ob_houses ob_houseMany ob_worthOf ob_byCall ob_over ob_bestSet ob_bestOver ob_bestWorth ob_row ob_tenDebts ob_tenMany ob_fewestBy ob_covered ob_queue ob_cameBy ob_parent ob_met ob_calls ob_callMany ob_calledOn ob_saved ob_many ob_width ob_numbers ob_moving), (ce_i9080 y ob_world fob_world), (ce_i6 y ob_parts fob_parts)])) (va_Qi (fun (r : Int32) (w : va_W) => (∃ (v_65 : Int32) (f_66 : Nat → Int32) (f_67 : Nat → Int32), ((0 : Int) ≤ v_65.toInt ∧ v_65.toInt ≤ 600) ∧ (RWw f_66) ∧ (tgd (gdo fob_world a1.toInt a2.toInt a3.toInt) f_66) ∧ (0 ≤ (v_65 : Int32).toInt) ∧ (0 ≤ (v_65 : Int32).toInt) ∧ (wfr fob_world f_66) ∧ r = v_65 ∧ w = [(ce_X10 ob ob_thrown ob_world ob_images ob_hasImage ob_tape ob_taped ob_five ob_size ob_at ob_from ob_token ob_value ob_faultKind ob_faultPlace ob_fresh ob_parts ob_houses ob_houseMany ob_worthOf ob_byCall ob_over ob_bestSet ob_bestOver ob_bestWorth ob_row ob_tenDebts ob_tenMany ob_fewestBy ob_covered ob_queue ob_cameBy ob_parent ob_met ob_calls ob_callMany ob_calledOn ob_saved ob_many ob_width ob_numbers ob_moving), (ce_i9080 y ob_world f_66), (ce_i6 y ob_parts f_67)])) (kq G (va_A [(ce_X10 ob ob_thrown ob_world ob_images ob_hasImage ob_tape ob_taped ob_five ob_size ob_at ob_from ob_token ob_value ob_faultKind ob_faultPlace ob_fresh ob_parts ob_houses ob_houseMany ob_worthOf ob_byCall ob_over ob_bestSet ob_bestOver ob_bestWorth ob_row ob_tenDebts ob_tenMany ob_fewestBy ob_covered ob_queue ob_cameBy ob_parent ob_met ob_calls ob_callMany ob_calledOn ob_saved ob_many ob_width ob_numbers ob_moving), (ce_i9080 y ob_world fob_world), (ce_i6 y ob_parts fob_parts)] sz)) (va_A [(ce_X10 ob ob_thrown ob_world ob_images ob_hasImage ob_tape ob_taped ob_five ob_size ob_at ob_from ob_token ob_value ob_faultKind ob_faultPlace ob_fresh ob_parts ob_houses ob_houseMany ob_worthOf ob_byCall ob_over ob_bestSet ob_bestOver ob_bestWorth ob_row ob_tenDebts ob_tenMany ob_fewestBy ob_covered ob_queue ob_cameBy ob_parent ob_met ob_calls ob_callMany ob_calledOn ob_saved ob_many ob_width ob_numbers ob_moving), (ce_i9080 y ob_world fob_world), (ce_i6 y ob_parts fob_parts)] sz)) 0 0 (va_A [(ce_X10 ob ob_thrown ob_world ob_images ob_hasImage ob_tape ob_taped ob_five ob_size ob_at ob_from ob_token ob_value ob_faultKind ob_faultPlace ob_fresh ob_parts ob_houses ob_houseMany ob_worthOf ob_byCall ob_over ob_bestSet ob_bestOver ob_bestWorth ob_row ob_tenDebts ob_tenMany ob_fewestBy ob_covered ob_queue ob_cameBy ob_parent ob_met ob_calls ob_callMany ob_calledOn ob_saved ob_many ob_width ob_numbers ob_moving), (ce_i9080 y ob_world fob_world), (ce_i6 y ob_parts fob_parts)] sz) := by
  refine Met.ofW (cc := cX10_notes) (maxL := 6) (ret := (some .int)) (by decide) rfl ?_
  intro p e s m args below meth c s₁ B hml hv
  obtain ⟨rfl, hsz, hP, hK, hD0⟩ := hv
  have hx := B.exec
  have hb := B.bytes
  have hr := B.returns
  have hw0 : ∀ w ∈ wAll, w.before _ s = true := fun w h => atoms_spec (ws := Cond.code yX10_notes cX10_notes 6 (some .int) :: wAll) B.pre w (List.mem_cons_of_mem _ h)
  have hown : s.vm.findClass RX10 = some m.cls := findClass_of_methodNamed B.named
  subst hsz
  have hD := hD0.self (sz := s.heap.size)
  generalize hAe : va_A [(ce_X10 ob ob_thrown ob_world ob_images ob_hasImage ob_tape ob_taped ob_five ob_size ob_at ob_from ob_token ob_value ob_faultKind ob_faultPlace ob_fresh ob_parts ob_houses ob_houseMany ob_worthOf ob_byCall ob_over ob_bestSet ob_bestOver ob_bestWorth ob_row ob_tenDebts ob_tenMany ob_fewestBy ob_covered ob_queue ob_cameBy ob_parent ob_met ob_calls ob_callMany ob_calledOn ob_saved ob_many ob_width ob_numbers ob_moving), (ce_i9080 y ob_world fob_world), (ce_i6 y ob_parts fob_parts)] s.heap.size = A at hD ⊢
  have hA : ∀ q : Nat, s.heap.size ≤ q → A q := fun q h => by rw [← hAe]; exact Or.inr h
  have hS : va_S A s.heap s.heap [] := va_S.rf
  have hP : va_P G vwCl [(ce_X10 ob ob_thrown ob_world ob_images ob_hasImage ob_tape ob_taped ob_five ob_size ob_at ob_from ob_token ob_value ob_faultKind ob_faultPlace ob_fresh ob_parts ob_houses ob_houseMany ob_worthOf ob_byCall ob_over ob_bestSet ob_bestOver ob_bestWorth ob_row ob_tenDebts ob_tenMany ob_fewestBy ob_covered ob_queue ob_cameBy ob_parent ob_met ob_calls ob_callMany ob_calledOn ob_saved ob_many ob_width ob_numbers ob_moving), (ce_i9080 y ob_world fob_world), (ce_i6 y ob_parts fob_parts)] s.heap := hP
  have hl := lv_entry ([.ref ob, .int a1, .int a2, .int a3]) (n := 6) (Nat.le_of_ble_eq_true rfl)
  rw [lg_entry_eq]
  generalize (lg_sl ([.ref ob, .int a1, .int a2, .int a3]) ++ List.replicate (6 - (lg_sl ([.ref ob, .int a1, .int a2, .int a3])).length) Slot.unset).toArray = ls at hl ⊢
  have hl : lv_has ls 6 [(0, .ref ob), (1, .int a1), (2, .int a2), (3, .int a3)] := hl
  have h7 : (fob_world 7).toInt ≤ (fob_world 8).toInt := (p_fob_world).1.2
  refine lv_sipush (v := 6680) hx hb dX10_notes_0 (by decide) ?_
  refine lv_iconst (v := 4) hx hb dX10_notes_3 (by decide) ?_
  refine lv_aload_n hx hb dX10_notes_4 rfl (lv_at hl 0 rfl) ?_
  refine va_get (D := G) (ci := 10) (v := .ref ob_world) (C := RX10) (T := TX10) (N := 41) hx hb hw0 inA_wsX100 hown hK.1 hP 0 rfl rfl 1 (by decide) (hw0 _ m_352) (fun _ h9 => h9) rfl dX10_notes_5 ?_
  refine lv_bipush (v := 8) hx hb dX10_notes_8 (by decide) ?_
  refine va_iald hx hb hK.1 hP 1 1 rfl rfl (vi (bkc (x := 8) (c := 8) (by decide)) (by decide)) dX10_notes_10 ?_
  refine lv_topi (fun v_1001 ev_1001 => ?_)
  have bv_1001 : (0 : Int) ≤ v_1001.toInt ∧ v_1001.toInt ≤ 600 := rdk ev_1001 (p_fob_world).1.1 (by decide)
  have yv_1001 : v_1001.toInt = (fob_world 8).toInt := congrArg Int32.toInt ev_1001
  have h_1002 : (0 : Int) ≤ v_1001.toInt ∧ v_1001.toInt ≤ 599 := by omega
  refine lv_imul hx hb dX10_notes_11 ?_
  refine lv_topi (fun v_1003 ev_1003 => ?_)
  have qv_1003 := ba_mul 4 (ev_1003.trans (Int32.mul_comm _ _)) h_1002 (by decide) (by decide) (by decide)
  have bv_1003 : (0 : Int) ≤ v_1003.toInt ∧ v_1003.toInt ≤ 2396 := qv_1003.2
  refine lv_iadd hx hb dX10_notes_12 ?_
  refine lv_topi (fun v_1004 ev_1004 => ?_)
  have qv_1004 := ba_add ev_1004 (bkc (x := 6680) (c := 6680) (by decide)) bv_1003 (by decide)
  have bv_1004 : (6680 : Int) ≤ v_1004.toInt ∧ v_1004.toInt ≤ 9076 := bq_add qv_1004 (bkc (x := 6680) (c := 6680) (by decide)) bv_1003 _ _ (by decide)
  have qv_1004 : v_1004.toInt = (6680) + v_1003.toInt := qv_1004
  refine lv_istore (lv' := [(4, .int v_1004), (0, .ref ob), (1, .int a1), (2, .int a2), (3, .int a3)]) hx hb dX10_notes_13 hl (by decide) rfl (fun ls hl => ?_)
  refine lv_aload_n hx hb dX10_notes_15 rfl (lv_at hl 1 rfl) ?_
  refine va_get (D := G) (ci := 10) (v := .ref ob_world) (C := RX10) (T := TX10) (N := 41) hx hb hw0 inA_wsX100 hown hK.1 hP 0 rfl rfl 1 (by decide) (hw0 _ m_352) (fun _ h9 => h9) rfl dX10_notes_16 ?_
  refine lv_iload hx hb dX10_notes_19 (lv_at hl 0 rfl) ?_
  refine lv_iload_n hx hb dX10_notes_21 rfl (lv_at hl 2 rfl) ?_
  refine va_iast hx hb hK.1 hP hD hS 1 1 rfl rfl (vi bv_1004 (by decide)) dX10_notes_22 (fun H locs hP hD hS => ?_)
  generalize hf_1005 : (upd fob_world (v_1004 : Int32).toNatClampNeg a1) = f_1005 at hP hD
  have zf_1005_6 : (f_1005 6).toInt = (fob_world 6).toInt := hf_1005 ▸ pin_ne (ix_not bv_1004 (by decide))
  have zf_1005_7 : (f_1005 7).toInt = (fob_world 7).toInt := hf_1005 ▸ pin_ne (ix_not bv_1004 (by decide))
  have zf_1005_8 : (f_1005 8).toInt = (fob_world 8).toInt := hf_1005 ▸ pin_ne (ix_not bv_1004 (by decide))
  have bf_1005 : RBw f_1005 := hf_1005 ▸ upw (p_fob_world).1.1 pl_41 (by omega) (h_1002) p_a1
  have cf_1005 : RVw f_1005 := hf_1005 ▸ RV_up (p_fob_world).1 (hf_1005 ▸ bf_1005) (ix_out bv_1004 (by decide))
  have df_1005 : RWw f_1005 := ⟨cf_1005, hf_1005 ▸ WQ_up (p_fob_world).1.1 (p_fob_world).2 (qf_ix bv_1004 (by decide))⟩
  obtain ⟨hP, hD⟩ : vPD G A H [(ce_X10 ob ob_thrown ob_world ob_images ob_hasImage ob_tape ob_taped ob_five ob_size ob_at ob_from ob_token ob_value ob_faultKind ob_faultPlace ob_fresh ob_parts ob_houses ob_houseMany ob_worthOf ob_byCall ob_over ob_bestSet ob_bestOver ob_bestWorth ob_row ob_tenDebts ob_tenMany ob_fewestBy ob_covered ob_queue ob_cameBy ob_parent ob_met ob_calls ob_callMany ob_calledOn ob_saved ob_many ob_width ob_numbers ob_moving), (ce_i9080 y ob_world f_1005), (ce_i6 y ob_parts fob_parts)] := ⟨hP, hD⟩
  refine lv_aload_n hx hb dX10_notes_23 rfl (lv_at hl 1 rfl) ?_
  refine va_get (D := G) (ci := 10) (v := .ref ob_world) (C := RX10) (T := TX10) (N := 41) hx hb hw0 inA_wsX100 hown hK.1 hP 0 rfl rfl 1 (by decide) (hw0 _ m_352) (fun _ h9 => h9) rfl dX10_notes_24 ?_
  refine lv_iload hx hb dX10_notes_27 (lv_at hl 0 rfl) ?_
  refine lv_iconst (v := 1) hx hb dX10_notes_29 (by decide) ?_
  refine lv_iadd hx hb dX10_notes_30 ?_
  refine lv_topi (fun v_1006 ev_1006 => ?_)
  have qv_1006 := ba_add ev_1006 bv_1004 (bkc (x := 1) (c := 1) (by decide)) (by decide)
  have bv_1006 : (6681 : Int) ≤ v_1006.toInt ∧ v_1006.toInt ≤ 9077 := bq_add qv_1006 bv_1004 (bkc (x := 1) (c := 1) (by decide)) _ _ (by decide)
  have qv_1006 : v_1006.toInt = v_1004.toInt + (1) := qv_1006
  refine lv_iload_n hx hb dX10_notes_31 rfl (lv_at hl 3 rfl) ?_
  refine va_iast hx hb hK.1 hP hD hS 1 1 rfl rfl (vi bv_1006 (by decide)) dX10_notes_32 (fun H locs hP hD hS => ?_)
  generalize hf_1007 : (upd f_1005 (v_1006 : Int32).toNatClampNeg a2) = f_1007 at hP hD
  have zf_1007_6 : (f_1007 6).toInt = (f_1005 6).toInt := hf_1007 ▸ pin_ne (ix_not bv_1006 (by decide))
  have zf_1007_7 : (f_1007 7).toInt = (f_1005 7).toInt := hf_1007 ▸ pin_ne (ix_not bv_1006 (by decide))
  have zf_1007_8 : (f_1007 8).toInt = (f_1005 8).toInt := hf_1007 ▸ pin_ne (ix_not bv_1006 (by decide))
  have bf_1007 : RBw f_1007 := hf_1007 ▸ upw (df_1005).1.1 pl_42 (by omega) (h_1002) p_a2
  have cf_1007 : RVw f_1007 := hf_1007 ▸ RV_up (df_1005).1 (hf_1007 ▸ bf_1007) (ix_out bv_1006 (by decide))
  have df_1007 : RWw f_1007 := ⟨cf_1007, hf_1007 ▸ WQ_up (df_1005).1.1 (df_1005).2 (qf_ix bv_1006 (by decide))⟩
  obtain ⟨hP, hD⟩ : vPD G A H [(ce_X10 ob ob_thrown ob_world ob_images ob_hasImage ob_tape ob_taped ob_five ob_size ob_at ob_from ob_token ob_value ob_faultKind ob_faultPlace ob_fresh ob_parts ob_houses ob_houseMany ob_worthOf ob_byCall ob_over ob_bestSet ob_bestOver ob_bestWorth ob_row ob_tenDebts ob_tenMany ob_fewestBy ob_covered ob_queue ob_cameBy ob_parent ob_met ob_calls ob_callMany ob_calledOn ob_saved ob_many ob_width ob_numbers ob_moving), (ce_i9080 y ob_world f_1007), (ce_i6 y ob_parts fob_parts)] := ⟨hP, hD⟩
  refine lv_aload_n hx hb dX10_notes_33 rfl (lv_at hl 1 rfl) ?_
  refine va_get (D := G) (ci := 10) (v := .ref ob_world) (C := RX10) (T := TX10) (N := 41) hx hb hw0 inA_wsX100 hown hK.1 hP 0 rfl rfl 1 (by decide) (hw0 _ m_352) (fun _ h9 => h9) rfl dX10_notes_34 ?_
  refine lv_iload hx hb dX10_notes_37 (lv_at hl 0 rfl) ?_
  refine lv_iconst (v := 2) hx hb dX10_notes_39 (by decide) ?_
  refine lv_iadd hx hb dX10_notes_40 ?_
  refine lv_topi (fun v_1008 ev_1008 => ?_)
  have qv_1008 := ba_add ev_1008 bv_1004 (bkc (x := 2) (c := 2) (by decide)) (by decide)
  have bv_1008 : (6682 : Int) ≤ v_1008.toInt ∧ v_1008.toInt ≤ 9078 := bq_add qv_1008 bv_1004 (bkc (x := 2) (c := 2) (by decide)) _ _ (by decide)
  have qv_1008 : v_1008.toInt = v_1004.toInt + (2) := qv_1008
  refine lv_iload_n hx hb dX10_notes_41 rfl (lv_at hl 4 rfl) ?_
  refine va_iast hx hb hK.1 hP hD hS 1 1 rfl rfl (vi bv_1008 (by decide)) dX10_notes_42 (fun H locs hP hD hS => ?_)
  generalize hf_1009 : (upd f_1007 (v_1008 : Int32).toNatClampNeg a3) = f_1009 at hP hD
  have zf_1009_6 : (f_1009 6).toInt = (f_1007 6).toInt := hf_1009 ▸ pin_ne (ix_not bv_1008 (by decide))
  have zf_1009_7 : (f_1009 7).toInt = (f_1007 7).toInt := hf_1009 ▸ pin_ne (ix_not bv_1008 (by decide))
  have zf_1009_8 : (f_1009 8).toInt = (f_1007 8).toInt := hf_1009 ▸ pin_ne (ix_not bv_1008 (by decide))
  have bf_1009 : RBw f_1009 := hf_1009 ▸ upw (df_1007).1.1 pl_109 (by omega) (h_1002) p_a3
  have cf_1009 : RVw f_1009 := hf_1009 ▸ RV_up (df_1007).1 (hf_1009 ▸ bf_1009) (ix_out bv_1008 (by decide))
  have df_1009 : RWw f_1009 := ⟨cf_1009, hf_1009 ▸ WQ_up (df_1007).1.1 (df_1007).2 (qf_ix bv_1008 (by decide))⟩
  obtain ⟨hP, hD⟩ : vPD G A H [(ce_X10 ob ob_thrown ob_world ob_images ob_hasImage ob_tape ob_taped ob_five ob_size ob_at ob_from ob_token ob_value ob_faultKind ob_faultPlace ob_fresh ob_parts ob_houses ob_houseMany ob_worthOf ob_byCall ob_over ob_bestSet ob_bestOver ob_bestWorth ob_row ob_tenDebts ob_tenMany ob_fewestBy ob_covered ob_queue ob_cameBy ob_parent ob_met ob_calls ob_callMany ob_calledOn ob_saved ob_many ob_width ob_numbers ob_moving), (ce_i9080 y ob_world f_1009), (ce_i6 y ob_parts fob_parts)] := ⟨hP, hD⟩
  refine lv_aload_n hx hb dX10_notes_43 rfl (lv_at hl 1 rfl) ?_
  refine va_get (D := G) (ci := 10) (v := .ref ob_world) (C := RX10) (T := TX10) (N := 41) hx hb hw0 inA_wsX100 hown hK.1 hP 0 rfl rfl 1 (by decide) (hw0 _ m_352) (fun _ h9 => h9) rfl dX10_notes_44 ?_
  refine lv_iload hx hb dX10_notes_47 (lv_at hl 0 rfl) ?_
  refine lv_iconst (v := 3) hx hb dX10_notes_49 (by decide) ?_
  refine lv_iadd hx hb dX10_notes_50 ?_
  refine lv_topi (fun v_1010 ev_1010 => ?_)
  have qv_1010 := ba_add ev_1010 bv_1004 (bkc (x := 3) (c := 3) (by decide)) (by decide)
  have bv_1010 : (6683 : Int) ≤ v_1010.toInt ∧ v_1010.toInt ≤ 9079 := bq_add qv_1010 bv_1004 (bkc (x := 3) (c := 3) (by decide)) _ _ (by decide)
  have qv_1010 : v_1010.toInt = v_1004.toInt + (3) := qv_1010
  refine lv_aload_n hx hb dX10_notes_51 rfl (lv_at hl 1 rfl) ?_
  refine cVim (As := []) (rest := [.int v_1010, .ref ob_world]) ⟨hx, hb, hml, hown, hw0⟩ hA hK hP hD hS [true, true] (sX10_today l G y _ ob ob_thrown ob_world ob_images ob_hasImage ob_tape ob_taped ob_five ob_size ob_at ob_from ob_token ob_value ob_faultKind ob_faultPlace ob_fresh ob_parts ob_houses ob_houseMany ob_worthOf ob_byCall ob_over ob_bestSet ob_bestOver ob_bestWorth ob_row ob_tenDebts ob_tenMany ob_fewestBy ob_covered ob_queue ob_cameBy ob_parent ob_met ob_calls ob_callMany ob_calledOn ob_saved ob_many ob_width ob_numbers ob_moving f_1009 df_1009 p_ob_taped p_ob_size p_ob_at p_ob_from p_ob_token p_ob_value p_ob_faultKind p_ob_houseMany p_ob_bestSet p_ob_bestOver p_ob_tenMany p_ob_callMany) rfl ⟨(callB_of 0 hw0 (gA m_689) rfl rfl rfl (hw0 _ m_41) (hw0 _ m_373) cb_X10_today ⟨Nat.le_of_ble_eq_true rfl, Nat.le_of_ble_eq_true rfl⟩), (hw0 _ m_374), (hw0 _ m_375)⟩ (ci := 10) (q := (RX10, TX10, 41)) rfl rfl rfl hl.1 (Nat.le_of_ble_eq_true rfl) dX10_notes_52 ⟨Nat.le_of_ble_eq_true rfl, Nat.le_of_ble_eq_true rfl⟩ (fun r_1011 w_1011 H locs hw_1011 hP hD hS => ?_)
  obtain ⟨v_1012, bv_1012, h_1013, er_1011, rfl⟩ := hw_1011
  subst r_1011
  obtain ⟨hP, hD⟩ : vPD G A H [(ce_X10 ob ob_thrown ob_world ob_images ob_hasImage ob_tape ob_taped ob_five ob_size ob_at ob_from ob_token ob_value ob_faultKind ob_faultPlace ob_fresh ob_parts ob_houses ob_houseMany ob_worthOf ob_byCall ob_over ob_bestSet ob_bestOver ob_bestWorth ob_row ob_tenDebts ob_tenMany ob_fewestBy ob_covered ob_queue ob_cameBy ob_parent ob_met ob_calls ob_callMany ob_calledOn ob_saved ob_many ob_width ob_numbers ob_moving), (ce_i9080 y ob_world f_1009), (ce_i6 y ob_parts fob_parts)] := ⟨hP, hD⟩
  refine va_iast hx hb hK.1 hP hD hS 1 1 rfl rfl (vi bv_1010 (by decide)) dX10_notes_55 (fun H locs hP hD hS => ?_)
  generalize hf_1014 : (upd f_1009 (v_1010 : Int32).toNatClampNeg v_1012) = f_1014 at hP hD
  have zf_1014_6 : (f_1014 6).toInt = (f_1009 6).toInt := hf_1014 ▸ pin_ne (ix_not bv_1010 (by decide))
  have zf_1014_7 : (f_1014 7).toInt = (f_1009 7).toInt := hf_1014 ▸ pin_ne (ix_not bv_1010 (by decide))
  have zf_1014_8 : (f_1014 8).toInt = (f_1009 8).toInt := hf_1014 ▸ pin_ne (ix_not bv_1010 (by decide))
  have bf_1014 : RBw f_1014 := hf_1014 ▸ upw (df_1009).1.1 pl_44 (by omega) (h_1002) bv_1012
  have cf_1014 : RVw f_1014 := hf_1014 ▸ RV_up (df_1009).1 (hf_1014 ▸ bf_1014) (ix_out bv_1010 (by decide))
  have df_1014 : RWw f_1014 := ⟨cf_1014, hf_1014 ▸ WQ_up (df_1009).1.1 (df_1009).2 (qf_ix bv_1010 (by decide))⟩
  obtain ⟨hP, hD⟩ : vPD G A H [(ce_X10 ob ob_thrown ob_world ob_images ob_hasImage ob_tape ob_taped ob_five ob_size ob_at ob_from ob_token ob_value ob_faultKind ob_faultPlace ob_fresh ob_parts ob_houses ob_houseMany ob_worthOf ob_byCall ob_over ob_bestSet ob_bestOver ob_bestWorth ob_row ob_tenDebts ob_tenMany ob_fewestBy ob_covered ob_queue ob_cameBy ob_parent ob_met ob_calls ob_callMany ob_calledOn ob_saved ob_many ob_width ob_numbers ob_moving), (ce_i9080 y ob_world f_1014), (ce_i6 y ob_parts fob_parts)] := ⟨hP, hD⟩
  refine lv_aload_n hx hb dX10_notes_56 rfl (lv_at hl 1 rfl) ?_
  refine va_get (D := G) (ci := 10) (v := .ref ob_world) (C := RX10) (T := TX10) (N := 41) hx hb hw0 inA_wsX100 hown hK.1 hP 0 rfl rfl 1 (by decide) (hw0 _ m_352) (fun _ h9 => h9) rfl dX10_notes_57 ?_
  refine lv_bipush (v := 8) hx hb dX10_notes_60 (by decide) ?_
  refine lv_dup2_11 hx hb dX10_notes_62 rfl rfl ?_
  refine va_iald hx hb hK.1 hP 1 1 rfl rfl (vi (bkc (x := 8) (c := 8) (by decide)) (by decide)) dX10_notes_63 ?_
  refine lv_topi (fun v_1015 ev_1015 => ?_)
  have bv_1015 : (0 : Int) ≤ v_1015.toInt ∧ v_1015.toInt ≤ 600 := rdk ev_1015 (df_1014).1.1 (by decide)
  have yv_1015 : v_1015.toInt = (f_1014 8).toInt := congrArg Int32.toInt ev_1015
  refine lv_iconst (v := 1) hx hb dX10_notes_64 (by decide) ?_
  refine lv_iadd hx hb dX10_notes_65 ?_
  refine lv_topi (fun v_1016 ev_1016 => ?_)
  have qv_1016 := ba_add ev_1016 bv_1015 (bkc (x := 1) (c := 1) (by decide)) (by decide)
  have bv_1016 : (1 : Int) ≤ v_1016.toInt ∧ v_1016.toInt ≤ 601 := bq_add qv_1016 bv_1015 (bkc (x := 1) (c := 1) (by decide)) _ _ (by decide)
  have qv_1016 : v_1016.toInt = v_1015.toInt + (1) := qv_1016
  have h_1017 : (0 : Int) ≤ v_1016.toInt ∧ v_1016.toInt ≤ 600 := by omega
  refine va_iast hx hb hK.1 hP hD hS 1 1 rfl rfl (vi (bkc (x := 8) (c := 8) (by decide)) (by decide)) dX10_notes_66 (fun H locs hP hD hS => ?_)
  generalize hf_1018 : (upd f_1014 (8 : Int32).toNatClampNeg v_1016) = f_1018 at hP hD
  have zf_1018_6 : (f_1018 6).toInt = (f_1014 6).toInt := hf_1018 ▸ pin_ne (ix_not (bkc (x := 8) (c := 8) (by decide)) (by decide))
  have zf_1018_7 : (f_1018 7).toInt = (f_1014 7).toInt := hf_1018 ▸ pin_ne (ix_not (bkc (x := 8) (c := 8) (by decide)) (by decide))
  have zf_1018_8 : (f_1018 8).toInt = (v_1016 : Int32).toInt := hf_1018 ▸ pin_eq (by decide)
  have bf_1018 : RBw f_1018 := hf_1018 ▸ upk (df_1014).1.1 h_1017 (by decide)
  have cf_1018 : RVw f_1018 := ⟨bf_1018, by have h97 : (f_1014 7).toInt ≤ (f_1014 8).toInt := ((df_1014).1).2; unfold W7; omega⟩
  have df_1018 : RWw f_1018 := ⟨cf_1018, hf_1018 ▸ WQ_up (df_1014).1.1 (df_1014).2 (qf_ix (bkc (x := 8) (c := 8) (by decide)) (by decide))⟩
  obtain ⟨hP, hD⟩ : vPD G A H [(ce_X10 ob ob_thrown ob_world ob_images ob_hasImage ob_tape ob_taped ob_five ob_size ob_at ob_from ob_token ob_value ob_faultKind ob_faultPlace ob_fresh ob_parts ob_houses ob_houseMany ob_worthOf ob_byCall ob_over ob_bestSet ob_bestOver ob_bestWorth ob_row ob_tenDebts ob_tenMany ob_fewestBy ob_covered ob_queue ob_cameBy ob_parent ob_met ob_calls ob_callMany ob_calledOn ob_saved ob_many ob_width ob_numbers ob_moving), (ce_i9080 y ob_world f_1018), (ce_i6 y ob_parts fob_parts)] := ⟨hP, hD⟩
  refine lv_aload_n hx hb dX10_notes_67 rfl (lv_at hl 1 rfl) ?_
  refine lv_iload_n hx hb dX10_notes_68 rfl (lv_at hl 2 rfl) ?_
  refine lv_iload_n hx hb dX10_notes_69 rfl (lv_at hl 3 rfl) ?_
  refine lv_iload_n hx hb dX10_notes_70 rfl (lv_at hl 4 rfl) ?_
  refine lv_aload_n hx hb dX10_notes_71 rfl (lv_at hl 1 rfl) ?_
  refine cVim (As := []) (rest := [.int a3, .int a2, .int a1, .ref ob]) ⟨hx, hb, hml, hown, hw0⟩ hA hK hP hD hS [true, true] (sX10_today l G y _ ob ob_thrown ob_world ob_images ob_hasImage ob_tape ob_taped ob_five ob_size ob_at ob_from ob_token ob_value ob_faultKind ob_faultPlace ob_fresh ob_parts ob_houses ob_houseMany ob_worthOf ob_byCall ob_over ob_bestSet ob_bestOver ob_bestWorth ob_row ob_tenDebts ob_tenMany ob_fewestBy ob_covered ob_queue ob_cameBy ob_parent ob_met ob_calls ob_callMany ob_calledOn ob_saved ob_many ob_width ob_numbers ob_moving f_1018 df_1018 p_ob_taped p_ob_size p_ob_at p_ob_from p_ob_token p_ob_value p_ob_faultKind p_ob_houseMany p_ob_bestSet p_ob_bestOver p_ob_tenMany p_ob_callMany) rfl ⟨(callB_of 0 hw0 (gA m_689) rfl rfl rfl (hw0 _ m_41) (hw0 _ m_373) cb_X10_today ⟨Nat.le_of_ble_eq_true rfl, Nat.le_of_ble_eq_true rfl⟩), (hw0 _ m_374), (hw0 _ m_375)⟩ (ci := 10) (q := (RX10, TX10, 41)) rfl rfl rfl hl.1 (Nat.le_of_ble_eq_true rfl) dX10_notes_72 ⟨Nat.le_of_ble_eq_true rfl, Nat.le_of_ble_eq_true rfl⟩ (fun r_1019 w_1019 H locs hw_1019 hP hD hS => ?_)
  obtain ⟨v_1020, bv_1020, h_1021, er_1019, rfl⟩ := hw_1019
  subst r_1019
  obtain ⟨hP, hD⟩ : vPD G A H [(ce_X10 ob ob_thrown ob_world ob_images ob_hasImage ob_tape ob_taped ob_five ob_size ob_at ob_from ob_token ob_value ob_faultKind ob_faultPlace ob_fresh ob_parts ob_houses ob_houseMany ob_worthOf ob_byCall ob_over ob_bestSet ob_bestOver ob_bestWorth ob_row ob_tenDebts ob_tenMany ob_fewestBy ob_covered ob_queue ob_cameBy ob_parent ob_met ob_calls ob_callMany ob_calledOn ob_saved ob_many ob_width ob_numbers ob_moving), (ce_i9080 y ob_world f_1018), (ce_i6 y ob_parts fob_parts)] := ⟨hP, hD⟩
  refine cVim (As := [.int a1, .int a2, .int a3, .int v_1020]) (rest := []) ⟨hx, hb, hml, hown, hw0⟩ hA hK hP hD hS [true, true, true] (ggoes l G y _ ob a1 a2 a3 v_1020 ob_thrown ob_world ob_images ob_hasImage ob_tape ob_taped ob_five ob_size ob_at ob_from ob_token ob_value ob_faultKind ob_faultPlace ob_fresh ob_parts ob_houses ob_houseMany ob_worthOf ob_byCall ob_over ob_bestSet ob_bestOver ob_bestWorth ob_row ob_tenDebts ob_tenMany ob_fewestBy ob_covered ob_queue ob_cameBy ob_parent ob_met ob_calls ob_callMany ob_calledOn ob_saved ob_many ob_width ob_numbers ob_moving f_1018 fob_parts df_1018 p_ob_taped p_ob_size p_ob_at p_ob_from p_ob_token p_ob_value p_ob_faultKind p_ob_houseMany p_ob_bestSet p_ob_bestOver p_ob_tenMany p_ob_callMany p_a1 p_a2 (by omega)) rfl ⟨(callB_of 4 hw0 (gA m_489) rfl rfl rfl (hw0 _ m_41) (hw0 _ m_393) cb_X10_goes ⟨Nat.le_of_ble_eq_true rfl, Nat.le_of_ble_eq_true rfl⟩), (hw0 _ m_394), (hw0 _ m_395)⟩ (ci := 10) (q := (RX10, TX10, 41)) rfl rfl rfl hl.1 (Nat.le_of_ble_eq_true rfl) dX10_notes_75 ⟨Nat.le_of_ble_eq_true rfl, Nat.le_of_ble_eq_true rfl⟩ (fun r_1022 w_1022 H locs hw_1022 hP hD hS => ?_)
  obtain ⟨v_1023, f_1024, f_1025, bv_1023, bf_1024, h_1026, h_1027, h_1028, h_1029, er_1022, rfl⟩ := hw_1022
  subst r_1022
  obtain ⟨hP, hD⟩ : vPD G A H [(ce_X10 ob ob_thrown ob_world ob_images ob_hasImage ob_tape ob_taped ob_five ob_size ob_at ob_from ob_token ob_value ob_faultKind ob_faultPlace ob_fresh ob_parts ob_houses ob_houseMany ob_worthOf ob_byCall ob_over ob_bestSet ob_bestOver ob_bestWorth ob_row ob_tenDebts ob_tenMany ob_fewestBy ob_covered ob_queue ob_cameBy ob_parent ob_met ob_calls ob_callMany ob_calledOn ob_saved ob_many ob_width ob_numbers ob_moving), (ce_i9080 y ob_world f_1024), (ce_i6 y ob_parts f_1025)] := ⟨hP, hD⟩
  refine lv_istore (lv' := [(5, .int v_1023), (4, .int v_1004), (0, .ref ob), (1, .int a1), (2, .int a2), (3, .int a3)]) hx hb dX10_notes_78 hl (by decide) rfl (fun ls hl => ?_)
  refine lv_aload_n hx hb dX10_notes_80 rfl (lv_at hl 2 rfl) ?_
  refine va_get (D := G) (ci := 10) (v := .ref ob_world) (C := RX10) (T := TX10) (N := 41) hx hb hw0 inA_wsX100 hown hK.1 hP 0 rfl rfl 1 (by decide) (hw0 _ m_352) (fun _ h9 => h9) rfl dX10_notes_81 ?_
  refine lv_bipush (v := 9) hx hb dX10_notes_84 (by decide) ?_
  refine lv_dup2_11 hx hb dX10_notes_86 rfl rfl ?_
  refine va_iald hx hb hK.1 hP 1 1 rfl rfl (vi (bkc (x := 9) (c := 9) (by decide)) (by decide)) dX10_notes_87 ?_
  refine lv_topi (fun v_1030 ev_1030 => ?_)
  refine lv_iload hx hb dX10_notes_88 (lv_at hl 0 rfl) ?_
  refine lv_iadd hx hb dX10_notes_90 ?_
  refine lv_topi (fun v_1031 ev_1031 => ?_)
  refine va_iast hx hb hK.1 hP hD hS 1 1 rfl rfl (vi (bkc (x := 9) (c := 9) (by decide)) (by decide)) dX10_notes_91 (fun H locs hP hD hS => ?_)
  generalize hf_1032 : (upd f_1024 (9 : Int32).toNatClampNeg v_1031) = f_1032 at hP hD
  have zf_1032_6 : (f_1032 6).toInt = (f_1024 6).toInt := hf_1032 ▸ pin_ne (ix_not (bkc (x := 9) (c := 9) (by decide)) (by decide))
  have zf_1032_7 : (f_1032 7).toInt = (f_1024 7).toInt := hf_1032 ▸ pin_ne (ix_not (bkc (x := 9) (c := 9) (by decide)) (by decide))
  have zf_1032_8 : (f_1032 8).toInt = (f_1024 8).toInt := hf_1032 ▸ pin_ne (ix_not (bkc (x := 9) (c := 9) (by decide)) (by decide))
  have bf_1032 : RBw f_1032 := hf_1032 ▸ upk (bf_1024).1.1 (btop v_1031) (by decide)
  have cf_1032 : RVw f_1032 := hf_1032 ▸ RV_up (bf_1024).1 (hf_1032 ▸ bf_1032) (ix_out (bkc (x := 9) (c := 9) (by decide)) (by decide))
  have df_1032 : RWw f_1032 := ⟨cf_1032, hf_1032 ▸ WQ_up (bf_1024).1.1 (bf_1024).2 (qf_ix (bkc (x := 9) (c := 9) (by decide)) (by decide))⟩
  obtain ⟨hP, hD⟩ : vPD G A H [(ce_X10 ob ob_thrown ob_world ob_images ob_hasImage ob_tape ob_taped ob_five ob_size ob_at ob_from ob_token ob_value ob_faultKind ob_faultPlace ob_fresh ob_parts ob_houses ob_houseMany ob_worthOf ob_byCall ob_over ob_bestSet ob_bestOver ob_bestWorth ob_row ob_tenDebts ob_tenMany ob_fewestBy ob_covered ob_queue ob_cameBy ob_parent ob_met ob_calls ob_callMany ob_calledOn ob_saved ob_many ob_width ob_numbers ob_moving), (ce_i9080 y ob_world f_1032), (ce_i6 y ob_parts f_1025)] := ⟨hP, hD⟩
  refine lv_iload hx hb dX10_notes_92 (lv_at hl 0 rfl) ?_
  exact W.iret (v := v_1023) hx hb hr (fun t ht hW => ⟨⟨v_1023, _, rfl, ⟨v_1023, f_1032, f_1025, bv_1023, df_1032, (by have lm1 : Int32.toInt (-1) = -1 := (by decide); have l91 : Int32.toInt 1 = 1 := (by decide); have l92 : Int32.toInt 2 = 2 := (by decide); have l93 : Int32.toInt 3 = 3 := (by decide); exact gdo_m (gde_m hf_1005 hf_1007 hf_1009 hf_1014 hf_1018 (by omega) (by omega) (by omega) (by omega) (by omega) (by omega) ev_1016 ev_1015) h_1027 (tgd_u tgd_r hf_1032 (by decide))), by omega, by omega, (wfr_u (wfr_t (wfr_u (wfr_u (wfr_u (wfr_u (wfr_u wfr_r hf_1005 (ix_wfr bv_1004 (by decide))) hf_1007 (ix_wfr bv_1006 (by decide))) hf_1009 (ix_wfr bv_1008 (by decide))) hf_1014 (ix_wfr bv_1010 (by decide))) hf_1018 (ix_wfr (bkc (x := 8) (c := 8) (by decide)) (by decide))) h_1029) hf_1032 (ix_wfr (bkc (x := 9) (c := 9) (by decide)) (by decide))), rfl, rfl⟩, by rw [ht]; exact hP, hD⟩, hS.F ht⟩) hS.2.2 dX10_notes_94
