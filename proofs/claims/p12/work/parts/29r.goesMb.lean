set_option maxHeartbeats 4000000 in
set_option maxRecDepth 100000 in
theorem hgoes (l : Launch) (G : va_G) (y : Nat → ClassId) (sz : Nat) (ob : Nat) (a1 : Int32) (a2 : Int32) (a3 : Int32) (a4 : Int32) (ob_thrown : Int32) (ob_world : Nat) (ob_images : Nat) (ob_hasImage : Nat) (ob_tape : Nat) (ob_taped : Int32) (ob_five : Nat) (ob_size : Int32) (ob_at : Int32) (ob_from : Int32) (ob_token : Int32) (ob_value : Int32) (ob_faultKind : Int32) (ob_faultPlace : Int32) (ob_fresh : Nat) (ob_parts : Nat) (ob_houses : Nat) (ob_houseMany : Int32) (ob_worthOf : Nat) (ob_byCall : Nat) (ob_over : Nat) (ob_bestSet : Int32) (ob_bestOver : Int32) (ob_bestWorth : Int32) (ob_row : Nat) (ob_tenDebts : Nat) (ob_tenMany : Int32) (ob_fewestBy : Nat) (ob_covered : Nat) (ob_queue : Nat) (ob_cameBy : Nat) (ob_parent : Nat) (ob_met : Nat) (ob_calls : Nat) (ob_callMany : Int32) (ob_calledOn : Nat) (ob_saved : Nat) (ob_many : Nat) (ob_width : Nat) (ob_numbers : Nat) (ob_moving : Nat) (fob_world : Nat → Int32) (fob_parts : Nat → Int32) (p_fob_world : RWw fob_world) (p_ob_taped : (0 : Int) ≤ ob_taped.toInt ∧ ob_taped.toInt ≤ 1400) (p_ob_size : (0 : Int) ≤ ob_size.toInt ∧ ob_size.toInt ≤ 1400) (p_ob_at : (0 : Int) ≤ ob_at.toInt ∧ ob_at.toInt ≤ 1400) (p_ob_from : (0 : Int) ≤ ob_from.toInt ∧ ob_from.toInt ≤ 1400) (p_ob_token : (0 : Int) ≤ ob_token.toInt ∧ ob_token.toInt ≤ 4) (p_ob_value : (0 : Int) ≤ ob_value.toInt ∧ ob_value.toInt ≤ 9999) (p_ob_faultKind : (0 : Int) ≤ ob_faultKind.toInt ∧ ob_faultKind.toInt ≤ 3) (p_ob_houseMany : (0 : Int) ≤ ob_houseMany.toInt ∧ ob_houseMany.toInt ≤ 10) (p_ob_bestSet : (0 : Int) ≤ ob_bestSet.toInt ∧ ob_bestSet.toInt ≤ 1023) (p_ob_bestOver : (-1 : Int) ≤ ob_bestOver.toInt ∧ ob_bestOver.toInt ≤ 180) (p_ob_tenMany : (0 : Int) ≤ ob_tenMany.toInt ∧ ob_tenMany.toInt ≤ 10) (p_ob_callMany : (0 : Int) ≤ ob_callMany.toInt ∧ ob_callMany.toInt ≤ 16) (p_a1 : (0 : Int) ≤ a1.toInt ∧ a1.toInt ≤ 15) (p_a2 : (0 : Int) ≤ a2.toInt ∧ a2.toInt ≤ 15) (p_a3 : (0 : Int) ≤ a3.toInt ∧ a3.toInt ≤ 4) (p_a4 : (0 : Int) ≤ a4.toInt ∧ a4.toInt ≤ 399) (hq0 : (fob_world 7).toInt < (fob_world 8).toInt) : Met l yX10_goes (Cond.code yX10_goes cX10_goes 8 (some .int) :: wAll) ({ frames := 3, cells := 0, slots := 0, locals := 84 }) (va_Pc [.ref ob, .int a1, .int a2, .int a3, .int a4] (kp G y sz [(ce_X10 ob ob_thrown ob_world ob_images ob_hasImage ob_tape ob_taped ob_five ob_size ob_at ob_from ob_token ob_value ob_faultKind ob_faultPlace ob_fresh ob_parts ob_houses ob_houseMany ob_worthOf ob_byCall ob_over ob_bestSet ob_bestOver ob_bestWorth ob_row ob_tenDebts ob_tenMany ob_fewestBy ob_covered ob_queue ob_cameBy ob_parent ob_met ob_calls ob_callMany ob_calledOn ob_saved ob_many ob_width ob_numbers ob_moving), (ce_i9080 y ob_world fob_world), (ce_i6 y ob_parts fob_parts)])) (va_Qi (fun (r : Int32) (w : va_W) => (∃ (v_287 : Int32) (f_288 : Nat → Int32) (f_289 : Nat → Int32), ((0 : Int) ≤ v_287.toInt ∧ v_287.toInt ≤ 600) ∧ (RWw f_288) ∧ ((f_288 7).toInt ≤ (fob_world 7).toInt + 1 ∧ (f_288 8).toInt = (fob_world 8).toInt) ∧ (tgd (gkn fob_world a1.toInt a2.toInt a3.toInt) f_288) ∧ (0 ≤ (v_287 : Int32).toInt) ∧ (∀ X : DX, mB fob_world X.1 → cdM fob_world X.2.1 → goM X fob_world f_288 a1.toInt a2.toInt a3.toInt a4.toInt (v_287 : Int32).toInt) ∧ ((f_288 9).toInt = (fob_world 9).toInt) ∧ (wfr fob_world f_288) ∧ r = v_287 ∧ w = [(ce_X10 ob ob_thrown ob_world ob_images ob_hasImage ob_tape ob_taped ob_five ob_size ob_at ob_from ob_token ob_value ob_faultKind ob_faultPlace ob_fresh ob_parts ob_houses ob_houseMany ob_worthOf ob_byCall ob_over ob_bestSet ob_bestOver ob_bestWorth ob_row ob_tenDebts ob_tenMany ob_fewestBy ob_covered ob_queue ob_cameBy ob_parent ob_met ob_calls ob_callMany ob_calledOn ob_saved ob_many ob_width ob_numbers ob_moving), (ce_i9080 y ob_world f_288), (ce_i6 y ob_parts f_289)])) (kq G (va_A [(ce_X10 ob ob_thrown ob_world ob_images ob_hasImage ob_tape ob_taped ob_five ob_size ob_at ob_from ob_token ob_value ob_faultKind ob_faultPlace ob_fresh ob_parts ob_houses ob_houseMany ob_worthOf ob_byCall ob_over ob_bestSet ob_bestOver ob_bestWorth ob_row ob_tenDebts ob_tenMany ob_fewestBy ob_covered ob_queue ob_cameBy ob_parent ob_met ob_calls ob_callMany ob_calledOn ob_saved ob_many ob_width ob_numbers ob_moving), (ce_i9080 y ob_world fob_world), (ce_i6 y ob_parts fob_parts)] sz)) (va_A [(ce_X10 ob ob_thrown ob_world ob_images ob_hasImage ob_tape ob_taped ob_five ob_size ob_at ob_from ob_token ob_value ob_faultKind ob_faultPlace ob_fresh ob_parts ob_houses ob_houseMany ob_worthOf ob_byCall ob_over ob_bestSet ob_bestOver ob_bestWorth ob_row ob_tenDebts ob_tenMany ob_fewestBy ob_covered ob_queue ob_cameBy ob_parent ob_met ob_calls ob_callMany ob_calledOn ob_saved ob_many ob_width ob_numbers ob_moving), (ce_i9080 y ob_world fob_world), (ce_i6 y ob_parts fob_parts)] sz)) 0 0 (va_A [(ce_X10 ob ob_thrown ob_world ob_images ob_hasImage ob_tape ob_taped ob_five ob_size ob_at ob_from ob_token ob_value ob_faultKind ob_faultPlace ob_fresh ob_parts ob_houses ob_houseMany ob_worthOf ob_byCall ob_over ob_bestSet ob_bestOver ob_bestWorth ob_row ob_tenDebts ob_tenMany ob_fewestBy ob_covered ob_queue ob_cameBy ob_parent ob_met ob_calls ob_callMany ob_calledOn ob_saved ob_many ob_width ob_numbers ob_moving), (ce_i9080 y ob_world fob_world), (ce_i6 y ob_parts fob_parts)] sz) := by
  refine Met.ofW (cc := cX10_goes) (maxL := 8) (ret := (some .int)) (by decide) rfl ?_
  intro p e s m args below meth c s₁ B hml hv
  obtain ⟨rfl, hsz, hP, hK, hD0⟩ := hv
  have hx := B.exec
  have hb := B.bytes
  have hr := B.returns
  have hw0 : ∀ w ∈ wAll, w.before _ s = true := fun w h => atoms_spec (ws := Cond.code yX10_goes cX10_goes 8 (some .int) :: wAll) B.pre w (List.mem_cons_of_mem _ h)
  have hown : s.vm.findClass RX10 = some m.cls := findClass_of_methodNamed B.named
  subst hsz
  have hD := hD0.self (sz := s.heap.size)
  generalize hAe : va_A [(ce_X10 ob ob_thrown ob_world ob_images ob_hasImage ob_tape ob_taped ob_five ob_size ob_at ob_from ob_token ob_value ob_faultKind ob_faultPlace ob_fresh ob_parts ob_houses ob_houseMany ob_worthOf ob_byCall ob_over ob_bestSet ob_bestOver ob_bestWorth ob_row ob_tenDebts ob_tenMany ob_fewestBy ob_covered ob_queue ob_cameBy ob_parent ob_met ob_calls ob_callMany ob_calledOn ob_saved ob_many ob_width ob_numbers ob_moving), (ce_i9080 y ob_world fob_world), (ce_i6 y ob_parts fob_parts)] s.heap.size = A at hD ⊢
  have hA : ∀ q : Nat, s.heap.size ≤ q → A q := fun q h => by rw [← hAe]; exact Or.inr h
  have hS : va_S A s.heap s.heap [] := va_S.rf
  have hP : va_P G vwCl [(ce_X10 ob ob_thrown ob_world ob_images ob_hasImage ob_tape ob_taped ob_five ob_size ob_at ob_from ob_token ob_value ob_faultKind ob_faultPlace ob_fresh ob_parts ob_houses ob_houseMany ob_worthOf ob_byCall ob_over ob_bestSet ob_bestOver ob_bestWorth ob_row ob_tenDebts ob_tenMany ob_fewestBy ob_covered ob_queue ob_cameBy ob_parent ob_met ob_calls ob_callMany ob_calledOn ob_saved ob_many ob_width ob_numbers ob_moving), (ce_i9080 y ob_world fob_world), (ce_i6 y ob_parts fob_parts)] s.heap := hP
  have hl := lv_entry ([.ref ob, .int a1, .int a2, .int a3, .int a4]) (n := 8) (Nat.le_of_ble_eq_true rfl)
  rw [lg_entry_eq]
  generalize (lg_sl ([.ref ob, .int a1, .int a2, .int a3, .int a4]) ++ List.replicate (8 - (lg_sl ([.ref ob, .int a1, .int a2, .int a3, .int a4])).length) Slot.unset).toArray = ls at hl ⊢
  have hl : lv_has ls 8 [(0, .ref ob), (1, .int a1), (2, .int a2), (3, .int a3), (4, .int a4)] := hl
  have hu1 : (fob_world 1).toInt ≤ 24 := (by have h9 := (p_fob_world).1.1 1; have h8 : UBw 1 = 24 := (by decide); omega)
  have hu2 : (fob_world 2).toInt ≤ 180 := (by have h9 := (p_fob_world).1.1 2; have h8 : UBw 2 = 180 := (by decide); omega)
  have hu3 : (fob_world 3).toInt ≤ 350 := (by have h9 := (p_fob_world).1.1 3; have h8 : UBw 3 = 350 := (by decide); omega)
  have hu7 : (fob_world 7).toInt ≤ 600 := (by have h9 := (p_fob_world).1.1 7; have h8 : UBw 7 = 600 := (by decide); omega)
  refine lv_iload_n hx hb dX10_goes_0 rfl (lv_at hl 3 rfl) ?_
  refine lv_iconst (v := 4) hx hb dX10_goes_1 (by decide) ?_
  refine lv_icmp_ne (tgt := 13) hx hb dX10_goes_2 (by decide) (fun c_1001 => ?_) (fun c_1001 => ?_)
  · skip
    have nc_1001 := nb_ne (0) (3) c_1001 p_a3 (k := 4) (by decide) (by decide)
    refine lv_aload_n hx hb dX10_goes_13 rfl (lv_at hl 0 rfl) ?_
    refine lv_iload_n hx hb dX10_goes_14 rfl (lv_at hl 1 rfl) ?_
    refine lv_iload_n hx hb dX10_goes_15 rfl (lv_at hl 2 rfl) ?_
    refine lv_iload_n hx hb dX10_goes_16 rfl (lv_at hl 3 rfl) ?_
    refine cVim (As := [.int a1, .int a2, .int a3]) (rest := []) ⟨hx, hb, hml, hown, hw0⟩ hA hK hP hD hS [true, true] (gpays l G y _ ob a1 a2 a3 ob_thrown ob_world ob_images ob_hasImage ob_tape ob_taped ob_five ob_size ob_at ob_from ob_token ob_value ob_faultKind ob_faultPlace ob_fresh ob_parts ob_houses ob_houseMany ob_worthOf ob_byCall ob_over ob_bestSet ob_bestOver ob_bestWorth ob_row ob_tenDebts ob_tenMany ob_fewestBy ob_covered ob_queue ob_cameBy ob_parent ob_met ob_calls ob_callMany ob_calledOn ob_saved ob_many ob_width ob_numbers ob_moving fob_world p_fob_world p_ob_taped p_ob_size p_ob_at p_ob_from p_ob_token p_ob_value p_ob_faultKind p_ob_houseMany p_ob_bestSet p_ob_bestOver p_ob_tenMany p_ob_callMany) rfl ⟨(callB_of 3 hw0 (gA m_595) rfl rfl rfl (hw0 _ m_41) (hw0 _ m_493) cb_X10_pays ⟨Nat.le_of_ble_eq_true rfl, Nat.le_of_ble_eq_true rfl⟩), (hw0 _ m_494), (hw0 _ m_495)⟩ (ci := 10) (q := (RX10, TX10, 41)) rfl rfl rfl hl.1 (Nat.le_of_ble_eq_true rfl) dX10_goes_17 ⟨Nat.le_of_ble_eq_true rfl, Nat.le_of_ble_eq_true rfl⟩ (fun r_1002 w_1002 H locs hw_1002 hP hD hS => ?_)
    obtain ⟨v_1003, f_1004, bv_1003, bf_1004, h_1005, h_1006, h_1007, h_1008, h_1009, h_1010, er_1002, rfl⟩ := hw_1002
    subst r_1002
    obtain ⟨hP, hD⟩ : vPD G A H [(ce_X10 ob ob_thrown ob_world ob_images ob_hasImage ob_tape ob_taped ob_five ob_size ob_at ob_from ob_token ob_value ob_faultKind ob_faultPlace ob_fresh ob_parts ob_houses ob_houseMany ob_worthOf ob_byCall ob_over ob_bestSet ob_bestOver ob_bestWorth ob_row ob_tenDebts ob_tenMany ob_fewestBy ob_covered ob_queue ob_cameBy ob_parent ob_met ob_calls ob_callMany ob_calledOn ob_saved ob_many ob_width ob_numbers ob_moving), (ce_i9080 y ob_world f_1004), (ce_i6 y ob_parts fob_parts)] := ⟨hP, hD⟩
    refine lv_istore (lv' := [(5, .int v_1003), (0, .ref ob), (1, .int a1), (2, .int a2), (3, .int a3), (4, .int a4)]) hx hb dX10_goes_20 hl (by decide) rfl (fun ls hl => ?_)
    refine lv_aload_n hx hb dX10_goes_22 rfl (lv_at hl 1 rfl) ?_
    refine lv_iload_n hx hb dX10_goes_23 rfl (lv_at hl 2 rfl) ?_
    refine lv_iload_n hx hb dX10_goes_24 rfl (lv_at hl 3 rfl) ?_
    refine lv_iload_n hx hb dX10_goes_25 rfl (lv_at hl 4 rfl) ?_
    refine lv_aload_n hx hb dX10_goes_26 rfl (lv_at hl 1 rfl) ?_
    refine lv_iload_n hx hb dX10_goes_27 rfl (lv_at hl 2 rfl) ?_
    refine lv_iload_n hx hb dX10_goes_28 rfl (lv_at hl 3 rfl) ?_
    refine cutW 107 (fun H locs ls st => ∃ (f_1070 : Nat → Int32) (f_1071 : Nat → Int32), (RWw f_1070) ∧ ((f_1070 7).toInt ≤ (fob_world 7).toInt + 1 ∧ (f_1070 8).toInt = (fob_world 8).toInt) ∧ (tgd fob_world f_1070) ∧ (0 ≤ v_1003.toInt) ∧ (∀ X : DX, mB fob_world X.1 → cdM fob_world X.2.1 → v_1003.toInt = gpN X a1.toInt a2.toInt a3.toInt ∧ mB f_1070 (dlB X.2.1 X.1 a1.toInt a2.toInt a3.toInt a4.toInt (fob_world (12 + 9 * a1.toInt.toNat)).toInt (fob_world (12 + 9 * a2.toInt.toNat)).toInt (gk fob_world a1.toInt a2.toInt)) ∧ cdM f_1070 X.2.1) ∧ ((f_1070 9).toInt = (fob_world 9).toInt) ∧ (wfr fob_world f_1070) ∧ st = [] ∧ vPD G A H [(ce_X10 ob ob_thrown ob_world ob_images ob_hasImage ob_tape ob_taped ob_five ob_size ob_at ob_from ob_token ob_value ob_faultKind ob_faultPlace ob_fresh ob_parts ob_houses ob_houseMany ob_worthOf ob_byCall ob_over ob_bestSet ob_bestOver ob_bestWorth ob_row ob_tenDebts ob_tenMany ob_fewestBy ob_covered ob_queue ob_cameBy ob_parent ob_met ob_calls ob_callMany ob_calledOn ob_saved ob_many ob_width ob_numbers ob_moving), (ce_i9080 y ob_world f_1070), (ce_i6 y ob_parts f_1071)] ∧ va_S A s.heap H locs ∧ lv_has ls 8 [(5, .int v_1003), (0, .ref ob), (1, .int a1), (2, .int a2), (3, .int a3)]) ?_ (fun J_107_1071 => ?_)
    · rintro H locs ls st ⟨f_1070, f_1071, bf_1070, rl1071_0, rl1071_1, rl1071_2, rl1071_3, rl1071_4, rl1071_5, rfl, ⟨hP, hD⟩, hS, hl⟩
      refine lv_iload_n hx hb dX10_goes_107 rfl (lv_at hl 4 rfl) ?_
      refine lv_iconst (v := 2) hx hb dX10_goes_108 (by decide) ?_
      refine lv_icmp_lt (tgt := 118) hx hb dX10_goes_109 (by decide) (fun c_1072 => ?_) (fun c_1072 => ?_)
      · skip
        have nc_1072 := nb_lt (1) (2) c_1072 nc_1001.1 (bkc (x := 2) (c := 2) (by decide)) (by decide)
        refine lv_iload hx hb dX10_goes_118 (lv_at hl 0 rfl) ?_
        exact W.iret (v := v_1003) hx hb hr (fun t ht hW => ⟨⟨v_1003, _, rfl, ⟨v_1003, f_1070, f_1071, bv_1003, bf_1070, by omega, (by have lm1 : Int32.toInt (-1) = -1 := (by decide); have l91 : Int32.toInt 1 = 1 := (by decide); have l92 : Int32.toInt 2 = 2 := (by decide); have l93 : Int32.toInt 3 = 3 := (by decide); exact gkn_n (by omega) rl1071_1), by omega, (by have lm1 : Int32.toInt (-1) = -1 := (by decide); have l91 : Int32.toInt 1 = 1 := (by decide); have l92 : Int32.toInt 2 = 2 := (by decide); have l93 : Int32.toInt 3 = 3 := (by decide); intro X H1 H2; obtain ⟨r1, r2, r3⟩ := rl1071_3 X H1 H2; exact go_n (by omega) r1 r2 r3), by omega, rl1071_5, rfl, rfl⟩, by rw [ht]; exact hP, hD⟩, hS.F ht⟩) hS.2.2 dX10_goes_120
      · skip
        have nc_1072 := nb_nlt (2) (2) c_1072 (bkc (x := 2) (c := 2) (by decide)) nc_1001.1 (by decide)
        refine lv_aload_n hx hb dX10_goes_112 rfl (lv_at hl 1 rfl) ?_
        refine lv_iload_n hx hb dX10_goes_113 rfl (lv_at hl 2 rfl) ?_
        refine lv_iload_n hx hb dX10_goes_114 rfl (lv_at hl 3 rfl) ?_
        refine cVvm (As := [.int a1, .int a2]) (rest := []) ⟨hx, hb, hml, hown, hw0⟩ hA hK hP hD hS [true, true] (hmeets l G y _ ob a1 a2 ob_thrown ob_world ob_images ob_hasImage ob_tape ob_taped ob_five ob_size ob_at ob_from ob_token ob_value ob_faultKind ob_faultPlace ob_fresh ob_parts ob_houses ob_houseMany ob_worthOf ob_byCall ob_over ob_bestSet ob_bestOver ob_bestWorth ob_row ob_tenDebts ob_tenMany ob_fewestBy ob_covered ob_queue ob_cameBy ob_parent ob_met ob_calls ob_callMany ob_calledOn ob_saved ob_many ob_width ob_numbers ob_moving f_1070 bf_1070 p_ob_taped p_ob_size p_ob_at p_ob_from p_ob_token p_ob_value p_ob_faultKind p_ob_houseMany p_ob_bestSet p_ob_bestOver p_ob_tenMany p_ob_callMany p_a1 p_a2) rfl ⟨(callB_of 2 hw0 (gA m_559) rfl rfl rfl (hw0 _ m_41) (hw0 _ m_490) cb_X10_meets ⟨Nat.le_of_ble_eq_true rfl, Nat.le_of_ble_eq_true rfl⟩), (hw0 _ m_491), (hw0 _ m_492)⟩ (ci := 10) (q := (RX10, TX10, 41)) rfl rfl rfl hl.1 (Nat.le_of_ble_eq_true rfl) dX10_goes_115 ⟨Nat.le_of_ble_eq_true rfl, Nat.le_of_ble_eq_true rfl⟩ (fun w_1073 H locs hw_1073 hP hD hS => ?_)
        obtain ⟨f_1074, bf_1074, h_1075, h_1076, h_1077, h_1078, rfl⟩ := hw_1073
        obtain ⟨hP, hD⟩ : vPD G A H [(ce_X10 ob ob_thrown ob_world ob_images ob_hasImage ob_tape ob_taped ob_five ob_size ob_at ob_from ob_token ob_value ob_faultKind ob_faultPlace ob_fresh ob_parts ob_houses ob_houseMany ob_worthOf ob_byCall ob_over ob_bestSet ob_bestOver ob_bestWorth ob_row ob_tenDebts ob_tenMany ob_fewestBy ob_covered ob_queue ob_cameBy ob_parent ob_met ob_calls ob_callMany ob_calledOn ob_saved ob_many ob_width ob_numbers ob_moving), (ce_i9080 y ob_world f_1074), (ce_i6 y ob_parts f_1071)] := ⟨hP, hD⟩
        refine lv_iload hx hb dX10_goes_118 (lv_at hl 0 rfl) ?_
        exact W.iret (v := v_1003) hx hb hr (fun t ht hW => ⟨⟨v_1003, _, rfl, ⟨v_1003, f_1074, f_1071, bv_1003, bf_1074, by omega, (by have lm1 : Int32.toInt (-1) = -1 := (by decide); have l91 : Int32.toInt 1 = 1 := (by decide); have l92 : Int32.toInt 2 = 2 := (by decide); have l93 : Int32.toInt 3 = 3 := (by decide); exact gkn_y (by omega) rl1071_1 h_1076), by omega, (by have lm1 : Int32.toInt (-1) = -1 := (by decide); have l91 : Int32.toInt 1 = 1 := (by decide); have l92 : Int32.toInt 2 = 2 := (by decide); have l93 : Int32.toInt 3 = 3 := (by decide); intro X H1 H2; obtain ⟨r1, r2, r3⟩ := rl1071_3 X H1 H2; rw [h_1076]; exact go_n (by omega) r1 (mB_k r2 (by have h9 := (bf_1070).1.1 7; have h8 : UBw 7 = 600 := (by decide); omega) ⟨by omega, by omega⟩ ⟨by omega, by omega⟩) (cm_k r3 (by have h9 := (bf_1070).1.1 1; have h8 : UBw 1 = 24 := (by decide); omega) (by have h9 := (bf_1070).1.1 2; have h8 : UBw 2 = 180 := (by decide); omega) (by have h9 := (bf_1070).1.1 3; have h8 : UBw 3 = 350 := (by decide); omega) ⟨by omega, by omega⟩ ⟨by omega, by omega⟩)), by omega, (wfr_t rl1071_5 h_1078), rfl, rfl⟩, by rw [ht]; exact hP, hD⟩, hS.F ht⟩) hS.2.2 dX10_goes_120
    · skip
      refine cVim (As := [.int a1, .int a2]) (rest := [.int a3, .int a2, .int a1, .ref ob]) ⟨hx, hb, hml, hown, hw0⟩ hA hK hP hD hS [true, true] (gareKnown l G y _ ob a1 a2 ob_thrown ob_world ob_images ob_hasImage ob_tape ob_taped ob_five ob_size ob_at ob_from ob_token ob_value ob_faultKind ob_faultPlace ob_fresh ob_parts ob_houses ob_houseMany ob_worthOf ob_byCall ob_over ob_bestSet ob_bestOver ob_bestWorth ob_row ob_tenDebts ob_tenMany ob_fewestBy ob_covered ob_queue ob_cameBy ob_parent ob_met ob_calls ob_callMany ob_calledOn ob_saved ob_many ob_width ob_numbers ob_moving f_1004 bf_1004 p_ob_taped p_ob_size p_ob_at p_ob_from p_ob_token p_ob_value p_ob_faultKind p_ob_houseMany p_ob_bestSet p_ob_bestOver p_ob_tenMany p_ob_callMany p_a1 p_a2) rfl ⟨(callB_of 2 hw0 (gA m_351) rfl rfl rfl (hw0 _ m_41) (hw0 _ m_379) cb_X10_areKnown ⟨Nat.le_of_ble_eq_true rfl, Nat.le_of_ble_eq_true rfl⟩), (hw0 _ m_380), (hw0 _ m_381)⟩ (ci := 10) (q := (RX10, TX10, 41)) rfl rfl rfl hl.1 (Nat.le_of_ble_eq_true rfl) dX10_goes_29 ⟨Nat.le_of_ble_eq_true rfl, Nat.le_of_ble_eq_true rfl⟩ (fun r_1079 w_1079 H locs hw_1079 hP hD hS => ?_)
      rcases hw_1079 with ⟨h_1080, rfl, rfl⟩ | ⟨h_1081, rfl, rfl⟩
      · skip
        obtain ⟨hP, hD⟩ : vPD G A H [(ce_X10 ob ob_thrown ob_world ob_images ob_hasImage ob_tape ob_taped ob_five ob_size ob_at ob_from ob_token ob_value ob_faultKind ob_faultPlace ob_fresh ob_parts ob_houses ob_houseMany ob_worthOf ob_byCall ob_over ob_bestSet ob_bestOver ob_bestWorth ob_row ob_tenDebts ob_tenMany ob_fewestBy ob_covered ob_queue ob_cameBy ob_parent ob_met ob_calls ob_callMany ob_calledOn ob_saved ob_many ob_width ob_numbers ob_moving), (ce_i9080 y ob_world f_1004), (ce_i6 y ob_parts fob_parts)] := ⟨hP, hD⟩
        refine lv_iload hx hb dX10_goes_32 (lv_at hl 5 rfl) ?_
        refine cVim (As := [.int a1, .int a2, .int a3, .int 0, .int a4]) (rest := []) ⟨hx, hb, hml, hown, hw0⟩ hA hK hP hD hS [true, true, true] (hlineFor l G y _ ob a1 a2 a3 0 a4 ob_thrown ob_world ob_images ob_hasImage ob_tape ob_taped ob_five ob_size ob_at ob_from ob_token ob_value ob_faultKind ob_faultPlace ob_fresh ob_parts ob_houses ob_houseMany ob_worthOf ob_byCall ob_over ob_bestSet ob_bestOver ob_bestWorth ob_row ob_tenDebts ob_tenMany ob_fewestBy ob_covered ob_queue ob_cameBy ob_parent ob_met ob_calls ob_callMany ob_calledOn ob_saved ob_many ob_width ob_numbers ob_moving f_1004 fob_parts bf_1004 p_ob_taped p_ob_size p_ob_at p_ob_from p_ob_token p_ob_value p_ob_faultKind p_ob_houseMany p_ob_bestSet p_ob_bestOver p_ob_tenMany p_ob_callMany p_a1 p_a2 (bw (0) (1) (bkc (x := 0) (c := 0) (by decide)) (by decide)) p_a4) rfl ⟨(callB_of 5 hw0 (gA m_547) rfl rfl rfl (hw0 _ m_41) (hw0 _ m_496) cb_X10_lineFor ⟨Nat.le_of_ble_eq_true rfl, Nat.le_of_ble_eq_true rfl⟩), (hw0 _ m_497), (hw0 _ m_498)⟩ (ci := 10) (q := (RX10, TX10, 41)) rfl rfl rfl hl.1 (Nat.le_of_ble_eq_true rfl) dX10_goes_34 ⟨Nat.le_of_ble_eq_true rfl, Nat.le_of_ble_eq_true rfl⟩ (fun r_1082 w_1082 H locs hw_1082 hP hD hS => ?_)
        obtain ⟨v_1083, f_1084, bv_1083, h_1085, h_1086, er_1082, rfl⟩ := hw_1082
        subst r_1082
        obtain ⟨hP, hD⟩ : vPD G A H [(ce_X10 ob ob_thrown ob_world ob_images ob_hasImage ob_tape ob_taped ob_five ob_size ob_at ob_from ob_token ob_value ob_faultKind ob_faultPlace ob_fresh ob_parts ob_houses ob_houseMany ob_worthOf ob_byCall ob_over ob_bestSet ob_bestOver ob_bestWorth ob_row ob_tenDebts ob_tenMany ob_fewestBy ob_covered ob_queue ob_cameBy ob_parent ob_met ob_calls ob_callMany ob_calledOn ob_saved ob_many ob_width ob_numbers ob_moving), (ce_i9080 y ob_world f_1004), (ce_i6 y ob_parts f_1084)] := ⟨hP, hD⟩
        refine lv_istore (lv' := [(6, .int v_1083), (5, .int v_1003), (0, .ref ob), (1, .int a1), (2, .int a2), (3, .int a3), (4, .int a4)]) hx hb dX10_goes_37 hl (by decide) rfl (fun ls hl => ?_)
        refine lv_iload hx hb dX10_goes_39 (lv_at hl 0 rfl) ?_
        refine lv_iconst (v := (-1)) hx hb dX10_goes_41 (by decide) ?_
        refine lv_icmp_eq (tgt := 107) hx hb dX10_goes_42 (by decide) (fun c_1087 => ?_) (fun c_1087 => ?_)
        · skip
          have nc_1087 := nb_eq (-1) (-1) c_1087 bv_1083 (bkc (x := (-1)) (c := -1) (by decide)) (by decide)
          exact J_107_1071 _ _ _ _ ⟨f_1004, f_1084, bf_1004, (by omega), h_1010, (by omega), (by have lm1 : Int32.toInt (-1) = -1 := (by decide); have l91 : Int32.toInt 1 = 1 := (by decide); have l92 : Int32.toInt 2 = 2 := (by decide); have l93 : Int32.toInt 3 = 3 := (by decide); intro X H1 H2; obtain ⟨P1, P2⟩ := h_1006 X.1 H1; have C1 : cdM f_1004 X.2.1 := cm_f H2 h_1009 hu1 hu2 hu3; have E9 := gl_i (p := a3.toInt) (on := a4.toInt) (kc := 0) h_1010 ⟨by omega, by omega⟩ ⟨by omega, by omega⟩ (h_1080.trans (by decide)) (h_1085 X.2.1 _ C1 P2); exact ⟨P1, dl_0 (q := fun Z => mB f_1004 Z) (by omega) E9 P2, C1⟩), (by omega), h_1009, rfl, ⟨hP, hD⟩, hS, lv_sub hl [1, 2, 3, 4, 5] rfl⟩
        · skip
          have nc_1087 := nb_ne (0) (23) c_1087 bv_1083 (k := -1) (by decide) (by decide)
          refine lv_aload_n hx hb dX10_goes_45 rfl (lv_at hl 2 rfl) ?_
          refine va_get (D := G) (ci := 10) (v := .ref ob_world) (C := RX10) (T := TX10) (N := 41) hx hb hw0 inA_wsX100 hown hK.1 hP 0 rfl rfl 1 (by decide) (hw0 _ m_352) (fun _ h9 => h9) rfl dX10_goes_46 ?_
          refine lv_sipush (v := 154) hx hb dX10_goes_49 (by decide) ?_
          refine lv_iconst (v := 5) hx hb dX10_goes_52 (by decide) ?_
          refine lv_iload hx hb dX10_goes_53 (lv_at hl 0 rfl) ?_
          refine lv_imul hx hb dX10_goes_55 ?_
          refine lv_topi (fun v_1088 ev_1088 => ?_)
          have qv_1088 := ba_mul 5 (ev_1088.trans (Int32.mul_comm _ _)) nc_1087.1 (by decide) (by decide) (by decide)
          have bv_1088 : (0 : Int) ≤ v_1088.toInt ∧ v_1088.toInt ≤ 115 := qv_1088.2
          refine lv_iadd hx hb dX10_goes_56 ?_
          refine lv_topi (fun v_1089 ev_1089 => ?_)
          have qv_1089 := ba_add ev_1089 (bkc (x := 154) (c := 154) (by decide)) bv_1088 (by decide)
          have bv_1089 : (154 : Int) ≤ v_1089.toInt ∧ v_1089.toInt ≤ 269 := bq_add qv_1089 (bkc (x := 154) (c := 154) (by decide)) bv_1088 _ _ (by decide)
          have qv_1089 : v_1089.toInt = (154) + v_1088.toInt := qv_1089
          refine lv_iconst (v := 1) hx hb dX10_goes_57 (by decide) ?_
          refine lv_iadd hx hb dX10_goes_58 ?_
          refine lv_topi (fun v_1090 ev_1090 => ?_)
          have qv_1090 := ba_add ev_1090 bv_1089 (bkc (x := 1) (c := 1) (by decide)) (by decide)
          have bv_1090 : (155 : Int) ≤ v_1090.toInt ∧ v_1090.toInt ≤ 270 := bq_add qv_1090 bv_1089 (bkc (x := 1) (c := 1) (by decide)) _ _ (by decide)
          have qv_1090 : v_1090.toInt = v_1089.toInt + (1) := qv_1090
          refine va_iald hx hb hK.1 hP 1 1 rfl rfl (vi bv_1090 (by decide)) dX10_goes_59 ?_
          refine lv_topi (fun v_1091 ev_1091 => ?_)
          have wv_1091 : v_1091.toInt = (f_1004 (155 + 5 * v_1083.toInt.toNat)).toInt := by rw [ev_1091, el_at (c := 155) (a := 5) (x := v_1083) (by omega) (by omega)]
          refine lv_istore (lv' := [(7, .int v_1091), (6, .int v_1083), (5, .int v_1003), (0, .ref ob), (1, .int a1), (2, .int a2), (3, .int a3), (4, .int a4)]) hx hb dX10_goes_60 hl (by decide) rfl (fun ls hl => ?_)
          refine lv_aload_n hx hb dX10_goes_62 rfl (lv_at hl 3 rfl) ?_
          refine lv_iload_n hx hb dX10_goes_63 rfl (lv_at hl 5 rfl) ?_
          refine lv_iload_n hx hb dX10_goes_64 rfl (lv_at hl 4 rfl) ?_
          refine lv_iload hx hb dX10_goes_65 (lv_at hl 0 rfl) ?_
          refine cVim (As := [.int a2, .int a1, .int v_1091]) (rest := []) ⟨hx, hb, hml, hown, hw0⟩ hA hK hP hD hS [true, true] (gowesAlready l G y _ ob a2 a1 v_1091 ob_thrown ob_world ob_images ob_hasImage ob_tape ob_taped ob_five ob_size ob_at ob_from ob_token ob_value ob_faultKind ob_faultPlace ob_fresh ob_parts ob_houses ob_houseMany ob_worthOf ob_byCall ob_over ob_bestSet ob_bestOver ob_bestWorth ob_row ob_tenDebts ob_tenMany ob_fewestBy ob_covered ob_queue ob_cameBy ob_parent ob_met ob_calls ob_callMany ob_calledOn ob_saved ob_many ob_width ob_numbers ob_moving f_1004 bf_1004 p_ob_taped p_ob_size p_ob_at p_ob_from p_ob_token p_ob_value p_ob_faultKind p_ob_houseMany p_ob_bestSet p_ob_bestOver p_ob_tenMany p_ob_callMany) rfl ⟨(callB_of 3 hw0 (gA m_586) rfl rfl rfl (hw0 _ m_41) (hw0 _ m_499) cb_X10_owesAlready ⟨Nat.le_of_ble_eq_true rfl, Nat.le_of_ble_eq_true rfl⟩), (hw0 _ m_500), (hw0 _ m_501)⟩ (ci := 10) (q := (RX10, TX10, 41)) rfl rfl rfl hl.1 (Nat.le_of_ble_eq_true rfl) dX10_goes_67 ⟨Nat.le_of_ble_eq_true rfl, Nat.le_of_ble_eq_true rfl⟩ (fun r_1092 w_1092 H locs hw_1092 hP hD hS => ?_)
          rcases hw_1092 with ⟨h_1093, rfl, rfl⟩ | ⟨h_1094, h_1095, h_1096, rfl, rfl⟩
          · skip
            obtain ⟨hP, hD⟩ : vPD G A H [(ce_X10 ob ob_thrown ob_world ob_images ob_hasImage ob_tape ob_taped ob_five ob_size ob_at ob_from ob_token ob_value ob_faultKind ob_faultPlace ob_fresh ob_parts ob_houses ob_houseMany ob_worthOf ob_byCall ob_over ob_bestSet ob_bestOver ob_bestWorth ob_row ob_tenDebts ob_tenMany ob_fewestBy ob_covered ob_queue ob_cameBy ob_parent ob_met ob_calls ob_callMany ob_calledOn ob_saved ob_many ob_width ob_numbers ob_moving), (ce_i9080 y ob_world f_1004), (ce_i6 y ob_parts f_1084)] := ⟨hP, hD⟩
            refine lv_if_ne (tgt := 107) hx hb dX10_goes_70 (by decide) (fun c9 => absurd (by decide) c9) (fun _ => ?_)
            refine lv_aload_n hx hb dX10_goes_73 rfl (lv_at hl 3 rfl) ?_
            refine lv_iload_n hx hb dX10_goes_74 rfl (lv_at hl 5 rfl) ?_
            refine lv_iload_n hx hb dX10_goes_75 rfl (lv_at hl 4 rfl) ?_
            refine lv_iload hx hb dX10_goes_76 (lv_at hl 0 rfl) ?_
            refine lv_sipush (v := 399) hx hb dX10_goes_78 (by decide) ?_
            refine lv_iload hx hb dX10_goes_81 (lv_at hl 7 rfl) ?_
            refine lv_aload_n hx hb dX10_goes_83 rfl (lv_at hl 3 rfl) ?_
            refine va_get (D := G) (ci := 10) (v := .ref ob_world) (C := RX10) (T := TX10) (N := 41) hx hb hw0 inA_wsX100 hown hK.1 hP 0 rfl rfl 1 (by decide) (hw0 _ m_352) (fun _ h9 => h9) rfl dX10_goes_84 ?_
            refine lv_sipush (v := 154) hx hb dX10_goes_87 (by decide) ?_
            refine lv_iconst (v := 5) hx hb dX10_goes_90 (by decide) ?_
            refine lv_iload hx hb dX10_goes_91 (lv_at hl 1 rfl) ?_
            refine lv_imul hx hb dX10_goes_93 ?_
            refine lv_topi (fun v_1097 ev_1097 => ?_)
            obtain rfl : v_1088 = v_1097 := (ev_1097.trans (ev_1088.symm)).symm
            refine lv_iadd hx hb dX10_goes_94 ?_
            refine lv_topi (fun v_1098 ev_1098 => ?_)
            obtain rfl : v_1089 = v_1098 := (ev_1098.trans (ev_1089.symm)).symm
            refine lv_iconst (v := 2) hx hb dX10_goes_95 (by decide) ?_
            refine lv_iadd hx hb dX10_goes_96 ?_
            refine lv_topi (fun v_1099 ev_1099 => ?_)
            have qv_1099 := ba_add ev_1099 bv_1089 (bkc (x := 2) (c := 2) (by decide)) (by decide)
            have bv_1099 : (156 : Int) ≤ v_1099.toInt ∧ v_1099.toInt ≤ 271 := bq_add qv_1099 bv_1089 (bkc (x := 2) (c := 2) (by decide)) _ _ (by decide)
            have qv_1099 : v_1099.toInt = v_1089.toInt + (2) := qv_1099
            refine va_iald hx hb hK.1 hP 1 1 rfl rfl (vi bv_1099 (by decide)) dX10_goes_97 ?_
            refine lv_topi (fun v_1100 ev_1100 => ?_)
            have wv_1100 : v_1100.toInt = (f_1004 (156 + 5 * v_1083.toInt.toNat)).toInt := by rw [ev_1100, el_at (c := 156) (a := 5) (x := v_1083) (by omega) (by omega)]
            refine lv_iadd hx hb dX10_goes_98 ?_
            refine lv_topi (fun v_1101 ev_1101 => ?_)
            refine va_mmin (own := RX10) hx hb (by rw [hml]; exact hl.1.symm) hown (hw0 _ m_350) (hw0 _ m_282) (hw0 _ m_283) (hw0 _ m_284) (Nat.le_of_ble_eq_true rfl) (Nat.le_of_ble_eq_true rfl) (Nat.zero_le _) (Nat.zero_le _) dX10_goes_99 ?_
            refine lv_topi (fun v_1102 ev_1102 => ?_)
            have bv_1102 : (-2147483648 : Int) ≤ v_1102.toInt ∧ v_1102.toInt ≤ 399 := bm_min ev_1102 (bkc (x := 399) (c := 399) (by decide)) (btop v_1101) _ _ (by decide)
            have mqv_1102 := mn_q ev_1102
            have mzv_1102 : Int32.toInt 399 = 399 := by decide
            refine lv_iload hx hb dX10_goes_102 (lv_at hl 7 rfl) ?_
            refine cVvm (As := [.int a2, .int a1, .int v_1091, .int v_1102, .int a4]) (rest := []) ⟨hx, hb, hml, hown, hw0⟩ hA hK hP hD hS [true, true] (gcomes l G y _ ob a2 a1 v_1091 v_1102 a4 ob_thrown ob_world ob_images ob_hasImage ob_tape ob_taped ob_five ob_size ob_at ob_from ob_token ob_value ob_faultKind ob_faultPlace ob_fresh ob_parts ob_houses ob_houseMany ob_worthOf ob_byCall ob_over ob_bestSet ob_bestOver ob_bestWorth ob_row ob_tenDebts ob_tenMany ob_fewestBy ob_covered ob_queue ob_cameBy ob_parent ob_met ob_calls ob_callMany ob_calledOn ob_saved ob_many ob_width ob_numbers ob_moving f_1004 bf_1004 p_ob_taped p_ob_size p_ob_at p_ob_from p_ob_token p_ob_value p_ob_faultKind p_ob_houseMany p_ob_bestSet p_ob_bestOver p_ob_tenMany p_ob_callMany p_a2 p_a1 (by omega)) rfl ⟨(callB_of 5 hw0 (gA m_399) rfl rfl rfl (hw0 _ m_41) (hw0 _ m_502) cb_X10_comes ⟨Nat.le_of_ble_eq_true rfl, Nat.le_of_ble_eq_true rfl⟩), (hw0 _ m_503), (hw0 _ m_504)⟩ (ci := 10) (q := (RX10, TX10, 41)) rfl rfl rfl hl.1 (Nat.le_of_ble_eq_true rfl) dX10_goes_104 ⟨Nat.le_of_ble_eq_true rfl, Nat.le_of_ble_eq_true rfl⟩ (fun w_1103 H locs hw_1103 hP hD hS => ?_)
            obtain ⟨f_1104, bf_1104, h_1105, h_1106, h_1107, h_1108, h_1109, rfl⟩ := hw_1103
            obtain ⟨hP, hD⟩ : vPD G A H [(ce_X10 ob ob_thrown ob_world ob_images ob_hasImage ob_tape ob_taped ob_five ob_size ob_at ob_from ob_token ob_value ob_faultKind ob_faultPlace ob_fresh ob_parts ob_houses ob_houseMany ob_worthOf ob_byCall ob_over ob_bestSet ob_bestOver ob_bestWorth ob_row ob_tenDebts ob_tenMany ob_fewestBy ob_covered ob_queue ob_cameBy ob_parent ob_met ob_calls ob_callMany ob_calledOn ob_saved ob_many ob_width ob_numbers ob_moving), (ce_i9080 y ob_world f_1104), (ce_i6 y ob_parts f_1084)] := ⟨hP, hD⟩
            exact J_107_1071 _ _ _ _ ⟨f_1104, f_1084, bf_1104, (by omega), (tgd_t h_1010 h_1109), (by omega), (by have lm1 : Int32.toInt (-1) = -1 := (by decide); have l91 : Int32.toInt 1 = 1 := (by decide); have l92 : Int32.toInt 2 = 2 := (by decide); have l93 : Int32.toInt 3 = 3 := (by decide); intro X H1 H2; obtain ⟨P1, P2⟩ := h_1006 X.1 H1; have C1 : cdM f_1004 X.2.1 := cm_f H2 h_1009 hu1 hu2 hu3; have E9 := gl_i (p := a3.toInt) (on := a4.toInt) (kc := 0) h_1010 ⟨by omega, by omega⟩ ⟨by omega, by omega⟩ (h_1080.trans (by decide)) (h_1085 X.2.1 _ C1 P2); have C2 : cdM f_1104 X.2.1 := cm_f C1 h_1108 (by have h9 := (bf_1004).1.1 1; have h8 : UBw 1 = 24 := (by decide); omega) (by have h9 := (bf_1004).1.1 2; have h8 : UBw 2 = 180 := (by decide); omega) (by have h9 := (bf_1004).1.1 3; have h8 : UBw 3 = 350 := (by decide); omega); exact ⟨P1, dl_a (q := fun Z => mB f_1104 Z) (by omega) E9 (fun x hx => by have h9 := cd_k C1 hx; exact ⟨by rw [← h9.1, ← wv_1091]; exact h_1093 _ P2, by rw [← h9.1, ← wv_1091], due_m ev_1101 (by omega) ⟨by omega, by omega⟩ (by rw [← h9.2.1, ← wv_1100]) h9.2.2.2.2.1⟩) (h_1106 _ P2), C2⟩), (by omega), (wfr_t h_1009 h_1108), rfl, ⟨hP, hD⟩, hS, lv_sub hl [2, 3, 4, 5, 6] rfl⟩
          · skip
            obtain ⟨hP, hD⟩ : vPD G A H [(ce_X10 ob ob_thrown ob_world ob_images ob_hasImage ob_tape ob_taped ob_five ob_size ob_at ob_from ob_token ob_value ob_faultKind ob_faultPlace ob_fresh ob_parts ob_houses ob_houseMany ob_worthOf ob_byCall ob_over ob_bestSet ob_bestOver ob_bestWorth ob_row ob_tenDebts ob_tenMany ob_fewestBy ob_covered ob_queue ob_cameBy ob_parent ob_met ob_calls ob_callMany ob_calledOn ob_saved ob_many ob_width ob_numbers ob_moving), (ce_i9080 y ob_world f_1004), (ce_i6 y ob_parts f_1084)] := ⟨hP, hD⟩
            refine lv_if_ne (tgt := 107) hx hb dX10_goes_70 (by decide) (fun _ => ?_) (fun c9 => absurd c9 (by decide))
            exact J_107_1071 _ _ _ _ ⟨f_1004, f_1084, bf_1004, (by omega), h_1010, (by omega), (by have lm1 : Int32.toInt (-1) = -1 := (by decide); have l91 : Int32.toInt 1 = 1 := (by decide); have l92 : Int32.toInt 2 = 2 := (by decide); have l93 : Int32.toInt 3 = 3 := (by decide); intro X H1 H2; obtain ⟨P1, P2⟩ := h_1006 X.1 H1; have C1 : cdM f_1004 X.2.1 := cm_f H2 h_1009 hu1 hu2 hu3; have E9 := gl_i (p := a3.toInt) (on := a4.toInt) (kc := 0) h_1010 ⟨by omega, by omega⟩ ⟨by omega, by omega⟩ (h_1080.trans (by decide)) (h_1085 X.2.1 _ C1 P2); exact ⟨P1, dl_o (q := fun Z => mB f_1004 Z) (by omega) E9 (fun x hx => by have h9 := (cd_k C1 hx).1; rw [← h9, ← wv_1091]; exact h_1096 _ P2) P2, C1⟩), (by omega), h_1009, rfl, ⟨hP, hD⟩, hS, lv_sub hl [2, 3, 4, 5, 6] rfl⟩
      · skip
        obtain ⟨hP, hD⟩ : vPD G A H [(ce_X10 ob ob_thrown ob_world ob_images ob_hasImage ob_tape ob_taped ob_five ob_size ob_at ob_from ob_token ob_value ob_faultKind ob_faultPlace ob_fresh ob_parts ob_houses ob_houseMany ob_worthOf ob_byCall ob_over ob_bestSet ob_bestOver ob_bestWorth ob_row ob_tenDebts ob_tenMany ob_fewestBy ob_covered ob_queue ob_cameBy ob_parent ob_met ob_calls ob_callMany ob_calledOn ob_saved ob_many ob_width ob_numbers ob_moving), (ce_i9080 y ob_world f_1004), (ce_i6 y ob_parts fob_parts)] := ⟨hP, hD⟩
        refine lv_iload hx hb dX10_goes_32 (lv_at hl 5 rfl) ?_
        refine cVim (As := [.int a1, .int a2, .int a3, .int 1, .int a4]) (rest := []) ⟨hx, hb, hml, hown, hw0⟩ hA hK hP hD hS [true, true, true] (hlineFor l G y _ ob a1 a2 a3 1 a4 ob_thrown ob_world ob_images ob_hasImage ob_tape ob_taped ob_five ob_size ob_at ob_from ob_token ob_value ob_faultKind ob_faultPlace ob_fresh ob_parts ob_houses ob_houseMany ob_worthOf ob_byCall ob_over ob_bestSet ob_bestOver ob_bestWorth ob_row ob_tenDebts ob_tenMany ob_fewestBy ob_covered ob_queue ob_cameBy ob_parent ob_met ob_calls ob_callMany ob_calledOn ob_saved ob_many ob_width ob_numbers ob_moving f_1004 fob_parts bf_1004 p_ob_taped p_ob_size p_ob_at p_ob_from p_ob_token p_ob_value p_ob_faultKind p_ob_houseMany p_ob_bestSet p_ob_bestOver p_ob_tenMany p_ob_callMany p_a1 p_a2 (bw (0) (1) (bkc (x := 1) (c := 1) (by decide)) (by decide)) p_a4) rfl ⟨(callB_of 5 hw0 (gA m_547) rfl rfl rfl (hw0 _ m_41) (hw0 _ m_496) cb_X10_lineFor ⟨Nat.le_of_ble_eq_true rfl, Nat.le_of_ble_eq_true rfl⟩), (hw0 _ m_497), (hw0 _ m_498)⟩ (ci := 10) (q := (RX10, TX10, 41)) rfl rfl rfl hl.1 (Nat.le_of_ble_eq_true rfl) dX10_goes_34 ⟨Nat.le_of_ble_eq_true rfl, Nat.le_of_ble_eq_true rfl⟩ (fun r_1110 w_1110 H locs hw_1110 hP hD hS => ?_)
        obtain ⟨v_1111, f_1112, bv_1111, h_1113, h_1114, er_1110, rfl⟩ := hw_1110
        subst r_1110
        obtain ⟨hP, hD⟩ : vPD G A H [(ce_X10 ob ob_thrown ob_world ob_images ob_hasImage ob_tape ob_taped ob_five ob_size ob_at ob_from ob_token ob_value ob_faultKind ob_faultPlace ob_fresh ob_parts ob_houses ob_houseMany ob_worthOf ob_byCall ob_over ob_bestSet ob_bestOver ob_bestWorth ob_row ob_tenDebts ob_tenMany ob_fewestBy ob_covered ob_queue ob_cameBy ob_parent ob_met ob_calls ob_callMany ob_calledOn ob_saved ob_many ob_width ob_numbers ob_moving), (ce_i9080 y ob_world f_1004), (ce_i6 y ob_parts f_1112)] := ⟨hP, hD⟩
        refine lv_istore (lv' := [(6, .int v_1111), (5, .int v_1003), (0, .ref ob), (1, .int a1), (2, .int a2), (3, .int a3), (4, .int a4)]) hx hb dX10_goes_37 hl (by decide) rfl (fun ls hl => ?_)
        refine lv_iload hx hb dX10_goes_39 (lv_at hl 0 rfl) ?_
        refine lv_iconst (v := (-1)) hx hb dX10_goes_41 (by decide) ?_
        refine lv_icmp_eq (tgt := 107) hx hb dX10_goes_42 (by decide) (fun c_1115 => ?_) (fun c_1115 => ?_)
        · skip
          have nc_1115 := nb_eq (-1) (-1) c_1115 bv_1111 (bkc (x := (-1)) (c := -1) (by decide)) (by decide)
          exact J_107_1071 _ _ _ _ ⟨f_1004, f_1112, bf_1004, (by omega), h_1010, (by omega), (by have lm1 : Int32.toInt (-1) = -1 := (by decide); have l91 : Int32.toInt 1 = 1 := (by decide); have l92 : Int32.toInt 2 = 2 := (by decide); have l93 : Int32.toInt 3 = 3 := (by decide); intro X H1 H2; obtain ⟨P1, P2⟩ := h_1006 X.1 H1; have C1 : cdM f_1004 X.2.1 := cm_f H2 h_1009 hu1 hu2 hu3; have E9 := gl_i (p := a3.toInt) (on := a4.toInt) (kc := 1) h_1010 ⟨by omega, by omega⟩ ⟨by omega, by omega⟩ (h_1081.trans (by decide)) (h_1113 X.2.1 _ C1 P2); exact ⟨P1, dl_0 (q := fun Z => mB f_1004 Z) (by omega) E9 P2, C1⟩), (by omega), h_1009, rfl, ⟨hP, hD⟩, hS, lv_sub hl [1, 2, 3, 4, 5] rfl⟩
        · skip
          have nc_1115 := nb_ne (0) (23) c_1115 bv_1111 (k := -1) (by decide) (by decide)
          refine lv_aload_n hx hb dX10_goes_45 rfl (lv_at hl 2 rfl) ?_
          refine va_get (D := G) (ci := 10) (v := .ref ob_world) (C := RX10) (T := TX10) (N := 41) hx hb hw0 inA_wsX100 hown hK.1 hP 0 rfl rfl 1 (by decide) (hw0 _ m_352) (fun _ h9 => h9) rfl dX10_goes_46 ?_
          refine lv_sipush (v := 154) hx hb dX10_goes_49 (by decide) ?_
          refine lv_iconst (v := 5) hx hb dX10_goes_52 (by decide) ?_
          refine lv_iload hx hb dX10_goes_53 (lv_at hl 0 rfl) ?_
          refine lv_imul hx hb dX10_goes_55 ?_
          refine lv_topi (fun v_1116 ev_1116 => ?_)
          have qv_1116 := ba_mul 5 (ev_1116.trans (Int32.mul_comm _ _)) nc_1115.1 (by decide) (by decide) (by decide)
          have bv_1116 : (0 : Int) ≤ v_1116.toInt ∧ v_1116.toInt ≤ 115 := qv_1116.2
          refine lv_iadd hx hb dX10_goes_56 ?_
          refine lv_topi (fun v_1117 ev_1117 => ?_)
          have qv_1117 := ba_add ev_1117 (bkc (x := 154) (c := 154) (by decide)) bv_1116 (by decide)
          have bv_1117 : (154 : Int) ≤ v_1117.toInt ∧ v_1117.toInt ≤ 269 := bq_add qv_1117 (bkc (x := 154) (c := 154) (by decide)) bv_1116 _ _ (by decide)
          have qv_1117 : v_1117.toInt = (154) + v_1116.toInt := qv_1117
          refine lv_iconst (v := 1) hx hb dX10_goes_57 (by decide) ?_
          refine lv_iadd hx hb dX10_goes_58 ?_
          refine lv_topi (fun v_1118 ev_1118 => ?_)
          have qv_1118 := ba_add ev_1118 bv_1117 (bkc (x := 1) (c := 1) (by decide)) (by decide)
          have bv_1118 : (155 : Int) ≤ v_1118.toInt ∧ v_1118.toInt ≤ 270 := bq_add qv_1118 bv_1117 (bkc (x := 1) (c := 1) (by decide)) _ _ (by decide)
          have qv_1118 : v_1118.toInt = v_1117.toInt + (1) := qv_1118
          refine va_iald hx hb hK.1 hP 1 1 rfl rfl (vi bv_1118 (by decide)) dX10_goes_59 ?_
          refine lv_topi (fun v_1119 ev_1119 => ?_)
          have wv_1119 : v_1119.toInt = (f_1004 (155 + 5 * v_1111.toInt.toNat)).toInt := by rw [ev_1119, el_at (c := 155) (a := 5) (x := v_1111) (by omega) (by omega)]
          refine lv_istore (lv' := [(7, .int v_1119), (6, .int v_1111), (5, .int v_1003), (0, .ref ob), (1, .int a1), (2, .int a2), (3, .int a3), (4, .int a4)]) hx hb dX10_goes_60 hl (by decide) rfl (fun ls hl => ?_)
          refine lv_aload_n hx hb dX10_goes_62 rfl (lv_at hl 3 rfl) ?_
          refine lv_iload_n hx hb dX10_goes_63 rfl (lv_at hl 5 rfl) ?_
          refine lv_iload_n hx hb dX10_goes_64 rfl (lv_at hl 4 rfl) ?_
          refine lv_iload hx hb dX10_goes_65 (lv_at hl 0 rfl) ?_
          refine cVim (As := [.int a2, .int a1, .int v_1119]) (rest := []) ⟨hx, hb, hml, hown, hw0⟩ hA hK hP hD hS [true, true] (gowesAlready l G y _ ob a2 a1 v_1119 ob_thrown ob_world ob_images ob_hasImage ob_tape ob_taped ob_five ob_size ob_at ob_from ob_token ob_value ob_faultKind ob_faultPlace ob_fresh ob_parts ob_houses ob_houseMany ob_worthOf ob_byCall ob_over ob_bestSet ob_bestOver ob_bestWorth ob_row ob_tenDebts ob_tenMany ob_fewestBy ob_covered ob_queue ob_cameBy ob_parent ob_met ob_calls ob_callMany ob_calledOn ob_saved ob_many ob_width ob_numbers ob_moving f_1004 bf_1004 p_ob_taped p_ob_size p_ob_at p_ob_from p_ob_token p_ob_value p_ob_faultKind p_ob_houseMany p_ob_bestSet p_ob_bestOver p_ob_tenMany p_ob_callMany) rfl ⟨(callB_of 3 hw0 (gA m_586) rfl rfl rfl (hw0 _ m_41) (hw0 _ m_499) cb_X10_owesAlready ⟨Nat.le_of_ble_eq_true rfl, Nat.le_of_ble_eq_true rfl⟩), (hw0 _ m_500), (hw0 _ m_501)⟩ (ci := 10) (q := (RX10, TX10, 41)) rfl rfl rfl hl.1 (Nat.le_of_ble_eq_true rfl) dX10_goes_67 ⟨Nat.le_of_ble_eq_true rfl, Nat.le_of_ble_eq_true rfl⟩ (fun r_1120 w_1120 H locs hw_1120 hP hD hS => ?_)
          rcases hw_1120 with ⟨h_1121, rfl, rfl⟩ | ⟨h_1122, h_1123, h_1124, rfl, rfl⟩
          · skip
            obtain ⟨hP, hD⟩ : vPD G A H [(ce_X10 ob ob_thrown ob_world ob_images ob_hasImage ob_tape ob_taped ob_five ob_size ob_at ob_from ob_token ob_value ob_faultKind ob_faultPlace ob_fresh ob_parts ob_houses ob_houseMany ob_worthOf ob_byCall ob_over ob_bestSet ob_bestOver ob_bestWorth ob_row ob_tenDebts ob_tenMany ob_fewestBy ob_covered ob_queue ob_cameBy ob_parent ob_met ob_calls ob_callMany ob_calledOn ob_saved ob_many ob_width ob_numbers ob_moving), (ce_i9080 y ob_world f_1004), (ce_i6 y ob_parts f_1112)] := ⟨hP, hD⟩
            refine lv_if_ne (tgt := 107) hx hb dX10_goes_70 (by decide) (fun c9 => absurd (by decide) c9) (fun _ => ?_)
            refine lv_aload_n hx hb dX10_goes_73 rfl (lv_at hl 3 rfl) ?_
            refine lv_iload_n hx hb dX10_goes_74 rfl (lv_at hl 5 rfl) ?_
            refine lv_iload_n hx hb dX10_goes_75 rfl (lv_at hl 4 rfl) ?_
            refine lv_iload hx hb dX10_goes_76 (lv_at hl 0 rfl) ?_
            refine lv_sipush (v := 399) hx hb dX10_goes_78 (by decide) ?_
            refine lv_iload hx hb dX10_goes_81 (lv_at hl 7 rfl) ?_
            refine lv_aload_n hx hb dX10_goes_83 rfl (lv_at hl 3 rfl) ?_
            refine va_get (D := G) (ci := 10) (v := .ref ob_world) (C := RX10) (T := TX10) (N := 41) hx hb hw0 inA_wsX100 hown hK.1 hP 0 rfl rfl 1 (by decide) (hw0 _ m_352) (fun _ h9 => h9) rfl dX10_goes_84 ?_
            refine lv_sipush (v := 154) hx hb dX10_goes_87 (by decide) ?_
            refine lv_iconst (v := 5) hx hb dX10_goes_90 (by decide) ?_
            refine lv_iload hx hb dX10_goes_91 (lv_at hl 1 rfl) ?_
            refine lv_imul hx hb dX10_goes_93 ?_
            refine lv_topi (fun v_1125 ev_1125 => ?_)
            obtain rfl : v_1116 = v_1125 := (ev_1125.trans (ev_1116.symm)).symm
            refine lv_iadd hx hb dX10_goes_94 ?_
            refine lv_topi (fun v_1126 ev_1126 => ?_)
            obtain rfl : v_1117 = v_1126 := (ev_1126.trans (ev_1117.symm)).symm
            refine lv_iconst (v := 2) hx hb dX10_goes_95 (by decide) ?_
            refine lv_iadd hx hb dX10_goes_96 ?_
            refine lv_topi (fun v_1127 ev_1127 => ?_)
            have qv_1127 := ba_add ev_1127 bv_1117 (bkc (x := 2) (c := 2) (by decide)) (by decide)
            have bv_1127 : (156 : Int) ≤ v_1127.toInt ∧ v_1127.toInt ≤ 271 := bq_add qv_1127 bv_1117 (bkc (x := 2) (c := 2) (by decide)) _ _ (by decide)
            have qv_1127 : v_1127.toInt = v_1117.toInt + (2) := qv_1127
            refine va_iald hx hb hK.1 hP 1 1 rfl rfl (vi bv_1127 (by decide)) dX10_goes_97 ?_
            refine lv_topi (fun v_1128 ev_1128 => ?_)
            have wv_1128 : v_1128.toInt = (f_1004 (156 + 5 * v_1111.toInt.toNat)).toInt := by rw [ev_1128, el_at (c := 156) (a := 5) (x := v_1111) (by omega) (by omega)]
            refine lv_iadd hx hb dX10_goes_98 ?_
            refine lv_topi (fun v_1129 ev_1129 => ?_)
            refine va_mmin (own := RX10) hx hb (by rw [hml]; exact hl.1.symm) hown (hw0 _ m_350) (hw0 _ m_282) (hw0 _ m_283) (hw0 _ m_284) (Nat.le_of_ble_eq_true rfl) (Nat.le_of_ble_eq_true rfl) (Nat.zero_le _) (Nat.zero_le _) dX10_goes_99 ?_
            refine lv_topi (fun v_1130 ev_1130 => ?_)
            have bv_1130 : (-2147483648 : Int) ≤ v_1130.toInt ∧ v_1130.toInt ≤ 399 := bm_min ev_1130 (bkc (x := 399) (c := 399) (by decide)) (btop v_1129) _ _ (by decide)
            have mqv_1130 := mn_q ev_1130
            have mzv_1130 : Int32.toInt 399 = 399 := by decide
            refine lv_iload hx hb dX10_goes_102 (lv_at hl 7 rfl) ?_
            refine cVvm (As := [.int a2, .int a1, .int v_1119, .int v_1130, .int a4]) (rest := []) ⟨hx, hb, hml, hown, hw0⟩ hA hK hP hD hS [true, true] (gcomes l G y _ ob a2 a1 v_1119 v_1130 a4 ob_thrown ob_world ob_images ob_hasImage ob_tape ob_taped ob_five ob_size ob_at ob_from ob_token ob_value ob_faultKind ob_faultPlace ob_fresh ob_parts ob_houses ob_houseMany ob_worthOf ob_byCall ob_over ob_bestSet ob_bestOver ob_bestWorth ob_row ob_tenDebts ob_tenMany ob_fewestBy ob_covered ob_queue ob_cameBy ob_parent ob_met ob_calls ob_callMany ob_calledOn ob_saved ob_many ob_width ob_numbers ob_moving f_1004 bf_1004 p_ob_taped p_ob_size p_ob_at p_ob_from p_ob_token p_ob_value p_ob_faultKind p_ob_houseMany p_ob_bestSet p_ob_bestOver p_ob_tenMany p_ob_callMany p_a2 p_a1 (by omega)) rfl ⟨(callB_of 5 hw0 (gA m_399) rfl rfl rfl (hw0 _ m_41) (hw0 _ m_502) cb_X10_comes ⟨Nat.le_of_ble_eq_true rfl, Nat.le_of_ble_eq_true rfl⟩), (hw0 _ m_503), (hw0 _ m_504)⟩ (ci := 10) (q := (RX10, TX10, 41)) rfl rfl rfl hl.1 (Nat.le_of_ble_eq_true rfl) dX10_goes_104 ⟨Nat.le_of_ble_eq_true rfl, Nat.le_of_ble_eq_true rfl⟩ (fun w_1131 H locs hw_1131 hP hD hS => ?_)
            obtain ⟨f_1132, bf_1132, h_1133, h_1134, h_1135, h_1136, h_1137, rfl⟩ := hw_1131
            obtain ⟨hP, hD⟩ : vPD G A H [(ce_X10 ob ob_thrown ob_world ob_images ob_hasImage ob_tape ob_taped ob_five ob_size ob_at ob_from ob_token ob_value ob_faultKind ob_faultPlace ob_fresh ob_parts ob_houses ob_houseMany ob_worthOf ob_byCall ob_over ob_bestSet ob_bestOver ob_bestWorth ob_row ob_tenDebts ob_tenMany ob_fewestBy ob_covered ob_queue ob_cameBy ob_parent ob_met ob_calls ob_callMany ob_calledOn ob_saved ob_many ob_width ob_numbers ob_moving), (ce_i9080 y ob_world f_1132), (ce_i6 y ob_parts f_1112)] := ⟨hP, hD⟩
            exact J_107_1071 _ _ _ _ ⟨f_1132, f_1112, bf_1132, (by omega), (tgd_t h_1010 h_1137), (by omega), (by have lm1 : Int32.toInt (-1) = -1 := (by decide); have l91 : Int32.toInt 1 = 1 := (by decide); have l92 : Int32.toInt 2 = 2 := (by decide); have l93 : Int32.toInt 3 = 3 := (by decide); intro X H1 H2; obtain ⟨P1, P2⟩ := h_1006 X.1 H1; have C1 : cdM f_1004 X.2.1 := cm_f H2 h_1009 hu1 hu2 hu3; have E9 := gl_i (p := a3.toInt) (on := a4.toInt) (kc := 1) h_1010 ⟨by omega, by omega⟩ ⟨by omega, by omega⟩ (h_1081.trans (by decide)) (h_1113 X.2.1 _ C1 P2); have C2 : cdM f_1132 X.2.1 := cm_f C1 h_1136 (by have h9 := (bf_1004).1.1 1; have h8 : UBw 1 = 24 := (by decide); omega) (by have h9 := (bf_1004).1.1 2; have h8 : UBw 2 = 180 := (by decide); omega) (by have h9 := (bf_1004).1.1 3; have h8 : UBw 3 = 350 := (by decide); omega); exact ⟨P1, dl_a (q := fun Z => mB f_1132 Z) (by omega) E9 (fun x hx => by have h9 := cd_k C1 hx; exact ⟨by rw [← h9.1, ← wv_1119]; exact h_1121 _ P2, by rw [← h9.1, ← wv_1119], due_m ev_1129 (by omega) ⟨by omega, by omega⟩ (by rw [← h9.2.1, ← wv_1128]) h9.2.2.2.2.1⟩) (h_1134 _ P2), C2⟩), (by omega), (wfr_t h_1009 h_1136), rfl, ⟨hP, hD⟩, hS, lv_sub hl [2, 3, 4, 5, 6] rfl⟩
          · skip
            obtain ⟨hP, hD⟩ : vPD G A H [(ce_X10 ob ob_thrown ob_world ob_images ob_hasImage ob_tape ob_taped ob_five ob_size ob_at ob_from ob_token ob_value ob_faultKind ob_faultPlace ob_fresh ob_parts ob_houses ob_houseMany ob_worthOf ob_byCall ob_over ob_bestSet ob_bestOver ob_bestWorth ob_row ob_tenDebts ob_tenMany ob_fewestBy ob_covered ob_queue ob_cameBy ob_parent ob_met ob_calls ob_callMany ob_calledOn ob_saved ob_many ob_width ob_numbers ob_moving), (ce_i9080 y ob_world f_1004), (ce_i6 y ob_parts f_1112)] := ⟨hP, hD⟩
            refine lv_if_ne (tgt := 107) hx hb dX10_goes_70 (by decide) (fun _ => ?_) (fun c9 => absurd c9 (by decide))
            exact J_107_1071 _ _ _ _ ⟨f_1004, f_1112, bf_1004, (by omega), h_1010, (by omega), (by have lm1 : Int32.toInt (-1) = -1 := (by decide); have l91 : Int32.toInt 1 = 1 := (by decide); have l92 : Int32.toInt 2 = 2 := (by decide); have l93 : Int32.toInt 3 = 3 := (by decide); intro X H1 H2; obtain ⟨P1, P2⟩ := h_1006 X.1 H1; have C1 : cdM f_1004 X.2.1 := cm_f H2 h_1009 hu1 hu2 hu3; have E9 := gl_i (p := a3.toInt) (on := a4.toInt) (kc := 1) h_1010 ⟨by omega, by omega⟩ ⟨by omega, by omega⟩ (h_1081.trans (by decide)) (h_1113 X.2.1 _ C1 P2); exact ⟨P1, dl_o (q := fun Z => mB f_1004 Z) (by omega) E9 (fun x hx => by have h9 := (cd_k C1 hx).1; rw [← h9, ← wv_1119]; exact h_1124 _ P2) P2, C1⟩), (by omega), h_1009, rfl, ⟨hP, hD⟩, hS, lv_sub hl [2, 3, 4, 5, 6] rfl⟩
  · skip
    have nc_1001 := nb_eq (4) (4) c_1001 p_a3 (bkc (x := 4) (c := 4) (by decide)) (by decide)
    refine lv_aload_n hx hb dX10_goes_5 rfl (lv_at hl 0 rfl) ?_
    refine lv_iload_n hx hb dX10_goes_6 rfl (lv_at hl 1 rfl) ?_
    refine lv_iload_n hx hb dX10_goes_7 rfl (lv_at hl 2 rfl) ?_
    refine cVvm (As := [.int a1, .int a2]) (rest := []) ⟨hx, hb, hml, hown, hw0⟩ hA hK hP hD hS [true, true] (hmeets l G y _ ob a1 a2 ob_thrown ob_world ob_images ob_hasImage ob_tape ob_taped ob_five ob_size ob_at ob_from ob_token ob_value ob_faultKind ob_faultPlace ob_fresh ob_parts ob_houses ob_houseMany ob_worthOf ob_byCall ob_over ob_bestSet ob_bestOver ob_bestWorth ob_row ob_tenDebts ob_tenMany ob_fewestBy ob_covered ob_queue ob_cameBy ob_parent ob_met ob_calls ob_callMany ob_calledOn ob_saved ob_many ob_width ob_numbers ob_moving fob_world p_fob_world p_ob_taped p_ob_size p_ob_at p_ob_from p_ob_token p_ob_value p_ob_faultKind p_ob_houseMany p_ob_bestSet p_ob_bestOver p_ob_tenMany p_ob_callMany p_a1 p_a2) rfl ⟨(callB_of 2 hw0 (gA m_559) rfl rfl rfl (hw0 _ m_41) (hw0 _ m_490) cb_X10_meets ⟨Nat.le_of_ble_eq_true rfl, Nat.le_of_ble_eq_true rfl⟩), (hw0 _ m_491), (hw0 _ m_492)⟩ (ci := 10) (q := (RX10, TX10, 41)) rfl rfl rfl hl.1 (Nat.le_of_ble_eq_true rfl) dX10_goes_8 ⟨Nat.le_of_ble_eq_true rfl, Nat.le_of_ble_eq_true rfl⟩ (fun w_1138 H locs hw_1138 hP hD hS => ?_)
    obtain ⟨f_1139, bf_1139, h_1140, h_1141, h_1142, h_1143, rfl⟩ := hw_1138
    obtain ⟨hP, hD⟩ : vPD G A H [(ce_X10 ob ob_thrown ob_world ob_images ob_hasImage ob_tape ob_taped ob_five ob_size ob_at ob_from ob_token ob_value ob_faultKind ob_faultPlace ob_fresh ob_parts ob_houses ob_houseMany ob_worthOf ob_byCall ob_over ob_bestSet ob_bestOver ob_bestWorth ob_row ob_tenDebts ob_tenMany ob_fewestBy ob_covered ob_queue ob_cameBy ob_parent ob_met ob_calls ob_callMany ob_calledOn ob_saved ob_many ob_width ob_numbers ob_moving), (ce_i9080 y ob_world f_1139), (ce_i6 y ob_parts fob_parts)] := ⟨hP, hD⟩
    refine lv_iconst (v := 0) hx hb dX10_goes_11 (by decide) ?_
    exact W.iret (v := 0) hx hb hr (fun t ht hW => ⟨⟨0, _, rfl, ⟨0, f_1139, fob_parts, (bw (0) (600) (bkc (x := 0) (c := 0) (by decide)) (by decide)), bf_1139, by have h90 : Int32.toInt 0 = 0 := (by decide); omega, (by have lm1 : Int32.toInt (-1) = -1 := (by decide); have l91 : Int32.toInt 1 = 1 := (by decide); have l92 : Int32.toInt 2 = 2 := (by decide); have l93 : Int32.toInt 3 = 3 := (by decide); have h90 : Int32.toInt 0 = 0 := (by decide); exact gkn_y (by omega) tgd_r h_1141), by have h90 : Int32.toInt 0 = 0 := (by decide); omega, (by have lm1 : Int32.toInt (-1) = -1 := (by decide); have l91 : Int32.toInt 1 = 1 := (by decide); have l92 : Int32.toInt 2 = 2 := (by decide); have l93 : Int32.toInt 3 = 3 := (by decide); have h90 : Int32.toInt 0 = 0 := (by decide); intro X H1 H2; rw [h_1141]; exact go_4 (by omega) (by omega) (mB_k H1 hu7 ⟨by omega, by omega⟩ ⟨by omega, by omega⟩) (cm_k H2 hu1 hu2 hu3 ⟨by omega, by omega⟩ ⟨by omega, by omega⟩)), by have h90 : Int32.toInt 0 = 0 := (by decide); omega, h_1143, rfl, rfl⟩, by rw [ht]; exact hP, hD⟩, hS.F ht⟩) hS.2.2 dX10_goes_12
