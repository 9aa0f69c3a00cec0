set_option maxHeartbeats 4000000 in
set_option maxRecDepth 100000 in
theorem sbes0 (l : Launch) (G : va_G) (y : Nat → ClassId) (sz : Nat) (ob : Nat) (ob_thrown : Int32) (ob_world : Nat) (ob_images : Nat) (ob_hasImage : Nat) (ob_tape : Nat) (ob_taped : Int32) (ob_five : Nat) (ob_size : Int32) (ob_at : Int32) (ob_from : Int32) (ob_token : Int32) (ob_value : Int32) (ob_faultKind : Int32) (ob_faultPlace : Int32) (ob_fresh : Nat) (ob_parts : Nat) (ob_houses : Nat) (ob_houseMany : Int32) (ob_worthOf : Nat) (ob_byCall : Nat) (ob_over : Nat) (ob_bestSet : Int32) (ob_bestOver : Int32) (ob_bestWorth : Int32) (ob_row : Nat) (ob_tenDebts : Nat) (ob_tenMany : Int32) (ob_fewestBy : Nat) (ob_covered : Nat) (ob_queue : Nat) (ob_cameBy : Nat) (ob_parent : Nat) (ob_met : Nat) (ob_calls : Nat) (ob_callMany : Int32) (ob_calledOn : Nat) (ob_saved : Nat) (ob_many : Nat) (ob_width : Nat) (ob_numbers : Nat) (ob_moving : Nat) (fob_world : Nat → Int32) (fob_images : Nat → Int32) (fob_hasImage : Nat → Int32) (fob_parts : Nat → Int32) (fob_saved : Nat → Int32) (p_fob_world : RWw fob_world) (p_fob_images : RIw fob_images) (p_fob_hasImage : ∀ i, (0 : Int) ≤ (fob_hasImage i).toInt ∧ (fob_hasImage i).toInt ≤ 1) (p_ob_taped : (0 : Int) ≤ ob_taped.toInt ∧ ob_taped.toInt ≤ 1400) (p_ob_size : (0 : Int) ≤ ob_size.toInt ∧ ob_size.toInt ≤ 1400) (p_ob_at : (0 : Int) ≤ ob_at.toInt ∧ ob_at.toInt ≤ 1400) (p_ob_from : (0 : Int) ≤ ob_from.toInt ∧ ob_from.toInt ≤ 1400) (p_ob_token : (0 : Int) ≤ ob_token.toInt ∧ ob_token.toInt ≤ 4) (p_ob_value : (0 : Int) ≤ ob_value.toInt ∧ ob_value.toInt ≤ 9999) (p_ob_faultKind : (0 : Int) ≤ ob_faultKind.toInt ∧ ob_faultKind.toInt ≤ 3) (p_ob_houseMany : (0 : Int) ≤ ob_houseMany.toInt ∧ ob_houseMany.toInt ≤ 10) (p_ob_bestSet : (0 : Int) ≤ ob_bestSet.toInt ∧ ob_bestSet.toInt ≤ 1023) (p_ob_bestOver : (-1 : Int) ≤ ob_bestOver.toInt ∧ ob_bestOver.toInt ≤ 180) (p_ob_tenMany : (0 : Int) ≤ ob_tenMany.toInt ∧ ob_tenMany.toInt ≤ 10) (p_ob_callMany : (0 : Int) ≤ ob_callMany.toInt ∧ ob_callMany.toInt ≤ 16) : Met l yX10_beside (Cond.code yX10_beside cX10_beside 5 (some .int) :: wAll) ({ frames := 4, cells := 0, slots := 0, locals := 111 }) (va_Pc [.ref ob, .int 0] (kp G y sz [(ce_X10 ob ob_thrown ob_world ob_images ob_hasImage ob_tape ob_taped ob_five ob_size ob_at ob_from ob_token ob_value ob_faultKind ob_faultPlace ob_fresh ob_parts ob_houses ob_houseMany ob_worthOf ob_byCall ob_over ob_bestSet ob_bestOver ob_bestWorth ob_row ob_tenDebts ob_tenMany ob_fewestBy ob_covered ob_queue ob_cameBy ob_parent ob_met ob_calls ob_callMany ob_calledOn ob_saved ob_many ob_width ob_numbers ob_moving), (ce_i9080 y ob_world fob_world), (ce_i27240 y ob_images fob_images), (ce_z3 y ob_hasImage fob_hasImage), (ce_i6 y ob_parts fob_parts), (ce_i9080 y ob_saved fob_saved)])) (va_Qi (fun (r : Int32) (w : va_W) => (∃ (v_965 : Int32) (f_966 : Nat → Int32) (f_967 : Nat → Int32) (f_968 : Nat → Int32), ((-6 : Int) ≤ v_965.toInt ∧ v_965.toInt ≤ 600) ∧ (RWw f_966) ∧ r = v_965 ∧ w = [(ce_X10 ob ob_thrown ob_world ob_images ob_hasImage ob_tape ob_taped ob_five ob_size ob_at ob_from ob_token ob_value ob_faultKind ob_faultPlace ob_fresh ob_parts ob_houses ob_houseMany ob_worthOf ob_byCall ob_over ob_bestSet ob_bestOver ob_bestWorth ob_row ob_tenDebts ob_tenMany ob_fewestBy ob_covered ob_queue ob_cameBy ob_parent ob_met ob_calls ob_callMany ob_calledOn ob_saved ob_many ob_width ob_numbers ob_moving), (ce_i9080 y ob_world f_966), (ce_i27240 y ob_images fob_images), (ce_z3 y ob_hasImage fob_hasImage), (ce_i6 y ob_parts f_967), (ce_i9080 y ob_saved f_968)])) (kq G (va_A [(ce_X10 ob ob_thrown ob_world ob_images ob_hasImage ob_tape ob_taped ob_five ob_size ob_at ob_from ob_token ob_value ob_faultKind ob_faultPlace ob_fresh ob_parts ob_houses ob_houseMany ob_worthOf ob_byCall ob_over ob_bestSet ob_bestOver ob_bestWorth ob_row ob_tenDebts ob_tenMany ob_fewestBy ob_covered ob_queue ob_cameBy ob_parent ob_met ob_calls ob_callMany ob_calledOn ob_saved ob_many ob_width ob_numbers ob_moving), (ce_i9080 y ob_world fob_world), (ce_i27240 y ob_images fob_images), (ce_z3 y ob_hasImage fob_hasImage), (ce_i6 y ob_parts fob_parts), (ce_i9080 y ob_saved fob_saved)] sz)) (va_A [(ce_X10 ob ob_thrown ob_world ob_images ob_hasImage ob_tape ob_taped ob_five ob_size ob_at ob_from ob_token ob_value ob_faultKind ob_faultPlace ob_fresh ob_parts ob_houses ob_houseMany ob_worthOf ob_byCall ob_over ob_bestSet ob_bestOver ob_bestWorth ob_row ob_tenDebts ob_tenMany ob_fewestBy ob_covered ob_queue ob_cameBy ob_parent ob_met ob_calls ob_callMany ob_calledOn ob_saved ob_many ob_width ob_numbers ob_moving), (ce_i9080 y ob_world fob_world), (ce_i27240 y ob_images fob_images), (ce_z3 y ob_hasImage fob_hasImage), (ce_i6 y ob_parts fob_parts), (ce_i9080 y ob_saved fob_saved)] sz)) 0 0 (va_A [(ce_X10 ob ob_thrown ob_world ob_images ob_hasImage ob_tape ob_taped ob_five ob_size ob_at ob_from ob_token ob_value ob_faultKind ob_faultPlace ob_fresh ob_parts ob_houses ob_houseMany ob_worthOf ob_byCall ob_over ob_bestSet ob_bestOver ob_bestWorth ob_row ob_tenDebts ob_tenMany ob_fewestBy ob_covered ob_queue ob_cameBy ob_parent ob_met ob_calls ob_callMany ob_calledOn ob_saved ob_many ob_width ob_numbers ob_moving), (ce_i9080 y ob_world fob_world), (ce_i27240 y ob_images fob_images), (ce_z3 y ob_hasImage fob_hasImage), (ce_i6 y ob_parts fob_parts), (ce_i9080 y ob_saved fob_saved)] sz) := by
  refine Met.ofW (cc := cX10_beside) (maxL := 5) (ret := (some .int)) (by decide) rfl ?_
  intro p e s m args below meth c s₁ B hml hv
  obtain ⟨rfl, hsz, hP, hK, hD0⟩ := hv
  have hx := B.exec
  have hb := B.bytes
  have hr := B.returns
  have hw0 : ∀ w ∈ wAll, w.before _ s = true := fun w h => atoms_spec (ws := Cond.code yX10_beside cX10_beside 5 (some .int) :: wAll) B.pre w (List.mem_cons_of_mem _ h)
  have hown : s.vm.findClass RX10 = some m.cls := findClass_of_methodNamed B.named
  subst hsz
  have hD := hD0.self (sz := s.heap.size)
  generalize hAe : va_A [(ce_X10 ob ob_thrown ob_world ob_images ob_hasImage ob_tape ob_taped ob_five ob_size ob_at ob_from ob_token ob_value ob_faultKind ob_faultPlace ob_fresh ob_parts ob_houses ob_houseMany ob_worthOf ob_byCall ob_over ob_bestSet ob_bestOver ob_bestWorth ob_row ob_tenDebts ob_tenMany ob_fewestBy ob_covered ob_queue ob_cameBy ob_parent ob_met ob_calls ob_callMany ob_calledOn ob_saved ob_many ob_width ob_numbers ob_moving), (ce_i9080 y ob_world fob_world), (ce_i27240 y ob_images fob_images), (ce_z3 y ob_hasImage fob_hasImage), (ce_i6 y ob_parts fob_parts), (ce_i9080 y ob_saved fob_saved)] s.heap.size = A at hD ⊢
  have hA : ∀ q : Nat, s.heap.size ≤ q → A q := fun q h => by rw [← hAe]; exact Or.inr h
  have hS : va_S A s.heap s.heap [] := va_S.rf
  have hP : va_P G vwCl [(ce_X10 ob ob_thrown ob_world ob_images ob_hasImage ob_tape ob_taped ob_five ob_size ob_at ob_from ob_token ob_value ob_faultKind ob_faultPlace ob_fresh ob_parts ob_houses ob_houseMany ob_worthOf ob_byCall ob_over ob_bestSet ob_bestOver ob_bestWorth ob_row ob_tenDebts ob_tenMany ob_fewestBy ob_covered ob_queue ob_cameBy ob_parent ob_met ob_calls ob_callMany ob_calledOn ob_saved ob_many ob_width ob_numbers ob_moving), (ce_i9080 y ob_world fob_world), (ce_i27240 y ob_images fob_images), (ce_z3 y ob_hasImage fob_hasImage), (ce_i6 y ob_parts fob_parts), (ce_i9080 y ob_saved fob_saved)] s.heap := hP
  have hl := lv_entry ([.ref ob, .int 0]) (n := 5) (Nat.le_of_ble_eq_true rfl)
  rw [lg_entry_eq]
  generalize (lg_sl ([.ref ob, .int 0]) ++ List.replicate (5 - (lg_sl ([.ref ob, .int 0])).length) Slot.unset).toArray = ls at hl ⊢
  have hl : lv_has ls 5 [(0, .ref ob), (1, .int 0)] := hl
  refine lv_iload_n hx hb dX10_beside_0 rfl (lv_at hl 1 rfl) ?_
  refine lv_i2l (v := 0) hx hb dX10_beside_1 (by decide) ?_
  refine lv_lconst (v := 0) hx hb dX10_beside_2 (by decide) ?_
  refine lv_ldc2 (own := RX10) (v := 2) hx hb hown (hw0 _ m_360) dX10_beside_3 ?_
  refine cSim (As := [.long 0, .long 0, .long 2]) (rest := []) ⟨hx, hb, hml, hown, hw0⟩ hA hK hP hD hS [] (sX10_in l G y _ 0 0 2 ) rfl ⟨(callB_of 3 hw0 (gA m_516) rfl rfl rfl (hw0 _ m_41) (hw0 _ m_345) cb_X10_in ⟨Nat.le_of_ble_eq_true rfl, Nat.le_of_ble_eq_true rfl⟩), (hw0 _ m_346)⟩ rfl hl.1 (Nat.le_of_ble_eq_true rfl) dX10_beside_6 ⟨Nat.le_of_ble_eq_true rfl, Nat.le_of_ble_eq_true rfl⟩ (fun r_1001 w_1001 H locs hw_1001 hP hD hS => ?_)
  rcases hw_1001 with ⟨h_1002, rfl, rfl⟩ | ⟨h_1003, rfl, rfl⟩
  · skip
    have h_1004 : 0 < (0 : Int) ∨ (2 : Int) < 0 := in_n h_1002 (by decide) (by decide) (by decide)
    omega
  · skip
    have h_1005 : (0 : Int) ≤ 0 ∧ 0 ≤ (2 : Int) := in_y h_1003 (by decide) (by decide) (by decide)
    obtain ⟨hP, hD⟩ : vPD G A H [(ce_X10 ob ob_thrown ob_world ob_images ob_hasImage ob_tape ob_taped ob_five ob_size ob_at ob_from ob_token ob_value ob_faultKind ob_faultPlace ob_fresh ob_parts ob_houses ob_houseMany ob_worthOf ob_byCall ob_over ob_bestSet ob_bestOver ob_bestWorth ob_row ob_tenDebts ob_tenMany ob_fewestBy ob_covered ob_queue ob_cameBy ob_parent ob_met ob_calls ob_callMany ob_calledOn ob_saved ob_many ob_width ob_numbers ob_moving), (ce_i9080 y ob_world fob_world), (ce_i27240 y ob_images fob_images), (ce_z3 y ob_hasImage fob_hasImage), (ce_i6 y ob_parts fob_parts), (ce_i9080 y ob_saved fob_saved)] := ⟨hP, hD⟩
    refine lv_if_ne (tgt := 15) hx hb dX10_beside_9 (by decide) (fun _ => ?_) (fun c9 => absurd c9 (by decide))
    refine lv_aload_n hx hb dX10_beside_15 rfl (lv_at hl 0 rfl) ?_
    refine va_get (D := G) (ci := 10) (v := .ref ob_hasImage) (C := RX10) (T := TX10) (N := 41) hx hb hw0 inA_wsX100 hown hK.1 hP 0 rfl rfl 3 (by decide) (hw0 _ m_361) (fun _ h9 => h9) rfl dX10_beside_16 ?_
    refine lv_iload_n hx hb dX10_beside_19 rfl (lv_at hl 1 rfl) ?_
    refine va_zald hx hb hK.1 hP 3 3 rfl rfl (vi (bkc (x := 0) (c := 0) (by decide)) (by decide)) dX10_beside_20 ?_
    refine lv_topi (fun v_1006 ev_1006 => ?_)
    have bv_1006 : (0 : Int) ≤ v_1006.toInt ∧ v_1006.toInt ≤ 1 := rd_b ev_1006 p_fob_hasImage
    refine lv_if_ne (tgt := 27) hx hb dX10_beside_21 (by decide) (fun c_1007 => ?_) (fun c_1007 => ?_)
    · skip
      have nc_1007 := nb_ne (1) (1) c_1007 bv_1006 (k := 0) (by decide) (by decide)
      refine lv_iconst (v := 0) hx hb dX10_beside_27 (by decide) ?_
      refine lv_istore_n (lv' := [(2, .int 0), (0, .ref ob), (1, .int 0)]) hx hb dX10_beside_28 rfl hl (by decide) rfl (fun ls hl => ?_)
      refine loopX (fun n H locs ls st => ∃ (v_1067 : Int32) (f_1068 : Nat → Int32), (9080 - v_1067.toInt).toNat = n ∧ ((0 : Int) ≤ v_1067.toInt ∧ v_1067.toInt ≤ 9080) ∧ (cpR f_1068 fob_saved fob_world 0 0 0 v_1067.toInt) ∧ st = [] ∧ vPD G A H [(ce_X10 ob ob_thrown ob_world ob_images ob_hasImage ob_tape ob_taped ob_five ob_size ob_at ob_from ob_token ob_value ob_faultKind ob_faultPlace ob_fresh ob_parts ob_houses ob_houseMany ob_worthOf ob_byCall ob_over ob_bestSet ob_bestOver ob_bestWorth ob_row ob_tenDebts ob_tenMany ob_fewestBy ob_covered ob_queue ob_cameBy ob_parent ob_met ob_calls ob_callMany ob_calledOn ob_saved ob_many ob_width ob_numbers ob_moving), (ce_i9080 y ob_world fob_world), (ce_i27240 y ob_images fob_images), (ce_z3 y ob_hasImage fob_hasImage), (ce_i6 y ob_parts fob_parts), (ce_i9080 y ob_saved f_1068)] ∧ va_S A s.heap H locs ∧ lv_has ls 5 [(2, .int v_1067), (0, .ref ob), (1, .int 0)]) ?_ (n := (9080 - (0 : Int32).toInt).toNat) ⟨0, fob_saved, rfl, (bw (0) (9080) (bkc (x := 0) (c := 0) (by decide)) (by decide)), (cp_0 (by have h90 : Int32.toInt 0 = 0 := (by decide); omega)), rfl, ⟨hP, hD⟩, hS, lv_sub hl [0, 1, 2] rfl⟩
      rintro n ih_1072 H locs ls st ⟨v_1067, f_1068, hn_1072, bv_1067, rl1068_0, rfl, ⟨hP, hD⟩, hS, hl⟩
      refine lv_iload_n hx hb dX10_beside_29 rfl (lv_at hl 0 rfl) ?_
      refine lv_sipush (v := 9080) hx hb dX10_beside_30 (by decide) ?_
      refine lv_icmp_ge (tgt := 54) hx hb dX10_beside_33 (by decide) (fun c_1073 => ?_) (fun c_1073 => ?_)
      · skip
        have nc_1073 := nb_le (9080) (9080) c_1073 (bkc (x := 9080) (c := 9080) (by decide)) bv_1067 (by decide)
        refine lv_sipush (v := 154) hx hb dX10_beside_54 (by decide) ?_
        refine lv_istore_n (lv' := [(2, .int 154), (0, .ref ob), (1, .int 0)]) hx hb dX10_beside_57 rfl hl (by decide) rfl (fun ls hl => ?_)
        refine loopX (fun n H locs ls st => ∃ (v_1157 : Int32) (f_1158 : Nat → Int32), (1864 - v_1157.toInt).toNat = n ∧ ((154 : Int) ≤ v_1157.toInt ∧ v_1157.toInt ≤ 1864) ∧ (cpR f_1158 fob_world fob_images 0 0 154 v_1157.toInt) ∧ st = [] ∧ vPD G A H [(ce_X10 ob ob_thrown ob_world ob_images ob_hasImage ob_tape ob_taped ob_five ob_size ob_at ob_from ob_token ob_value ob_faultKind ob_faultPlace ob_fresh ob_parts ob_houses ob_houseMany ob_worthOf ob_byCall ob_over ob_bestSet ob_bestOver ob_bestWorth ob_row ob_tenDebts ob_tenMany ob_fewestBy ob_covered ob_queue ob_cameBy ob_parent ob_met ob_calls ob_callMany ob_calledOn ob_saved ob_many ob_width ob_numbers ob_moving), (ce_i9080 y ob_world f_1158), (ce_i27240 y ob_images fob_images), (ce_z3 y ob_hasImage fob_hasImage), (ce_i6 y ob_parts fob_parts), (ce_i9080 y ob_saved f_1068)] ∧ va_S A s.heap H locs ∧ lv_has ls 5 [(2, .int v_1157), (0, .ref ob), (1, .int 0)]) ?_ (n := (1864 - (154 : Int32).toInt).toNat) ⟨154, fob_world, rfl, (bw (154) (1864) (bkc (x := 154) (c := 154) (by decide)) (by decide)), (cp_0 (by have h90 : Int32.toInt 0 = 0 := (by decide); have h91 : Int32.toInt 154 = 154 := (by decide); omega)), rfl, ⟨hP, hD⟩, hS, lv_sub hl [0, 1, 2] rfl⟩
        rintro n ih_1164 H locs ls st ⟨v_1157, f_1158, hn_1164, bv_1157, rl1158_0, rfl, ⟨hP, hD⟩, hS, hl⟩
        refine lv_iload_n hx hb dX10_beside_58 rfl (lv_at hl 0 rfl) ?_
        refine lv_sipush (v := 1864) hx hb dX10_beside_59 (by decide) ?_
        refine lv_icmp_ge (tgt := 89) hx hb dX10_beside_62 (by decide) (fun c_1165 => ?_) (fun c_1165 => ?_)
        · skip
          have nc_1165 := nb_le (1864) (1864) c_1165 (bkc (x := 1864) (c := 1864) (by decide)) bv_1157 (by decide)
          refine lv_iconst (v := 1) hx hb dX10_beside_89 (by decide) ?_
          refine lv_istore_n (lv' := [(2, .int 1), (0, .ref ob), (1, .int 0)]) hx hb dX10_beside_90 rfl hl (by decide) rfl (fun ls hl => ?_)
          refine loopX (fun n H locs ls st => ∃ (v_1200 : Int32) (f_1201 : Nat → Int32), (4 - v_1200.toInt).toNat = n ∧ ((1 : Int) ≤ v_1200.toInt ∧ v_1200.toInt ≤ 4) ∧ (cpR f_1201 f_1158 fob_images 0 0 1 v_1200.toInt) ∧ st = [] ∧ vPD G A H [(ce_X10 ob ob_thrown ob_world ob_images ob_hasImage ob_tape ob_taped ob_five ob_size ob_at ob_from ob_token ob_value ob_faultKind ob_faultPlace ob_fresh ob_parts ob_houses ob_houseMany ob_worthOf ob_byCall ob_over ob_bestSet ob_bestOver ob_bestWorth ob_row ob_tenDebts ob_tenMany ob_fewestBy ob_covered ob_queue ob_cameBy ob_parent ob_met ob_calls ob_callMany ob_calledOn ob_saved ob_many ob_width ob_numbers ob_moving), (ce_i9080 y ob_world f_1201), (ce_i27240 y ob_images fob_images), (ce_z3 y ob_hasImage fob_hasImage), (ce_i6 y ob_parts fob_parts), (ce_i9080 y ob_saved f_1068)] ∧ va_S A s.heap H locs ∧ lv_has ls 5 [(2, .int v_1200), (0, .ref ob), (1, .int 0)]) ?_ (n := (4 - (1 : Int32).toInt).toNat) ⟨1, f_1158, rfl, (bw (1) (4) (bkc (x := 1) (c := 1) (by decide)) (by decide)), (cp_0 (by have h90 : Int32.toInt 0 = 0 := (by decide); have h91 : Int32.toInt 1 = 1 := (by decide); omega)), rfl, ⟨hP, hD⟩, hS, lv_sub hl [0, 1, 2] rfl⟩
          rintro n ih_1207 H locs ls st ⟨v_1200, f_1201, hn_1207, bv_1200, rl1201_0, rfl, ⟨hP, hD⟩, hS, hl⟩
          refine lv_iload_n hx hb dX10_beside_91 rfl (lv_at hl 0 rfl) ?_
          refine lv_iconst (v := 3) hx hb dX10_beside_92 (by decide) ?_
          refine lv_icmp_gt (tgt := 120) hx hb dX10_beside_93 (by decide) (fun c_1208 => ?_) (fun c_1208 => ?_)
          · skip
            have nc_1208 := nb_lt (3) (4) c_1208 (bkc (x := 3) (c := 3) (by decide)) bv_1200 (by decide)
            have kf_1201 : RWw f_1201 := RW_mix rl1158_0 (by omega) rl1201_0 (by omega) p_fob_world (RI_at p_fob_images 0 (by decide))
            refine lv_iconst (v := 0) hx hb dX10_beside_120 (by decide) ?_
            refine lv_istore_n (lv' := [(2, .int 0), (0, .ref ob), (1, .int 0)]) hx hb dX10_beside_121 rfl hl (by decide) rfl (fun ls hl => ?_)
            refine loopX (fun n H locs ls st => ∃ (v_1292 : Int32) (f_1293 : Nat → Int32), (16 - v_1292.toInt).toNat = n ∧ ((0 : Int) ≤ v_1292.toInt ∧ v_1292.toInt ≤ 16) ∧ (RWw f_1293) ∧ st = [] ∧ vPD G A H [(ce_X10 ob ob_thrown ob_world ob_images ob_hasImage ob_tape ob_taped ob_five ob_size ob_at ob_from ob_token ob_value ob_faultKind ob_faultPlace ob_fresh ob_parts ob_houses ob_houseMany ob_worthOf ob_byCall ob_over ob_bestSet ob_bestOver ob_bestWorth ob_row ob_tenDebts ob_tenMany ob_fewestBy ob_covered ob_queue ob_cameBy ob_parent ob_met ob_calls ob_callMany ob_calledOn ob_saved ob_many ob_width ob_numbers ob_moving), (ce_i9080 y ob_world f_1293), (ce_i27240 y ob_images fob_images), (ce_z3 y ob_hasImage fob_hasImage), (ce_i6 y ob_parts fob_parts), (ce_i9080 y ob_saved f_1068)] ∧ va_S A s.heap H locs ∧ lv_has ls 5 [(2, .int v_1292), (0, .ref ob)]) ?_ (n := (16 - (0 : Int32).toInt).toNat) ⟨0, f_1201, rfl, (bw (0) (16) (bkc (x := 0) (c := 0) (by decide)) (by decide)), kf_1201, rfl, ⟨hP, hD⟩, hS, lv_sub hl [0, 1] rfl⟩
            rintro n ih_1299 H locs ls st ⟨v_1292, f_1293, hn_1299, bv_1292, bf_1293, rfl, ⟨hP, hD⟩, hS, hl⟩
            refine lv_iload_n hx hb dX10_beside_122 rfl (lv_at hl 0 rfl) ?_
            refine lv_bipush (v := 16) hx hb dX10_beside_123 (by decide) ?_
            refine lv_icmp_ge (tgt := 151) hx hb dX10_beside_125 (by decide) (fun c_1300 => ?_) (fun c_1300 => ?_)
            · skip
              have nc_1300 := nb_le (16) (16) c_1300 (bkc (x := 16) (c := 16) (by decide)) bv_1292 (by decide)
              have h8f_1293 : (0 : Int) ≤ (f_1293 8).toInt ∧ (f_1293 8).toInt ≤ 600 := (bf_1293).1.1 8
              refine lv_aload_n hx hb dX10_beside_151 rfl (lv_at hl 1 rfl) ?_
              refine va_get (D := G) (ci := 10) (v := .ref ob_world) (C := RX10) (T := TX10) (N := 41) hx hb hw0 inA_wsX100 hown hK.1 hP 0 rfl rfl 1 (by decide) (hw0 _ m_352) (fun _ h9 => h9) rfl dX10_beside_152 ?_
              refine lv_bipush (v := 7) hx hb dX10_beside_155 (by decide) ?_
              refine lv_iconst (v := 0) hx hb dX10_beside_157 (by decide) ?_
              refine va_iast hx hb hK.1 hP hD hS 1 1 rfl rfl (vi (bkc (x := 7) (c := 7) (by decide)) (by decide)) dX10_beside_158 (fun H locs hP hD hS => ?_)
              generalize hf_1301 : (upd f_1293 (7 : Int32).toNatClampNeg 0) = f_1301 at hP hD
              have zf_1301_7 : (f_1301 7).toInt = 0 := by rw [← hf_1301]; exact (pin_eq (by decide)).trans (by decide)
              have zf_1301_8 : (f_1301 8).toInt = (f_1293 8).toInt := hf_1301 ▸ pin_ne (ix_not (bkc (x := 7) (c := 7) (by decide)) (by decide))
              have bf_1301 : RBw f_1301 := hf_1301 ▸ upk (bf_1293).1.1 (bkc (x := 0) (c := 0) (by decide)) (by decide)
              have cf_1301 : RVw f_1301 := ⟨bf_1301, by have h97 : (f_1293 7).toInt ≤ (f_1293 8).toInt := ((bf_1293).1).2; unfold W7; omega⟩
              have df_1301 : RWw f_1301 := ⟨cf_1301, hf_1301 ▸ WQ_up (bf_1293).1.1 (bf_1293).2 (qf_ix (bkc (x := 7) (c := 7) (by decide)) (by decide))⟩
              obtain ⟨hP, hD⟩ : vPD G A H [(ce_X10 ob ob_thrown ob_world ob_images ob_hasImage ob_tape ob_taped ob_five ob_size ob_at ob_from ob_token ob_value ob_faultKind ob_faultPlace ob_fresh ob_parts ob_houses ob_houseMany ob_worthOf ob_byCall ob_over ob_bestSet ob_bestOver ob_bestWorth ob_row ob_tenDebts ob_tenMany ob_fewestBy ob_covered ob_queue ob_cameBy ob_parent ob_met ob_calls ob_callMany ob_calledOn ob_saved ob_many ob_width ob_numbers ob_moving), (ce_i9080 y ob_world f_1301), (ce_i27240 y ob_images fob_images), (ce_z3 y ob_hasImage fob_hasImage), (ce_i6 y ob_parts fob_parts), (ce_i9080 y ob_saved f_1068)] := ⟨hP, hD⟩
              refine lv_iconst (v := 0) hx hb dX10_beside_159 (by decide) ?_
              refine lv_istore_n (lv' := [(2, .int 0), (0, .ref ob)]) hx hb dX10_beside_160 rfl hl (by decide) rfl (fun ls hl => ?_)
              refine loopX (fun n H locs ls st => ∃ (v_1358 : Int32) (f_1359 : Nat → Int32) (f_1360 : Nat → Int32), (600 - v_1358.toInt).toNat = n ∧ ((0 : Int) ≤ v_1358.toInt ∧ v_1358.toInt ≤ 600) ∧ (RWw f_1359) ∧ ((f_1359 7).toInt ≤ v_1358.toInt) ∧ st = [] ∧ vPD G A H [(ce_X10 ob ob_thrown ob_world ob_images ob_hasImage ob_tape ob_taped ob_five ob_size ob_at ob_from ob_token ob_value ob_faultKind ob_faultPlace ob_fresh ob_parts ob_houses ob_houseMany ob_worthOf ob_byCall ob_over ob_bestSet ob_bestOver ob_bestWorth ob_row ob_tenDebts ob_tenMany ob_fewestBy ob_covered ob_queue ob_cameBy ob_parent ob_met ob_calls ob_callMany ob_calledOn ob_saved ob_many ob_width ob_numbers ob_moving), (ce_i9080 y ob_world f_1359), (ce_i27240 y ob_images fob_images), (ce_z3 y ob_hasImage fob_hasImage), (ce_i6 y ob_parts f_1360), (ce_i9080 y ob_saved f_1068)] ∧ va_S A s.heap H locs ∧ lv_has ls 5 [(2, .int v_1358), (0, .ref ob)]) ?_ (n := (600 - (0 : Int32).toInt).toNat) ⟨0, f_1301, fob_parts, rfl, (bw (0) (600) (bkc (x := 0) (c := 0) (by decide)) (by decide)), df_1301, (by have h90 : Int32.toInt 0 = 0 := (by decide); omega), rfl, ⟨hP, hD⟩, hS, lv_sub hl [0, 1] rfl⟩
              rintro n ih_1377 H locs ls st ⟨v_1358, f_1359, f_1360, hn_1377, bv_1358, bf_1359, rl1360_0, rfl, ⟨hP, hD⟩, hS, hl⟩
              refine lv_iload_n hx hb dX10_beside_161 rfl (lv_at hl 0 rfl) ?_
              refine lv_aload_n hx hb dX10_beside_162 rfl (lv_at hl 1 rfl) ?_
              refine va_get (D := G) (ci := 10) (v := .ref ob_world) (C := RX10) (T := TX10) (N := 41) hx hb hw0 inA_wsX100 hown hK.1 hP 0 rfl rfl 1 (by decide) (hw0 _ m_352) (fun _ h9 => h9) rfl dX10_beside_163 ?_
              refine lv_bipush (v := 8) hx hb dX10_beside_166 (by decide) ?_
              refine va_iald hx hb hK.1 hP 1 1 rfl rfl (vi (bkc (x := 8) (c := 8) (by decide)) (by decide)) dX10_beside_168 ?_
              refine lv_topi (fun v_1378 ev_1378 => ?_)
              have bv_1378 : (0 : Int) ≤ v_1378.toInt ∧ v_1378.toInt ≤ 600 := rdk ev_1378 (bf_1359).1.1 (by decide)
              have yv_1378 : v_1378.toInt = (f_1359 8).toInt := congrArg Int32.toInt ev_1378
              refine lv_icmp_ge (tgt := 222) hx hb dX10_beside_169 (by decide) (fun c_1379 => ?_) (fun c_1379 => ?_)
              · skip
                have nc_1379 := nb_le (600) (0) c_1379 bv_1378 bv_1358 (by decide)
                refine lv_aload_n hx hb dX10_beside_222 rfl (lv_at hl 1 rfl) ?_
                refine va_get (D := G) (ci := 10) (v := .ref ob_world) (C := RX10) (T := TX10) (N := 41) hx hb hw0 inA_wsX100 hown hK.1 hP 0 rfl rfl 1 (by decide) (hw0 _ m_352) (fun _ h9 => h9) rfl dX10_beside_223 ?_
                refine lv_bipush (v := 7) hx hb dX10_beside_226 (by decide) ?_
                refine va_iald hx hb hK.1 hP 1 1 rfl rfl (vi (bkc (x := 7) (c := 7) (by decide)) (by decide)) dX10_beside_228 ?_
                refine lv_topi (fun v_1380 ev_1380 => ?_)
                have bv_1380 : (0 : Int) ≤ v_1380.toInt ∧ v_1380.toInt ≤ 600 := rdk ev_1380 (bf_1359).1.1 (by decide)
                have yv_1380 : v_1380.toInt = (f_1359 7).toInt := congrArg Int32.toInt ev_1380
                refine lv_istore_n (lv' := [(2, .int v_1380), (0, .ref ob)]) hx hb dX10_beside_229 rfl hl (by decide) rfl (fun ls hl => ?_)
                refine lv_iconst (v := 0) hx hb dX10_beside_230 (by decide) ?_
                refine lv_istore_n (lv' := [(3, .int 0), (2, .int v_1380), (0, .ref ob)]) hx hb dX10_beside_231 rfl hl (by decide) rfl (fun ls hl => ?_)
                refine loopX (fun n H locs ls st => ∃ (v_1440 : Int32) (f_1441 : Nat → Int32), (9080 - v_1440.toInt).toNat = n ∧ ((0 : Int) ≤ v_1440.toInt ∧ v_1440.toInt ≤ 9080) ∧ (cpR f_1441 f_1359 f_1068 0 0 0 v_1440.toInt) ∧ st = [] ∧ vPD G A H [(ce_X10 ob ob_thrown ob_world ob_images ob_hasImage ob_tape ob_taped ob_five ob_size ob_at ob_from ob_token ob_value ob_faultKind ob_faultPlace ob_fresh ob_parts ob_houses ob_houseMany ob_worthOf ob_byCall ob_over ob_bestSet ob_bestOver ob_bestWorth ob_row ob_tenDebts ob_tenMany ob_fewestBy ob_covered ob_queue ob_cameBy ob_parent ob_met ob_calls ob_callMany ob_calledOn ob_saved ob_many ob_width ob_numbers ob_moving), (ce_i9080 y ob_world f_1441), (ce_i27240 y ob_images fob_images), (ce_z3 y ob_hasImage fob_hasImage), (ce_i6 y ob_parts f_1360), (ce_i9080 y ob_saved f_1068)] ∧ va_S A s.heap H locs ∧ lv_has ls 5 [(3, .int v_1440), (2, .int v_1380), (0, .ref ob)]) ?_ (n := (9080 - (0 : Int32).toInt).toNat) ⟨0, f_1359, rfl, (bw (0) (9080) (bkc (x := 0) (c := 0) (by decide)) (by decide)), (cp_0 (by have h90 : Int32.toInt 0 = 0 := (by decide); omega)), rfl, ⟨hP, hD⟩, hS, lv_sub hl [0, 1, 2] rfl⟩
                rintro n ih_1445 H locs ls st ⟨v_1440, f_1441, hn_1445, bv_1440, rl1441_0, rfl, ⟨hP, hD⟩, hS, hl⟩
                refine lv_iload_n hx hb dX10_beside_232 rfl (lv_at hl 0 rfl) ?_
                refine lv_sipush (v := 9080) hx hb dX10_beside_233 (by decide) ?_
                refine lv_icmp_ge (tgt := 257) hx hb dX10_beside_236 (by decide) (fun c_1446 => ?_) (fun c_1446 => ?_)
                · skip
                  have nc_1446 := nb_le (9080) (9080) c_1446 (bkc (x := 9080) (c := 9080) (by decide)) bv_1440 (by decide)
                  have kf_1441 : RWw f_1441 := RW_same rl1441_0 (by omega) (RW_cong (cp_eq rl1068_0 (by omega)) p_fob_world)
                  refine lv_iload_n hx hb dX10_beside_257 rfl (lv_at hl 1 rfl) ?_
                  exact W.iret (v := v_1380) hx hb hr (fun t ht hW => ⟨⟨v_1380, _, rfl, ⟨v_1380, f_1441, f_1360, f_1068, (bw (-6) (600) bv_1380 (by decide)), kf_1441, rfl, rfl⟩, by rw [ht]; exact hP, hD⟩, hS.F ht⟩) hS.2.2 dX10_beside_258
                · skip
                  have nc_1446 := nb_nle (9079) (9080) c_1446 bv_1440 (bkc (x := 9080) (c := 9080) (by decide)) (by decide)
                  refine lv_aload_n hx hb dX10_beside_239 rfl (lv_at hl 2 rfl) ?_
                  refine va_get (D := G) (ci := 10) (v := .ref ob_world) (C := RX10) (T := TX10) (N := 41) hx hb hw0 inA_wsX100 hown hK.1 hP 0 rfl rfl 1 (by decide) (hw0 _ m_352) (fun _ h9 => h9) rfl dX10_beside_240 ?_
                  refine lv_iload_n hx hb dX10_beside_243 rfl (lv_at hl 0 rfl) ?_
                  refine lv_aload_n hx hb dX10_beside_244 rfl (lv_at hl 2 rfl) ?_
                  refine va_get (D := G) (ci := 10) (v := .ref ob_saved) (C := RX10) (T := TX10) (N := 41) hx hb hw0 inA_wsX100 hown hK.1 hP 0 rfl rfl 36 (by decide) (hw0 _ m_392) (fun _ h9 => h9) rfl dX10_beside_245 ?_
                  refine lv_iload_n hx hb dX10_beside_248 rfl (lv_at hl 0 rfl) ?_
                  refine va_iald hx hb hK.1 hP 5 1 rfl rfl (vi nc_1446.1 (by decide)) dX10_beside_249 ?_
                  refine lv_topi (fun v_1447 ev_1447 => ?_)
                  refine va_iast hx hb hK.1 hP hD hS 1 1 rfl rfl (vi nc_1446.1 (by decide)) dX10_beside_250 (fun H locs hP hD hS => ?_)
                  generalize hf_1448 : (upd f_1441 (v_1440 : Int32).toNatClampNeg v_1447) = f_1448 at hP hD
                  obtain ⟨hP, hD⟩ : vPD G A H [(ce_X10 ob ob_thrown ob_world ob_images ob_hasImage ob_tape ob_taped ob_five ob_size ob_at ob_from ob_token ob_value ob_faultKind ob_faultPlace ob_fresh ob_parts ob_houses ob_houseMany ob_worthOf ob_byCall ob_over ob_bestSet ob_bestOver ob_bestWorth ob_row ob_tenDebts ob_tenMany ob_fewestBy ob_covered ob_queue ob_cameBy ob_parent ob_met ob_calls ob_callMany ob_calledOn ob_saved ob_many ob_width ob_numbers ob_moving), (ce_i9080 y ob_world f_1448), (ce_i27240 y ob_images fob_images), (ce_z3 y ob_hasImage fob_hasImage), (ce_i6 y ob_parts f_1360), (ce_i9080 y ob_saved f_1068)] := ⟨hP, hD⟩
                  obtain ⟨v_1449, ev_1449⟩ : ∃ z : Int32, z = v_1440 + 1 := ⟨_, rfl⟩
                  have qv_1449 := ba_add ev_1449 nc_1446.1 (bkc (x := 1) (c := 1) (by decide)) (by decide)
                  have bv_1449 : (1 : Int) ≤ v_1449.toInt ∧ v_1449.toInt ≤ 9080 := bq_add qv_1449 nc_1446.1 (bkc (x := 1) (c := 1) (by decide)) _ _ (by decide)
                  have qv_1449 : v_1449.toInt = v_1440.toInt + (1) := qv_1449
                  refine lv_iinc (v := v_1449) (lv' := [(3, .int v_1449), (2, .int v_1380), (0, .ref ob)]) hx hb dX10_beside_251 hl (k := 0) rfl (ev_1449.symm) (by decide) rfl (fun ls hl => ?_)
                  refine lv_goto (tgt := 232) hx hb dX10_beside_254 (by decide) ?_
                  exact ih_1445 _ (ml_inc (hi := 9080) hn_1445 qv_1449 (by decide) ((bw (0) (9080) bv_1449 (by decide))).2) _ _ _ _ ⟨v_1449, f_1448, rfl, (bw (0) (9080) bv_1449 (by decide)), (cp_s rl1441_0 hf_1448 ev_1447 ((cl_to (by omega)).trans (by omega)) ((cl_to (by omega)).trans (by omega)) (by omega) (by omega)), rfl, ⟨hP, hD⟩, hS, lv_sub hl [0, 1, 2] rfl⟩
              · skip
                have nc_1379 := nb_nle (599) (1) c_1379 bv_1358 bv_1378 (by decide)
                refine lv_sipush (v := 6680) hx hb dX10_beside_172 (by decide) ?_
                refine lv_iconst (v := 4) hx hb dX10_beside_175 (by decide) ?_
                refine lv_iload_n hx hb dX10_beside_176 rfl (lv_at hl 0 rfl) ?_
                refine lv_imul hx hb dX10_beside_177 ?_
                refine lv_topi (fun v_1450 ev_1450 => ?_)
                have qv_1450 := ba_mul 4 (ev_1450.trans (Int32.mul_comm _ _)) nc_1379.1 (by decide) (by decide) (by decide)
                have bv_1450 : (0 : Int) ≤ v_1450.toInt ∧ v_1450.toInt ≤ 2396 := qv_1450.2
                refine lv_iadd hx hb dX10_beside_178 ?_
                refine lv_topi (fun v_1451 ev_1451 => ?_)
                have qv_1451 := ba_add ev_1451 (bkc (x := 6680) (c := 6680) (by decide)) bv_1450 (by decide)
                have bv_1451 : (6680 : Int) ≤ v_1451.toInt ∧ v_1451.toInt ≤ 9076 := bq_add qv_1451 (bkc (x := 6680) (c := 6680) (by decide)) bv_1450 _ _ (by decide)
                have qv_1451 : v_1451.toInt = (6680) + v_1450.toInt := qv_1451
                refine lv_istore_n (lv' := [(3, .int v_1451), (2, .int v_1358), (0, .ref ob)]) hx hb dX10_beside_179 rfl hl (by decide) rfl (fun ls hl => ?_)
                refine lv_aload_n hx hb dX10_beside_180 rfl (lv_at hl 2 rfl) ?_
                refine lv_aload_n hx hb dX10_beside_181 rfl (lv_at hl 2 rfl) ?_
                refine va_get (D := G) (ci := 10) (v := .ref ob_world) (C := RX10) (T := TX10) (N := 41) hx hb hw0 inA_wsX100 hown hK.1 hP 0 rfl rfl 1 (by decide) (hw0 _ m_352) (fun _ h9 => h9) rfl dX10_beside_182 ?_
                refine lv_iload_n hx hb dX10_beside_185 rfl (lv_at hl 0 rfl) ?_
                refine va_iald hx hb hK.1 hP 1 1 rfl rfl (vi bv_1451 (by decide)) dX10_beside_186 ?_
                refine lv_topi (fun v_1452 ev_1452 => ?_)
                have bv_1452 : (0 : Int) ≤ v_1452.toInt ∧ v_1452.toInt ≤ 15 := rdw ev_1452 (bf_1359).1.1 pl_70 (by omega) (nc_1379.1)
                refine lv_aload_n hx hb dX10_beside_187 rfl (lv_at hl 2 rfl) ?_
                refine va_get (D := G) (ci := 10) (v := .ref ob_world) (C := RX10) (T := TX10) (N := 41) hx hb hw0 inA_wsX100 hown hK.1 hP 0 rfl rfl 1 (by decide) (hw0 _ m_352) (fun _ h9 => h9) rfl dX10_beside_188 ?_
                refine lv_iload_n hx hb dX10_beside_191 rfl (lv_at hl 0 rfl) ?_
                refine lv_iconst (v := 1) hx hb dX10_beside_192 (by decide) ?_
                refine lv_iadd hx hb dX10_beside_193 ?_
                refine lv_topi (fun v_1453 ev_1453 => ?_)
                have qv_1453 := ba_add ev_1453 bv_1451 (bkc (x := 1) (c := 1) (by decide)) (by decide)
                have bv_1453 : (6681 : Int) ≤ v_1453.toInt ∧ v_1453.toInt ≤ 9077 := bq_add qv_1453 bv_1451 (bkc (x := 1) (c := 1) (by decide)) _ _ (by decide)
                have qv_1453 : v_1453.toInt = v_1451.toInt + (1) := qv_1453
                refine va_iald hx hb hK.1 hP 1 1 rfl rfl (vi bv_1453 (by decide)) dX10_beside_194 ?_
                refine lv_topi (fun v_1454 ev_1454 => ?_)
                have bv_1454 : (0 : Int) ≤ v_1454.toInt ∧ v_1454.toInt ≤ 15 := rdw ev_1454 (bf_1359).1.1 pl_71 (by omega) (nc_1379.1)
                refine lv_aload_n hx hb dX10_beside_195 rfl (lv_at hl 2 rfl) ?_
                refine va_get (D := G) (ci := 10) (v := .ref ob_world) (C := RX10) (T := TX10) (N := 41) hx hb hw0 inA_wsX100 hown hK.1 hP 0 rfl rfl 1 (by decide) (hw0 _ m_352) (fun _ h9 => h9) rfl dX10_beside_196 ?_
                refine lv_iload_n hx hb dX10_beside_199 rfl (lv_at hl 0 rfl) ?_
                refine lv_iconst (v := 2) hx hb dX10_beside_200 (by decide) ?_
                refine lv_iadd hx hb dX10_beside_201 ?_
                refine lv_topi (fun v_1455 ev_1455 => ?_)
                have qv_1455 := ba_add ev_1455 bv_1451 (bkc (x := 2) (c := 2) (by decide)) (by decide)
                have bv_1455 : (6682 : Int) ≤ v_1455.toInt ∧ v_1455.toInt ≤ 9078 := bq_add qv_1455 bv_1451 (bkc (x := 2) (c := 2) (by decide)) _ _ (by decide)
                have qv_1455 : v_1455.toInt = v_1451.toInt + (2) := qv_1455
                refine va_iald hx hb hK.1 hP 1 1 rfl rfl (vi bv_1455 (by decide)) dX10_beside_202 ?_
                refine lv_topi (fun v_1456 ev_1456 => ?_)
                refine lv_aload_n hx hb dX10_beside_203 rfl (lv_at hl 2 rfl) ?_
                refine va_get (D := G) (ci := 10) (v := .ref ob_world) (C := RX10) (T := TX10) (N := 41) hx hb hw0 inA_wsX100 hown hK.1 hP 0 rfl rfl 1 (by decide) (hw0 _ m_352) (fun _ h9 => h9) rfl dX10_beside_204 ?_
                refine lv_iload_n hx hb dX10_beside_207 rfl (lv_at hl 0 rfl) ?_
                refine lv_iconst (v := 3) hx hb dX10_beside_208 (by decide) ?_
                refine lv_iadd hx hb dX10_beside_209 ?_
                refine lv_topi (fun v_1457 ev_1457 => ?_)
                have qv_1457 := ba_add ev_1457 bv_1451 (bkc (x := 3) (c := 3) (by decide)) (by decide)
                have bv_1457 : (6683 : Int) ≤ v_1457.toInt ∧ v_1457.toInt ≤ 9079 := bq_add qv_1457 bv_1451 (bkc (x := 3) (c := 3) (by decide)) _ _ (by decide)
                have qv_1457 : v_1457.toInt = v_1451.toInt + (3) := qv_1457
                refine va_iald hx hb hK.1 hP 1 1 rfl rfl (vi bv_1457 (by decide)) dX10_beside_210 ?_
                refine lv_topi (fun v_1458 ev_1458 => ?_)
                refine cVim (As := [.int v_1452, .int v_1454, .int v_1456, .int v_1458]) (rest := []) ⟨hx, hb, hml, hown, hw0⟩ hA hK hP hD hS [true, true, false, false, true] (sX10_goes l G y _ ob v_1452 v_1454 v_1456 v_1458 ob_thrown ob_world ob_images ob_hasImage ob_tape ob_taped ob_five ob_size ob_at ob_from ob_token ob_value ob_faultKind ob_faultPlace ob_fresh ob_parts ob_houses ob_houseMany ob_worthOf ob_byCall ob_over ob_bestSet ob_bestOver ob_bestWorth ob_row ob_tenDebts ob_tenMany ob_fewestBy ob_covered ob_queue ob_cameBy ob_parent ob_met ob_calls ob_callMany ob_calledOn ob_saved ob_many ob_width ob_numbers ob_moving f_1359 f_1360 bf_1359 p_ob_taped p_ob_size p_ob_at p_ob_from p_ob_token p_ob_value p_ob_faultKind p_ob_houseMany p_ob_bestSet p_ob_bestOver p_ob_tenMany p_ob_callMany bv_1452 bv_1454 (by omega)) rfl ⟨(callB_of 4 hw0 (gA m_489) rfl rfl rfl (hw0 _ m_41) (hw0 _ m_393) cb_X10_goes ⟨Nat.le_of_ble_eq_true rfl, Nat.le_of_ble_eq_true rfl⟩), (hw0 _ m_394), (hw0 _ m_395)⟩ (ci := 10) (q := (RX10, TX10, 41)) rfl rfl rfl hl.1 (Nat.le_of_ble_eq_true rfl) dX10_beside_211 ⟨Nat.le_of_ble_eq_true rfl, Nat.le_of_ble_eq_true rfl⟩ (fun r_1459 w_1459 H locs hw_1459 hP hD hS => ?_)
                obtain ⟨v_1460, f_1461, f_1462, bf_1461, h_1463, er_1459, rfl⟩ := hw_1459
                subst r_1459
                obtain ⟨hP, hD⟩ : vPD G A H [(ce_X10 ob ob_thrown ob_world ob_images ob_hasImage ob_tape ob_taped ob_five ob_size ob_at ob_from ob_token ob_value ob_faultKind ob_faultPlace ob_fresh ob_parts ob_houses ob_houseMany ob_worthOf ob_byCall ob_over ob_bestSet ob_bestOver ob_bestWorth ob_row ob_tenDebts ob_tenMany ob_fewestBy ob_covered ob_queue ob_cameBy ob_parent ob_met ob_calls ob_callMany ob_calledOn ob_saved ob_many ob_width ob_numbers ob_moving), (ce_i9080 y ob_world f_1461), (ce_i27240 y ob_images fob_images), (ce_z3 y ob_hasImage fob_hasImage), (ce_i6 y ob_parts f_1462), (ce_i9080 y ob_saved f_1068)] := ⟨hP, hD⟩
                refine lv_istore (lv' := [(4, .int v_1460), (3, .int v_1451), (2, .int v_1358), (0, .ref ob)]) hx hb dX10_beside_214 hl (by decide) rfl (fun ls hl => ?_)
                obtain ⟨v_1464, ev_1464⟩ : ∃ z : Int32, z = v_1358 + 1 := ⟨_, rfl⟩
                have qv_1464 := ba_add ev_1464 nc_1379.1 (bkc (x := 1) (c := 1) (by decide)) (by decide)
                have bv_1464 : (1 : Int) ≤ v_1464.toInt ∧ v_1464.toInt ≤ 600 := bq_add qv_1464 nc_1379.1 (bkc (x := 1) (c := 1) (by decide)) _ _ (by decide)
                have qv_1464 : v_1464.toInt = v_1358.toInt + (1) := qv_1464
                refine lv_iinc (v := v_1464) (lv' := [(2, .int v_1464), (4, .int v_1460), (3, .int v_1451), (0, .ref ob)]) hx hb dX10_beside_216 hl (k := 2) rfl (ev_1464.symm) (by decide) rfl (fun ls hl => ?_)
                refine lv_goto (tgt := 161) hx hb dX10_beside_219 (by decide) ?_
                exact ih_1377 _ (ml_inc (hi := 600) hn_1377 qv_1464 (by decide) ((bw (0) (600) bv_1464 (by decide))).2) _ _ _ _ ⟨v_1464, f_1461, f_1462, rfl, (bw (0) (600) bv_1464 (by decide)), bf_1461, (by omega), rfl, ⟨hP, hD⟩, hS, lv_sub hl [0, 3] rfl⟩
            · skip
              have nc_1300 := nb_nle (15) (16) c_1300 bv_1292 (bkc (x := 16) (c := 16) (by decide)) (by decide)
              refine lv_aload_n hx hb dX10_beside_128 rfl (lv_at hl 1 rfl) ?_
              refine va_get (D := G) (ci := 10) (v := .ref ob_world) (C := RX10) (T := TX10) (N := 41) hx hb hw0 inA_wsX100 hown hK.1 hP 0 rfl rfl 1 (by decide) (hw0 _ m_352) (fun _ h9 => h9) rfl dX10_beside_129 ?_
              refine lv_sipush (v := 1864) hx hb dX10_beside_132 (by decide) ?_
              refine lv_iload_n hx hb dX10_beside_135 rfl (lv_at hl 0 rfl) ?_
              refine lv_iadd hx hb dX10_beside_136 ?_
              refine lv_topi (fun v_1465 ev_1465 => ?_)
              have qv_1465 := ba_add ev_1465 (bkc (x := 1864) (c := 1864) (by decide)) nc_1300.1 (by decide)
              have bv_1465 : (1864 : Int) ≤ v_1465.toInt ∧ v_1465.toInt ≤ 1879 := bq_add qv_1465 (bkc (x := 1864) (c := 1864) (by decide)) nc_1300.1 _ _ (by decide)
              have qv_1465 : v_1465.toInt = (1864) + v_1292.toInt := qv_1465
              refine lv_aload_n hx hb dX10_beside_137 rfl (lv_at hl 1 rfl) ?_
              refine lv_iload_n hx hb dX10_beside_138 rfl (lv_at hl 0 rfl) ?_
              refine lv_bipush (v := 8) hx hb dX10_beside_139 (by decide) ?_
              refine cVim (As := [.int v_1292, .int 8]) (rest := [.int v_1465, .ref ob_world]) ⟨hx, hb, hml, hown, hw0⟩ hA hK hP hD hS [true, true] (sofHouse8 l G y _ ob v_1292 ob_thrown ob_world ob_images ob_hasImage ob_tape ob_taped ob_five ob_size ob_at ob_from ob_token ob_value ob_faultKind ob_faultPlace ob_fresh ob_parts ob_houses ob_houseMany ob_worthOf ob_byCall ob_over ob_bestSet ob_bestOver ob_bestWorth ob_row ob_tenDebts ob_tenMany ob_fewestBy ob_covered ob_queue ob_cameBy ob_parent ob_met ob_calls ob_callMany ob_calledOn ob_saved ob_many ob_width ob_numbers ob_moving f_1293 bf_1293 p_ob_taped p_ob_size p_ob_at p_ob_from p_ob_token p_ob_value p_ob_faultKind p_ob_houseMany p_ob_bestSet p_ob_bestOver p_ob_tenMany p_ob_callMany nc_1300.1) rfl ⟨(callB_of 2 hw0 (gA m_577) rfl rfl rfl (hw0 _ m_41) (hw0 _ m_388) cb_X10_ofHouse ⟨Nat.le_of_ble_eq_true rfl, Nat.le_of_ble_eq_true rfl⟩), (hw0 _ m_389), (hw0 _ m_390)⟩ (ci := 10) (q := (RX10, TX10, 41)) rfl rfl rfl hl.1 (Nat.le_of_ble_eq_true rfl) dX10_beside_141 ⟨Nat.le_of_ble_eq_true rfl, Nat.le_of_ble_eq_true rfl⟩ (fun r_1466 w_1466 H locs hw_1466 hP hD hS => ?_)
              obtain ⟨v_1467, bv_1467, er_1466, rfl⟩ := hw_1466
              subst r_1466
              obtain ⟨hP, hD⟩ : vPD G A H [(ce_X10 ob ob_thrown ob_world ob_images ob_hasImage ob_tape ob_taped ob_five ob_size ob_at ob_from ob_token ob_value ob_faultKind ob_faultPlace ob_fresh ob_parts ob_houses ob_houseMany ob_worthOf ob_byCall ob_over ob_bestSet ob_bestOver ob_bestWorth ob_row ob_tenDebts ob_tenMany ob_fewestBy ob_covered ob_queue ob_cameBy ob_parent ob_met ob_calls ob_callMany ob_calledOn ob_saved ob_many ob_width ob_numbers ob_moving), (ce_i9080 y ob_world f_1293), (ce_i27240 y ob_images fob_images), (ce_z3 y ob_hasImage fob_hasImage), (ce_i6 y ob_parts fob_parts), (ce_i9080 y ob_saved f_1068)] := ⟨hP, hD⟩
              refine va_iast hx hb hK.1 hP hD hS 1 1 rfl rfl (vi bv_1465 (by decide)) dX10_beside_144 (fun H locs hP hD hS => ?_)
              generalize hf_1468 : (upd f_1293 (v_1465 : Int32).toNatClampNeg v_1467) = f_1468 at hP hD
              have zf_1468_7 : (f_1468 7).toInt = (f_1293 7).toInt := hf_1468 ▸ pin_ne (ix_not bv_1465 (by decide))
              have zf_1468_8 : (f_1468 8).toInt = (f_1293 8).toInt := hf_1468 ▸ pin_ne (ix_not bv_1465 (by decide))
              have bf_1468 : RBw f_1468 := hf_1468 ▸ upw (bf_1293).1.1 pl_9 (by omega) (nc_1300.1) bv_1467
              have cf_1468 : RVw f_1468 := hf_1468 ▸ RV_up (bf_1293).1 (hf_1468 ▸ bf_1468) (ix_out bv_1465 (by decide))
              have df_1468 : RWw f_1468 := ⟨cf_1468, hf_1468 ▸ WQ_up (bf_1293).1.1 (bf_1293).2 (qf_ix bv_1465 (by decide))⟩
              obtain ⟨hP, hD⟩ : vPD G A H [(ce_X10 ob ob_thrown ob_world ob_images ob_hasImage ob_tape ob_taped ob_five ob_size ob_at ob_from ob_token ob_value ob_faultKind ob_faultPlace ob_fresh ob_parts ob_houses ob_houseMany ob_worthOf ob_byCall ob_over ob_bestSet ob_bestOver ob_bestWorth ob_row ob_tenDebts ob_tenMany ob_fewestBy ob_covered ob_queue ob_cameBy ob_parent ob_met ob_calls ob_callMany ob_calledOn ob_saved ob_many ob_width ob_numbers ob_moving), (ce_i9080 y ob_world f_1468), (ce_i27240 y ob_images fob_images), (ce_z3 y ob_hasImage fob_hasImage), (ce_i6 y ob_parts fob_parts), (ce_i9080 y ob_saved f_1068)] := ⟨hP, hD⟩
              obtain ⟨v_1469, ev_1469⟩ : ∃ z : Int32, z = v_1292 + 1 := ⟨_, rfl⟩
              have qv_1469 := ba_add ev_1469 nc_1300.1 (bkc (x := 1) (c := 1) (by decide)) (by decide)
              have bv_1469 : (1 : Int) ≤ v_1469.toInt ∧ v_1469.toInt ≤ 16 := bq_add qv_1469 nc_1300.1 (bkc (x := 1) (c := 1) (by decide)) _ _ (by decide)
              have qv_1469 : v_1469.toInt = v_1292.toInt + (1) := qv_1469
              refine lv_iinc (v := v_1469) (lv' := [(2, .int v_1469), (0, .ref ob)]) hx hb dX10_beside_145 hl (k := 0) rfl (ev_1469.symm) (by decide) rfl (fun ls hl => ?_)
              refine lv_goto (tgt := 122) hx hb dX10_beside_148 (by decide) ?_
              exact ih_1299 _ (ml_inc (hi := 16) hn_1299 qv_1469 (by decide) ((bw (0) (16) bv_1469 (by decide))).2) _ _ _ _ ⟨v_1469, f_1468, rfl, (bw (0) (16) bv_1469 (by decide)), df_1468, rfl, ⟨hP, hD⟩, hS, lv_sub hl [0, 1] rfl⟩
          · skip
            have nc_1208 := nb_nlt (3) (3) c_1208 bv_1200 (bkc (x := 3) (c := 3) (by decide)) (by decide)
            refine lv_aload_n hx hb dX10_beside_96 rfl (lv_at hl 1 rfl) ?_
            refine va_get (D := G) (ci := 10) (v := .ref ob_world) (C := RX10) (T := TX10) (N := 41) hx hb hw0 inA_wsX100 hown hK.1 hP 0 rfl rfl 1 (by decide) (hw0 _ m_352) (fun _ h9 => h9) rfl dX10_beside_97 ?_
            refine lv_iload_n hx hb dX10_beside_100 rfl (lv_at hl 0 rfl) ?_
            refine lv_aload_n hx hb dX10_beside_101 rfl (lv_at hl 1 rfl) ?_
            refine va_get (D := G) (ci := 10) (v := .ref ob_images) (C := RX10) (T := TX10) (N := 41) hx hb hw0 inA_wsX100 hown hK.1 hP 0 rfl rfl 2 (by decide) (hw0 _ m_362) (fun _ h9 => h9) rfl dX10_beside_102 ?_
            refine lv_sipush (v := 9080) hx hb dX10_beside_105 (by decide) ?_
            refine lv_iload_n hx hb dX10_beside_108 rfl (lv_at hl 2 rfl) ?_
            refine lv_imul hx hb dX10_beside_109 ?_
            refine lv_topi (fun v_1470 ev_1470 => ?_)
            obtain rfl : 0 = v_1470 := (ev_1470.trans (by decide)).symm
            refine lv_iload_n hx hb dX10_beside_110 rfl (lv_at hl 0 rfl) ?_
            refine lv_iadd hx hb dX10_beside_111 ?_
            refine lv_topi (fun v_1471 ev_1471 => ?_)
            have qv_1471 := ba_add ev_1471 (bkc (x := 0) (c := 0) (by decide)) nc_1208.1 (by decide)
            have bv_1471 : (1 : Int) ≤ v_1471.toInt ∧ v_1471.toInt ≤ 3 := bq_add qv_1471 (bkc (x := 0) (c := 0) (by decide)) nc_1208.1 _ _ (by decide)
            have qv_1471 : v_1471.toInt = (0) + v_1200.toInt := qv_1471
            refine va_iald hx hb hK.1 hP 2 1 rfl rfl (vi bv_1471 (by decide)) dX10_beside_112 ?_
            refine lv_topi (fun v_1472 ev_1472 => ?_)
            refine va_iast hx hb hK.1 hP hD hS 1 1 rfl rfl (vi nc_1208.1 (by decide)) dX10_beside_113 (fun H locs hP hD hS => ?_)
            generalize hf_1473 : (upd f_1201 (v_1200 : Int32).toNatClampNeg v_1472) = f_1473 at hP hD
            have zf_1473_7 : (f_1473 7).toInt = (f_1201 7).toInt := hf_1473 ▸ pin_ne (ix_not nc_1208.1 (by decide))
            have zf_1473_8 : (f_1473 8).toInt = (f_1201 8).toInt := hf_1473 ▸ pin_ne (ix_not nc_1208.1 (by decide))
            obtain ⟨hP, hD⟩ : vPD G A H [(ce_X10 ob ob_thrown ob_world ob_images ob_hasImage ob_tape ob_taped ob_five ob_size ob_at ob_from ob_token ob_value ob_faultKind ob_faultPlace ob_fresh ob_parts ob_houses ob_houseMany ob_worthOf ob_byCall ob_over ob_bestSet ob_bestOver ob_bestWorth ob_row ob_tenDebts ob_tenMany ob_fewestBy ob_covered ob_queue ob_cameBy ob_parent ob_met ob_calls ob_callMany ob_calledOn ob_saved ob_many ob_width ob_numbers ob_moving), (ce_i9080 y ob_world f_1473), (ce_i27240 y ob_images fob_images), (ce_z3 y ob_hasImage fob_hasImage), (ce_i6 y ob_parts fob_parts), (ce_i9080 y ob_saved f_1068)] := ⟨hP, hD⟩
            obtain ⟨v_1474, ev_1474⟩ : ∃ z : Int32, z = v_1200 + 1 := ⟨_, rfl⟩
            have qv_1474 := ba_add ev_1474 nc_1208.1 (bkc (x := 1) (c := 1) (by decide)) (by decide)
            have bv_1474 : (2 : Int) ≤ v_1474.toInt ∧ v_1474.toInt ≤ 4 := bq_add qv_1474 nc_1208.1 (bkc (x := 1) (c := 1) (by decide)) _ _ (by decide)
            have qv_1474 : v_1474.toInt = v_1200.toInt + (1) := qv_1474
            refine lv_iinc (v := v_1474) (lv' := [(2, .int v_1474), (0, .ref ob), (1, .int 0)]) hx hb dX10_beside_114 hl (k := 0) rfl (ev_1474.symm) (by decide) rfl (fun ls hl => ?_)
            refine lv_goto (tgt := 91) hx hb dX10_beside_117 (by decide) ?_
            exact ih_1207 _ (ml_inc (hi := 4) hn_1207 qv_1474 (by decide) ((bw (1) (4) bv_1474 (by decide))).2) _ _ _ _ ⟨v_1474, f_1473, rfl, (bw (1) (4) bv_1474 (by decide)), (cp_s rl1201_0 hf_1473 ev_1472 ((cl_to (by omega)).trans (by omega)) ((cl_to (by omega)).trans (by omega)) (by omega) (by omega)), rfl, ⟨hP, hD⟩, hS, lv_sub hl [0, 1, 2] rfl⟩
        · skip
          have nc_1165 := nb_nle (1863) (1864) c_1165 bv_1157 (bkc (x := 1864) (c := 1864) (by decide)) (by decide)
          refine lv_aload_n hx hb dX10_beside_65 rfl (lv_at hl 1 rfl) ?_
          refine va_get (D := G) (ci := 10) (v := .ref ob_world) (C := RX10) (T := TX10) (N := 41) hx hb hw0 inA_wsX100 hown hK.1 hP 0 rfl rfl 1 (by decide) (hw0 _ m_352) (fun _ h9 => h9) rfl dX10_beside_66 ?_
          refine lv_iload_n hx hb dX10_beside_69 rfl (lv_at hl 0 rfl) ?_
          refine lv_aload_n hx hb dX10_beside_70 rfl (lv_at hl 1 rfl) ?_
          refine va_get (D := G) (ci := 10) (v := .ref ob_images) (C := RX10) (T := TX10) (N := 41) hx hb hw0 inA_wsX100 hown hK.1 hP 0 rfl rfl 2 (by decide) (hw0 _ m_362) (fun _ h9 => h9) rfl dX10_beside_71 ?_
          refine lv_sipush (v := 9080) hx hb dX10_beside_74 (by decide) ?_
          refine lv_iload_n hx hb dX10_beside_77 rfl (lv_at hl 2 rfl) ?_
          refine lv_imul hx hb dX10_beside_78 ?_
          refine lv_topi (fun v_1475 ev_1475 => ?_)
          obtain rfl : 0 = v_1475 := (ev_1475.trans (by decide)).symm
          refine lv_iload_n hx hb dX10_beside_79 rfl (lv_at hl 0 rfl) ?_
          refine lv_iadd hx hb dX10_beside_80 ?_
          refine lv_topi (fun v_1476 ev_1476 => ?_)
          have qv_1476 := ba_add ev_1476 (bkc (x := 0) (c := 0) (by decide)) nc_1165.1 (by decide)
          have bv_1476 : (154 : Int) ≤ v_1476.toInt ∧ v_1476.toInt ≤ 1863 := bq_add qv_1476 (bkc (x := 0) (c := 0) (by decide)) nc_1165.1 _ _ (by decide)
          have qv_1476 : v_1476.toInt = (0) + v_1157.toInt := qv_1476
          refine va_iald hx hb hK.1 hP 2 1 rfl rfl (vi bv_1476 (by decide)) dX10_beside_81 ?_
          refine lv_topi (fun v_1477 ev_1477 => ?_)
          refine va_iast hx hb hK.1 hP hD hS 1 1 rfl rfl (vi nc_1165.1 (by decide)) dX10_beside_82 (fun H locs hP hD hS => ?_)
          generalize hf_1478 : (upd f_1158 (v_1157 : Int32).toNatClampNeg v_1477) = f_1478 at hP hD
          have zf_1478_7 : (f_1478 7).toInt = (f_1158 7).toInt := hf_1478 ▸ pin_ne (ix_not nc_1165.1 (by decide))
          have zf_1478_8 : (f_1478 8).toInt = (f_1158 8).toInt := hf_1478 ▸ pin_ne (ix_not nc_1165.1 (by decide))
          obtain ⟨hP, hD⟩ : vPD G A H [(ce_X10 ob ob_thrown ob_world ob_images ob_hasImage ob_tape ob_taped ob_five ob_size ob_at ob_from ob_token ob_value ob_faultKind ob_faultPlace ob_fresh ob_parts ob_houses ob_houseMany ob_worthOf ob_byCall ob_over ob_bestSet ob_bestOver ob_bestWorth ob_row ob_tenDebts ob_tenMany ob_fewestBy ob_covered ob_queue ob_cameBy ob_parent ob_met ob_calls ob_callMany ob_calledOn ob_saved ob_many ob_width ob_numbers ob_moving), (ce_i9080 y ob_world f_1478), (ce_i27240 y ob_images fob_images), (ce_z3 y ob_hasImage fob_hasImage), (ce_i6 y ob_parts fob_parts), (ce_i9080 y ob_saved f_1068)] := ⟨hP, hD⟩
          obtain ⟨v_1479, ev_1479⟩ : ∃ z : Int32, z = v_1157 + 1 := ⟨_, rfl⟩
          have qv_1479 := ba_add ev_1479 nc_1165.1 (bkc (x := 1) (c := 1) (by decide)) (by decide)
          have bv_1479 : (155 : Int) ≤ v_1479.toInt ∧ v_1479.toInt ≤ 1864 := bq_add qv_1479 nc_1165.1 (bkc (x := 1) (c := 1) (by decide)) _ _ (by decide)
          have qv_1479 : v_1479.toInt = v_1157.toInt + (1) := qv_1479
          refine lv_iinc (v := v_1479) (lv' := [(2, .int v_1479), (0, .ref ob), (1, .int 0)]) hx hb dX10_beside_83 hl (k := 0) rfl (ev_1479.symm) (by decide) rfl (fun ls hl => ?_)
          refine lv_goto (tgt := 58) hx hb dX10_beside_86 (by decide) ?_
          exact ih_1164 _ (ml_inc (hi := 1864) hn_1164 qv_1479 (by decide) ((bw (154) (1864) bv_1479 (by decide))).2) _ _ _ _ ⟨v_1479, f_1478, rfl, (bw (154) (1864) bv_1479 (by decide)), (cp_s rl1158_0 hf_1478 ev_1477 ((cl_to (by omega)).trans (by omega)) ((cl_to (by omega)).trans (by omega)) (by omega) (by omega)), rfl, ⟨hP, hD⟩, hS, lv_sub hl [0, 1, 2] rfl⟩
      · skip
        have nc_1073 := nb_nle (9079) (9080) c_1073 bv_1067 (bkc (x := 9080) (c := 9080) (by decide)) (by decide)
        refine lv_aload_n hx hb dX10_beside_36 rfl (lv_at hl 1 rfl) ?_
        refine va_get (D := G) (ci := 10) (v := .ref ob_saved) (C := RX10) (T := TX10) (N := 41) hx hb hw0 inA_wsX100 hown hK.1 hP 0 rfl rfl 36 (by decide) (hw0 _ m_392) (fun _ h9 => h9) rfl dX10_beside_37 ?_
        refine lv_iload_n hx hb dX10_beside_40 rfl (lv_at hl 0 rfl) ?_
        refine lv_aload_n hx hb dX10_beside_41 rfl (lv_at hl 1 rfl) ?_
        refine va_get (D := G) (ci := 10) (v := .ref ob_world) (C := RX10) (T := TX10) (N := 41) hx hb hw0 inA_wsX100 hown hK.1 hP 0 rfl rfl 1 (by decide) (hw0 _ m_352) (fun _ h9 => h9) rfl dX10_beside_42 ?_
        refine lv_iload_n hx hb dX10_beside_45 rfl (lv_at hl 0 rfl) ?_
        refine va_iald hx hb hK.1 hP 1 1 rfl rfl (vi nc_1073.1 (by decide)) dX10_beside_46 ?_
        refine lv_topi (fun v_1480 ev_1480 => ?_)
        refine va_iast hx hb hK.1 hP hD hS 5 1 rfl rfl (vi nc_1073.1 (by decide)) dX10_beside_47 (fun H locs hP hD hS => ?_)
        generalize hf_1481 : (upd f_1068 (v_1067 : Int32).toNatClampNeg v_1480) = f_1481 at hP hD
        obtain ⟨hP, hD⟩ : vPD G A H [(ce_X10 ob ob_thrown ob_world ob_images ob_hasImage ob_tape ob_taped ob_five ob_size ob_at ob_from ob_token ob_value ob_faultKind ob_faultPlace ob_fresh ob_parts ob_houses ob_houseMany ob_worthOf ob_byCall ob_over ob_bestSet ob_bestOver ob_bestWorth ob_row ob_tenDebts ob_tenMany ob_fewestBy ob_covered ob_queue ob_cameBy ob_parent ob_met ob_calls ob_callMany ob_calledOn ob_saved ob_many ob_width ob_numbers ob_moving), (ce_i9080 y ob_world fob_world), (ce_i27240 y ob_images fob_images), (ce_z3 y ob_hasImage fob_hasImage), (ce_i6 y ob_parts fob_parts), (ce_i9080 y ob_saved f_1481)] := ⟨hP, hD⟩
        obtain ⟨v_1482, ev_1482⟩ : ∃ z : Int32, z = v_1067 + 1 := ⟨_, rfl⟩
        have qv_1482 := ba_add ev_1482 nc_1073.1 (bkc (x := 1) (c := 1) (by decide)) (by decide)
        have bv_1482 : (1 : Int) ≤ v_1482.toInt ∧ v_1482.toInt ≤ 9080 := bq_add qv_1482 nc_1073.1 (bkc (x := 1) (c := 1) (by decide)) _ _ (by decide)
        have qv_1482 : v_1482.toInt = v_1067.toInt + (1) := qv_1482
        refine lv_iinc (v := v_1482) (lv' := [(2, .int v_1482), (0, .ref ob), (1, .int 0)]) hx hb dX10_beside_48 hl (k := 0) rfl (ev_1482.symm) (by decide) rfl (fun ls hl => ?_)
        refine lv_goto (tgt := 29) hx hb dX10_beside_51 (by decide) ?_
        exact ih_1072 _ (ml_inc (hi := 9080) hn_1072 qv_1482 (by decide) ((bw (0) (9080) bv_1482 (by decide))).2) _ _ _ _ ⟨v_1482, f_1481, rfl, (bw (0) (9080) bv_1482 (by decide)), (cp_s rl1068_0 hf_1481 ev_1480 ((cl_to (by omega)).trans (by omega)) ((cl_to (by omega)).trans (by omega)) (by omega) (by omega)), rfl, ⟨hP, hD⟩, hS, lv_sub hl [0, 1, 2] rfl⟩
    · skip
      have nc_1007 := nb_eq (0) (0) c_1007 bv_1006 (bkc (x := 0) (c := 0) (by decide)) (by decide)
      refine lv_bipush (v := (-6)) hx hb dX10_beside_24 (by decide) ?_
      exact W.iret (v := (-6)) hx hb hr (fun t ht hW => ⟨⟨(-6), _, rfl, ⟨(-6), fob_world, fob_parts, fob_saved, (bw (-6) (600) (bkc (x := (-6)) (c := -6) (by decide)) (by decide)), p_fob_world, rfl, rfl⟩, by rw [ht]; exact hP, hD⟩, hS.F ht⟩) hS.2.2 dX10_beside_26

set_option maxHeartbeats 4000000 in
set_option maxRecDepth 100000 in
theorem sbes1 (l : Launch) (G : va_G) (y : Nat → ClassId) (sz : Nat) (ob : Nat) (ob_thrown : Int32) (ob_world : Nat) (ob_images : Nat) (ob_hasImage : Nat) (ob_tape : Nat) (ob_taped : Int32) (ob_five : Nat) (ob_size : Int32) (ob_at : Int32) (ob_from : Int32) (ob_token : Int32) (ob_value : Int32) (ob_faultKind : Int32) (ob_faultPlace : Int32) (ob_fresh : Nat) (ob_parts : Nat) (ob_houses : Nat) (ob_houseMany : Int32) (ob_worthOf : Nat) (ob_byCall : Nat) (ob_over : Nat) (ob_bestSet : Int32) (ob_bestOver : Int32) (ob_bestWorth : Int32) (ob_row : Nat) (ob_tenDebts : Nat) (ob_tenMany : Int32) (ob_fewestBy : Nat) (ob_covered : Nat) (ob_queue : Nat) (ob_cameBy : Nat) (ob_parent : Nat) (ob_met : Nat) (ob_calls : Nat) (ob_callMany : Int32) (ob_calledOn : Nat) (ob_saved : Nat) (ob_many : Nat) (ob_width : Nat) (ob_numbers : Nat) (ob_moving : Nat) (fob_world : Nat → Int32) (fob_images : Nat → Int32) (fob_hasImage : Nat → Int32) (fob_parts : Nat → Int32) (fob_saved : Nat → Int32) (p_fob_world : RWw fob_world) (p_fob_images : RIw fob_images) (p_fob_hasImage : ∀ i, (0 : Int) ≤ (fob_hasImage i).toInt ∧ (fob_hasImage i).toInt ≤ 1) (p_ob_taped : (0 : Int) ≤ ob_taped.toInt ∧ ob_taped.toInt ≤ 1400) (p_ob_size : (0 : Int) ≤ ob_size.toInt ∧ ob_size.toInt ≤ 1400) (p_ob_at : (0 : Int) ≤ ob_at.toInt ∧ ob_at.toInt ≤ 1400) (p_ob_from : (0 : Int) ≤ ob_from.toInt ∧ ob_from.toInt ≤ 1400) (p_ob_token : (0 : Int) ≤ ob_token.toInt ∧ ob_token.toInt ≤ 4) (p_ob_value : (0 : Int) ≤ ob_value.toInt ∧ ob_value.toInt ≤ 9999) (p_ob_faultKind : (0 : Int) ≤ ob_faultKind.toInt ∧ ob_faultKind.toInt ≤ 3) (p_ob_houseMany : (0 : Int) ≤ ob_houseMany.toInt ∧ ob_houseMany.toInt ≤ 10) (p_ob_bestSet : (0 : Int) ≤ ob_bestSet.toInt ∧ ob_bestSet.toInt ≤ 1023) (p_ob_bestOver : (-1 : Int) ≤ ob_bestOver.toInt ∧ ob_bestOver.toInt ≤ 180) (p_ob_tenMany : (0 : Int) ≤ ob_tenMany.toInt ∧ ob_tenMany.toInt ≤ 10) (p_ob_callMany : (0 : Int) ≤ ob_callMany.toInt ∧ ob_callMany.toInt ≤ 16) : Met l yX10_beside (Cond.code yX10_beside cX10_beside 5 (some .int) :: wAll) ({ frames := 4, cells := 0, slots := 0, locals := 111 }) (va_Pc [.ref ob, .int 1] (kp G y sz [(ce_X10 ob ob_thrown ob_world ob_images ob_hasImage ob_tape ob_taped ob_five ob_size ob_at ob_from ob_token ob_value ob_faultKind ob_faultPlace ob_fresh ob_parts ob_houses ob_houseMany ob_worthOf ob_byCall ob_over ob_bestSet ob_bestOver ob_bestWorth ob_row ob_tenDebts ob_tenMany ob_fewestBy ob_covered ob_queue ob_cameBy ob_parent ob_met ob_calls ob_callMany ob_calledOn ob_saved ob_many ob_width ob_numbers ob_moving), (ce_i9080 y ob_world fob_world), (ce_i27240 y ob_images fob_images), (ce_z3 y ob_hasImage fob_hasImage), (ce_i6 y ob_parts fob_parts), (ce_i9080 y ob_saved fob_saved)])) (va_Qi (fun (r : Int32) (w : va_W) => (∃ (v_965 : Int32) (f_966 : Nat → Int32) (f_967 : Nat → Int32) (f_968 : Nat → Int32), ((-6 : Int) ≤ v_965.toInt ∧ v_965.toInt ≤ 600) ∧ (RWw f_966) ∧ r = v_965 ∧ w = [(ce_X10 ob ob_thrown ob_world ob_images ob_hasImage ob_tape ob_taped ob_five ob_size ob_at ob_from ob_token ob_value ob_faultKind ob_faultPlace ob_fresh ob_parts ob_houses ob_houseMany ob_worthOf ob_byCall ob_over ob_bestSet ob_bestOver ob_bestWorth ob_row ob_tenDebts ob_tenMany ob_fewestBy ob_covered ob_queue ob_cameBy ob_parent ob_met ob_calls ob_callMany ob_calledOn ob_saved ob_many ob_width ob_numbers ob_moving), (ce_i9080 y ob_world f_966), (ce_i27240 y ob_images fob_images), (ce_z3 y ob_hasImage fob_hasImage), (ce_i6 y ob_parts f_967), (ce_i9080 y ob_saved f_968)])) (kq G (va_A [(ce_X10 ob ob_thrown ob_world ob_images ob_hasImage ob_tape ob_taped ob_five ob_size ob_at ob_from ob_token ob_value ob_faultKind ob_faultPlace ob_fresh ob_parts ob_houses ob_houseMany ob_worthOf ob_byCall ob_over ob_bestSet ob_bestOver ob_bestWorth ob_row ob_tenDebts ob_tenMany ob_fewestBy ob_covered ob_queue ob_cameBy ob_parent ob_met ob_calls ob_callMany ob_calledOn ob_saved ob_many ob_width ob_numbers ob_moving), (ce_i9080 y ob_world fob_world), (ce_i27240 y ob_images fob_images), (ce_z3 y ob_hasImage fob_hasImage), (ce_i6 y ob_parts fob_parts), (ce_i9080 y ob_saved fob_saved)] sz)) (va_A [(ce_X10 ob ob_thrown ob_world ob_images ob_hasImage ob_tape ob_taped ob_five ob_size ob_at ob_from ob_token ob_value ob_faultKind ob_faultPlace ob_fresh ob_parts ob_houses ob_houseMany ob_worthOf ob_byCall ob_over ob_bestSet ob_bestOver ob_bestWorth ob_row ob_tenDebts ob_tenMany ob_fewestBy ob_covered ob_queue ob_cameBy ob_parent ob_met ob_calls ob_callMany ob_calledOn ob_saved ob_many ob_width ob_numbers ob_moving), (ce_i9080 y ob_world fob_world), (ce_i27240 y ob_images fob_images), (ce_z3 y ob_hasImage fob_hasImage), (ce_i6 y ob_parts fob_parts), (ce_i9080 y ob_saved fob_saved)] sz)) 0 0 (va_A [(ce_X10 ob ob_thrown ob_world ob_images ob_hasImage ob_tape ob_taped ob_five ob_size ob_at ob_from ob_token ob_value ob_faultKind ob_faultPlace ob_fresh ob_parts ob_houses ob_houseMany ob_worthOf ob_byCall ob_over ob_bestSet ob_bestOver ob_bestWorth ob_row ob_tenDebts ob_tenMany ob_fewestBy ob_covered ob_queue ob_cameBy ob_parent ob_met ob_calls ob_callMany ob_calledOn ob_saved ob_many ob_width ob_numbers ob_moving), (ce_i9080 y ob_world fob_world), (ce_i27240 y ob_images fob_images), (ce_z3 y ob_hasImage fob_hasImage), (ce_i6 y ob_parts fob_parts), (ce_i9080 y ob_saved fob_saved)] sz) := by
  refine Met.ofW (cc := cX10_beside) (maxL := 5) (ret := (some .int)) (by decide) rfl ?_
  intro p e s m args below meth c s₁ B hml hv
  obtain ⟨rfl, hsz, hP, hK, hD0⟩ := hv
  have hx := B.exec
  have hb := B.bytes
  have hr := B.returns
  have hw0 : ∀ w ∈ wAll, w.before _ s = true := fun w h => atoms_spec (ws := Cond.code yX10_beside cX10_beside 5 (some .int) :: wAll) B.pre w (List.mem_cons_of_mem _ h)
  have hown : s.vm.findClass RX10 = some m.cls := findClass_of_methodNamed B.named
  subst hsz
  have hD := hD0.self (sz := s.heap.size)
  generalize hAe : va_A [(ce_X10 ob ob_thrown ob_world ob_images ob_hasImage ob_tape ob_taped ob_five ob_size ob_at ob_from ob_token ob_value ob_faultKind ob_faultPlace ob_fresh ob_parts ob_houses ob_houseMany ob_worthOf ob_byCall ob_over ob_bestSet ob_bestOver ob_bestWorth ob_row ob_tenDebts ob_tenMany ob_fewestBy ob_covered ob_queue ob_cameBy ob_parent ob_met ob_calls ob_callMany ob_calledOn ob_saved ob_many ob_width ob_numbers ob_moving), (ce_i9080 y ob_world fob_world), (ce_i27240 y ob_images fob_images), (ce_z3 y ob_hasImage fob_hasImage), (ce_i6 y ob_parts fob_parts), (ce_i9080 y ob_saved fob_saved)] s.heap.size = A at hD ⊢
  have hA : ∀ q : Nat, s.heap.size ≤ q → A q := fun q h => by rw [← hAe]; exact Or.inr h
  have hS : va_S A s.heap s.heap [] := va_S.rf
  have hP : va_P G vwCl [(ce_X10 ob ob_thrown ob_world ob_images ob_hasImage ob_tape ob_taped ob_five ob_size ob_at ob_from ob_token ob_value ob_faultKind ob_faultPlace ob_fresh ob_parts ob_houses ob_houseMany ob_worthOf ob_byCall ob_over ob_bestSet ob_bestOver ob_bestWorth ob_row ob_tenDebts ob_tenMany ob_fewestBy ob_covered ob_queue ob_cameBy ob_parent ob_met ob_calls ob_callMany ob_calledOn ob_saved ob_many ob_width ob_numbers ob_moving), (ce_i9080 y ob_world fob_world), (ce_i27240 y ob_images fob_images), (ce_z3 y ob_hasImage fob_hasImage), (ce_i6 y ob_parts fob_parts), (ce_i9080 y ob_saved fob_saved)] s.heap := hP
  have hl := lv_entry ([.ref ob, .int 1]) (n := 5) (Nat.le_of_ble_eq_true rfl)
  rw [lg_entry_eq]
  generalize (lg_sl ([.ref ob, .int 1]) ++ List.replicate (5 - (lg_sl ([.ref ob, .int 1])).length) Slot.unset).toArray = ls at hl ⊢
  have hl : lv_has ls 5 [(0, .ref ob), (1, .int 1)] := hl
  refine lv_iload_n hx hb dX10_beside_0 rfl (lv_at hl 1 rfl) ?_
  refine lv_i2l (v := 1) hx hb dX10_beside_1 (by decide) ?_
  refine lv_lconst (v := 0) hx hb dX10_beside_2 (by decide) ?_
  refine lv_ldc2 (own := RX10) (v := 2) hx hb hown (hw0 _ m_360) dX10_beside_3 ?_
  refine cSim (As := [.long 1, .long 0, .long 2]) (rest := []) ⟨hx, hb, hml, hown, hw0⟩ hA hK hP hD hS [] (sX10_in l G y _ 1 0 2 ) rfl ⟨(callB_of 3 hw0 (gA m_516) rfl rfl rfl (hw0 _ m_41) (hw0 _ m_345) cb_X10_in ⟨Nat.le_of_ble_eq_true rfl, Nat.le_of_ble_eq_true rfl⟩), (hw0 _ m_346)⟩ rfl hl.1 (Nat.le_of_ble_eq_true rfl) dX10_beside_6 ⟨Nat.le_of_ble_eq_true rfl, Nat.le_of_ble_eq_true rfl⟩ (fun r_1001 w_1001 H locs hw_1001 hP hD hS => ?_)
  rcases hw_1001 with ⟨h_1002, rfl, rfl⟩ | ⟨h_1003, rfl, rfl⟩
  · skip
    have h_1004 : 1 < (0 : Int) ∨ (2 : Int) < 1 := in_n h_1002 (by decide) (by decide) (by decide)
    omega
  · skip
    have h_1005 : (0 : Int) ≤ 1 ∧ 1 ≤ (2 : Int) := in_y h_1003 (by decide) (by decide) (by decide)
    obtain ⟨hP, hD⟩ : vPD G A H [(ce_X10 ob ob_thrown ob_world ob_images ob_hasImage ob_tape ob_taped ob_five ob_size ob_at ob_from ob_token ob_value ob_faultKind ob_faultPlace ob_fresh ob_parts ob_houses ob_houseMany ob_worthOf ob_byCall ob_over ob_bestSet ob_bestOver ob_bestWorth ob_row ob_tenDebts ob_tenMany ob_fewestBy ob_covered ob_queue ob_cameBy ob_parent ob_met ob_calls ob_callMany ob_calledOn ob_saved ob_many ob_width ob_numbers ob_moving), (ce_i9080 y ob_world fob_world), (ce_i27240 y ob_images fob_images), (ce_z3 y ob_hasImage fob_hasImage), (ce_i6 y ob_parts fob_parts), (ce_i9080 y ob_saved fob_saved)] := ⟨hP, hD⟩
    refine lv_if_ne (tgt := 15) hx hb dX10_beside_9 (by decide) (fun _ => ?_) (fun c9 => absurd c9 (by decide))
    refine lv_aload_n hx hb dX10_beside_15 rfl (lv_at hl 0 rfl) ?_
    refine va_get (D := G) (ci := 10) (v := .ref ob_hasImage) (C := RX10) (T := TX10) (N := 41) hx hb hw0 inA_wsX100 hown hK.1 hP 0 rfl rfl 3 (by decide) (hw0 _ m_361) (fun _ h9 => h9) rfl dX10_beside_16 ?_
    refine lv_iload_n hx hb dX10_beside_19 rfl (lv_at hl 1 rfl) ?_
    refine va_zald hx hb hK.1 hP 3 3 rfl rfl (vi (bkc (x := 1) (c := 1) (by decide)) (by decide)) dX10_beside_20 ?_
    refine lv_topi (fun v_1006 ev_1006 => ?_)
    have bv_1006 : (0 : Int) ≤ v_1006.toInt ∧ v_1006.toInt ≤ 1 := rd_b ev_1006 p_fob_hasImage
    refine lv_if_ne (tgt := 27) hx hb dX10_beside_21 (by decide) (fun c_1007 => ?_) (fun c_1007 => ?_)
    · skip
      have nc_1007 := nb_ne (1) (1) c_1007 bv_1006 (k := 0) (by decide) (by decide)
      refine lv_iconst (v := 0) hx hb dX10_beside_27 (by decide) ?_
      refine lv_istore_n (lv' := [(2, .int 0), (0, .ref ob), (1, .int 1)]) hx hb dX10_beside_28 rfl hl (by decide) rfl (fun ls hl => ?_)
      refine loopX (fun n H locs ls st => ∃ (v_1067 : Int32) (f_1068 : Nat → Int32), (9080 - v_1067.toInt).toNat = n ∧ ((0 : Int) ≤ v_1067.toInt ∧ v_1067.toInt ≤ 9080) ∧ (cpR f_1068 fob_saved fob_world 0 0 0 v_1067.toInt) ∧ st = [] ∧ vPD G A H [(ce_X10 ob ob_thrown ob_world ob_images ob_hasImage ob_tape ob_taped ob_five ob_size ob_at ob_from ob_token ob_value ob_faultKind ob_faultPlace ob_fresh ob_parts ob_houses ob_houseMany ob_worthOf ob_byCall ob_over ob_bestSet ob_bestOver ob_bestWorth ob_row ob_tenDebts ob_tenMany ob_fewestBy ob_covered ob_queue ob_cameBy ob_parent ob_met ob_calls ob_callMany ob_calledOn ob_saved ob_many ob_width ob_numbers ob_moving), (ce_i9080 y ob_world fob_world), (ce_i27240 y ob_images fob_images), (ce_z3 y ob_hasImage fob_hasImage), (ce_i6 y ob_parts fob_parts), (ce_i9080 y ob_saved f_1068)] ∧ va_S A s.heap H locs ∧ lv_has ls 5 [(2, .int v_1067), (0, .ref ob), (1, .int 1)]) ?_ (n := (9080 - (0 : Int32).toInt).toNat) ⟨0, fob_saved, rfl, (bw (0) (9080) (bkc (x := 0) (c := 0) (by decide)) (by decide)), (cp_0 (by have h90 : Int32.toInt 0 = 0 := (by decide); have h91 : Int32.toInt 1 = 1 := (by decide); omega)), rfl, ⟨hP, hD⟩, hS, lv_sub hl [0, 1, 2] rfl⟩
      rintro n ih_1072 H locs ls st ⟨v_1067, f_1068, hn_1072, bv_1067, rl1068_0, rfl, ⟨hP, hD⟩, hS, hl⟩
      refine lv_iload_n hx hb dX10_beside_29 rfl (lv_at hl 0 rfl) ?_
      refine lv_sipush (v := 9080) hx hb dX10_beside_30 (by decide) ?_
      refine lv_icmp_ge (tgt := 54) hx hb dX10_beside_33 (by decide) (fun c_1073 => ?_) (fun c_1073 => ?_)
      · skip
        have nc_1073 := nb_le (9080) (9080) c_1073 (bkc (x := 9080) (c := 9080) (by decide)) bv_1067 (by decide)
        refine lv_sipush (v := 154) hx hb dX10_beside_54 (by decide) ?_
        refine lv_istore_n (lv' := [(2, .int 154), (0, .ref ob), (1, .int 1)]) hx hb dX10_beside_57 rfl hl (by decide) rfl (fun ls hl => ?_)
        refine loopX (fun n H locs ls st => ∃ (v_1157 : Int32) (f_1158 : Nat → Int32), (1864 - v_1157.toInt).toNat = n ∧ ((154 : Int) ≤ v_1157.toInt ∧ v_1157.toInt ≤ 1864) ∧ (cpR f_1158 fob_world fob_images 0 9080 154 v_1157.toInt) ∧ st = [] ∧ vPD G A H [(ce_X10 ob ob_thrown ob_world ob_images ob_hasImage ob_tape ob_taped ob_five ob_size ob_at ob_from ob_token ob_value ob_faultKind ob_faultPlace ob_fresh ob_parts ob_houses ob_houseMany ob_worthOf ob_byCall ob_over ob_bestSet ob_bestOver ob_bestWorth ob_row ob_tenDebts ob_tenMany ob_fewestBy ob_covered ob_queue ob_cameBy ob_parent ob_met ob_calls ob_callMany ob_calledOn ob_saved ob_many ob_width ob_numbers ob_moving), (ce_i9080 y ob_world f_1158), (ce_i27240 y ob_images fob_images), (ce_z3 y ob_hasImage fob_hasImage), (ce_i6 y ob_parts fob_parts), (ce_i9080 y ob_saved f_1068)] ∧ va_S A s.heap H locs ∧ lv_has ls 5 [(2, .int v_1157), (0, .ref ob), (1, .int 1)]) ?_ (n := (1864 - (154 : Int32).toInt).toNat) ⟨154, fob_world, rfl, (bw (154) (1864) (bkc (x := 154) (c := 154) (by decide)) (by decide)), (cp_0 (by have h90 : Int32.toInt 1 = 1 := (by decide); have h91 : Int32.toInt 154 = 154 := (by decide); omega)), rfl, ⟨hP, hD⟩, hS, lv_sub hl [0, 1, 2] rfl⟩
        rintro n ih_1164 H locs ls st ⟨v_1157, f_1158, hn_1164, bv_1157, rl1158_0, rfl, ⟨hP, hD⟩, hS, hl⟩
        refine lv_iload_n hx hb dX10_beside_58 rfl (lv_at hl 0 rfl) ?_
        refine lv_sipush (v := 1864) hx hb dX10_beside_59 (by decide) ?_
        refine lv_icmp_ge (tgt := 89) hx hb dX10_beside_62 (by decide) (fun c_1165 => ?_) (fun c_1165 => ?_)
        · skip
          have nc_1165 := nb_le (1864) (1864) c_1165 (bkc (x := 1864) (c := 1864) (by decide)) bv_1157 (by decide)
          refine lv_iconst (v := 1) hx hb dX10_beside_89 (by decide) ?_
          refine lv_istore_n (lv' := [(2, .int 1), (0, .ref ob), (1, .int 1)]) hx hb dX10_beside_90 rfl hl (by decide) rfl (fun ls hl => ?_)
          refine loopX (fun n H locs ls st => ∃ (v_1200 : Int32) (f_1201 : Nat → Int32), (4 - v_1200.toInt).toNat = n ∧ ((1 : Int) ≤ v_1200.toInt ∧ v_1200.toInt ≤ 4) ∧ (cpR f_1201 f_1158 fob_images 0 9080 1 v_1200.toInt) ∧ st = [] ∧ vPD G A H [(ce_X10 ob ob_thrown ob_world ob_images ob_hasImage ob_tape ob_taped ob_five ob_size ob_at ob_from ob_token ob_value ob_faultKind ob_faultPlace ob_fresh ob_parts ob_houses ob_houseMany ob_worthOf ob_byCall ob_over ob_bestSet ob_bestOver ob_bestWorth ob_row ob_tenDebts ob_tenMany ob_fewestBy ob_covered ob_queue ob_cameBy ob_parent ob_met ob_calls ob_callMany ob_calledOn ob_saved ob_many ob_width ob_numbers ob_moving), (ce_i9080 y ob_world f_1201), (ce_i27240 y ob_images fob_images), (ce_z3 y ob_hasImage fob_hasImage), (ce_i6 y ob_parts fob_parts), (ce_i9080 y ob_saved f_1068)] ∧ va_S A s.heap H locs ∧ lv_has ls 5 [(2, .int v_1200), (0, .ref ob), (1, .int 1)]) ?_ (n := (4 - (1 : Int32).toInt).toNat) ⟨1, f_1158, rfl, (bw (1) (4) (bkc (x := 1) (c := 1) (by decide)) (by decide)), (cp_0 (by have h90 : Int32.toInt 1 = 1 := (by decide); omega)), rfl, ⟨hP, hD⟩, hS, lv_sub hl [0, 1, 2] rfl⟩
          rintro n ih_1207 H locs ls st ⟨v_1200, f_1201, hn_1207, bv_1200, rl1201_0, rfl, ⟨hP, hD⟩, hS, hl⟩
          refine lv_iload_n hx hb dX10_beside_91 rfl (lv_at hl 0 rfl) ?_
          refine lv_iconst (v := 3) hx hb dX10_beside_92 (by decide) ?_
          refine lv_icmp_gt (tgt := 120) hx hb dX10_beside_93 (by decide) (fun c_1208 => ?_) (fun c_1208 => ?_)
          · skip
            have nc_1208 := nb_lt (3) (4) c_1208 (bkc (x := 3) (c := 3) (by decide)) bv_1200 (by decide)
            have kf_1201 : RWw f_1201 := RW_mix rl1158_0 (by omega) rl1201_0 (by omega) p_fob_world (RI_at p_fob_images 1 (by decide))
            refine lv_iconst (v := 0) hx hb dX10_beside_120 (by decide) ?_
            refine lv_istore_n (lv' := [(2, .int 0), (0, .ref ob), (1, .int 1)]) hx hb dX10_beside_121 rfl hl (by decide) rfl (fun ls hl => ?_)
            refine loopX (fun n H locs ls st => ∃ (v_1292 : Int32) (f_1293 : Nat → Int32), (16 - v_1292.toInt).toNat = n ∧ ((0 : Int) ≤ v_1292.toInt ∧ v_1292.toInt ≤ 16) ∧ (RWw f_1293) ∧ st = [] ∧ vPD G A H [(ce_X10 ob ob_thrown ob_world ob_images ob_hasImage ob_tape ob_taped ob_five ob_size ob_at ob_from ob_token ob_value ob_faultKind ob_faultPlace ob_fresh ob_parts ob_houses ob_houseMany ob_worthOf ob_byCall ob_over ob_bestSet ob_bestOver ob_bestWorth ob_row ob_tenDebts ob_tenMany ob_fewestBy ob_covered ob_queue ob_cameBy ob_parent ob_met ob_calls ob_callMany ob_calledOn ob_saved ob_many ob_width ob_numbers ob_moving), (ce_i9080 y ob_world f_1293), (ce_i27240 y ob_images fob_images), (ce_z3 y ob_hasImage fob_hasImage), (ce_i6 y ob_parts fob_parts), (ce_i9080 y ob_saved f_1068)] ∧ va_S A s.heap H locs ∧ lv_has ls 5 [(2, .int v_1292), (0, .ref ob)]) ?_ (n := (16 - (0 : Int32).toInt).toNat) ⟨0, f_1201, rfl, (bw (0) (16) (bkc (x := 0) (c := 0) (by decide)) (by decide)), kf_1201, rfl, ⟨hP, hD⟩, hS, lv_sub hl [0, 1] rfl⟩
            rintro n ih_1299 H locs ls st ⟨v_1292, f_1293, hn_1299, bv_1292, bf_1293, rfl, ⟨hP, hD⟩, hS, hl⟩
            refine lv_iload_n hx hb dX10_beside_122 rfl (lv_at hl 0 rfl) ?_
            refine lv_bipush (v := 16) hx hb dX10_beside_123 (by decide) ?_
            refine lv_icmp_ge (tgt := 151) hx hb dX10_beside_125 (by decide) (fun c_1300 => ?_) (fun c_1300 => ?_)
            · skip
              have nc_1300 := nb_le (16) (16) c_1300 (bkc (x := 16) (c := 16) (by decide)) bv_1292 (by decide)
              have h8f_1293 : (0 : Int) ≤ (f_1293 8).toInt ∧ (f_1293 8).toInt ≤ 600 := (bf_1293).1.1 8
              refine lv_aload_n hx hb dX10_beside_151 rfl (lv_at hl 1 rfl) ?_
              refine va_get (D := G) (ci := 10) (v := .ref ob_world) (C := RX10) (T := TX10) (N := 41) hx hb hw0 inA_wsX100 hown hK.1 hP 0 rfl rfl 1 (by decide) (hw0 _ m_352) (fun _ h9 => h9) rfl dX10_beside_152 ?_
              refine lv_bipush (v := 7) hx hb dX10_beside_155 (by decide) ?_
              refine lv_iconst (v := 0) hx hb dX10_beside_157 (by decide) ?_
              refine va_iast hx hb hK.1 hP hD hS 1 1 rfl rfl (vi (bkc (x := 7) (c := 7) (by decide)) (by decide)) dX10_beside_158 (fun H locs hP hD hS => ?_)
              generalize hf_1301 : (upd f_1293 (7 : Int32).toNatClampNeg 0) = f_1301 at hP hD
              have zf_1301_7 : (f_1301 7).toInt = 0 := by rw [← hf_1301]; exact (pin_eq (by decide)).trans (by decide)
              have zf_1301_8 : (f_1301 8).toInt = (f_1293 8).toInt := hf_1301 ▸ pin_ne (ix_not (bkc (x := 7) (c := 7) (by decide)) (by decide))
              have bf_1301 : RBw f_1301 := hf_1301 ▸ upk (bf_1293).1.1 (bkc (x := 0) (c := 0) (by decide)) (by decide)
              have cf_1301 : RVw f_1301 := ⟨bf_1301, by have h97 : (f_1293 7).toInt ≤ (f_1293 8).toInt := ((bf_1293).1).2; unfold W7; omega⟩
              have df_1301 : RWw f_1301 := ⟨cf_1301, hf_1301 ▸ WQ_up (bf_1293).1.1 (bf_1293).2 (qf_ix (bkc (x := 7) (c := 7) (by decide)) (by decide))⟩
              obtain ⟨hP, hD⟩ : vPD G A H [(ce_X10 ob ob_thrown ob_world ob_images ob_hasImage ob_tape ob_taped ob_five ob_size ob_at ob_from ob_token ob_value ob_faultKind ob_faultPlace ob_fresh ob_parts ob_houses ob_houseMany ob_worthOf ob_byCall ob_over ob_bestSet ob_bestOver ob_bestWorth ob_row ob_tenDebts ob_tenMany ob_fewestBy ob_covered ob_queue ob_cameBy ob_parent ob_met ob_calls ob_callMany ob_calledOn ob_saved ob_many ob_width ob_numbers ob_moving), (ce_i9080 y ob_world f_1301), (ce_i27240 y ob_images fob_images), (ce_z3 y ob_hasImage fob_hasImage), (ce_i6 y ob_parts fob_parts), (ce_i9080 y ob_saved f_1068)] := ⟨hP, hD⟩
              refine lv_iconst (v := 0) hx hb dX10_beside_159 (by decide) ?_
              refine lv_istore_n (lv' := [(2, .int 0), (0, .ref ob)]) hx hb dX10_beside_160 rfl hl (by decide) rfl (fun ls hl => ?_)
              refine loopX (fun n H locs ls st => ∃ (v_1358 : Int32) (f_1359 : Nat → Int32) (f_1360 : Nat → Int32), (600 - v_1358.toInt).toNat = n ∧ ((0 : Int) ≤ v_1358.toInt ∧ v_1358.toInt ≤ 600) ∧ (RWw f_1359) ∧ ((f_1359 7).toInt ≤ v_1358.toInt) ∧ st = [] ∧ vPD G A H [(ce_X10 ob ob_thrown ob_world ob_images ob_hasImage ob_tape ob_taped ob_five ob_size ob_at ob_from ob_token ob_value ob_faultKind ob_faultPlace ob_fresh ob_parts ob_houses ob_houseMany ob_worthOf ob_byCall ob_over ob_bestSet ob_bestOver ob_bestWorth ob_row ob_tenDebts ob_tenMany ob_fewestBy ob_covered ob_queue ob_cameBy ob_parent ob_met ob_calls ob_callMany ob_calledOn ob_saved ob_many ob_width ob_numbers ob_moving), (ce_i9080 y ob_world f_1359), (ce_i27240 y ob_images fob_images), (ce_z3 y ob_hasImage fob_hasImage), (ce_i6 y ob_parts f_1360), (ce_i9080 y ob_saved f_1068)] ∧ va_S A s.heap H locs ∧ lv_has ls 5 [(2, .int v_1358), (0, .ref ob)]) ?_ (n := (600 - (0 : Int32).toInt).toNat) ⟨0, f_1301, fob_parts, rfl, (bw (0) (600) (bkc (x := 0) (c := 0) (by decide)) (by decide)), df_1301, (by have h90 : Int32.toInt 0 = 0 := (by decide); omega), rfl, ⟨hP, hD⟩, hS, lv_sub hl [0, 1] rfl⟩
              rintro n ih_1377 H locs ls st ⟨v_1358, f_1359, f_1360, hn_1377, bv_1358, bf_1359, rl1360_0, rfl, ⟨hP, hD⟩, hS, hl⟩
              refine lv_iload_n hx hb dX10_beside_161 rfl (lv_at hl 0 rfl) ?_
              refine lv_aload_n hx hb dX10_beside_162 rfl (lv_at hl 1 rfl) ?_
              refine va_get (D := G) (ci := 10) (v := .ref ob_world) (C := RX10) (T := TX10) (N := 41) hx hb hw0 inA_wsX100 hown hK.1 hP 0 rfl rfl 1 (by decide) (hw0 _ m_352) (fun _ h9 => h9) rfl dX10_beside_163 ?_
              refine lv_bipush (v := 8) hx hb dX10_beside_166 (by decide) ?_
              refine va_iald hx hb hK.1 hP 1 1 rfl rfl (vi (bkc (x := 8) (c := 8) (by decide)) (by decide)) dX10_beside_168 ?_
              refine lv_topi (fun v_1378 ev_1378 => ?_)
              have bv_1378 : (0 : Int) ≤ v_1378.toInt ∧ v_1378.toInt ≤ 600 := rdk ev_1378 (bf_1359).1.1 (by decide)
              have yv_1378 : v_1378.toInt = (f_1359 8).toInt := congrArg Int32.toInt ev_1378
              refine lv_icmp_ge (tgt := 222) hx hb dX10_beside_169 (by decide) (fun c_1379 => ?_) (fun c_1379 => ?_)
              · skip
                have nc_1379 := nb_le (600) (0) c_1379 bv_1378 bv_1358 (by decide)
                refine lv_aload_n hx hb dX10_beside_222 rfl (lv_at hl 1 rfl) ?_
                refine va_get (D := G) (ci := 10) (v := .ref ob_world) (C := RX10) (T := TX10) (N := 41) hx hb hw0 inA_wsX100 hown hK.1 hP 0 rfl rfl 1 (by decide) (hw0 _ m_352) (fun _ h9 => h9) rfl dX10_beside_223 ?_
                refine lv_bipush (v := 7) hx hb dX10_beside_226 (by decide) ?_
                refine va_iald hx hb hK.1 hP 1 1 rfl rfl (vi (bkc (x := 7) (c := 7) (by decide)) (by decide)) dX10_beside_228 ?_
                refine lv_topi (fun v_1380 ev_1380 => ?_)
                have bv_1380 : (0 : Int) ≤ v_1380.toInt ∧ v_1380.toInt ≤ 600 := rdk ev_1380 (bf_1359).1.1 (by decide)
                have yv_1380 : v_1380.toInt = (f_1359 7).toInt := congrArg Int32.toInt ev_1380
                refine lv_istore_n (lv' := [(2, .int v_1380), (0, .ref ob)]) hx hb dX10_beside_229 rfl hl (by decide) rfl (fun ls hl => ?_)
                refine lv_iconst (v := 0) hx hb dX10_beside_230 (by decide) ?_
                refine lv_istore_n (lv' := [(3, .int 0), (2, .int v_1380), (0, .ref ob)]) hx hb dX10_beside_231 rfl hl (by decide) rfl (fun ls hl => ?_)
                refine loopX (fun n H locs ls st => ∃ (v_1440 : Int32) (f_1441 : Nat → Int32), (9080 - v_1440.toInt).toNat = n ∧ ((0 : Int) ≤ v_1440.toInt ∧ v_1440.toInt ≤ 9080) ∧ (cpR f_1441 f_1359 f_1068 0 0 0 v_1440.toInt) ∧ st = [] ∧ vPD G A H [(ce_X10 ob ob_thrown ob_world ob_images ob_hasImage ob_tape ob_taped ob_five ob_size ob_at ob_from ob_token ob_value ob_faultKind ob_faultPlace ob_fresh ob_parts ob_houses ob_houseMany ob_worthOf ob_byCall ob_over ob_bestSet ob_bestOver ob_bestWorth ob_row ob_tenDebts ob_tenMany ob_fewestBy ob_covered ob_queue ob_cameBy ob_parent ob_met ob_calls ob_callMany ob_calledOn ob_saved ob_many ob_width ob_numbers ob_moving), (ce_i9080 y ob_world f_1441), (ce_i27240 y ob_images fob_images), (ce_z3 y ob_hasImage fob_hasImage), (ce_i6 y ob_parts f_1360), (ce_i9080 y ob_saved f_1068)] ∧ va_S A s.heap H locs ∧ lv_has ls 5 [(3, .int v_1440), (2, .int v_1380), (0, .ref ob)]) ?_ (n := (9080 - (0 : Int32).toInt).toNat) ⟨0, f_1359, rfl, (bw (0) (9080) (bkc (x := 0) (c := 0) (by decide)) (by decide)), (cp_0 (by have h90 : Int32.toInt 0 = 0 := (by decide); omega)), rfl, ⟨hP, hD⟩, hS, lv_sub hl [0, 1, 2] rfl⟩
                rintro n ih_1445 H locs ls st ⟨v_1440, f_1441, hn_1445, bv_1440, rl1441_0, rfl, ⟨hP, hD⟩, hS, hl⟩
                refine lv_iload_n hx hb dX10_beside_232 rfl (lv_at hl 0 rfl) ?_
                refine lv_sipush (v := 9080) hx hb dX10_beside_233 (by decide) ?_
                refine lv_icmp_ge (tgt := 257) hx hb dX10_beside_236 (by decide) (fun c_1446 => ?_) (fun c_1446 => ?_)
                · skip
                  have nc_1446 := nb_le (9080) (9080) c_1446 (bkc (x := 9080) (c := 9080) (by decide)) bv_1440 (by decide)
                  have kf_1441 : RWw f_1441 := RW_same rl1441_0 (by omega) (RW_cong (cp_eq rl1068_0 (by omega)) p_fob_world)
                  refine lv_iload_n hx hb dX10_beside_257 rfl (lv_at hl 1 rfl) ?_
                  exact W.iret (v := v_1380) hx hb hr (fun t ht hW => ⟨⟨v_1380, _, rfl, ⟨v_1380, f_1441, f_1360, f_1068, (bw (-6) (600) bv_1380 (by decide)), kf_1441, rfl, rfl⟩, by rw [ht]; exact hP, hD⟩, hS.F ht⟩) hS.2.2 dX10_beside_258
                · skip
                  have nc_1446 := nb_nle (9079) (9080) c_1446 bv_1440 (bkc (x := 9080) (c := 9080) (by decide)) (by decide)
                  refine lv_aload_n hx hb dX10_beside_239 rfl (lv_at hl 2 rfl) ?_
                  refine va_get (D := G) (ci := 10) (v := .ref ob_world) (C := RX10) (T := TX10) (N := 41) hx hb hw0 inA_wsX100 hown hK.1 hP 0 rfl rfl 1 (by decide) (hw0 _ m_352) (fun _ h9 => h9) rfl dX10_beside_240 ?_
                  refine lv_iload_n hx hb dX10_beside_243 rfl (lv_at hl 0 rfl) ?_
                  refine lv_aload_n hx hb dX10_beside_244 rfl (lv_at hl 2 rfl) ?_
                  refine va_get (D := G) (ci := 10) (v := .ref ob_saved) (C := RX10) (T := TX10) (N := 41) hx hb hw0 inA_wsX100 hown hK.1 hP 0 rfl rfl 36 (by decide) (hw0 _ m_392) (fun _ h9 => h9) rfl dX10_beside_245 ?_
                  refine lv_iload_n hx hb dX10_beside_248 rfl (lv_at hl 0 rfl) ?_
                  refine va_iald hx hb hK.1 hP 5 1 rfl rfl (vi nc_1446.1 (by decide)) dX10_beside_249 ?_
                  refine lv_topi (fun v_1447 ev_1447 => ?_)
                  refine va_iast hx hb hK.1 hP hD hS 1 1 rfl rfl (vi nc_1446.1 (by decide)) dX10_beside_250 (fun H locs hP hD hS => ?_)
                  generalize hf_1448 : (upd f_1441 (v_1440 : Int32).toNatClampNeg v_1447) = f_1448 at hP hD
                  obtain ⟨hP, hD⟩ : vPD G A H [(ce_X10 ob ob_thrown ob_world ob_images ob_hasImage ob_tape ob_taped ob_five ob_size ob_at ob_from ob_token ob_value ob_faultKind ob_faultPlace ob_fresh ob_parts ob_houses ob_houseMany ob_worthOf ob_byCall ob_over ob_bestSet ob_bestOver ob_bestWorth ob_row ob_tenDebts ob_tenMany ob_fewestBy ob_covered ob_queue ob_cameBy ob_parent ob_met ob_calls ob_callMany ob_calledOn ob_saved ob_many ob_width ob_numbers ob_moving), (ce_i9080 y ob_world f_1448), (ce_i27240 y ob_images fob_images), (ce_z3 y ob_hasImage fob_hasImage), (ce_i6 y ob_parts f_1360), (ce_i9080 y ob_saved f_1068)] := ⟨hP, hD⟩
                  obtain ⟨v_1449, ev_1449⟩ : ∃ z : Int32, z = v_1440 + 1 := ⟨_, rfl⟩
                  have qv_1449 := ba_add ev_1449 nc_1446.1 (bkc (x := 1) (c := 1) (by decide)) (by decide)
                  have bv_1449 : (1 : Int) ≤ v_1449.toInt ∧ v_1449.toInt ≤ 9080 := bq_add qv_1449 nc_1446.1 (bkc (x := 1) (c := 1) (by decide)) _ _ (by decide)
                  have qv_1449 : v_1449.toInt = v_1440.toInt + (1) := qv_1449
                  refine lv_iinc (v := v_1449) (lv' := [(3, .int v_1449), (2, .int v_1380), (0, .ref ob)]) hx hb dX10_beside_251 hl (k := 0) rfl (ev_1449.symm) (by decide) rfl (fun ls hl => ?_)
                  refine lv_goto (tgt := 232) hx hb dX10_beside_254 (by decide) ?_
                  exact ih_1445 _ (ml_inc (hi := 9080) hn_1445 qv_1449 (by decide) ((bw (0) (9080) bv_1449 (by decide))).2) _ _ _ _ ⟨v_1449, f_1448, rfl, (bw (0) (9080) bv_1449 (by decide)), (cp_s rl1441_0 hf_1448 ev_1447 ((cl_to (by omega)).trans (by omega)) ((cl_to (by omega)).trans (by omega)) (by omega) (by omega)), rfl, ⟨hP, hD⟩, hS, lv_sub hl [0, 1, 2] rfl⟩
              · skip
                have nc_1379 := nb_nle (599) (1) c_1379 bv_1358 bv_1378 (by decide)
                refine lv_sipush (v := 6680) hx hb dX10_beside_172 (by decide) ?_
                refine lv_iconst (v := 4) hx hb dX10_beside_175 (by decide) ?_
                refine lv_iload_n hx hb dX10_beside_176 rfl (lv_at hl 0 rfl) ?_
                refine lv_imul hx hb dX10_beside_177 ?_
                refine lv_topi (fun v_1450 ev_1450 => ?_)
                have qv_1450 := ba_mul 4 (ev_1450.trans (Int32.mul_comm _ _)) nc_1379.1 (by decide) (by decide) (by decide)
                have bv_1450 : (0 : Int) ≤ v_1450.toInt ∧ v_1450.toInt ≤ 2396 := qv_1450.2
                refine lv_iadd hx hb dX10_beside_178 ?_
                refine lv_topi (fun v_1451 ev_1451 => ?_)
                have qv_1451 := ba_add ev_1451 (bkc (x := 6680) (c := 6680) (by decide)) bv_1450 (by decide)
                have bv_1451 : (6680 : Int) ≤ v_1451.toInt ∧ v_1451.toInt ≤ 9076 := bq_add qv_1451 (bkc (x := 6680) (c := 6680) (by decide)) bv_1450 _ _ (by decide)
                have qv_1451 : v_1451.toInt = (6680) + v_1450.toInt := qv_1451
                refine lv_istore_n (lv' := [(3, .int v_1451), (2, .int v_1358), (0, .ref ob)]) hx hb dX10_beside_179 rfl hl (by decide) rfl (fun ls hl => ?_)
                refine lv_aload_n hx hb dX10_beside_180 rfl (lv_at hl 2 rfl) ?_
                refine lv_aload_n hx hb dX10_beside_181 rfl (lv_at hl 2 rfl) ?_
                refine va_get (D := G) (ci := 10) (v := .ref ob_world) (C := RX10) (T := TX10) (N := 41) hx hb hw0 inA_wsX100 hown hK.1 hP 0 rfl rfl 1 (by decide) (hw0 _ m_352) (fun _ h9 => h9) rfl dX10_beside_182 ?_
                refine lv_iload_n hx hb dX10_beside_185 rfl (lv_at hl 0 rfl) ?_
                refine va_iald hx hb hK.1 hP 1 1 rfl rfl (vi bv_1451 (by decide)) dX10_beside_186 ?_
                refine lv_topi (fun v_1452 ev_1452 => ?_)
                have bv_1452 : (0 : Int) ≤ v_1452.toInt ∧ v_1452.toInt ≤ 15 := rdw ev_1452 (bf_1359).1.1 pl_70 (by omega) (nc_1379.1)
                refine lv_aload_n hx hb dX10_beside_187 rfl (lv_at hl 2 rfl) ?_
                refine va_get (D := G) (ci := 10) (v := .ref ob_world) (C := RX10) (T := TX10) (N := 41) hx hb hw0 inA_wsX100 hown hK.1 hP 0 rfl rfl 1 (by decide) (hw0 _ m_352) (fun _ h9 => h9) rfl dX10_beside_188 ?_
                refine lv_iload_n hx hb dX10_beside_191 rfl (lv_at hl 0 rfl) ?_
                refine lv_iconst (v := 1) hx hb dX10_beside_192 (by decide) ?_
                refine lv_iadd hx hb dX10_beside_193 ?_
                refine lv_topi (fun v_1453 ev_1453 => ?_)
                have qv_1453 := ba_add ev_1453 bv_1451 (bkc (x := 1) (c := 1) (by decide)) (by decide)
                have bv_1453 : (6681 : Int) ≤ v_1453.toInt ∧ v_1453.toInt ≤ 9077 := bq_add qv_1453 bv_1451 (bkc (x := 1) (c := 1) (by decide)) _ _ (by decide)
                have qv_1453 : v_1453.toInt = v_1451.toInt + (1) := qv_1453
                refine va_iald hx hb hK.1 hP 1 1 rfl rfl (vi bv_1453 (by decide)) dX10_beside_194 ?_
                refine lv_topi (fun v_1454 ev_1454 => ?_)
                have bv_1454 : (0 : Int) ≤ v_1454.toInt ∧ v_1454.toInt ≤ 15 := rdw ev_1454 (bf_1359).1.1 pl_71 (by omega) (nc_1379.1)
                refine lv_aload_n hx hb dX10_beside_195 rfl (lv_at hl 2 rfl) ?_
                refine va_get (D := G) (ci := 10) (v := .ref ob_world) (C := RX10) (T := TX10) (N := 41) hx hb hw0 inA_wsX100 hown hK.1 hP 0 rfl rfl 1 (by decide) (hw0 _ m_352) (fun _ h9 => h9) rfl dX10_beside_196 ?_
                refine lv_iload_n hx hb dX10_beside_199 rfl (lv_at hl 0 rfl) ?_
                refine lv_iconst (v := 2) hx hb dX10_beside_200 (by decide) ?_
                refine lv_iadd hx hb dX10_beside_201 ?_
                refine lv_topi (fun v_1455 ev_1455 => ?_)
                have qv_1455 := ba_add ev_1455 bv_1451 (bkc (x := 2) (c := 2) (by decide)) (by decide)
                have bv_1455 : (6682 : Int) ≤ v_1455.toInt ∧ v_1455.toInt ≤ 9078 := bq_add qv_1455 bv_1451 (bkc (x := 2) (c := 2) (by decide)) _ _ (by decide)
                have qv_1455 : v_1455.toInt = v_1451.toInt + (2) := qv_1455
                refine va_iald hx hb hK.1 hP 1 1 rfl rfl (vi bv_1455 (by decide)) dX10_beside_202 ?_
                refine lv_topi (fun v_1456 ev_1456 => ?_)
                refine lv_aload_n hx hb dX10_beside_203 rfl (lv_at hl 2 rfl) ?_
                refine va_get (D := G) (ci := 10) (v := .ref ob_world) (C := RX10) (T := TX10) (N := 41) hx hb hw0 inA_wsX100 hown hK.1 hP 0 rfl rfl 1 (by decide) (hw0 _ m_352) (fun _ h9 => h9) rfl dX10_beside_204 ?_
                refine lv_iload_n hx hb dX10_beside_207 rfl (lv_at hl 0 rfl) ?_
                refine lv_iconst (v := 3) hx hb dX10_beside_208 (by decide) ?_
                refine lv_iadd hx hb dX10_beside_209 ?_
                refine lv_topi (fun v_1457 ev_1457 => ?_)
                have qv_1457 := ba_add ev_1457 bv_1451 (bkc (x := 3) (c := 3) (by decide)) (by decide)
                have bv_1457 : (6683 : Int) ≤ v_1457.toInt ∧ v_1457.toInt ≤ 9079 := bq_add qv_1457 bv_1451 (bkc (x := 3) (c := 3) (by decide)) _ _ (by decide)
                have qv_1457 : v_1457.toInt = v_1451.toInt + (3) := qv_1457
                refine va_iald hx hb hK.1 hP 1 1 rfl rfl (vi bv_1457 (by decide)) dX10_beside_210 ?_
                refine lv_topi (fun v_1458 ev_1458 => ?_)
                refine cVim (As := [.int v_1452, .int v_1454, .int v_1456, .int v_1458]) (rest := []) ⟨hx, hb, hml, hown, hw0⟩ hA hK hP hD hS [true, true, false, false, true] (sX10_goes l G y _ ob v_1452 v_1454 v_1456 v_1458 ob_thrown ob_world ob_images ob_hasImage ob_tape ob_taped ob_five ob_size ob_at ob_from ob_token ob_value ob_faultKind ob_faultPlace ob_fresh ob_parts ob_houses ob_houseMany ob_worthOf ob_byCall ob_over ob_bestSet ob_bestOver ob_bestWorth ob_row ob_tenDebts ob_tenMany ob_fewestBy ob_covered ob_queue ob_cameBy ob_parent ob_met ob_calls ob_callMany ob_calledOn ob_saved ob_many ob_width ob_numbers ob_moving f_1359 f_1360 bf_1359 p_ob_taped p_ob_size p_ob_at p_ob_from p_ob_token p_ob_value p_ob_faultKind p_ob_houseMany p_ob_bestSet p_ob_bestOver p_ob_tenMany p_ob_callMany bv_1452 bv_1454 (by omega)) rfl ⟨(callB_of 4 hw0 (gA m_489) rfl rfl rfl (hw0 _ m_41) (hw0 _ m_393) cb_X10_goes ⟨Nat.le_of_ble_eq_true rfl, Nat.le_of_ble_eq_true rfl⟩), (hw0 _ m_394), (hw0 _ m_395)⟩ (ci := 10) (q := (RX10, TX10, 41)) rfl rfl rfl hl.1 (Nat.le_of_ble_eq_true rfl) dX10_beside_211 ⟨Nat.le_of_ble_eq_true rfl, Nat.le_of_ble_eq_true rfl⟩ (fun r_1459 w_1459 H locs hw_1459 hP hD hS => ?_)
                obtain ⟨v_1460, f_1461, f_1462, bf_1461, h_1463, er_1459, rfl⟩ := hw_1459
                subst r_1459
                obtain ⟨hP, hD⟩ : vPD G A H [(ce_X10 ob ob_thrown ob_world ob_images ob_hasImage ob_tape ob_taped ob_five ob_size ob_at ob_from ob_token ob_value ob_faultKind ob_faultPlace ob_fresh ob_parts ob_houses ob_houseMany ob_worthOf ob_byCall ob_over ob_bestSet ob_bestOver ob_bestWorth ob_row ob_tenDebts ob_tenMany ob_fewestBy ob_covered ob_queue ob_cameBy ob_parent ob_met ob_calls ob_callMany ob_calledOn ob_saved ob_many ob_width ob_numbers ob_moving), (ce_i9080 y ob_world f_1461), (ce_i27240 y ob_images fob_images), (ce_z3 y ob_hasImage fob_hasImage), (ce_i6 y ob_parts f_1462), (ce_i9080 y ob_saved f_1068)] := ⟨hP, hD⟩
                refine lv_istore (lv' := [(4, .int v_1460), (3, .int v_1451), (2, .int v_1358), (0, .ref ob)]) hx hb dX10_beside_214 hl (by decide) rfl (fun ls hl => ?_)
                obtain ⟨v_1464, ev_1464⟩ : ∃ z : Int32, z = v_1358 + 1 := ⟨_, rfl⟩
                have qv_1464 := ba_add ev_1464 nc_1379.1 (bkc (x := 1) (c := 1) (by decide)) (by decide)
                have bv_1464 : (1 : Int) ≤ v_1464.toInt ∧ v_1464.toInt ≤ 600 := bq_add qv_1464 nc_1379.1 (bkc (x := 1) (c := 1) (by decide)) _ _ (by decide)
                have qv_1464 : v_1464.toInt = v_1358.toInt + (1) := qv_1464
                refine lv_iinc (v := v_1464) (lv' := [(2, .int v_1464), (4, .int v_1460), (3, .int v_1451), (0, .ref ob)]) hx hb dX10_beside_216 hl (k := 2) rfl (ev_1464.symm) (by decide) rfl (fun ls hl => ?_)
                refine lv_goto (tgt := 161) hx hb dX10_beside_219 (by decide) ?_
                exact ih_1377 _ (ml_inc (hi := 600) hn_1377 qv_1464 (by decide) ((bw (0) (600) bv_1464 (by decide))).2) _ _ _ _ ⟨v_1464, f_1461, f_1462, rfl, (bw (0) (600) bv_1464 (by decide)), bf_1461, (by omega), rfl, ⟨hP, hD⟩, hS, lv_sub hl [0, 3] rfl⟩
            · skip
              have nc_1300 := nb_nle (15) (16) c_1300 bv_1292 (bkc (x := 16) (c := 16) (by decide)) (by decide)
              refine lv_aload_n hx hb dX10_beside_128 rfl (lv_at hl 1 rfl) ?_
              refine va_get (D := G) (ci := 10) (v := .ref ob_world) (C := RX10) (T := TX10) (N := 41) hx hb hw0 inA_wsX100 hown hK.1 hP 0 rfl rfl 1 (by decide) (hw0 _ m_352) (fun _ h9 => h9) rfl dX10_beside_129 ?_
              refine lv_sipush (v := 1864) hx hb dX10_beside_132 (by decide) ?_
              refine lv_iload_n hx hb dX10_beside_135 rfl (lv_at hl 0 rfl) ?_
              refine lv_iadd hx hb dX10_beside_136 ?_
              refine lv_topi (fun v_1465 ev_1465 => ?_)
              have qv_1465 := ba_add ev_1465 (bkc (x := 1864) (c := 1864) (by decide)) nc_1300.1 (by decide)
              have bv_1465 : (1864 : Int) ≤ v_1465.toInt ∧ v_1465.toInt ≤ 1879 := bq_add qv_1465 (bkc (x := 1864) (c := 1864) (by decide)) nc_1300.1 _ _ (by decide)
              have qv_1465 : v_1465.toInt = (1864) + v_1292.toInt := qv_1465
              refine lv_aload_n hx hb dX10_beside_137 rfl (lv_at hl 1 rfl) ?_
              refine lv_iload_n hx hb dX10_beside_138 rfl (lv_at hl 0 rfl) ?_
              refine lv_bipush (v := 8) hx hb dX10_beside_139 (by decide) ?_
              refine cVim (As := [.int v_1292, .int 8]) (rest := [.int v_1465, .ref ob_world]) ⟨hx, hb, hml, hown, hw0⟩ hA hK hP hD hS [true, true] (sofHouse8 l G y _ ob v_1292 ob_thrown ob_world ob_images ob_hasImage ob_tape ob_taped ob_five ob_size ob_at ob_from ob_token ob_value ob_faultKind ob_faultPlace ob_fresh ob_parts ob_houses ob_houseMany ob_worthOf ob_byCall ob_over ob_bestSet ob_bestOver ob_bestWorth ob_row ob_tenDebts ob_tenMany ob_fewestBy ob_covered ob_queue ob_cameBy ob_parent ob_met ob_calls ob_callMany ob_calledOn ob_saved ob_many ob_width ob_numbers ob_moving f_1293 bf_1293 p_ob_taped p_ob_size p_ob_at p_ob_from p_ob_token p_ob_value p_ob_faultKind p_ob_houseMany p_ob_bestSet p_ob_bestOver p_ob_tenMany p_ob_callMany nc_1300.1) rfl ⟨(callB_of 2 hw0 (gA m_577) rfl rfl rfl (hw0 _ m_41) (hw0 _ m_388) cb_X10_ofHouse ⟨Nat.le_of_ble_eq_true rfl, Nat.le_of_ble_eq_true rfl⟩), (hw0 _ m_389), (hw0 _ m_390)⟩ (ci := 10) (q := (RX10, TX10, 41)) rfl rfl rfl hl.1 (Nat.le_of_ble_eq_true rfl) dX10_beside_141 ⟨Nat.le_of_ble_eq_true rfl, Nat.le_of_ble_eq_true rfl⟩ (fun r_1466 w_1466 H locs hw_1466 hP hD hS => ?_)
              obtain ⟨v_1467, bv_1467, er_1466, rfl⟩ := hw_1466
              subst r_1466
              obtain ⟨hP, hD⟩ : vPD G A H [(ce_X10 ob ob_thrown ob_world ob_images ob_hasImage ob_tape ob_taped ob_five ob_size ob_at ob_from ob_token ob_value ob_faultKind ob_faultPlace ob_fresh ob_parts ob_houses ob_houseMany ob_worthOf ob_byCall ob_over ob_bestSet ob_bestOver ob_bestWorth ob_row ob_tenDebts ob_tenMany ob_fewestBy ob_covered ob_queue ob_cameBy ob_parent ob_met ob_calls ob_callMany ob_calledOn ob_saved ob_many ob_width ob_numbers ob_moving), (ce_i9080 y ob_world f_1293), (ce_i27240 y ob_images fob_images), (ce_z3 y ob_hasImage fob_hasImage), (ce_i6 y ob_parts fob_parts), (ce_i9080 y ob_saved f_1068)] := ⟨hP, hD⟩
              refine va_iast hx hb hK.1 hP hD hS 1 1 rfl rfl (vi bv_1465 (by decide)) dX10_beside_144 (fun H locs hP hD hS => ?_)
              generalize hf_1468 : (upd f_1293 (v_1465 : Int32).toNatClampNeg v_1467) = f_1468 at hP hD
              have zf_1468_7 : (f_1468 7).toInt = (f_1293 7).toInt := hf_1468 ▸ pin_ne (ix_not bv_1465 (by decide))
              have zf_1468_8 : (f_1468 8).toInt = (f_1293 8).toInt := hf_1468 ▸ pin_ne (ix_not bv_1465 (by decide))
              have bf_1468 : RBw f_1468 := hf_1468 ▸ upw (bf_1293).1.1 pl_9 (by omega) (nc_1300.1) bv_1467
              have cf_1468 : RVw f_1468 := hf_1468 ▸ RV_up (bf_1293).1 (hf_1468 ▸ bf_1468) (ix_out bv_1465 (by decide))
              have df_1468 : RWw f_1468 := ⟨cf_1468, hf_1468 ▸ WQ_up (bf_1293).1.1 (bf_1293).2 (qf_ix bv_1465 (by decide))⟩
              obtain ⟨hP, hD⟩ : vPD G A H [(ce_X10 ob ob_thrown ob_world ob_images ob_hasImage ob_tape ob_taped ob_five ob_size ob_at ob_from ob_token ob_value ob_faultKind ob_faultPlace ob_fresh ob_parts ob_houses ob_houseMany ob_worthOf ob_byCall ob_over ob_bestSet ob_bestOver ob_bestWorth ob_row ob_tenDebts ob_tenMany ob_fewestBy ob_covered ob_queue ob_cameBy ob_parent ob_met ob_calls ob_callMany ob_calledOn ob_saved ob_many ob_width ob_numbers ob_moving), (ce_i9080 y ob_world f_1468), (ce_i27240 y ob_images fob_images), (ce_z3 y ob_hasImage fob_hasImage), (ce_i6 y ob_parts fob_parts), (ce_i9080 y ob_saved f_1068)] := ⟨hP, hD⟩
              obtain ⟨v_1469, ev_1469⟩ : ∃ z : Int32, z = v_1292 + 1 := ⟨_, rfl⟩
              have qv_1469 := ba_add ev_1469 nc_1300.1 (bkc (x := 1) (c := 1) (by decide)) (by decide)
              have bv_1469 : (1 : Int) ≤ v_1469.toInt ∧ v_1469.toInt ≤ 16 := bq_add qv_1469 nc_1300.1 (bkc (x := 1) (c := 1) (by decide)) _ _ (by decide)
              have qv_1469 : v_1469.toInt = v_1292.toInt + (1) := qv_1469
              refine lv_iinc (v := v_1469) (lv' := [(2, .int v_1469), (0, .ref ob)]) hx hb dX10_beside_145 hl (k := 0) rfl (ev_1469.symm) (by decide) rfl (fun ls hl => ?_)
              refine lv_goto (tgt := 122) hx hb dX10_beside_148 (by decide) ?_
              exact ih_1299 _ (ml_inc (hi := 16) hn_1299 qv_1469 (by decide) ((bw (0) (16) bv_1469 (by decide))).2) _ _ _ _ ⟨v_1469, f_1468, rfl, (bw (0) (16) bv_1469 (by decide)), df_1468, rfl, ⟨hP, hD⟩, hS, lv_sub hl [0, 1] rfl⟩
          · skip
            have nc_1208 := nb_nlt (3) (3) c_1208 bv_1200 (bkc (x := 3) (c := 3) (by decide)) (by decide)
            refine lv_aload_n hx hb dX10_beside_96 rfl (lv_at hl 1 rfl) ?_
            refine va_get (D := G) (ci := 10) (v := .ref ob_world) (C := RX10) (T := TX10) (N := 41) hx hb hw0 inA_wsX100 hown hK.1 hP 0 rfl rfl 1 (by decide) (hw0 _ m_352) (fun _ h9 => h9) rfl dX10_beside_97 ?_
            refine lv_iload_n hx hb dX10_beside_100 rfl (lv_at hl 0 rfl) ?_
            refine lv_aload_n hx hb dX10_beside_101 rfl (lv_at hl 1 rfl) ?_
            refine va_get (D := G) (ci := 10) (v := .ref ob_images) (C := RX10) (T := TX10) (N := 41) hx hb hw0 inA_wsX100 hown hK.1 hP 0 rfl rfl 2 (by decide) (hw0 _ m_362) (fun _ h9 => h9) rfl dX10_beside_102 ?_
            refine lv_sipush (v := 9080) hx hb dX10_beside_105 (by decide) ?_
            refine lv_iload_n hx hb dX10_beside_108 rfl (lv_at hl 2 rfl) ?_
            refine lv_imul hx hb dX10_beside_109 ?_
            refine lv_topi (fun v_1470 ev_1470 => ?_)
            obtain rfl : 9080 = v_1470 := (ev_1470.trans (by decide)).symm
            refine lv_iload_n hx hb dX10_beside_110 rfl (lv_at hl 0 rfl) ?_
            refine lv_iadd hx hb dX10_beside_111 ?_
            refine lv_topi (fun v_1471 ev_1471 => ?_)
            have qv_1471 := ba_add ev_1471 (bkc (x := 9080) (c := 9080) (by decide)) nc_1208.1 (by decide)
            have bv_1471 : (9081 : Int) ≤ v_1471.toInt ∧ v_1471.toInt ≤ 9083 := bq_add qv_1471 (bkc (x := 9080) (c := 9080) (by decide)) nc_1208.1 _ _ (by decide)
            have qv_1471 : v_1471.toInt = (9080) + v_1200.toInt := qv_1471
            refine va_iald hx hb hK.1 hP 2 1 rfl rfl (vi bv_1471 (by decide)) dX10_beside_112 ?_
            refine lv_topi (fun v_1472 ev_1472 => ?_)
            refine va_iast hx hb hK.1 hP hD hS 1 1 rfl rfl (vi nc_1208.1 (by decide)) dX10_beside_113 (fun H locs hP hD hS => ?_)
            generalize hf_1473 : (upd f_1201 (v_1200 : Int32).toNatClampNeg v_1472) = f_1473 at hP hD
            have zf_1473_7 : (f_1473 7).toInt = (f_1201 7).toInt := hf_1473 ▸ pin_ne (ix_not nc_1208.1 (by decide))
            have zf_1473_8 : (f_1473 8).toInt = (f_1201 8).toInt := hf_1473 ▸ pin_ne (ix_not nc_1208.1 (by decide))
            obtain ⟨hP, hD⟩ : vPD G A H [(ce_X10 ob ob_thrown ob_world ob_images ob_hasImage ob_tape ob_taped ob_five ob_size ob_at ob_from ob_token ob_value ob_faultKind ob_faultPlace ob_fresh ob_parts ob_houses ob_houseMany ob_worthOf ob_byCall ob_over ob_bestSet ob_bestOver ob_bestWorth ob_row ob_tenDebts ob_tenMany ob_fewestBy ob_covered ob_queue ob_cameBy ob_parent ob_met ob_calls ob_callMany ob_calledOn ob_saved ob_many ob_width ob_numbers ob_moving), (ce_i9080 y ob_world f_1473), (ce_i27240 y ob_images fob_images), (ce_z3 y ob_hasImage fob_hasImage), (ce_i6 y ob_parts fob_parts), (ce_i9080 y ob_saved f_1068)] := ⟨hP, hD⟩
            obtain ⟨v_1474, ev_1474⟩ : ∃ z : Int32, z = v_1200 + 1 := ⟨_, rfl⟩
            have qv_1474 := ba_add ev_1474 nc_1208.1 (bkc (x := 1) (c := 1) (by decide)) (by decide)
            have bv_1474 : (2 : Int) ≤ v_1474.toInt ∧ v_1474.toInt ≤ 4 := bq_add qv_1474 nc_1208.1 (bkc (x := 1) (c := 1) (by decide)) _ _ (by decide)
            have qv_1474 : v_1474.toInt = v_1200.toInt + (1) := qv_1474
            refine lv_iinc (v := v_1474) (lv' := [(2, .int v_1474), (0, .ref ob), (1, .int 1)]) hx hb dX10_beside_114 hl (k := 0) rfl (ev_1474.symm) (by decide) rfl (fun ls hl => ?_)
            refine lv_goto (tgt := 91) hx hb dX10_beside_117 (by decide) ?_
            exact ih_1207 _ (ml_inc (hi := 4) hn_1207 qv_1474 (by decide) ((bw (1) (4) bv_1474 (by decide))).2) _ _ _ _ ⟨v_1474, f_1473, rfl, (bw (1) (4) bv_1474 (by decide)), (cp_s rl1201_0 hf_1473 ev_1472 ((cl_to (by omega)).trans (by omega)) ((cl_to (by omega)).trans (by omega)) (by omega) (by omega)), rfl, ⟨hP, hD⟩, hS, lv_sub hl [0, 1, 2] rfl⟩
        · skip
          have nc_1165 := nb_nle (1863) (1864) c_1165 bv_1157 (bkc (x := 1864) (c := 1864) (by decide)) (by decide)
          refine lv_aload_n hx hb dX10_beside_65 rfl (lv_at hl 1 rfl) ?_
          refine va_get (D := G) (ci := 10) (v := .ref ob_world) (C := RX10) (T := TX10) (N := 41) hx hb hw0 inA_wsX100 hown hK.1 hP 0 rfl rfl 1 (by decide) (hw0 _ m_352) (fun _ h9 => h9) rfl dX10_beside_66 ?_
          refine lv_iload_n hx hb dX10_beside_69 rfl (lv_at hl 0 rfl) ?_
          refine lv_aload_n hx hb dX10_beside_70 rfl (lv_at hl 1 rfl) ?_
          refine va_get (D := G) (ci := 10) (v := .ref ob_images) (C := RX10) (T := TX10) (N := 41) hx hb hw0 inA_wsX100 hown hK.1 hP 0 rfl rfl 2 (by decide) (hw0 _ m_362) (fun _ h9 => h9) rfl dX10_beside_71 ?_
          refine lv_sipush (v := 9080) hx hb dX10_beside_74 (by decide) ?_
          refine lv_iload_n hx hb dX10_beside_77 rfl (lv_at hl 2 rfl) ?_
          refine lv_imul hx hb dX10_beside_78 ?_
          refine lv_topi (fun v_1475 ev_1475 => ?_)
          obtain rfl : 9080 = v_1475 := (ev_1475.trans (by decide)).symm
          refine lv_iload_n hx hb dX10_beside_79 rfl (lv_at hl 0 rfl) ?_
          refine lv_iadd hx hb dX10_beside_80 ?_
          refine lv_topi (fun v_1476 ev_1476 => ?_)
          have qv_1476 := ba_add ev_1476 (bkc (x := 9080) (c := 9080) (by decide)) nc_1165.1 (by decide)
          have bv_1476 : (9234 : Int) ≤ v_1476.toInt ∧ v_1476.toInt ≤ 10943 := bq_add qv_1476 (bkc (x := 9080) (c := 9080) (by decide)) nc_1165.1 _ _ (by decide)
          have qv_1476 : v_1476.toInt = (9080) + v_1157.toInt := qv_1476
          refine va_iald hx hb hK.1 hP 2 1 rfl rfl (vi bv_1476 (by decide)) dX10_beside_81 ?_
          refine lv_topi (fun v_1477 ev_1477 => ?_)
          refine va_iast hx hb hK.1 hP hD hS 1 1 rfl rfl (vi nc_1165.1 (by decide)) dX10_beside_82 (fun H locs hP hD hS => ?_)
          generalize hf_1478 : (upd f_1158 (v_1157 : Int32).toNatClampNeg v_1477) = f_1478 at hP hD
          have zf_1478_7 : (f_1478 7).toInt = (f_1158 7).toInt := hf_1478 ▸ pin_ne (ix_not nc_1165.1 (by decide))
          have zf_1478_8 : (f_1478 8).toInt = (f_1158 8).toInt := hf_1478 ▸ pin_ne (ix_not nc_1165.1 (by decide))
          obtain ⟨hP, hD⟩ : vPD G A H [(ce_X10 ob ob_thrown ob_world ob_images ob_hasImage ob_tape ob_taped ob_five ob_size ob_at ob_from ob_token ob_value ob_faultKind ob_faultPlace ob_fresh ob_parts ob_houses ob_houseMany ob_worthOf ob_byCall ob_over ob_bestSet ob_bestOver ob_bestWorth ob_row ob_tenDebts ob_tenMany ob_fewestBy ob_covered ob_queue ob_cameBy ob_parent ob_met ob_calls ob_callMany ob_calledOn ob_saved ob_many ob_width ob_numbers ob_moving), (ce_i9080 y ob_world f_1478), (ce_i27240 y ob_images fob_images), (ce_z3 y ob_hasImage fob_hasImage), (ce_i6 y ob_parts fob_parts), (ce_i9080 y ob_saved f_1068)] := ⟨hP, hD⟩
          obtain ⟨v_1479, ev_1479⟩ : ∃ z : Int32, z = v_1157 + 1 := ⟨_, rfl⟩
          have qv_1479 := ba_add ev_1479 nc_1165.1 (bkc (x := 1) (c := 1) (by decide)) (by decide)
          have bv_1479 : (155 : Int) ≤ v_1479.toInt ∧ v_1479.toInt ≤ 1864 := bq_add qv_1479 nc_1165.1 (bkc (x := 1) (c := 1) (by decide)) _ _ (by decide)
          have qv_1479 : v_1479.toInt = v_1157.toInt + (1) := qv_1479
          refine lv_iinc (v := v_1479) (lv' := [(2, .int v_1479), (0, .ref ob), (1, .int 1)]) hx hb dX10_beside_83 hl (k := 0) rfl (ev_1479.symm) (by decide) rfl (fun ls hl => ?_)
          refine lv_goto (tgt := 58) hx hb dX10_beside_86 (by decide) ?_
          exact ih_1164 _ (ml_inc (hi := 1864) hn_1164 qv_1479 (by decide) ((bw (154) (1864) bv_1479 (by decide))).2) _ _ _ _ ⟨v_1479, f_1478, rfl, (bw (154) (1864) bv_1479 (by decide)), (cp_s rl1158_0 hf_1478 ev_1477 ((cl_to (by omega)).trans (by omega)) ((cl_to (by omega)).trans (by omega)) (by omega) (by omega)), rfl, ⟨hP, hD⟩, hS, lv_sub hl [0, 1, 2] rfl⟩
      · skip
        have nc_1073 := nb_nle (9079) (9080) c_1073 bv_1067 (bkc (x := 9080) (c := 9080) (by decide)) (by decide)
        refine lv_aload_n hx hb dX10_beside_36 rfl (lv_at hl 1 rfl) ?_
        refine va_get (D := G) (ci := 10) (v := .ref ob_saved) (C := RX10) (T := TX10) (N := 41) hx hb hw0 inA_wsX100 hown hK.1 hP 0 rfl rfl 36 (by decide) (hw0 _ m_392) (fun _ h9 => h9) rfl dX10_beside_37 ?_
        refine lv_iload_n hx hb dX10_beside_40 rfl (lv_at hl 0 rfl) ?_
        refine lv_aload_n hx hb dX10_beside_41 rfl (lv_at hl 1 rfl) ?_
        refine va_get (D := G) (ci := 10) (v := .ref ob_world) (C := RX10) (T := TX10) (N := 41) hx hb hw0 inA_wsX100 hown hK.1 hP 0 rfl rfl 1 (by decide) (hw0 _ m_352) (fun _ h9 => h9) rfl dX10_beside_42 ?_
        refine lv_iload_n hx hb dX10_beside_45 rfl (lv_at hl 0 rfl) ?_
        refine va_iald hx hb hK.1 hP 1 1 rfl rfl (vi nc_1073.1 (by decide)) dX10_beside_46 ?_
        refine lv_topi (fun v_1480 ev_1480 => ?_)
        refine va_iast hx hb hK.1 hP hD hS 5 1 rfl rfl (vi nc_1073.1 (by decide)) dX10_beside_47 (fun H locs hP hD hS => ?_)
        generalize hf_1481 : (upd f_1068 (v_1067 : Int32).toNatClampNeg v_1480) = f_1481 at hP hD
        obtain ⟨hP, hD⟩ : vPD G A H [(ce_X10 ob ob_thrown ob_world ob_images ob_hasImage ob_tape ob_taped ob_five ob_size ob_at ob_from ob_token ob_value ob_faultKind ob_faultPlace ob_fresh ob_parts ob_houses ob_houseMany ob_worthOf ob_byCall ob_over ob_bestSet ob_bestOver ob_bestWorth ob_row ob_tenDebts ob_tenMany ob_fewestBy ob_covered ob_queue ob_cameBy ob_parent ob_met ob_calls ob_callMany ob_calledOn ob_saved ob_many ob_width ob_numbers ob_moving), (ce_i9080 y ob_world fob_world), (ce_i27240 y ob_images fob_images), (ce_z3 y ob_hasImage fob_hasImage), (ce_i6 y ob_parts fob_parts), (ce_i9080 y ob_saved f_1481)] := ⟨hP, hD⟩
        obtain ⟨v_1482, ev_1482⟩ : ∃ z : Int32, z = v_1067 + 1 := ⟨_, rfl⟩
        have qv_1482 := ba_add ev_1482 nc_1073.1 (bkc (x := 1) (c := 1) (by decide)) (by decide)
        have bv_1482 : (1 : Int) ≤ v_1482.toInt ∧ v_1482.toInt ≤ 9080 := bq_add qv_1482 nc_1073.1 (bkc (x := 1) (c := 1) (by decide)) _ _ (by decide)
        have qv_1482 : v_1482.toInt = v_1067.toInt + (1) := qv_1482
        refine lv_iinc (v := v_1482) (lv' := [(2, .int v_1482), (0, .ref ob), (1, .int 1)]) hx hb dX10_beside_48 hl (k := 0) rfl (ev_1482.symm) (by decide) rfl (fun ls hl => ?_)
        refine lv_goto (tgt := 29) hx hb dX10_beside_51 (by decide) ?_
        exact ih_1072 _ (ml_inc (hi := 9080) hn_1072 qv_1482 (by decide) ((bw (0) (9080) bv_1482 (by decide))).2) _ _ _ _ ⟨v_1482, f_1481, rfl, (bw (0) (9080) bv_1482 (by decide)), (cp_s rl1068_0 hf_1481 ev_1480 ((cl_to (by omega)).trans (by omega)) ((cl_to (by omega)).trans (by omega)) (by omega) (by omega)), rfl, ⟨hP, hD⟩, hS, lv_sub hl [0, 1, 2] rfl⟩
    · skip
      have nc_1007 := nb_eq (0) (0) c_1007 bv_1006 (bkc (x := 0) (c := 0) (by decide)) (by decide)
      refine lv_bipush (v := (-6)) hx hb dX10_beside_24 (by decide) ?_
      exact W.iret (v := (-6)) hx hb hr (fun t ht hW => ⟨⟨(-6), _, rfl, ⟨(-6), fob_world, fob_parts, fob_saved, (bw (-6) (600) (bkc (x := (-6)) (c := -6) (by decide)) (by decide)), p_fob_world, rfl, rfl⟩, by rw [ht]; exact hP, hD⟩, hS.F ht⟩) hS.2.2 dX10_beside_26

set_option maxHeartbeats 4000000 in
set_option maxRecDepth 100000 in
theorem sbes2 (l : Launch) (G : va_G) (y : Nat → ClassId) (sz : Nat) (ob : Nat) (ob_thrown : Int32) (ob_world : Nat) (ob_images : Nat) (ob_hasImage : Nat) (ob_tape : Nat) (ob_taped : Int32) (ob_five : Nat) (ob_size : Int32) (ob_at : Int32) (ob_from : Int32) (ob_token : Int32) (ob_value : Int32) (ob_faultKind : Int32) (ob_faultPlace : Int32) (ob_fresh : Nat) (ob_parts : Nat) (ob_houses : Nat) (ob_houseMany : Int32) (ob_worthOf : Nat) (ob_byCall : Nat) (ob_over : Nat) (ob_bestSet : Int32) (ob_bestOver : Int32) (ob_bestWorth : Int32) (ob_row : Nat) (ob_tenDebts : Nat) (ob_tenMany : Int32) (ob_fewestBy : Nat) (ob_covered : Nat) (ob_queue : Nat) (ob_cameBy : Nat) (ob_parent : Nat) (ob_met : Nat) (ob_calls : Nat) (ob_callMany : Int32) (ob_calledOn : Nat) (ob_saved : Nat) (ob_many : Nat) (ob_width : Nat) (ob_numbers : Nat) (ob_moving : Nat) (fob_world : Nat → Int32) (fob_images : Nat → Int32) (fob_hasImage : Nat → Int32) (fob_parts : Nat → Int32) (fob_saved : Nat → Int32) (p_fob_world : RWw fob_world) (p_fob_images : RIw fob_images) (p_fob_hasImage : ∀ i, (0 : Int) ≤ (fob_hasImage i).toInt ∧ (fob_hasImage i).toInt ≤ 1) (p_ob_taped : (0 : Int) ≤ ob_taped.toInt ∧ ob_taped.toInt ≤ 1400) (p_ob_size : (0 : Int) ≤ ob_size.toInt ∧ ob_size.toInt ≤ 1400) (p_ob_at : (0 : Int) ≤ ob_at.toInt ∧ ob_at.toInt ≤ 1400) (p_ob_from : (0 : Int) ≤ ob_from.toInt ∧ ob_from.toInt ≤ 1400) (p_ob_token : (0 : Int) ≤ ob_token.toInt ∧ ob_token.toInt ≤ 4) (p_ob_value : (0 : Int) ≤ ob_value.toInt ∧ ob_value.toInt ≤ 9999) (p_ob_faultKind : (0 : Int) ≤ ob_faultKind.toInt ∧ ob_faultKind.toInt ≤ 3) (p_ob_houseMany : (0 : Int) ≤ ob_houseMany.toInt ∧ ob_houseMany.toInt ≤ 10) (p_ob_bestSet : (0 : Int) ≤ ob_bestSet.toInt ∧ ob_bestSet.toInt ≤ 1023) (p_ob_bestOver : (-1 : Int) ≤ ob_bestOver.toInt ∧ ob_bestOver.toInt ≤ 180) (p_ob_tenMany : (0 : Int) ≤ ob_tenMany.toInt ∧ ob_tenMany.toInt ≤ 10) (p_ob_callMany : (0 : Int) ≤ ob_callMany.toInt ∧ ob_callMany.toInt ≤ 16) : Met l yX10_beside (Cond.code yX10_beside cX10_beside 5 (some .int) :: wAll) ({ frames := 4, cells := 0, slots := 0, locals := 111 }) (va_Pc [.ref ob, .int 2] (kp G y sz [(ce_X10 ob ob_thrown ob_world ob_images ob_hasImage ob_tape ob_taped ob_five ob_size ob_at ob_from ob_token ob_value ob_faultKind ob_faultPlace ob_fresh ob_parts ob_houses ob_houseMany ob_worthOf ob_byCall ob_over ob_bestSet ob_bestOver ob_bestWorth ob_row ob_tenDebts ob_tenMany ob_fewestBy ob_covered ob_queue ob_cameBy ob_parent ob_met ob_calls ob_callMany ob_calledOn ob_saved ob_many ob_width ob_numbers ob_moving), (ce_i9080 y ob_world fob_world), (ce_i27240 y ob_images fob_images), (ce_z3 y ob_hasImage fob_hasImage), (ce_i6 y ob_parts fob_parts), (ce_i9080 y ob_saved fob_saved)])) (va_Qi (fun (r : Int32) (w : va_W) => (∃ (v_965 : Int32) (f_966 : Nat → Int32) (f_967 : Nat → Int32) (f_968 : Nat → Int32), ((-6 : Int) ≤ v_965.toInt ∧ v_965.toInt ≤ 600) ∧ (RWw f_966) ∧ r = v_965 ∧ w = [(ce_X10 ob ob_thrown ob_world ob_images ob_hasImage ob_tape ob_taped ob_five ob_size ob_at ob_from ob_token ob_value ob_faultKind ob_faultPlace ob_fresh ob_parts ob_houses ob_houseMany ob_worthOf ob_byCall ob_over ob_bestSet ob_bestOver ob_bestWorth ob_row ob_tenDebts ob_tenMany ob_fewestBy ob_covered ob_queue ob_cameBy ob_parent ob_met ob_calls ob_callMany ob_calledOn ob_saved ob_many ob_width ob_numbers ob_moving), (ce_i9080 y ob_world f_966), (ce_i27240 y ob_images fob_images), (ce_z3 y ob_hasImage fob_hasImage), (ce_i6 y ob_parts f_967), (ce_i9080 y ob_saved f_968)])) (kq G (va_A [(ce_X10 ob ob_thrown ob_world ob_images ob_hasImage ob_tape ob_taped ob_five ob_size ob_at ob_from ob_token ob_value ob_faultKind ob_faultPlace ob_fresh ob_parts ob_houses ob_houseMany ob_worthOf ob_byCall ob_over ob_bestSet ob_bestOver ob_bestWorth ob_row ob_tenDebts ob_tenMany ob_fewestBy ob_covered ob_queue ob_cameBy ob_parent ob_met ob_calls ob_callMany ob_calledOn ob_saved ob_many ob_width ob_numbers ob_moving), (ce_i9080 y ob_world fob_world), (ce_i27240 y ob_images fob_images), (ce_z3 y ob_hasImage fob_hasImage), (ce_i6 y ob_parts fob_parts), (ce_i9080 y ob_saved fob_saved)] sz)) (va_A [(ce_X10 ob ob_thrown ob_world ob_images ob_hasImage ob_tape ob_taped ob_five ob_size ob_at ob_from ob_token ob_value ob_faultKind ob_faultPlace ob_fresh ob_parts ob_houses ob_houseMany ob_worthOf ob_byCall ob_over ob_bestSet ob_bestOver ob_bestWorth ob_row ob_tenDebts ob_tenMany ob_fewestBy ob_covered ob_queue ob_cameBy ob_parent ob_met ob_calls ob_callMany ob_calledOn ob_saved ob_many ob_width ob_numbers ob_moving), (ce_i9080 y ob_world fob_world), (ce_i27240 y ob_images fob_images), (ce_z3 y ob_hasImage fob_hasImage), (ce_i6 y ob_parts fob_parts), (ce_i9080 y ob_saved fob_saved)] sz)) 0 0 (va_A [(ce_X10 ob ob_thrown ob_world ob_images ob_hasImage ob_tape ob_taped ob_five ob_size ob_at ob_from ob_token ob_value ob_faultKind ob_faultPlace ob_fresh ob_parts ob_houses ob_houseMany ob_worthOf ob_byCall ob_over ob_bestSet ob_bestOver ob_bestWorth ob_row ob_tenDebts ob_tenMany ob_fewestBy ob_covered ob_queue ob_cameBy ob_parent ob_met ob_calls ob_callMany ob_calledOn ob_saved ob_many ob_width ob_numbers ob_moving), (ce_i9080 y ob_world fob_world), (ce_i27240 y ob_images fob_images), (ce_z3 y ob_hasImage fob_hasImage), (ce_i6 y ob_parts fob_parts), (ce_i9080 y ob_saved fob_saved)] sz) := by
  refine Met.ofW (cc := cX10_beside) (maxL := 5) (ret := (some .int)) (by decide) rfl ?_
  intro p e s m args below meth c s₁ B hml hv
  obtain ⟨rfl, hsz, hP, hK, hD0⟩ := hv
  have hx := B.exec
  have hb := B.bytes
  have hr := B.returns
  have hw0 : ∀ w ∈ wAll, w.before _ s = true := fun w h => atoms_spec (ws := Cond.code yX10_beside cX10_beside 5 (some .int) :: wAll) B.pre w (List.mem_cons_of_mem _ h)
  have hown : s.vm.findClass RX10 = some m.cls := findClass_of_methodNamed B.named
  subst hsz
  have hD := hD0.self (sz := s.heap.size)
  generalize hAe : va_A [(ce_X10 ob ob_thrown ob_world ob_images ob_hasImage ob_tape ob_taped ob_five ob_size ob_at ob_from ob_token ob_value ob_faultKind ob_faultPlace ob_fresh ob_parts ob_houses ob_houseMany ob_worthOf ob_byCall ob_over ob_bestSet ob_bestOver ob_bestWorth ob_row ob_tenDebts ob_tenMany ob_fewestBy ob_covered ob_queue ob_cameBy ob_parent ob_met ob_calls ob_callMany ob_calledOn ob_saved ob_many ob_width ob_numbers ob_moving), (ce_i9080 y ob_world fob_world), (ce_i27240 y ob_images fob_images), (ce_z3 y ob_hasImage fob_hasImage), (ce_i6 y ob_parts fob_parts), (ce_i9080 y ob_saved fob_saved)] s.heap.size = A at hD ⊢
  have hA : ∀ q : Nat, s.heap.size ≤ q → A q := fun q h => by rw [← hAe]; exact Or.inr h
  have hS : va_S A s.heap s.heap [] := va_S.rf
  have hP : va_P G vwCl [(ce_X10 ob ob_thrown ob_world ob_images ob_hasImage ob_tape ob_taped ob_five ob_size ob_at ob_from ob_token ob_value ob_faultKind ob_faultPlace ob_fresh ob_parts ob_houses ob_houseMany ob_worthOf ob_byCall ob_over ob_bestSet ob_bestOver ob_bestWorth ob_row ob_tenDebts ob_tenMany ob_fewestBy ob_covered ob_queue ob_cameBy ob_parent ob_met ob_calls ob_callMany ob_calledOn ob_saved ob_many ob_width ob_numbers ob_moving), (ce_i9080 y ob_world fob_world), (ce_i27240 y ob_images fob_images), (ce_z3 y ob_hasImage fob_hasImage), (ce_i6 y ob_parts fob_parts), (ce_i9080 y ob_saved fob_saved)] s.heap := hP
  have hl := lv_entry ([.ref ob, .int 2]) (n := 5) (Nat.le_of_ble_eq_true rfl)
  rw [lg_entry_eq]
  generalize (lg_sl ([.ref ob, .int 2]) ++ List.replicate (5 - (lg_sl ([.ref ob, .int 2])).length) Slot.unset).toArray = ls at hl ⊢
  have hl : lv_has ls 5 [(0, .ref ob), (1, .int 2)] := hl
  refine lv_iload_n hx hb dX10_beside_0 rfl (lv_at hl 1 rfl) ?_
  refine lv_i2l (v := 2) hx hb dX10_beside_1 (by decide) ?_
  refine lv_lconst (v := 0) hx hb dX10_beside_2 (by decide) ?_
  refine lv_ldc2 (own := RX10) (v := 2) hx hb hown (hw0 _ m_360) dX10_beside_3 ?_
  refine cSim (As := [.long 2, .long 0, .long 2]) (rest := []) ⟨hx, hb, hml, hown, hw0⟩ hA hK hP hD hS [] (sX10_in l G y _ 2 0 2 ) rfl ⟨(callB_of 3 hw0 (gA m_516) rfl rfl rfl (hw0 _ m_41) (hw0 _ m_345) cb_X10_in ⟨Nat.le_of_ble_eq_true rfl, Nat.le_of_ble_eq_true rfl⟩), (hw0 _ m_346)⟩ rfl hl.1 (Nat.le_of_ble_eq_true rfl) dX10_beside_6 ⟨Nat.le_of_ble_eq_true rfl, Nat.le_of_ble_eq_true rfl⟩ (fun r_1001 w_1001 H locs hw_1001 hP hD hS => ?_)
  rcases hw_1001 with ⟨h_1002, rfl, rfl⟩ | ⟨h_1003, rfl, rfl⟩
  · skip
    have h_1004 : 2 < (0 : Int) ∨ (2 : Int) < 2 := in_n h_1002 (by decide) (by decide) (by decide)
    omega
  · skip
    have h_1005 : (0 : Int) ≤ 2 ∧ 2 ≤ (2 : Int) := in_y h_1003 (by decide) (by decide) (by decide)
    obtain ⟨hP, hD⟩ : vPD G A H [(ce_X10 ob ob_thrown ob_world ob_images ob_hasImage ob_tape ob_taped ob_five ob_size ob_at ob_from ob_token ob_value ob_faultKind ob_faultPlace ob_fresh ob_parts ob_houses ob_houseMany ob_worthOf ob_byCall ob_over ob_bestSet ob_bestOver ob_bestWorth ob_row ob_tenDebts ob_tenMany ob_fewestBy ob_covered ob_queue ob_cameBy ob_parent ob_met ob_calls ob_callMany ob_calledOn ob_saved ob_many ob_width ob_numbers ob_moving), (ce_i9080 y ob_world fob_world), (ce_i27240 y ob_images fob_images), (ce_z3 y ob_hasImage fob_hasImage), (ce_i6 y ob_parts fob_parts), (ce_i9080 y ob_saved fob_saved)] := ⟨hP, hD⟩
    refine lv_if_ne (tgt := 15) hx hb dX10_beside_9 (by decide) (fun _ => ?_) (fun c9 => absurd c9 (by decide))
    refine lv_aload_n hx hb dX10_beside_15 rfl (lv_at hl 0 rfl) ?_
    refine va_get (D := G) (ci := 10) (v := .ref ob_hasImage) (C := RX10) (T := TX10) (N := 41) hx hb hw0 inA_wsX100 hown hK.1 hP 0 rfl rfl 3 (by decide) (hw0 _ m_361) (fun _ h9 => h9) rfl dX10_beside_16 ?_
    refine lv_iload_n hx hb dX10_beside_19 rfl (lv_at hl 1 rfl) ?_
    refine va_zald hx hb hK.1 hP 3 3 rfl rfl (vi (bkc (x := 2) (c := 2) (by decide)) (by decide)) dX10_beside_20 ?_
    refine lv_topi (fun v_1006 ev_1006 => ?_)
    have bv_1006 : (0 : Int) ≤ v_1006.toInt ∧ v_1006.toInt ≤ 1 := rd_b ev_1006 p_fob_hasImage
    refine lv_if_ne (tgt := 27) hx hb dX10_beside_21 (by decide) (fun c_1007 => ?_) (fun c_1007 => ?_)
    · skip
      have nc_1007 := nb_ne (1) (1) c_1007 bv_1006 (k := 0) (by decide) (by decide)
      refine lv_iconst (v := 0) hx hb dX10_beside_27 (by decide) ?_
      refine lv_istore_n (lv' := [(2, .int 0), (0, .ref ob), (1, .int 2)]) hx hb dX10_beside_28 rfl hl (by decide) rfl (fun ls hl => ?_)
      refine loopX (fun n H locs ls st => ∃ (v_1067 : Int32) (f_1068 : Nat → Int32), (9080 - v_1067.toInt).toNat = n ∧ ((0 : Int) ≤ v_1067.toInt ∧ v_1067.toInt ≤ 9080) ∧ (cpR f_1068 fob_saved fob_world 0 0 0 v_1067.toInt) ∧ st = [] ∧ vPD G A H [(ce_X10 ob ob_thrown ob_world ob_images ob_hasImage ob_tape ob_taped ob_five ob_size ob_at ob_from ob_token ob_value ob_faultKind ob_faultPlace ob_fresh ob_parts ob_houses ob_houseMany ob_worthOf ob_byCall ob_over ob_bestSet ob_bestOver ob_bestWorth ob_row ob_tenDebts ob_tenMany ob_fewestBy ob_covered ob_queue ob_cameBy ob_parent ob_met ob_calls ob_callMany ob_calledOn ob_saved ob_many ob_width ob_numbers ob_moving), (ce_i9080 y ob_world fob_world), (ce_i27240 y ob_images fob_images), (ce_z3 y ob_hasImage fob_hasImage), (ce_i6 y ob_parts fob_parts), (ce_i9080 y ob_saved f_1068)] ∧ va_S A s.heap H locs ∧ lv_has ls 5 [(2, .int v_1067), (0, .ref ob), (1, .int 2)]) ?_ (n := (9080 - (0 : Int32).toInt).toNat) ⟨0, fob_saved, rfl, (bw (0) (9080) (bkc (x := 0) (c := 0) (by decide)) (by decide)), (cp_0 (by have h90 : Int32.toInt 0 = 0 := (by decide); have h91 : Int32.toInt 2 = 2 := (by decide); omega)), rfl, ⟨hP, hD⟩, hS, lv_sub hl [0, 1, 2] rfl⟩
      rintro n ih_1072 H locs ls st ⟨v_1067, f_1068, hn_1072, bv_1067, rl1068_0, rfl, ⟨hP, hD⟩, hS, hl⟩
      refine lv_iload_n hx hb dX10_beside_29 rfl (lv_at hl 0 rfl) ?_
      refine lv_sipush (v := 9080) hx hb dX10_beside_30 (by decide) ?_
      refine lv_icmp_ge (tgt := 54) hx hb dX10_beside_33 (by decide) (fun c_1073 => ?_) (fun c_1073 => ?_)
      · skip
        have nc_1073 := nb_le (9080) (9080) c_1073 (bkc (x := 9080) (c := 9080) (by decide)) bv_1067 (by decide)
        refine lv_sipush (v := 154) hx hb dX10_beside_54 (by decide) ?_
        refine lv_istore_n (lv' := [(2, .int 154), (0, .ref ob), (1, .int 2)]) hx hb dX10_beside_57 rfl hl (by decide) rfl (fun ls hl => ?_)
        refine loopX (fun n H locs ls st => ∃ (v_1157 : Int32) (f_1158 : Nat → Int32), (1864 - v_1157.toInt).toNat = n ∧ ((154 : Int) ≤ v_1157.toInt ∧ v_1157.toInt ≤ 1864) ∧ (cpR f_1158 fob_world fob_images 0 18160 154 v_1157.toInt) ∧ st = [] ∧ vPD G A H [(ce_X10 ob ob_thrown ob_world ob_images ob_hasImage ob_tape ob_taped ob_five ob_size ob_at ob_from ob_token ob_value ob_faultKind ob_faultPlace ob_fresh ob_parts ob_houses ob_houseMany ob_worthOf ob_byCall ob_over ob_bestSet ob_bestOver ob_bestWorth ob_row ob_tenDebts ob_tenMany ob_fewestBy ob_covered ob_queue ob_cameBy ob_parent ob_met ob_calls ob_callMany ob_calledOn ob_saved ob_many ob_width ob_numbers ob_moving), (ce_i9080 y ob_world f_1158), (ce_i27240 y ob_images fob_images), (ce_z3 y ob_hasImage fob_hasImage), (ce_i6 y ob_parts fob_parts), (ce_i9080 y ob_saved f_1068)] ∧ va_S A s.heap H locs ∧ lv_has ls 5 [(2, .int v_1157), (0, .ref ob), (1, .int 2)]) ?_ (n := (1864 - (154 : Int32).toInt).toNat) ⟨154, fob_world, rfl, (bw (154) (1864) (bkc (x := 154) (c := 154) (by decide)) (by decide)), (cp_0 (by have h90 : Int32.toInt 2 = 2 := (by decide); have h91 : Int32.toInt 154 = 154 := (by decide); omega)), rfl, ⟨hP, hD⟩, hS, lv_sub hl [0, 1, 2] rfl⟩
        rintro n ih_1164 H locs ls st ⟨v_1157, f_1158, hn_1164, bv_1157, rl1158_0, rfl, ⟨hP, hD⟩, hS, hl⟩
        refine lv_iload_n hx hb dX10_beside_58 rfl (lv_at hl 0 rfl) ?_
        refine lv_sipush (v := 1864) hx hb dX10_beside_59 (by decide) ?_
        refine lv_icmp_ge (tgt := 89) hx hb dX10_beside_62 (by decide) (fun c_1165 => ?_) (fun c_1165 => ?_)
        · skip
          have nc_1165 := nb_le (1864) (1864) c_1165 (bkc (x := 1864) (c := 1864) (by decide)) bv_1157 (by decide)
          refine lv_iconst (v := 1) hx hb dX10_beside_89 (by decide) ?_
          refine lv_istore_n (lv' := [(2, .int 1), (0, .ref ob), (1, .int 2)]) hx hb dX10_beside_90 rfl hl (by decide) rfl (fun ls hl => ?_)
          refine loopX (fun n H locs ls st => ∃ (v_1200 : Int32) (f_1201 : Nat → Int32), (4 - v_1200.toInt).toNat = n ∧ ((1 : Int) ≤ v_1200.toInt ∧ v_1200.toInt ≤ 4) ∧ (cpR f_1201 f_1158 fob_images 0 18160 1 v_1200.toInt) ∧ st = [] ∧ vPD G A H [(ce_X10 ob ob_thrown ob_world ob_images ob_hasImage ob_tape ob_taped ob_five ob_size ob_at ob_from ob_token ob_value ob_faultKind ob_faultPlace ob_fresh ob_parts ob_houses ob_houseMany ob_worthOf ob_byCall ob_over ob_bestSet ob_bestOver ob_bestWorth ob_row ob_tenDebts ob_tenMany ob_fewestBy ob_covered ob_queue ob_cameBy ob_parent ob_met ob_calls ob_callMany ob_calledOn ob_saved ob_many ob_width ob_numbers ob_moving), (ce_i9080 y ob_world f_1201), (ce_i27240 y ob_images fob_images), (ce_z3 y ob_hasImage fob_hasImage), (ce_i6 y ob_parts fob_parts), (ce_i9080 y ob_saved f_1068)] ∧ va_S A s.heap H locs ∧ lv_has ls 5 [(2, .int v_1200), (0, .ref ob), (1, .int 2)]) ?_ (n := (4 - (1 : Int32).toInt).toNat) ⟨1, f_1158, rfl, (bw (1) (4) (bkc (x := 1) (c := 1) (by decide)) (by decide)), (cp_0 (by have h90 : Int32.toInt 1 = 1 := (by decide); have h91 : Int32.toInt 2 = 2 := (by decide); omega)), rfl, ⟨hP, hD⟩, hS, lv_sub hl [0, 1, 2] rfl⟩
          rintro n ih_1207 H locs ls st ⟨v_1200, f_1201, hn_1207, bv_1200, rl1201_0, rfl, ⟨hP, hD⟩, hS, hl⟩
          refine lv_iload_n hx hb dX10_beside_91 rfl (lv_at hl 0 rfl) ?_
          refine lv_iconst (v := 3) hx hb dX10_beside_92 (by decide) ?_
          refine lv_icmp_gt (tgt := 120) hx hb dX10_beside_93 (by decide) (fun c_1208 => ?_) (fun c_1208 => ?_)
          · skip
            have nc_1208 := nb_lt (3) (4) c_1208 (bkc (x := 3) (c := 3) (by decide)) bv_1200 (by decide)
            have kf_1201 : RWw f_1201 := RW_mix rl1158_0 (by omega) rl1201_0 (by omega) p_fob_world (RI_at p_fob_images 2 (by decide))
            refine lv_iconst (v := 0) hx hb dX10_beside_120 (by decide) ?_
            refine lv_istore_n (lv' := [(2, .int 0), (0, .ref ob), (1, .int 2)]) hx hb dX10_beside_121 rfl hl (by decide) rfl (fun ls hl => ?_)
            refine loopX (fun n H locs ls st => ∃ (v_1292 : Int32) (f_1293 : Nat → Int32), (16 - v_1292.toInt).toNat = n ∧ ((0 : Int) ≤ v_1292.toInt ∧ v_1292.toInt ≤ 16) ∧ (RWw f_1293) ∧ st = [] ∧ vPD G A H [(ce_X10 ob ob_thrown ob_world ob_images ob_hasImage ob_tape ob_taped ob_five ob_size ob_at ob_from ob_token ob_value ob_faultKind ob_faultPlace ob_fresh ob_parts ob_houses ob_houseMany ob_worthOf ob_byCall ob_over ob_bestSet ob_bestOver ob_bestWorth ob_row ob_tenDebts ob_tenMany ob_fewestBy ob_covered ob_queue ob_cameBy ob_parent ob_met ob_calls ob_callMany ob_calledOn ob_saved ob_many ob_width ob_numbers ob_moving), (ce_i9080 y ob_world f_1293), (ce_i27240 y ob_images fob_images), (ce_z3 y ob_hasImage fob_hasImage), (ce_i6 y ob_parts fob_parts), (ce_i9080 y ob_saved f_1068)] ∧ va_S A s.heap H locs ∧ lv_has ls 5 [(2, .int v_1292), (0, .ref ob)]) ?_ (n := (16 - (0 : Int32).toInt).toNat) ⟨0, f_1201, rfl, (bw (0) (16) (bkc (x := 0) (c := 0) (by decide)) (by decide)), kf_1201, rfl, ⟨hP, hD⟩, hS, lv_sub hl [0, 1] rfl⟩
            rintro n ih_1299 H locs ls st ⟨v_1292, f_1293, hn_1299, bv_1292, bf_1293, rfl, ⟨hP, hD⟩, hS, hl⟩
            refine lv_iload_n hx hb dX10_beside_122 rfl (lv_at hl 0 rfl) ?_
            refine lv_bipush (v := 16) hx hb dX10_beside_123 (by decide) ?_
            refine lv_icmp_ge (tgt := 151) hx hb dX10_beside_125 (by decide) (fun c_1300 => ?_) (fun c_1300 => ?_)
            · skip
              have nc_1300 := nb_le (16) (16) c_1300 (bkc (x := 16) (c := 16) (by decide)) bv_1292 (by decide)
              have h8f_1293 : (0 : Int) ≤ (f_1293 8).toInt ∧ (f_1293 8).toInt ≤ 600 := (bf_1293).1.1 8
              refine lv_aload_n hx hb dX10_beside_151 rfl (lv_at hl 1 rfl) ?_
              refine va_get (D := G) (ci := 10) (v := .ref ob_world) (C := RX10) (T := TX10) (N := 41) hx hb hw0 inA_wsX100 hown hK.1 hP 0 rfl rfl 1 (by decide) (hw0 _ m_352) (fun _ h9 => h9) rfl dX10_beside_152 ?_
              refine lv_bipush (v := 7) hx hb dX10_beside_155 (by decide) ?_
              refine lv_iconst (v := 0) hx hb dX10_beside_157 (by decide) ?_
              refine va_iast hx hb hK.1 hP hD hS 1 1 rfl rfl (vi (bkc (x := 7) (c := 7) (by decide)) (by decide)) dX10_beside_158 (fun H locs hP hD hS => ?_)
              generalize hf_1301 : (upd f_1293 (7 : Int32).toNatClampNeg 0) = f_1301 at hP hD
              have zf_1301_7 : (f_1301 7).toInt = 0 := by rw [← hf_1301]; exact (pin_eq (by decide)).trans (by decide)
              have zf_1301_8 : (f_1301 8).toInt = (f_1293 8).toInt := hf_1301 ▸ pin_ne (ix_not (bkc (x := 7) (c := 7) (by decide)) (by decide))
              have bf_1301 : RBw f_1301 := hf_1301 ▸ upk (bf_1293).1.1 (bkc (x := 0) (c := 0) (by decide)) (by decide)
              have cf_1301 : RVw f_1301 := ⟨bf_1301, by have h97 : (f_1293 7).toInt ≤ (f_1293 8).toInt := ((bf_1293).1).2; unfold W7; omega⟩
              have df_1301 : RWw f_1301 := ⟨cf_1301, hf_1301 ▸ WQ_up (bf_1293).1.1 (bf_1293).2 (qf_ix (bkc (x := 7) (c := 7) (by decide)) (by decide))⟩
              obtain ⟨hP, hD⟩ : vPD G A H [(ce_X10 ob ob_thrown ob_world ob_images ob_hasImage ob_tape ob_taped ob_five ob_size ob_at ob_from ob_token ob_value ob_faultKind ob_faultPlace ob_fresh ob_parts ob_houses ob_houseMany ob_worthOf ob_byCall ob_over ob_bestSet ob_bestOver ob_bestWorth ob_row ob_tenDebts ob_tenMany ob_fewestBy ob_covered ob_queue ob_cameBy ob_parent ob_met ob_calls ob_callMany ob_calledOn ob_saved ob_many ob_width ob_numbers ob_moving), (ce_i9080 y ob_world f_1301), (ce_i27240 y ob_images fob_images), (ce_z3 y ob_hasImage fob_hasImage), (ce_i6 y ob_parts fob_parts), (ce_i9080 y ob_saved f_1068)] := ⟨hP, hD⟩
              refine lv_iconst (v := 0) hx hb dX10_beside_159 (by decide) ?_
              refine lv_istore_n (lv' := [(2, .int 0), (0, .ref ob)]) hx hb dX10_beside_160 rfl hl (by decide) rfl (fun ls hl => ?_)
              refine loopX (fun n H locs ls st => ∃ (v_1358 : Int32) (f_1359 : Nat → Int32) (f_1360 : Nat → Int32), (600 - v_1358.toInt).toNat = n ∧ ((0 : Int) ≤ v_1358.toInt ∧ v_1358.toInt ≤ 600) ∧ (RWw f_1359) ∧ ((f_1359 7).toInt ≤ v_1358.toInt) ∧ st = [] ∧ vPD G A H [(ce_X10 ob ob_thrown ob_world ob_images ob_hasImage ob_tape ob_taped ob_five ob_size ob_at ob_from ob_token ob_value ob_faultKind ob_faultPlace ob_fresh ob_parts ob_houses ob_houseMany ob_worthOf ob_byCall ob_over ob_bestSet ob_bestOver ob_bestWorth ob_row ob_tenDebts ob_tenMany ob_fewestBy ob_covered ob_queue ob_cameBy ob_parent ob_met ob_calls ob_callMany ob_calledOn ob_saved ob_many ob_width ob_numbers ob_moving), (ce_i9080 y ob_world f_1359), (ce_i27240 y ob_images fob_images), (ce_z3 y ob_hasImage fob_hasImage), (ce_i6 y ob_parts f_1360), (ce_i9080 y ob_saved f_1068)] ∧ va_S A s.heap H locs ∧ lv_has ls 5 [(2, .int v_1358), (0, .ref ob)]) ?_ (n := (600 - (0 : Int32).toInt).toNat) ⟨0, f_1301, fob_parts, rfl, (bw (0) (600) (bkc (x := 0) (c := 0) (by decide)) (by decide)), df_1301, (by have h90 : Int32.toInt 0 = 0 := (by decide); omega), rfl, ⟨hP, hD⟩, hS, lv_sub hl [0, 1] rfl⟩
              rintro n ih_1377 H locs ls st ⟨v_1358, f_1359, f_1360, hn_1377, bv_1358, bf_1359, rl1360_0, rfl, ⟨hP, hD⟩, hS, hl⟩
              refine lv_iload_n hx hb dX10_beside_161 rfl (lv_at hl 0 rfl) ?_
              refine lv_aload_n hx hb dX10_beside_162 rfl (lv_at hl 1 rfl) ?_
              refine va_get (D := G) (ci := 10) (v := .ref ob_world) (C := RX10) (T := TX10) (N := 41) hx hb hw0 inA_wsX100 hown hK.1 hP 0 rfl rfl 1 (by decide) (hw0 _ m_352) (fun _ h9 => h9) rfl dX10_beside_163 ?_
              refine lv_bipush (v := 8) hx hb dX10_beside_166 (by decide) ?_
              refine va_iald hx hb hK.1 hP 1 1 rfl rfl (vi (bkc (x := 8) (c := 8) (by decide)) (by decide)) dX10_beside_168 ?_
              refine lv_topi (fun v_1378 ev_1378 => ?_)
              have bv_1378 : (0 : Int) ≤ v_1378.toInt ∧ v_1378.toInt ≤ 600 := rdk ev_1378 (bf_1359).1.1 (by decide)
              have yv_1378 : v_1378.toInt = (f_1359 8).toInt := congrArg Int32.toInt ev_1378
              refine lv_icmp_ge (tgt := 222) hx hb dX10_beside_169 (by decide) (fun c_1379 => ?_) (fun c_1379 => ?_)
              · skip
                have nc_1379 := nb_le (600) (0) c_1379 bv_1378 bv_1358 (by decide)
                refine lv_aload_n hx hb dX10_beside_222 rfl (lv_at hl 1 rfl) ?_
                refine va_get (D := G) (ci := 10) (v := .ref ob_world) (C := RX10) (T := TX10) (N := 41) hx hb hw0 inA_wsX100 hown hK.1 hP 0 rfl rfl 1 (by decide) (hw0 _ m_352) (fun _ h9 => h9) rfl dX10_beside_223 ?_
                refine lv_bipush (v := 7) hx hb dX10_beside_226 (by decide) ?_
                refine va_iald hx hb hK.1 hP 1 1 rfl rfl (vi (bkc (x := 7) (c := 7) (by decide)) (by decide)) dX10_beside_228 ?_
                refine lv_topi (fun v_1380 ev_1380 => ?_)
                have bv_1380 : (0 : Int) ≤ v_1380.toInt ∧ v_1380.toInt ≤ 600 := rdk ev_1380 (bf_1359).1.1 (by decide)
                have yv_1380 : v_1380.toInt = (f_1359 7).toInt := congrArg Int32.toInt ev_1380
                refine lv_istore_n (lv' := [(2, .int v_1380), (0, .ref ob)]) hx hb dX10_beside_229 rfl hl (by decide) rfl (fun ls hl => ?_)
                refine lv_iconst (v := 0) hx hb dX10_beside_230 (by decide) ?_
                refine lv_istore_n (lv' := [(3, .int 0), (2, .int v_1380), (0, .ref ob)]) hx hb dX10_beside_231 rfl hl (by decide) rfl (fun ls hl => ?_)
                refine loopX (fun n H locs ls st => ∃ (v_1440 : Int32) (f_1441 : Nat → Int32), (9080 - v_1440.toInt).toNat = n ∧ ((0 : Int) ≤ v_1440.toInt ∧ v_1440.toInt ≤ 9080) ∧ (cpR f_1441 f_1359 f_1068 0 0 0 v_1440.toInt) ∧ st = [] ∧ vPD G A H [(ce_X10 ob ob_thrown ob_world ob_images ob_hasImage ob_tape ob_taped ob_five ob_size ob_at ob_from ob_token ob_value ob_faultKind ob_faultPlace ob_fresh ob_parts ob_houses ob_houseMany ob_worthOf ob_byCall ob_over ob_bestSet ob_bestOver ob_bestWorth ob_row ob_tenDebts ob_tenMany ob_fewestBy ob_covered ob_queue ob_cameBy ob_parent ob_met ob_calls ob_callMany ob_calledOn ob_saved ob_many ob_width ob_numbers ob_moving), (ce_i9080 y ob_world f_1441), (ce_i27240 y ob_images fob_images), (ce_z3 y ob_hasImage fob_hasImage), (ce_i6 y ob_parts f_1360), (ce_i9080 y ob_saved f_1068)] ∧ va_S A s.heap H locs ∧ lv_has ls 5 [(3, .int v_1440), (2, .int v_1380), (0, .ref ob)]) ?_ (n := (9080 - (0 : Int32).toInt).toNat) ⟨0, f_1359, rfl, (bw (0) (9080) (bkc (x := 0) (c := 0) (by decide)) (by decide)), (cp_0 (by have h90 : Int32.toInt 0 = 0 := (by decide); omega)), rfl, ⟨hP, hD⟩, hS, lv_sub hl [0, 1, 2] rfl⟩
                rintro n ih_1445 H locs ls st ⟨v_1440, f_1441, hn_1445, bv_1440, rl1441_0, rfl, ⟨hP, hD⟩, hS, hl⟩
                refine lv_iload_n hx hb dX10_beside_232 rfl (lv_at hl 0 rfl) ?_
                refine lv_sipush (v := 9080) hx hb dX10_beside_233 (by decide) ?_
                refine lv_icmp_ge (tgt := 257) hx hb dX10_beside_236 (by decide) (fun c_1446 => ?_) (fun c_1446 => ?_)
                · skip
                  have nc_1446 := nb_le (9080) (9080) c_1446 (bkc (x := 9080) (c := 9080) (by decide)) bv_1440 (by decide)
                  have kf_1441 : RWw f_1441 := RW_same rl1441_0 (by omega) (RW_cong (cp_eq rl1068_0 (by omega)) p_fob_world)
                  refine lv_iload_n hx hb dX10_beside_257 rfl (lv_at hl 1 rfl) ?_
                  exact W.iret (v := v_1380) hx hb hr (fun t ht hW => ⟨⟨v_1380, _, rfl, ⟨v_1380, f_1441, f_1360, f_1068, (bw (-6) (600) bv_1380 (by decide)), kf_1441, rfl, rfl⟩, by rw [ht]; exact hP, hD⟩, hS.F ht⟩) hS.2.2 dX10_beside_258
                · skip
                  have nc_1446 := nb_nle (9079) (9080) c_1446 bv_1440 (bkc (x := 9080) (c := 9080) (by decide)) (by decide)
                  refine lv_aload_n hx hb dX10_beside_239 rfl (lv_at hl 2 rfl) ?_
                  refine va_get (D := G) (ci := 10) (v := .ref ob_world) (C := RX10) (T := TX10) (N := 41) hx hb hw0 inA_wsX100 hown hK.1 hP 0 rfl rfl 1 (by decide) (hw0 _ m_352) (fun _ h9 => h9) rfl dX10_beside_240 ?_
                  refine lv_iload_n hx hb dX10_beside_243 rfl (lv_at hl 0 rfl) ?_
                  refine lv_aload_n hx hb dX10_beside_244 rfl (lv_at hl 2 rfl) ?_
                  refine va_get (D := G) (ci := 10) (v := .ref ob_saved) (C := RX10) (T := TX10) (N := 41) hx hb hw0 inA_wsX100 hown hK.1 hP 0 rfl rfl 36 (by decide) (hw0 _ m_392) (fun _ h9 => h9) rfl dX10_beside_245 ?_
                  refine lv_iload_n hx hb dX10_beside_248 rfl (lv_at hl 0 rfl) ?_
                  refine va_iald hx hb hK.1 hP 5 1 rfl rfl (vi nc_1446.1 (by decide)) dX10_beside_249 ?_
                  refine lv_topi (fun v_1447 ev_1447 => ?_)
                  refine va_iast hx hb hK.1 hP hD hS 1 1 rfl rfl (vi nc_1446.1 (by decide)) dX10_beside_250 (fun H locs hP hD hS => ?_)
                  generalize hf_1448 : (upd f_1441 (v_1440 : Int32).toNatClampNeg v_1447) = f_1448 at hP hD
                  obtain ⟨hP, hD⟩ : vPD G A H [(ce_X10 ob ob_thrown ob_world ob_images ob_hasImage ob_tape ob_taped ob_five ob_size ob_at ob_from ob_token ob_value ob_faultKind ob_faultPlace ob_fresh ob_parts ob_houses ob_houseMany ob_worthOf ob_byCall ob_over ob_bestSet ob_bestOver ob_bestWorth ob_row ob_tenDebts ob_tenMany ob_fewestBy ob_covered ob_queue ob_cameBy ob_parent ob_met ob_calls ob_callMany ob_calledOn ob_saved ob_many ob_width ob_numbers ob_moving), (ce_i9080 y ob_world f_1448), (ce_i27240 y ob_images fob_images), (ce_z3 y ob_hasImage fob_hasImage), (ce_i6 y ob_parts f_1360), (ce_i9080 y ob_saved f_1068)] := ⟨hP, hD⟩
                  obtain ⟨v_1449, ev_1449⟩ : ∃ z : Int32, z = v_1440 + 1 := ⟨_, rfl⟩
                  have qv_1449 := ba_add ev_1449 nc_1446.1 (bkc (x := 1) (c := 1) (by decide)) (by decide)
                  have bv_1449 : (1 : Int) ≤ v_1449.toInt ∧ v_1449.toInt ≤ 9080 := bq_add qv_1449 nc_1446.1 (bkc (x := 1) (c := 1) (by decide)) _ _ (by decide)
                  have qv_1449 : v_1449.toInt = v_1440.toInt + (1) := qv_1449
                  refine lv_iinc (v := v_1449) (lv' := [(3, .int v_1449), (2, .int v_1380), (0, .ref ob)]) hx hb dX10_beside_251 hl (k := 0) rfl (ev_1449.symm) (by decide) rfl (fun ls hl => ?_)
                  refine lv_goto (tgt := 232) hx hb dX10_beside_254 (by decide) ?_
                  exact ih_1445 _ (ml_inc (hi := 9080) hn_1445 qv_1449 (by decide) ((bw (0) (9080) bv_1449 (by decide))).2) _ _ _ _ ⟨v_1449, f_1448, rfl, (bw (0) (9080) bv_1449 (by decide)), (cp_s rl1441_0 hf_1448 ev_1447 ((cl_to (by omega)).trans (by omega)) ((cl_to (by omega)).trans (by omega)) (by omega) (by omega)), rfl, ⟨hP, hD⟩, hS, lv_sub hl [0, 1, 2] rfl⟩
              · skip
                have nc_1379 := nb_nle (599) (1) c_1379 bv_1358 bv_1378 (by decide)
                refine lv_sipush (v := 6680) hx hb dX10_beside_172 (by decide) ?_
                refine lv_iconst (v := 4) hx hb dX10_beside_175 (by decide) ?_
                refine lv_iload_n hx hb dX10_beside_176 rfl (lv_at hl 0 rfl) ?_
                refine lv_imul hx hb dX10_beside_177 ?_
                refine lv_topi (fun v_1450 ev_1450 => ?_)
                have qv_1450 := ba_mul 4 (ev_1450.trans (Int32.mul_comm _ _)) nc_1379.1 (by decide) (by decide) (by decide)
                have bv_1450 : (0 : Int) ≤ v_1450.toInt ∧ v_1450.toInt ≤ 2396 := qv_1450.2
                refine lv_iadd hx hb dX10_beside_178 ?_
                refine lv_topi (fun v_1451 ev_1451 => ?_)
                have qv_1451 := ba_add ev_1451 (bkc (x := 6680) (c := 6680) (by decide)) bv_1450 (by decide)
                have bv_1451 : (6680 : Int) ≤ v_1451.toInt ∧ v_1451.toInt ≤ 9076 := bq_add qv_1451 (bkc (x := 6680) (c := 6680) (by decide)) bv_1450 _ _ (by decide)
                have qv_1451 : v_1451.toInt = (6680) + v_1450.toInt := qv_1451
                refine lv_istore_n (lv' := [(3, .int v_1451), (2, .int v_1358), (0, .ref ob)]) hx hb dX10_beside_179 rfl hl (by decide) rfl (fun ls hl => ?_)
                refine lv_aload_n hx hb dX10_beside_180 rfl (lv_at hl 2 rfl) ?_
                refine lv_aload_n hx hb dX10_beside_181 rfl (lv_at hl 2 rfl) ?_
                refine va_get (D := G) (ci := 10) (v := .ref ob_world) (C := RX10) (T := TX10) (N := 41) hx hb hw0 inA_wsX100 hown hK.1 hP 0 rfl rfl 1 (by decide) (hw0 _ m_352) (fun _ h9 => h9) rfl dX10_beside_182 ?_
                refine lv_iload_n hx hb dX10_beside_185 rfl (lv_at hl 0 rfl) ?_
                refine va_iald hx hb hK.1 hP 1 1 rfl rfl (vi bv_1451 (by decide)) dX10_beside_186 ?_
                refine lv_topi (fun v_1452 ev_1452 => ?_)
                have bv_1452 : (0 : Int) ≤ v_1452.toInt ∧ v_1452.toInt ≤ 15 := rdw ev_1452 (bf_1359).1.1 pl_70 (by omega) (nc_1379.1)
                refine lv_aload_n hx hb dX10_beside_187 rfl (lv_at hl 2 rfl) ?_
                refine va_get (D := G) (ci := 10) (v := .ref ob_world) (C := RX10) (T := TX10) (N := 41) hx hb hw0 inA_wsX100 hown hK.1 hP 0 rfl rfl 1 (by decide) (hw0 _ m_352) (fun _ h9 => h9) rfl dX10_beside_188 ?_
                refine lv_iload_n hx hb dX10_beside_191 rfl (lv_at hl 0 rfl) ?_
                refine lv_iconst (v := 1) hx hb dX10_beside_192 (by decide) ?_
                refine lv_iadd hx hb dX10_beside_193 ?_
                refine lv_topi (fun v_1453 ev_1453 => ?_)
                have qv_1453 := ba_add ev_1453 bv_1451 (bkc (x := 1) (c := 1) (by decide)) (by decide)
                have bv_1453 : (6681 : Int) ≤ v_1453.toInt ∧ v_1453.toInt ≤ 9077 := bq_add qv_1453 bv_1451 (bkc (x := 1) (c := 1) (by decide)) _ _ (by decide)
                have qv_1453 : v_1453.toInt = v_1451.toInt + (1) := qv_1453
                refine va_iald hx hb hK.1 hP 1 1 rfl rfl (vi bv_1453 (by decide)) dX10_beside_194 ?_
                refine lv_topi (fun v_1454 ev_1454 => ?_)
                have bv_1454 : (0 : Int) ≤ v_1454.toInt ∧ v_1454.toInt ≤ 15 := rdw ev_1454 (bf_1359).1.1 pl_71 (by omega) (nc_1379.1)
                refine lv_aload_n hx hb dX10_beside_195 rfl (lv_at hl 2 rfl) ?_
                refine va_get (D := G) (ci := 10) (v := .ref ob_world) (C := RX10) (T := TX10) (N := 41) hx hb hw0 inA_wsX100 hown hK.1 hP 0 rfl rfl 1 (by decide) (hw0 _ m_352) (fun _ h9 => h9) rfl dX10_beside_196 ?_
                refine lv_iload_n hx hb dX10_beside_199 rfl (lv_at hl 0 rfl) ?_
                refine lv_iconst (v := 2) hx hb dX10_beside_200 (by decide) ?_
                refine lv_iadd hx hb dX10_beside_201 ?_
                refine lv_topi (fun v_1455 ev_1455 => ?_)
                have qv_1455 := ba_add ev_1455 bv_1451 (bkc (x := 2) (c := 2) (by decide)) (by decide)
                have bv_1455 : (6682 : Int) ≤ v_1455.toInt ∧ v_1455.toInt ≤ 9078 := bq_add qv_1455 bv_1451 (bkc (x := 2) (c := 2) (by decide)) _ _ (by decide)
                have qv_1455 : v_1455.toInt = v_1451.toInt + (2) := qv_1455
                refine va_iald hx hb hK.1 hP 1 1 rfl rfl (vi bv_1455 (by decide)) dX10_beside_202 ?_
                refine lv_topi (fun v_1456 ev_1456 => ?_)
                refine lv_aload_n hx hb dX10_beside_203 rfl (lv_at hl 2 rfl) ?_
                refine va_get (D := G) (ci := 10) (v := .ref ob_world) (C := RX10) (T := TX10) (N := 41) hx hb hw0 inA_wsX100 hown hK.1 hP 0 rfl rfl 1 (by decide) (hw0 _ m_352) (fun _ h9 => h9) rfl dX10_beside_204 ?_
                refine lv_iload_n hx hb dX10_beside_207 rfl (lv_at hl 0 rfl) ?_
                refine lv_iconst (v := 3) hx hb dX10_beside_208 (by decide) ?_
                refine lv_iadd hx hb dX10_beside_209 ?_
                refine lv_topi (fun v_1457 ev_1457 => ?_)
                have qv_1457 := ba_add ev_1457 bv_1451 (bkc (x := 3) (c := 3) (by decide)) (by decide)
                have bv_1457 : (6683 : Int) ≤ v_1457.toInt ∧ v_1457.toInt ≤ 9079 := bq_add qv_1457 bv_1451 (bkc (x := 3) (c := 3) (by decide)) _ _ (by decide)
                have qv_1457 : v_1457.toInt = v_1451.toInt + (3) := qv_1457
                refine va_iald hx hb hK.1 hP 1 1 rfl rfl (vi bv_1457 (by decide)) dX10_beside_210 ?_
                refine lv_topi (fun v_1458 ev_1458 => ?_)
                refine cVim (As := [.int v_1452, .int v_1454, .int v_1456, .int v_1458]) (rest := []) ⟨hx, hb, hml, hown, hw0⟩ hA hK hP hD hS [true, true, false, false, true] (sX10_goes l G y _ ob v_1452 v_1454 v_1456 v_1458 ob_thrown ob_world ob_images ob_hasImage ob_tape ob_taped ob_five ob_size ob_at ob_from ob_token ob_value ob_faultKind ob_faultPlace ob_fresh ob_parts ob_houses ob_houseMany ob_worthOf ob_byCall ob_over ob_bestSet ob_bestOver ob_bestWorth ob_row ob_tenDebts ob_tenMany ob_fewestBy ob_covered ob_queue ob_cameBy ob_parent ob_met ob_calls ob_callMany ob_calledOn ob_saved ob_many ob_width ob_numbers ob_moving f_1359 f_1360 bf_1359 p_ob_taped p_ob_size p_ob_at p_ob_from p_ob_token p_ob_value p_ob_faultKind p_ob_houseMany p_ob_bestSet p_ob_bestOver p_ob_tenMany p_ob_callMany bv_1452 bv_1454 (by omega)) rfl ⟨(callB_of 4 hw0 (gA m_489) rfl rfl rfl (hw0 _ m_41) (hw0 _ m_393) cb_X10_goes ⟨Nat.le_of_ble_eq_true rfl, Nat.le_of_ble_eq_true rfl⟩), (hw0 _ m_394), (hw0 _ m_395)⟩ (ci := 10) (q := (RX10, TX10, 41)) rfl rfl rfl hl.1 (Nat.le_of_ble_eq_true rfl) dX10_beside_211 ⟨Nat.le_of_ble_eq_true rfl, Nat.le_of_ble_eq_true rfl⟩ (fun r_1459 w_1459 H locs hw_1459 hP hD hS => ?_)
                obtain ⟨v_1460, f_1461, f_1462, bf_1461, h_1463, er_1459, rfl⟩ := hw_1459
                subst r_1459
                obtain ⟨hP, hD⟩ : vPD G A H [(ce_X10 ob ob_thrown ob_world ob_images ob_hasImage ob_tape ob_taped ob_five ob_size ob_at ob_from ob_token ob_value ob_faultKind ob_faultPlace ob_fresh ob_parts ob_houses ob_houseMany ob_worthOf ob_byCall ob_over ob_bestSet ob_bestOver ob_bestWorth ob_row ob_tenDebts ob_tenMany ob_fewestBy ob_covered ob_queue ob_cameBy ob_parent ob_met ob_calls ob_callMany ob_calledOn ob_saved ob_many ob_width ob_numbers ob_moving), (ce_i9080 y ob_world f_1461), (ce_i27240 y ob_images fob_images), (ce_z3 y ob_hasImage fob_hasImage), (ce_i6 y ob_parts f_1462), (ce_i9080 y ob_saved f_1068)] := ⟨hP, hD⟩
                refine lv_istore (lv' := [(4, .int v_1460), (3, .int v_1451), (2, .int v_1358), (0, .ref ob)]) hx hb dX10_beside_214 hl (by decide) rfl (fun ls hl => ?_)
                obtain ⟨v_1464, ev_1464⟩ : ∃ z : Int32, z = v_1358 + 1 := ⟨_, rfl⟩
                have qv_1464 := ba_add ev_1464 nc_1379.1 (bkc (x := 1) (c := 1) (by decide)) (by decide)
                have bv_1464 : (1 : Int) ≤ v_1464.toInt ∧ v_1464.toInt ≤ 600 := bq_add qv_1464 nc_1379.1 (bkc (x := 1) (c := 1) (by decide)) _ _ (by decide)
                have qv_1464 : v_1464.toInt = v_1358.toInt + (1) := qv_1464
                refine lv_iinc (v := v_1464) (lv' := [(2, .int v_1464), (4, .int v_1460), (3, .int v_1451), (0, .ref ob)]) hx hb dX10_beside_216 hl (k := 2) rfl (ev_1464.symm) (by decide) rfl (fun ls hl => ?_)
                refine lv_goto (tgt := 161) hx hb dX10_beside_219 (by decide) ?_
                exact ih_1377 _ (ml_inc (hi := 600) hn_1377 qv_1464 (by decide) ((bw (0) (600) bv_1464 (by decide))).2) _ _ _ _ ⟨v_1464, f_1461, f_1462, rfl, (bw (0) (600) bv_1464 (by decide)), bf_1461, (by omega), rfl, ⟨hP, hD⟩, hS, lv_sub hl [0, 3] rfl⟩
            · skip
              have nc_1300 := nb_nle (15) (16) c_1300 bv_1292 (bkc (x := 16) (c := 16) (by decide)) (by decide)
              refine lv_aload_n hx hb dX10_beside_128 rfl (lv_at hl 1 rfl) ?_
              refine va_get (D := G) (ci := 10) (v := .ref ob_world) (C := RX10) (T := TX10) (N := 41) hx hb hw0 inA_wsX100 hown hK.1 hP 0 rfl rfl 1 (by decide) (hw0 _ m_352) (fun _ h9 => h9) rfl dX10_beside_129 ?_
              refine lv_sipush (v := 1864) hx hb dX10_beside_132 (by decide) ?_
              refine lv_iload_n hx hb dX10_beside_135 rfl (lv_at hl 0 rfl) ?_
              refine lv_iadd hx hb dX10_beside_136 ?_
              refine lv_topi (fun v_1465 ev_1465 => ?_)
              have qv_1465 := ba_add ev_1465 (bkc (x := 1864) (c := 1864) (by decide)) nc_1300.1 (by decide)
              have bv_1465 : (1864 : Int) ≤ v_1465.toInt ∧ v_1465.toInt ≤ 1879 := bq_add qv_1465 (bkc (x := 1864) (c := 1864) (by decide)) nc_1300.1 _ _ (by decide)
              have qv_1465 : v_1465.toInt = (1864) + v_1292.toInt := qv_1465
              refine lv_aload_n hx hb dX10_beside_137 rfl (lv_at hl 1 rfl) ?_
              refine lv_iload_n hx hb dX10_beside_138 rfl (lv_at hl 0 rfl) ?_
              refine lv_bipush (v := 8) hx hb dX10_beside_139 (by decide) ?_
              refine cVim (As := [.int v_1292, .int 8]) (rest := [.int v_1465, .ref ob_world]) ⟨hx, hb, hml, hown, hw0⟩ hA hK hP hD hS [true, true] (sofHouse8 l G y _ ob v_1292 ob_thrown ob_world ob_images ob_hasImage ob_tape ob_taped ob_five ob_size ob_at ob_from ob_token ob_value ob_faultKind ob_faultPlace ob_fresh ob_parts ob_houses ob_houseMany ob_worthOf ob_byCall ob_over ob_bestSet ob_bestOver ob_bestWorth ob_row ob_tenDebts ob_tenMany ob_fewestBy ob_covered ob_queue ob_cameBy ob_parent ob_met ob_calls ob_callMany ob_calledOn ob_saved ob_many ob_width ob_numbers ob_moving f_1293 bf_1293 p_ob_taped p_ob_size p_ob_at p_ob_from p_ob_token p_ob_value p_ob_faultKind p_ob_houseMany p_ob_bestSet p_ob_bestOver p_ob_tenMany p_ob_callMany nc_1300.1) rfl ⟨(callB_of 2 hw0 (gA m_577) rfl rfl rfl (hw0 _ m_41) (hw0 _ m_388) cb_X10_ofHouse ⟨Nat.le_of_ble_eq_true rfl, Nat.le_of_ble_eq_true rfl⟩), (hw0 _ m_389), (hw0 _ m_390)⟩ (ci := 10) (q := (RX10, TX10, 41)) rfl rfl rfl hl.1 (Nat.le_of_ble_eq_true rfl) dX10_beside_141 ⟨Nat.le_of_ble_eq_true rfl, Nat.le_of_ble_eq_true rfl⟩ (fun r_1466 w_1466 H locs hw_1466 hP hD hS => ?_)
              obtain ⟨v_1467, bv_1467, er_1466, rfl⟩ := hw_1466
              subst r_1466
              obtain ⟨hP, hD⟩ : vPD G A H [(ce_X10 ob ob_thrown ob_world ob_images ob_hasImage ob_tape ob_taped ob_five ob_size ob_at ob_from ob_token ob_value ob_faultKind ob_faultPlace ob_fresh ob_parts ob_houses ob_houseMany ob_worthOf ob_byCall ob_over ob_bestSet ob_bestOver ob_bestWorth ob_row ob_tenDebts ob_tenMany ob_fewestBy ob_covered ob_queue ob_cameBy ob_parent ob_met ob_calls ob_callMany ob_calledOn ob_saved ob_many ob_width ob_numbers ob_moving), (ce_i9080 y ob_world f_1293), (ce_i27240 y ob_images fob_images), (ce_z3 y ob_hasImage fob_hasImage), (ce_i6 y ob_parts fob_parts), (ce_i9080 y ob_saved f_1068)] := ⟨hP, hD⟩
              refine va_iast hx hb hK.1 hP hD hS 1 1 rfl rfl (vi bv_1465 (by decide)) dX10_beside_144 (fun H locs hP hD hS => ?_)
              generalize hf_1468 : (upd f_1293 (v_1465 : Int32).toNatClampNeg v_1467) = f_1468 at hP hD
              have zf_1468_7 : (f_1468 7).toInt = (f_1293 7).toInt := hf_1468 ▸ pin_ne (ix_not bv_1465 (by decide))
              have zf_1468_8 : (f_1468 8).toInt = (f_1293 8).toInt := hf_1468 ▸ pin_ne (ix_not bv_1465 (by decide))
              have bf_1468 : RBw f_1468 := hf_1468 ▸ upw (bf_1293).1.1 pl_9 (by omega) (nc_1300.1) bv_1467
              have cf_1468 : RVw f_1468 := hf_1468 ▸ RV_up (bf_1293).1 (hf_1468 ▸ bf_1468) (ix_out bv_1465 (by decide))
              have df_1468 : RWw f_1468 := ⟨cf_1468, hf_1468 ▸ WQ_up (bf_1293).1.1 (bf_1293).2 (qf_ix bv_1465 (by decide))⟩
              obtain ⟨hP, hD⟩ : vPD G A H [(ce_X10 ob ob_thrown ob_world ob_images ob_hasImage ob_tape ob_taped ob_five ob_size ob_at ob_from ob_token ob_value ob_faultKind ob_faultPlace ob_fresh ob_parts ob_houses ob_houseMany ob_worthOf ob_byCall ob_over ob_bestSet ob_bestOver ob_bestWorth ob_row ob_tenDebts ob_tenMany ob_fewestBy ob_covered ob_queue ob_cameBy ob_parent ob_met ob_calls ob_callMany ob_calledOn ob_saved ob_many ob_width ob_numbers ob_moving), (ce_i9080 y ob_world f_1468), (ce_i27240 y ob_images fob_images), (ce_z3 y ob_hasImage fob_hasImage), (ce_i6 y ob_parts fob_parts), (ce_i9080 y ob_saved f_1068)] := ⟨hP, hD⟩
              obtain ⟨v_1469, ev_1469⟩ : ∃ z : Int32, z = v_1292 + 1 := ⟨_, rfl⟩
              have qv_1469 := ba_add ev_1469 nc_1300.1 (bkc (x := 1) (c := 1) (by decide)) (by decide)
              have bv_1469 : (1 : Int) ≤ v_1469.toInt ∧ v_1469.toInt ≤ 16 := bq_add qv_1469 nc_1300.1 (bkc (x := 1) (c := 1) (by decide)) _ _ (by decide)
              have qv_1469 : v_1469.toInt = v_1292.toInt + (1) := qv_1469
              refine lv_iinc (v := v_1469) (lv' := [(2, .int v_1469), (0, .ref ob)]) hx hb dX10_beside_145 hl (k := 0) rfl (ev_1469.symm) (by decide) rfl (fun ls hl => ?_)
              refine lv_goto (tgt := 122) hx hb dX10_beside_148 (by decide) ?_
              exact ih_1299 _ (ml_inc (hi := 16) hn_1299 qv_1469 (by decide) ((bw (0) (16) bv_1469 (by decide))).2) _ _ _ _ ⟨v_1469, f_1468, rfl, (bw (0) (16) bv_1469 (by decide)), df_1468, rfl, ⟨hP, hD⟩, hS, lv_sub hl [0, 1] rfl⟩
          · skip
            have nc_1208 := nb_nlt (3) (3) c_1208 bv_1200 (bkc (x := 3) (c := 3) (by decide)) (by decide)
            refine lv_aload_n hx hb dX10_beside_96 rfl (lv_at hl 1 rfl) ?_
            refine va_get (D := G) (ci := 10) (v := .ref ob_world) (C := RX10) (T := TX10) (N := 41) hx hb hw0 inA_wsX100 hown hK.1 hP 0 rfl rfl 1 (by decide) (hw0 _ m_352) (fun _ h9 => h9) rfl dX10_beside_97 ?_
            refine lv_iload_n hx hb dX10_beside_100 rfl (lv_at hl 0 rfl) ?_
            refine lv_aload_n hx hb dX10_beside_101 rfl (lv_at hl 1 rfl) ?_
            refine va_get (D := G) (ci := 10) (v := .ref ob_images) (C := RX10) (T := TX10) (N := 41) hx hb hw0 inA_wsX100 hown hK.1 hP 0 rfl rfl 2 (by decide) (hw0 _ m_362) (fun _ h9 => h9) rfl dX10_beside_102 ?_
            refine lv_sipush (v := 9080) hx hb dX10_beside_105 (by decide) ?_
            refine lv_iload_n hx hb dX10_beside_108 rfl (lv_at hl 2 rfl) ?_
            refine lv_imul hx hb dX10_beside_109 ?_
            refine lv_topi (fun v_1470 ev_1470 => ?_)
            obtain rfl : 18160 = v_1470 := (ev_1470.trans (by decide)).symm
            refine lv_iload_n hx hb dX10_beside_110 rfl (lv_at hl 0 rfl) ?_
            refine lv_iadd hx hb dX10_beside_111 ?_
            refine lv_topi (fun v_1471 ev_1471 => ?_)
            have qv_1471 := ba_add ev_1471 (bkc (x := 18160) (c := 18160) (by decide)) nc_1208.1 (by decide)
            have bv_1471 : (18161 : Int) ≤ v_1471.toInt ∧ v_1471.toInt ≤ 18163 := bq_add qv_1471 (bkc (x := 18160) (c := 18160) (by decide)) nc_1208.1 _ _ (by decide)
            have qv_1471 : v_1471.toInt = (18160) + v_1200.toInt := qv_1471
            refine va_iald hx hb hK.1 hP 2 1 rfl rfl (vi bv_1471 (by decide)) dX10_beside_112 ?_
            refine lv_topi (fun v_1472 ev_1472 => ?_)
            refine va_iast hx hb hK.1 hP hD hS 1 1 rfl rfl (vi nc_1208.1 (by decide)) dX10_beside_113 (fun H locs hP hD hS => ?_)
            generalize hf_1473 : (upd f_1201 (v_1200 : Int32).toNatClampNeg v_1472) = f_1473 at hP hD
            have zf_1473_7 : (f_1473 7).toInt = (f_1201 7).toInt := hf_1473 ▸ pin_ne (ix_not nc_1208.1 (by decide))
            have zf_1473_8 : (f_1473 8).toInt = (f_1201 8).toInt := hf_1473 ▸ pin_ne (ix_not nc_1208.1 (by decide))
            obtain ⟨hP, hD⟩ : vPD G A H [(ce_X10 ob ob_thrown ob_world ob_images ob_hasImage ob_tape ob_taped ob_five ob_size ob_at ob_from ob_token ob_value ob_faultKind ob_faultPlace ob_fresh ob_parts ob_houses ob_houseMany ob_worthOf ob_byCall ob_over ob_bestSet ob_bestOver ob_bestWorth ob_row ob_tenDebts ob_tenMany ob_fewestBy ob_covered ob_queue ob_cameBy ob_parent ob_met ob_calls ob_callMany ob_calledOn ob_saved ob_many ob_width ob_numbers ob_moving), (ce_i9080 y ob_world f_1473), (ce_i27240 y ob_images fob_images), (ce_z3 y ob_hasImage fob_hasImage), (ce_i6 y ob_parts fob_parts), (ce_i9080 y ob_saved f_1068)] := ⟨hP, hD⟩
            obtain ⟨v_1474, ev_1474⟩ : ∃ z : Int32, z = v_1200 + 1 := ⟨_, rfl⟩
            have qv_1474 := ba_add ev_1474 nc_1208.1 (bkc (x := 1) (c := 1) (by decide)) (by decide)
            have bv_1474 : (2 : Int) ≤ v_1474.toInt ∧ v_1474.toInt ≤ 4 := bq_add qv_1474 nc_1208.1 (bkc (x := 1) (c := 1) (by decide)) _ _ (by decide)
            have qv_1474 : v_1474.toInt = v_1200.toInt + (1) := qv_1474
            refine lv_iinc (v := v_1474) (lv' := [(2, .int v_1474), (0, .ref ob), (1, .int 2)]) hx hb dX10_beside_114 hl (k := 0) rfl (ev_1474.symm) (by decide) rfl (fun ls hl => ?_)
            refine lv_goto (tgt := 91) hx hb dX10_beside_117 (by decide) ?_
            exact ih_1207 _ (ml_inc (hi := 4) hn_1207 qv_1474 (by decide) ((bw (1) (4) bv_1474 (by decide))).2) _ _ _ _ ⟨v_1474, f_1473, rfl, (bw (1) (4) bv_1474 (by decide)), (cp_s rl1201_0 hf_1473 ev_1472 ((cl_to (by omega)).trans (by omega)) ((cl_to (by omega)).trans (by omega)) (by omega) (by omega)), rfl, ⟨hP, hD⟩, hS, lv_sub hl [0, 1, 2] rfl⟩
        · skip
          have nc_1165 := nb_nle (1863) (1864) c_1165 bv_1157 (bkc (x := 1864) (c := 1864) (by decide)) (by decide)
          refine lv_aload_n hx hb dX10_beside_65 rfl (lv_at hl 1 rfl) ?_
          refine va_get (D := G) (ci := 10) (v := .ref ob_world) (C := RX10) (T := TX10) (N := 41) hx hb hw0 inA_wsX100 hown hK.1 hP 0 rfl rfl 1 (by decide) (hw0 _ m_352) (fun _ h9 => h9) rfl dX10_beside_66 ?_
          refine lv_iload_n hx hb dX10_beside_69 rfl (lv_at hl 0 rfl) ?_
          refine lv_aload_n hx hb dX10_beside_70 rfl (lv_at hl 1 rfl) ?_
          refine va_get (D := G) (ci := 10) (v := .ref ob_images) (C := RX10) (T := TX10) (N := 41) hx hb hw0 inA_wsX100 hown hK.1 hP 0 rfl rfl 2 (by decide) (hw0 _ m_362) (fun _ h9 => h9) rfl dX10_beside_71 ?_
          refine lv_sipush (v := 9080) hx hb dX10_beside_74 (by decide) ?_
          refine lv_iload_n hx hb dX10_beside_77 rfl (lv_at hl 2 rfl) ?_
          refine lv_imul hx hb dX10_beside_78 ?_
          refine lv_topi (fun v_1475 ev_1475 => ?_)
          obtain rfl : 18160 = v_1475 := (ev_1475.trans (by decide)).symm
          refine lv_iload_n hx hb dX10_beside_79 rfl (lv_at hl 0 rfl) ?_
          refine lv_iadd hx hb dX10_beside_80 ?_
          refine lv_topi (fun v_1476 ev_1476 => ?_)
          have qv_1476 := ba_add ev_1476 (bkc (x := 18160) (c := 18160) (by decide)) nc_1165.1 (by decide)
          have bv_1476 : (18314 : Int) ≤ v_1476.toInt ∧ v_1476.toInt ≤ 20023 := bq_add qv_1476 (bkc (x := 18160) (c := 18160) (by decide)) nc_1165.1 _ _ (by decide)
          have qv_1476 : v_1476.toInt = (18160) + v_1157.toInt := qv_1476
          refine va_iald hx hb hK.1 hP 2 1 rfl rfl (vi bv_1476 (by decide)) dX10_beside_81 ?_
          refine lv_topi (fun v_1477 ev_1477 => ?_)
          refine va_iast hx hb hK.1 hP hD hS 1 1 rfl rfl (vi nc_1165.1 (by decide)) dX10_beside_82 (fun H locs hP hD hS => ?_)
          generalize hf_1478 : (upd f_1158 (v_1157 : Int32).toNatClampNeg v_1477) = f_1478 at hP hD
          have zf_1478_7 : (f_1478 7).toInt = (f_1158 7).toInt := hf_1478 ▸ pin_ne (ix_not nc_1165.1 (by decide))
          have zf_1478_8 : (f_1478 8).toInt = (f_1158 8).toInt := hf_1478 ▸ pin_ne (ix_not nc_1165.1 (by decide))
          obtain ⟨hP, hD⟩ : vPD G A H [(ce_X10 ob ob_thrown ob_world ob_images ob_hasImage ob_tape ob_taped ob_five ob_size ob_at ob_from ob_token ob_value ob_faultKind ob_faultPlace ob_fresh ob_parts ob_houses ob_houseMany ob_worthOf ob_byCall ob_over ob_bestSet ob_bestOver ob_bestWorth ob_row ob_tenDebts ob_tenMany ob_fewestBy ob_covered ob_queue ob_cameBy ob_parent ob_met ob_calls ob_callMany ob_calledOn ob_saved ob_many ob_width ob_numbers ob_moving), (ce_i9080 y ob_world f_1478), (ce_i27240 y ob_images fob_images), (ce_z3 y ob_hasImage fob_hasImage), (ce_i6 y ob_parts fob_parts), (ce_i9080 y ob_saved f_1068)] := ⟨hP, hD⟩
          obtain ⟨v_1479, ev_1479⟩ : ∃ z : Int32, z = v_1157 + 1 := ⟨_, rfl⟩
          have qv_1479 := ba_add ev_1479 nc_1165.1 (bkc (x := 1) (c := 1) (by decide)) (by decide)
          have bv_1479 : (155 : Int) ≤ v_1479.toInt ∧ v_1479.toInt ≤ 1864 := bq_add qv_1479 nc_1165.1 (bkc (x := 1) (c := 1) (by decide)) _ _ (by decide)
          have qv_1479 : v_1479.toInt = v_1157.toInt + (1) := qv_1479
          refine lv_iinc (v := v_1479) (lv' := [(2, .int v_1479), (0, .ref ob), (1, .int 2)]) hx hb dX10_beside_83 hl (k := 0) rfl (ev_1479.symm) (by decide) rfl (fun ls hl => ?_)
          refine lv_goto (tgt := 58) hx hb dX10_beside_86 (by decide) ?_
          exact ih_1164 _ (ml_inc (hi := 1864) hn_1164 qv_1479 (by decide) ((bw (154) (1864) bv_1479 (by decide))).2) _ _ _ _ ⟨v_1479, f_1478, rfl, (bw (154) (1864) bv_1479 (by decide)), (cp_s rl1158_0 hf_1478 ev_1477 ((cl_to (by omega)).trans (by omega)) ((cl_to (by omega)).trans (by omega)) (by omega) (by omega)), rfl, ⟨hP, hD⟩, hS, lv_sub hl [0, 1, 2] rfl⟩
      · skip
        have nc_1073 := nb_nle (9079) (9080) c_1073 bv_1067 (bkc (x := 9080) (c := 9080) (by decide)) (by decide)
        refine lv_aload_n hx hb dX10_beside_36 rfl (lv_at hl 1 rfl) ?_
        refine va_get (D := G) (ci := 10) (v := .ref ob_saved) (C := RX10) (T := TX10) (N := 41) hx hb hw0 inA_wsX100 hown hK.1 hP 0 rfl rfl 36 (by decide) (hw0 _ m_392) (fun _ h9 => h9) rfl dX10_beside_37 ?_
        refine lv_iload_n hx hb dX10_beside_40 rfl (lv_at hl 0 rfl) ?_
        refine lv_aload_n hx hb dX10_beside_41 rfl (lv_at hl 1 rfl) ?_
        refine va_get (D := G) (ci := 10) (v := .ref ob_world) (C := RX10) (T := TX10) (N := 41) hx hb hw0 inA_wsX100 hown hK.1 hP 0 rfl rfl 1 (by decide) (hw0 _ m_352) (fun _ h9 => h9) rfl dX10_beside_42 ?_
        refine lv_iload_n hx hb dX10_beside_45 rfl (lv_at hl 0 rfl) ?_
        refine va_iald hx hb hK.1 hP 1 1 rfl rfl (vi nc_1073.1 (by decide)) dX10_beside_46 ?_
        refine lv_topi (fun v_1480 ev_1480 => ?_)
        refine va_iast hx hb hK.1 hP hD hS 5 1 rfl rfl (vi nc_1073.1 (by decide)) dX10_beside_47 (fun H locs hP hD hS => ?_)
        generalize hf_1481 : (upd f_1068 (v_1067 : Int32).toNatClampNeg v_1480) = f_1481 at hP hD
        obtain ⟨hP, hD⟩ : vPD G A H [(ce_X10 ob ob_thrown ob_world ob_images ob_hasImage ob_tape ob_taped ob_five ob_size ob_at ob_from ob_token ob_value ob_faultKind ob_faultPlace ob_fresh ob_parts ob_houses ob_houseMany ob_worthOf ob_byCall ob_over ob_bestSet ob_bestOver ob_bestWorth ob_row ob_tenDebts ob_tenMany ob_fewestBy ob_covered ob_queue ob_cameBy ob_parent ob_met ob_calls ob_callMany ob_calledOn ob_saved ob_many ob_width ob_numbers ob_moving), (ce_i9080 y ob_world fob_world), (ce_i27240 y ob_images fob_images), (ce_z3 y ob_hasImage fob_hasImage), (ce_i6 y ob_parts fob_parts), (ce_i9080 y ob_saved f_1481)] := ⟨hP, hD⟩
        obtain ⟨v_1482, ev_1482⟩ : ∃ z : Int32, z = v_1067 + 1 := ⟨_, rfl⟩
        have qv_1482 := ba_add ev_1482 nc_1073.1 (bkc (x := 1) (c := 1) (by decide)) (by decide)
        have bv_1482 : (1 : Int) ≤ v_1482.toInt ∧ v_1482.toInt ≤ 9080 := bq_add qv_1482 nc_1073.1 (bkc (x := 1) (c := 1) (by decide)) _ _ (by decide)
        have qv_1482 : v_1482.toInt = v_1067.toInt + (1) := qv_1482
        refine lv_iinc (v := v_1482) (lv' := [(2, .int v_1482), (0, .ref ob), (1, .int 2)]) hx hb dX10_beside_48 hl (k := 0) rfl (ev_1482.symm) (by decide) rfl (fun ls hl => ?_)
        refine lv_goto (tgt := 29) hx hb dX10_beside_51 (by decide) ?_
        exact ih_1072 _ (ml_inc (hi := 9080) hn_1072 qv_1482 (by decide) ((bw (0) (9080) bv_1482 (by decide))).2) _ _ _ _ ⟨v_1482, f_1481, rfl, (bw (0) (9080) bv_1482 (by decide)), (cp_s rl1068_0 hf_1481 ev_1480 ((cl_to (by omega)).trans (by omega)) ((cl_to (by omega)).trans (by omega)) (by omega) (by omega)), rfl, ⟨hP, hD⟩, hS, lv_sub hl [0, 1, 2] rfl⟩
    · skip
      have nc_1007 := nb_eq (0) (0) c_1007 bv_1006 (bkc (x := 0) (c := 0) (by decide)) (by decide)
      refine lv_bipush (v := (-6)) hx hb dX10_beside_24 (by decide) ?_
      exact W.iret (v := (-6)) hx hb hr (fun t ht hW => ⟨⟨(-6), _, rfl, ⟨(-6), fob_world, fob_parts, fob_saved, (bw (-6) (600) (bkc (x := (-6)) (c := -6) (by decide)) (by decide)), p_fob_world, rfl, rfl⟩, by rw [ht]; exact hP, hD⟩, hS.F ht⟩) hS.2.2 dX10_beside_26
