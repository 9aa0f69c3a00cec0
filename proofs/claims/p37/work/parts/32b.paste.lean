set_option maxHeartbeats 4000000 in
set_option maxRecDepth 100000 in
theorem fpaste00 (l : Launch) (G : va_G) (y : Nat → ClassId) (sz : Nat) (ob : Nat) (a2 : Int32) (a4 : Int32) (a5 : Int32) (ob_tape : Nat) (ob_tapeSize : Int32) (ob_reader : Nat) (ob_state : Nat) (ob_images : Nat) (ob_slots : Nat) (ob_rounds : Nat) (ob_ways : Nat) (ob_otherDebts : Nat) (ob_otherKnows : Nat) (ob_slots0 : Nat) (ob_slots1 : Nat) (ob_slots2 : Nat) (ob_slots3 : Nat) (ob_slots0_filled : Int32) (ob_slots0_width : Int32) (ob_slots0_size : Int32) (ob_slots0_numbers : Nat) (fob_slots0_numbers : Nat → Int64) (p_ob_tapeSize : (0 : Int) ≤ ob_tapeSize.toInt ∧ ob_tapeSize.toInt ≤ 1400) (p_ob_slots0_filled : (0 : Int) ≤ ob_slots0_filled.toInt ∧ ob_slots0_filled.toInt ≤ 1) (p_ob_slots0_size : (0 : Int) ≤ ob_slots0_size.toInt ∧ ob_slots0_size.toInt ≤ 60) : Met l yX9_paste (Cond.code yX9_paste cX9_paste 8 (some .int) :: wAll) ({ frames := 1, cells := 0, slots := 0, locals := 72 }) (va_Pc [.ref ob, .int 0, .int a2, .int 0, .int a4, .int a5] (kp G y sz [(ce_X9 ob ob_tape ob_tapeSize ob_reader ob_state ob_images ob_slots ob_rounds ob_ways ob_otherDebts ob_otherKnows), (ce_q4 y ob_slots (va_up (va_up (va_up (va_up (fun _ => none) 0 (some ob_slots0)) 1 (some ob_slots1)) 2 (some ob_slots2)) 3 (some ob_slots3))), (ce_X5 ob_slots0 ob_slots0_filled ob_slots0_width ob_slots0_size ob_slots0_numbers), (ce_l60 y ob_slots0_numbers fob_slots0_numbers)])) (va_Qi (fun (r : Int32) (w : va_W) => (((0 : Int) ≤ ob_slots0_filled.toInt ∧ ob_slots0_filled.toInt ≤ 0) ∧ (ob_slots0_filled.toInt = 0 ∨ ob_slots0_filled.toInt = 0) ∧ r = (-6) ∧ w = [(ce_X9 ob ob_tape ob_tapeSize ob_reader ob_state ob_images ob_slots ob_rounds ob_ways ob_otherDebts ob_otherKnows), (ce_q4 y ob_slots (va_up (va_up (va_up (va_up (fun _ => none) 0 (some ob_slots0)) 1 (some ob_slots1)) 2 (some ob_slots2)) 3 (some ob_slots3))), (ce_X5 ob_slots0 ob_slots0_filled ob_slots0_width ob_slots0_size ob_slots0_numbers), (ce_l60 y ob_slots0_numbers fob_slots0_numbers)]) ∨ (((1 : Int) ≤ ob_slots0_filled.toInt ∧ ob_slots0_filled.toInt ≤ 1) ∧ (ob_slots0_filled.toInt = 1 ∧ ob_slots0_filled.toInt = 1 ∧ ob_slots0_width.toInt = ob_slots0_width.toInt ∧ ¬ (0 ≤ a2.toInt ∧ 0 ≤ a4.toInt ∧ 0 ≤ a5.toInt ∧ a2.toInt + a5.toInt ≤ ob_slots0_size.toInt ∧ a4.toInt + a5.toInt ≤ ob_slots0_size.toInt)) ∧ r = (-7) ∧ w = [(ce_X9 ob ob_tape ob_tapeSize ob_reader ob_state ob_images ob_slots ob_rounds ob_ways ob_otherDebts ob_otherKnows), (ce_q4 y ob_slots (va_up (va_up (va_up (va_up (fun _ => none) 0 (some ob_slots0)) 1 (some ob_slots1)) 2 (some ob_slots2)) 3 (some ob_slots3))), (ce_X5 ob_slots0 ob_slots0_filled ob_slots0_width ob_slots0_size ob_slots0_numbers), (ce_l60 y ob_slots0_numbers fob_slots0_numbers)]) ∨ (∃ (f_41 : Nat → Int64), ((0 : Int) ≤ a2.toInt ∧ a2.toInt ≤ 60) ∧ ((0 : Int) ≤ a4.toInt ∧ a4.toInt ≤ 60) ∧ ((0 : Int) ≤ a5.toInt ∧ a5.toInt ≤ 60) ∧ ((1 : Int) ≤ ob_slots0_filled.toInt ∧ ob_slots0_filled.toInt ≤ 1) ∧ (ob_slots0_filled.toInt = 1 ∧ ob_slots0_filled.toInt = 1 ∧ ob_slots0_width.toInt = ob_slots0_width.toInt ∧ 0 ≤ a2.toInt ∧ 0 ≤ a4.toInt ∧ 0 ≤ a5.toInt ∧ a2.toInt + a5.toInt ≤ ob_slots0_size.toInt ∧ a4.toInt + a5.toInt ≤ ob_slots0_size.toInt) ∧ r = 0 ∧ w = [(ce_X9 ob ob_tape ob_tapeSize ob_reader ob_state ob_images ob_slots ob_rounds ob_ways ob_otherDebts ob_otherKnows), (ce_q4 y ob_slots (va_up (va_up (va_up (va_up (fun _ => none) 0 (some ob_slots0)) 1 (some ob_slots1)) 2 (some ob_slots2)) 3 (some ob_slots3))), (ce_X5 ob_slots0 ob_slots0_filled ob_slots0_width ob_slots0_size ob_slots0_numbers), (ce_l60 y ob_slots0_numbers f_41)])) (kq G (va_A [(ce_X9 ob ob_tape ob_tapeSize ob_reader ob_state ob_images ob_slots ob_rounds ob_ways ob_otherDebts ob_otherKnows), (ce_q4 y ob_slots (va_up (va_up (va_up (va_up (fun _ => none) 0 (some ob_slots0)) 1 (some ob_slots1)) 2 (some ob_slots2)) 3 (some ob_slots3))), (ce_X5 ob_slots0 ob_slots0_filled ob_slots0_width ob_slots0_size ob_slots0_numbers), (ce_l60 y ob_slots0_numbers fob_slots0_numbers)] sz)) (va_A [(ce_X9 ob ob_tape ob_tapeSize ob_reader ob_state ob_images ob_slots ob_rounds ob_ways ob_otherDebts ob_otherKnows), (ce_q4 y ob_slots (va_up (va_up (va_up (va_up (fun _ => none) 0 (some ob_slots0)) 1 (some ob_slots1)) 2 (some ob_slots2)) 3 (some ob_slots3))), (ce_X5 ob_slots0 ob_slots0_filled ob_slots0_width ob_slots0_size ob_slots0_numbers), (ce_l60 y ob_slots0_numbers fob_slots0_numbers)] sz)) 0 0 (va_A [(ce_X9 ob ob_tape ob_tapeSize ob_reader ob_state ob_images ob_slots ob_rounds ob_ways ob_otherDebts ob_otherKnows), (ce_q4 y ob_slots (va_up (va_up (va_up (va_up (fun _ => none) 0 (some ob_slots0)) 1 (some ob_slots1)) 2 (some ob_slots2)) 3 (some ob_slots3))), (ce_X5 ob_slots0 ob_slots0_filled ob_slots0_width ob_slots0_size ob_slots0_numbers), (ce_l60 y ob_slots0_numbers fob_slots0_numbers)] sz) := by
  refine Met.ofW (cc := cX9_paste) (maxL := 8) (ret := (some .int)) (by decide) rfl ?_
  intro p e s m args below meth c s₁ B hml hv
  obtain ⟨rfl, hsz, hP, hK, hD0⟩ := hv
  have hx := B.exec
  have hb := B.bytes
  have hr := B.returns
  have hw0 : ∀ w ∈ wAll, w.before _ s = true := fun w h => atoms_spec (ws := Cond.code yX9_paste cX9_paste 8 (some .int) :: wAll) B.pre w (List.mem_cons_of_mem _ h)
  have hown : s.vm.findClass RX9 = some m.cls := findClass_of_methodNamed B.named
  subst hsz
  have hD := hD0.self (sz := s.heap.size)
  generalize hAe : va_A [(ce_X9 ob ob_tape ob_tapeSize ob_reader ob_state ob_images ob_slots ob_rounds ob_ways ob_otherDebts ob_otherKnows), (ce_q4 y ob_slots (va_up (va_up (va_up (va_up (fun _ => none) 0 (some ob_slots0)) 1 (some ob_slots1)) 2 (some ob_slots2)) 3 (some ob_slots3))), (ce_X5 ob_slots0 ob_slots0_filled ob_slots0_width ob_slots0_size ob_slots0_numbers), (ce_l60 y ob_slots0_numbers fob_slots0_numbers)] s.heap.size = A at hD ⊢
  have hA : ∀ q : Nat, s.heap.size ≤ q → A q := fun q h => by rw [← hAe]; exact Or.inr h
  have hS : va_S A s.heap s.heap [] := va_S.rf
  have hP : va_P G vwCl [(ce_X9 ob ob_tape ob_tapeSize ob_reader ob_state ob_images ob_slots ob_rounds ob_ways ob_otherDebts ob_otherKnows), (ce_q4 y ob_slots (va_up (va_up (va_up (va_up (fun _ => none) 0 (some ob_slots0)) 1 (some ob_slots1)) 2 (some ob_slots2)) 3 (some ob_slots3))), (ce_X5 ob_slots0 ob_slots0_filled ob_slots0_width ob_slots0_size ob_slots0_numbers), (ce_l60 y ob_slots0_numbers fob_slots0_numbers)] s.heap := hP
  have hl := lv_entry ([.ref ob, .int 0, .int a2, .int 0, .int a4, .int a5]) (n := 8) (Nat.le_of_ble_eq_true rfl)
  rw [lg_entry_eq]
  generalize (lg_sl ([.ref ob, .int 0, .int a2, .int 0, .int a4, .int a5]) ++ List.replicate (8 - (lg_sl ([.ref ob, .int 0, .int a2, .int 0, .int a4, .int a5])).length) Slot.unset).toArray = ls at hl ⊢
  have hl : lv_has ls 8 [(0, .ref ob), (1, .int 0), (2, .int a2), (3, .int 0), (4, .int a4), (5, .int a5)] := hl
  refine lv_iload_n hx hb dX9_paste_0 rfl (lv_at hl 1 rfl) ?_
  refine cSim (As := [.int 0]) (rest := []) ⟨hx, hb, hml, hown, hw0⟩ hA hK hP hD hS [] (fisSlot l G y _ 0 ) rfl ⟨(callB_of 1 hw0 (gA m_1260) rfl rfl rfl (hw0 _ m_36) (hw0 _ m_1189) cb_X9_isSlot ⟨Nat.le_of_ble_eq_true rfl, Nat.le_of_ble_eq_true rfl⟩), (hw0 _ m_1190)⟩ rfl hl.1 (Nat.le_of_ble_eq_true rfl) dX9_paste_1 ⟨Nat.le_of_ble_eq_true rfl, Nat.le_of_ble_eq_true rfl⟩ (fun r_1001 w_1001 H locs hw_1001 hP hD hS => ?_)
  rcases hw_1001 with ⟨h_1002, rfl, rfl⟩ | ⟨h_1003, h_1004, rfl, rfl⟩
  · skip
    exact False.elim (by have h9 : Int32.toInt 0 = 0 := (by decide); omega)
  · skip
    obtain ⟨hP, hD⟩ : vPD G A H [(ce_X9 ob ob_tape ob_tapeSize ob_reader ob_state ob_images ob_slots ob_rounds ob_ways ob_otherDebts ob_otherKnows), (ce_q4 y ob_slots (va_up (va_up (va_up (va_up (fun _ => none) 0 (some ob_slots0)) 1 (some ob_slots1)) 2 (some ob_slots2)) 3 (some ob_slots3))), (ce_X5 ob_slots0 ob_slots0_filled ob_slots0_width ob_slots0_size ob_slots0_numbers), (ce_l60 y ob_slots0_numbers fob_slots0_numbers)] := ⟨hP, hD⟩
    refine lv_if_eq (tgt := 14) hx hb dX9_paste_4 (by decide) (fun c9 => absurd c9 (by decide)) (fun _ => ?_)
    refine lv_iload_n hx hb dX9_paste_7 rfl (lv_at hl 3 rfl) ?_
    refine cSim (As := [.int 0]) (rest := []) ⟨hx, hb, hml, hown, hw0⟩ hA hK hP hD hS [] (fisSlot l G y _ 0 ) rfl ⟨(callB_of 1 hw0 (gA m_1260) rfl rfl rfl (hw0 _ m_36) (hw0 _ m_1189) cb_X9_isSlot ⟨Nat.le_of_ble_eq_true rfl, Nat.le_of_ble_eq_true rfl⟩), (hw0 _ m_1190)⟩ rfl hl.1 (Nat.le_of_ble_eq_true rfl) dX9_paste_8 ⟨Nat.le_of_ble_eq_true rfl, Nat.le_of_ble_eq_true rfl⟩ (fun r_1005 w_1005 H locs hw_1005 hP hD hS => ?_)
    rcases hw_1005 with ⟨h_1006, rfl, rfl⟩ | ⟨h_1007, h_1008, rfl, rfl⟩
    · skip
      exact False.elim (by have h9 : Int32.toInt 0 = 0 := (by decide); omega)
    · skip
      obtain ⟨hP, hD⟩ : vPD G A H [(ce_X9 ob ob_tape ob_tapeSize ob_reader ob_state ob_images ob_slots ob_rounds ob_ways ob_otherDebts ob_otherKnows), (ce_q4 y ob_slots (va_up (va_up (va_up (va_up (fun _ => none) 0 (some ob_slots0)) 1 (some ob_slots1)) 2 (some ob_slots2)) 3 (some ob_slots3))), (ce_X5 ob_slots0 ob_slots0_filled ob_slots0_width ob_slots0_size ob_slots0_numbers), (ce_l60 y ob_slots0_numbers fob_slots0_numbers)] := ⟨hP, hD⟩
      refine lv_if_ne (tgt := 17) hx hb dX9_paste_11 (by decide) (fun _ => ?_) (fun c9 => absurd c9 (by decide))
      refine lv_aload_n hx hb dX9_paste_17 rfl (lv_at hl 0 rfl) ?_
      refine va_get (D := G) (ci := 9) (v := .ref ob_slots) (C := RX9) (T := TX9) (N := 10) hx hb hw0 inA_wsX90 hown hK.1 hP 0 rfl rfl 5 (by decide) (hw0 _ m_1191) (fun _ h9 => h9) rfl dX9_paste_18 ?_
      refine lv_iload_n hx hb dX9_paste_21 rfl (lv_at hl 1 rfl) ?_
      refine va_aldq hx hb hK.1 hP 1 4 rfl rfl (vi (bkc (x := 0) (c := 0) (by decide)) (by decide)) dX9_paste_22 ?_
      refine W.eq (g2 := F0 m 23 ls [.ref ob_slots0]) rfl ?_
      refine lv_astore (lv' := [(6, .ref ob_slots0), (0, .ref ob), (1, .int 0), (2, .int a2), (3, .int 0), (4, .int a4), (5, .int a5)]) hx hb dX9_paste_23 hl (by decide) rfl (fun ls hl => ?_)
      refine lv_aload_n hx hb dX9_paste_25 rfl (lv_at hl 1 rfl) ?_
      refine va_get (D := G) (ci := 9) (v := .ref ob_slots) (C := RX9) (T := TX9) (N := 10) hx hb hw0 inA_wsX90 hown hK.1 hP 0 rfl rfl 5 (by decide) (hw0 _ m_1191) (fun _ h9 => h9) rfl dX9_paste_26 ?_
      refine lv_iload_n hx hb dX9_paste_29 rfl (lv_at hl 4 rfl) ?_
      refine va_aldq hx hb hK.1 hP 1 4 rfl rfl (vi (bkc (x := 0) (c := 0) (by decide)) (by decide)) dX9_paste_30 ?_
      refine W.eq (g2 := F0 m 31 ls [.ref ob_slots0]) rfl ?_
      refine lv_astore (lv' := [(7, .ref ob_slots0), (6, .ref ob_slots0), (0, .ref ob), (1, .int 0), (2, .int a2), (3, .int 0), (4, .int a4), (5, .int a5)]) hx hb dX9_paste_31 hl (by decide) rfl (fun ls hl => ?_)
      refine lv_aload hx hb dX9_paste_33 (lv_at hl 1 rfl) ?_
      refine va_get (D := G) (ci := 5) (v := .int ob_slots0_filled) (C := RX5) (T := TX5) (N := 4) hx hb hw0 inA_wsX50 hown hK.1 hP 2 rfl rfl 0 (by decide) (hw0 _ m_1192) (fun _ h9 => h9) rfl dX9_paste_35 ?_
      refine lv_if_eq (tgt := 49) hx hb dX9_paste_38 (by decide) (fun c_1009 => ?_) (fun c_1009 => ?_)
      · skip
        have nc_1009 := nb_eq (0) (0) c_1009 p_ob_slots0_filled (bkc (x := 0) (c := 0) (by decide)) (by decide)
        refine lv_bipush (v := (-6)) hx hb dX9_paste_49 (by decide) ?_
        exact W.iret (v := (-6)) hx hb hr (fun t ht hW => ⟨⟨(-6), _, rfl, Or.inl (⟨nc_1009.1, by have h90 : Int32.toInt (-6) = -6 := (by decide); have h91 : Int32.toInt 0 = 0 := (by decide); omega, rfl, rfl⟩), by rw [ht]; exact hP, hD⟩, hS.F ht⟩) hS.2.2 dX9_paste_51
      · skip
        have nc_1009 := nb_ne (1) (1) c_1009 p_ob_slots0_filled (k := 0) (by decide) (by decide)
        refine lv_aload hx hb dX9_paste_41 (lv_at hl 0 rfl) ?_
        refine va_get (D := G) (ci := 5) (v := .int ob_slots0_filled) (C := RX5) (T := TX5) (N := 4) hx hb hw0 inA_wsX50 hown hK.1 hP 2 rfl rfl 0 (by decide) (hw0 _ m_1192) (fun _ h9 => h9) rfl dX9_paste_43 ?_
        refine lv_if_ne (tgt := 52) hx hb dX9_paste_46 (by decide) (fun _ => ?_) (fun c9 => absurd c9 (dc_neq nc_1009.1 (bkc (x := 0) (c := 0) (by decide)) (by decide)))
        refine lv_aload hx hb dX9_paste_52 (lv_at hl 1 rfl) ?_
        refine va_get (D := G) (ci := 5) (v := .int ob_slots0_width) (C := RX5) (T := TX5) (N := 4) hx hb hw0 inA_wsX50 hown hK.1 hP 2 rfl rfl 1 (by decide) (hw0 _ m_1289) (fun _ h9 => h9) rfl dX9_paste_54 ?_
        refine lv_aload hx hb dX9_paste_57 (lv_at hl 0 rfl) ?_
        refine va_get (D := G) (ci := 5) (v := .int ob_slots0_width) (C := RX5) (T := TX5) (N := 4) hx hb hw0 inA_wsX50 hown hK.1 hP 2 rfl rfl 1 (by decide) (hw0 _ m_1289) (fun _ h9 => h9) rfl dX9_paste_59 ?_
        refine lv_icmp_eq (tgt := 68) hx hb dX9_paste_62 (by decide) (fun _ => ?_) (fun c9 => absurd (rfl) c9)
        refine lv_aload hx hb dX9_paste_68 (lv_at hl 1 rfl) ?_
        refine lv_iload_n hx hb dX9_paste_70 rfl (lv_at hl 4 rfl) ?_
        refine lv_iload hx hb dX9_paste_71 (lv_at hl 7 rfl) ?_
        refine cVim (As := [.int a2, .int a5]) (rest := []) ⟨hx, hb, hml, hown, hw0⟩ hA hK hP hD hS [false, false, true] (sX5_hasRun l G y _ ob_slots0 a2 a5 ob_slots0_filled ob_slots0_width ob_slots0_size ob_slots0_numbers (bw (0) (1) nc_1009.1 (by decide)) p_ob_slots0_size) rfl ⟨(callB_of 2 hw0 (gA m_941) rfl rfl rfl (hw0 _ m_858) (hw0 _ m_1290) cb_X5_hasRun ⟨Nat.le_of_ble_eq_true rfl, Nat.le_of_ble_eq_true rfl⟩), (hw0 _ m_1291), (hw0 _ m_1292)⟩ (ci := 5) (q := (RX5, TX5, 4)) rfl rfl rfl hl.1 (Nat.le_of_ble_eq_true rfl) dX9_paste_73 ⟨Nat.le_of_ble_eq_true rfl, Nat.le_of_ble_eq_true rfl⟩ (fun r_1010 w_1010 H locs hw_1010 hP hD hS => ?_)
        rcases hw_1010 with ⟨h_1011, rfl, rfl⟩ | ⟨h_1012, h_1013, h_1014, rfl, rfl⟩
        · skip
          obtain ⟨hP, hD⟩ : vPD G A H [(ce_X9 ob ob_tape ob_tapeSize ob_reader ob_state ob_images ob_slots ob_rounds ob_ways ob_otherDebts ob_otherKnows), (ce_q4 y ob_slots (va_up (va_up (va_up (va_up (fun _ => none) 0 (some ob_slots0)) 1 (some ob_slots1)) 2 (some ob_slots2)) 3 (some ob_slots3))), (ce_X5 ob_slots0 ob_slots0_filled ob_slots0_width ob_slots0_size ob_slots0_numbers), (ce_l60 y ob_slots0_numbers fob_slots0_numbers)] := ⟨hP, hD⟩
          refine lv_if_eq (tgt := 91) hx hb dX9_paste_76 (by decide) (fun _ => ?_) (fun c9 => absurd (by decide) c9)
          refine lv_bipush (v := (-7)) hx hb dX9_paste_91 (by decide) ?_
          exact W.iret (v := (-7)) hx hb hr (fun t ht hW => ⟨⟨(-7), _, rfl, Or.inr (Or.inl (⟨nc_1009.1, by have h90 : Int32.toInt (-7) = -7 := (by decide); have h91 : Int32.toInt 0 = 0 := (by decide); omega, rfl, rfl⟩)), by rw [ht]; exact hP, hD⟩, hS.F ht⟩) hS.2.2 dX9_paste_93
        · skip
          obtain ⟨hP, hD⟩ : vPD G A H [(ce_X9 ob ob_tape ob_tapeSize ob_reader ob_state ob_images ob_slots ob_rounds ob_ways ob_otherDebts ob_otherKnows), (ce_q4 y ob_slots (va_up (va_up (va_up (va_up (fun _ => none) 0 (some ob_slots0)) 1 (some ob_slots1)) 2 (some ob_slots2)) 3 (some ob_slots3))), (ce_X5 ob_slots0 ob_slots0_filled ob_slots0_width ob_slots0_size ob_slots0_numbers), (ce_l60 y ob_slots0_numbers fob_slots0_numbers)] := ⟨hP, hD⟩
          refine lv_if_eq (tgt := 91) hx hb dX9_paste_76 (by decide) (fun c9 => absurd c9 (by decide)) (fun _ => ?_)
          refine lv_aload hx hb dX9_paste_79 (lv_at hl 0 rfl) ?_
          refine lv_iload hx hb dX9_paste_81 (lv_at hl 6 rfl) ?_
          refine lv_iload hx hb dX9_paste_83 (lv_at hl 7 rfl) ?_
          refine cVim (As := [.int a4, .int a5]) (rest := []) ⟨hx, hb, hml, hown, hw0⟩ hA hK hP hD hS [false, false, true] (sX5_hasRun l G y _ ob_slots0 a4 a5 ob_slots0_filled ob_slots0_width ob_slots0_size ob_slots0_numbers (bw (0) (1) nc_1009.1 (by decide)) p_ob_slots0_size) rfl ⟨(callB_of 2 hw0 (gA m_941) rfl rfl rfl (hw0 _ m_858) (hw0 _ m_1290) cb_X5_hasRun ⟨Nat.le_of_ble_eq_true rfl, Nat.le_of_ble_eq_true rfl⟩), (hw0 _ m_1291), (hw0 _ m_1292)⟩ (ci := 5) (q := (RX5, TX5, 4)) rfl rfl rfl hl.1 (Nat.le_of_ble_eq_true rfl) dX9_paste_85 ⟨Nat.le_of_ble_eq_true rfl, Nat.le_of_ble_eq_true rfl⟩ (fun r_1015 w_1015 H locs hw_1015 hP hD hS => ?_)
          rcases hw_1015 with ⟨h_1016, rfl, rfl⟩ | ⟨h_1017, h_1018, h_1019, rfl, rfl⟩
          · skip
            obtain ⟨hP, hD⟩ : vPD G A H [(ce_X9 ob ob_tape ob_tapeSize ob_reader ob_state ob_images ob_slots ob_rounds ob_ways ob_otherDebts ob_otherKnows), (ce_q4 y ob_slots (va_up (va_up (va_up (va_up (fun _ => none) 0 (some ob_slots0)) 1 (some ob_slots1)) 2 (some ob_slots2)) 3 (some ob_slots3))), (ce_X5 ob_slots0 ob_slots0_filled ob_slots0_width ob_slots0_size ob_slots0_numbers), (ce_l60 y ob_slots0_numbers fob_slots0_numbers)] := ⟨hP, hD⟩
            refine lv_if_ne (tgt := 94) hx hb dX9_paste_88 (by decide) (fun c9 => absurd (by decide) c9) (fun _ => ?_)
            refine lv_bipush (v := (-7)) hx hb dX9_paste_91 (by decide) ?_
            exact W.iret (v := (-7)) hx hb hr (fun t ht hW => ⟨⟨(-7), _, rfl, Or.inr (Or.inl (⟨nc_1009.1, by have h90 : Int32.toInt (-7) = -7 := (by decide); have h91 : Int32.toInt 0 = 0 := (by decide); omega, rfl, rfl⟩)), by rw [ht]; exact hP, hD⟩, hS.F ht⟩) hS.2.2 dX9_paste_93
          · skip
            obtain ⟨hP, hD⟩ : vPD G A H [(ce_X9 ob ob_tape ob_tapeSize ob_reader ob_state ob_images ob_slots ob_rounds ob_ways ob_otherDebts ob_otherKnows), (ce_q4 y ob_slots (va_up (va_up (va_up (va_up (fun _ => none) 0 (some ob_slots0)) 1 (some ob_slots1)) 2 (some ob_slots2)) 3 (some ob_slots3))), (ce_X5 ob_slots0 ob_slots0_filled ob_slots0_width ob_slots0_size ob_slots0_numbers), (ce_l60 y ob_slots0_numbers fob_slots0_numbers)] := ⟨hP, hD⟩
            refine lv_if_ne (tgt := 94) hx hb dX9_paste_88 (by decide) (fun _ => ?_) (fun c9 => absurd c9 (by decide))
            refine lv_aload hx hb dX9_paste_94 (lv_at hl 1 rfl) ?_
            refine va_get (D := G) (ci := 5) (v := .ref ob_slots0_numbers) (C := RX5) (T := TX5) (N := 4) hx hb hw0 inA_wsX50 hown hK.1 hP 2 rfl rfl 3 (by decide) (hw0 _ m_1293) (fun _ h9 => h9) rfl dX9_paste_96 ?_
            refine lv_iload_n hx hb dX9_paste_99 rfl (lv_at hl 4 rfl) ?_
            refine lv_aload hx hb dX9_paste_100 (lv_at hl 0 rfl) ?_
            refine va_get (D := G) (ci := 5) (v := .ref ob_slots0_numbers) (C := RX5) (T := TX5) (N := 4) hx hb hw0 inA_wsX50 hown hK.1 hP 2 rfl rfl 3 (by decide) (hw0 _ m_1293) (fun _ h9 => h9) rfl dX9_paste_102 ?_
            refine lv_iload hx hb dX9_paste_105 (lv_at hl 6 rfl) ?_
            refine lv_iload hx hb dX9_paste_107 (lv_at hl 7 rfl) ?_
            refine va_copyl (own := RX9) hx hb (by rw [hml]; exact hl.1.symm) hown (hw0 _ m_1294) (hw0 _ m_272) (hw0 _ m_273) (hw0 _ m_274) hK.1 hP hD hS 3 3 2 2 rfl rfl rfl rfl rfl (cy_n h_1012 (by decide)) (cy_n h_1017 (by decide)) (cy_n h_1013 (by decide)) (cy_g h_1012 h_1013 (by decide) (by decide) (by omega)) (cy_g h_1017 h_1013 (by decide) (by decide) (by omega)) (fun i hi => rfl) (Nat.le_of_ble_eq_true rfl) (by decide) dX9_paste_109 (fun H locs hP hD hS => ?_)
            generalize hf_1020 : (va_cpy fob_slots0_numbers fob_slots0_numbers (a2 : Int32).toNatClampNeg (a4 : Int32).toNatClampNeg (a5 : Int32).toNatClampNeg) = f_1020 at hP hD
            obtain ⟨hP, hD⟩ : vPD G A H [(ce_X9 ob ob_tape ob_tapeSize ob_reader ob_state ob_images ob_slots ob_rounds ob_ways ob_otherDebts ob_otherKnows), (ce_q4 y ob_slots (va_up (va_up (va_up (va_up (fun _ => none) 0 (some ob_slots0)) 1 (some ob_slots1)) 2 (some ob_slots2)) 3 (some ob_slots3))), (ce_X5 ob_slots0 ob_slots0_filled ob_slots0_width ob_slots0_size ob_slots0_numbers), (ce_l60 y ob_slots0_numbers f_1020)] := ⟨hP, hD⟩
            refine lv_iconst (v := 0) hx hb dX9_paste_112 (by decide) ?_
            exact W.iret (v := 0) hx hb hr (fun t ht hW => ⟨⟨0, _, rfl, Or.inr (Or.inr (⟨f_1020, h_1012, h_1017, h_1013, nc_1009.1, by have h90 : Int32.toInt 0 = 0 := (by decide); omega, rfl, rfl⟩)), by rw [ht]; exact hP, hD⟩, hS.F ht⟩) hS.2.2 dX9_paste_113

set_option maxHeartbeats 4000000 in
set_option maxRecDepth 100000 in
theorem fpaste01 (l : Launch) (G : va_G) (y : Nat → ClassId) (sz : Nat) (ob : Nat) (a2 : Int32) (a4 : Int32) (a5 : Int32) (ob_tape : Nat) (ob_tapeSize : Int32) (ob_reader : Nat) (ob_state : Nat) (ob_images : Nat) (ob_slots : Nat) (ob_rounds : Nat) (ob_ways : Nat) (ob_otherDebts : Nat) (ob_otherKnows : Nat) (ob_slots0 : Nat) (ob_slots1 : Nat) (ob_slots2 : Nat) (ob_slots3 : Nat) (ob_slots0_filled : Int32) (ob_slots0_width : Int32) (ob_slots0_size : Int32) (ob_slots0_numbers : Nat) (fob_slots0_numbers : Nat → Int64) (ob_slots1_filled : Int32) (ob_slots1_width : Int32) (ob_slots1_size : Int32) (ob_slots1_numbers : Nat) (fob_slots1_numbers : Nat → Int64) (p_ob_tapeSize : (0 : Int) ≤ ob_tapeSize.toInt ∧ ob_tapeSize.toInt ≤ 1400) (p_ob_slots0_filled : (0 : Int) ≤ ob_slots0_filled.toInt ∧ ob_slots0_filled.toInt ≤ 1) (p_ob_slots0_size : (0 : Int) ≤ ob_slots0_size.toInt ∧ ob_slots0_size.toInt ≤ 60) (p_ob_slots1_filled : (0 : Int) ≤ ob_slots1_filled.toInt ∧ ob_slots1_filled.toInt ≤ 1) (p_ob_slots1_size : (0 : Int) ≤ ob_slots1_size.toInt ∧ ob_slots1_size.toInt ≤ 60) : Met l yX9_paste (Cond.code yX9_paste cX9_paste 8 (some .int) :: wAll) ({ frames := 1, cells := 0, slots := 0, locals := 72 }) (va_Pc [.ref ob, .int 0, .int a2, .int 1, .int a4, .int a5] (kp G y sz [(ce_X9 ob ob_tape ob_tapeSize ob_reader ob_state ob_images ob_slots ob_rounds ob_ways ob_otherDebts ob_otherKnows), (ce_q4 y ob_slots (va_up (va_up (va_up (va_up (fun _ => none) 0 (some ob_slots0)) 1 (some ob_slots1)) 2 (some ob_slots2)) 3 (some ob_slots3))), (ce_X5 ob_slots0 ob_slots0_filled ob_slots0_width ob_slots0_size ob_slots0_numbers), (ce_l60 y ob_slots0_numbers fob_slots0_numbers), (ce_X5 ob_slots1 ob_slots1_filled ob_slots1_width ob_slots1_size ob_slots1_numbers), (ce_l60 y ob_slots1_numbers fob_slots1_numbers)])) (va_Qi (fun (r : Int32) (w : va_W) => ((ob_slots0_filled.toInt = 0 ∨ ob_slots1_filled.toInt = 0) ∧ r = (-6) ∧ w = [(ce_X9 ob ob_tape ob_tapeSize ob_reader ob_state ob_images ob_slots ob_rounds ob_ways ob_otherDebts ob_otherKnows), (ce_q4 y ob_slots (va_up (va_up (va_up (va_up (fun _ => none) 0 (some ob_slots0)) 1 (some ob_slots1)) 2 (some ob_slots2)) 3 (some ob_slots3))), (ce_X5 ob_slots0 ob_slots0_filled ob_slots0_width ob_slots0_size ob_slots0_numbers), (ce_l60 y ob_slots0_numbers fob_slots0_numbers), (ce_X5 ob_slots1 ob_slots1_filled ob_slots1_width ob_slots1_size ob_slots1_numbers), (ce_l60 y ob_slots1_numbers fob_slots1_numbers)]) ∨ (((1 : Int) ≤ ob_slots0_filled.toInt ∧ ob_slots0_filled.toInt ≤ 1) ∧ ((1 : Int) ≤ ob_slots1_filled.toInt ∧ ob_slots1_filled.toInt ≤ 1) ∧ (ob_slots0_filled.toInt = 1 ∧ ob_slots1_filled.toInt = 1 ∧ ob_slots0_width.toInt = ob_slots1_width.toInt ∧ ¬ (0 ≤ a2.toInt ∧ 0 ≤ a4.toInt ∧ 0 ≤ a5.toInt ∧ a2.toInt + a5.toInt ≤ ob_slots0_size.toInt ∧ a4.toInt + a5.toInt ≤ ob_slots1_size.toInt)) ∧ r = (-7) ∧ w = [(ce_X9 ob ob_tape ob_tapeSize ob_reader ob_state ob_images ob_slots ob_rounds ob_ways ob_otherDebts ob_otherKnows), (ce_q4 y ob_slots (va_up (va_up (va_up (va_up (fun _ => none) 0 (some ob_slots0)) 1 (some ob_slots1)) 2 (some ob_slots2)) 3 (some ob_slots3))), (ce_X5 ob_slots0 ob_slots0_filled ob_slots0_width ob_slots0_size ob_slots0_numbers), (ce_l60 y ob_slots0_numbers fob_slots0_numbers), (ce_X5 ob_slots1 ob_slots1_filled ob_slots1_width ob_slots1_size ob_slots1_numbers), (ce_l60 y ob_slots1_numbers fob_slots1_numbers)]) ∨ (((1 : Int) ≤ ob_slots0_filled.toInt ∧ ob_slots0_filled.toInt ≤ 1) ∧ ((1 : Int) ≤ ob_slots1_filled.toInt ∧ ob_slots1_filled.toInt ≤ 1) ∧ (ob_slots0_filled.toInt = 1 ∧ ob_slots1_filled.toInt = 1 ∧ ¬ ob_slots0_width.toInt = ob_slots1_width.toInt) ∧ r = (-8) ∧ w = [(ce_X9 ob ob_tape ob_tapeSize ob_reader ob_state ob_images ob_slots ob_rounds ob_ways ob_otherDebts ob_otherKnows), (ce_q4 y ob_slots (va_up (va_up (va_up (va_up (fun _ => none) 0 (some ob_slots0)) 1 (some ob_slots1)) 2 (some ob_slots2)) 3 (some ob_slots3))), (ce_X5 ob_slots0 ob_slots0_filled ob_slots0_width ob_slots0_size ob_slots0_numbers), (ce_l60 y ob_slots0_numbers fob_slots0_numbers), (ce_X5 ob_slots1 ob_slots1_filled ob_slots1_width ob_slots1_size ob_slots1_numbers), (ce_l60 y ob_slots1_numbers fob_slots1_numbers)]) ∨ (∃ (f_45 : Nat → Int64), ((0 : Int) ≤ a2.toInt ∧ a2.toInt ≤ 60) ∧ ((0 : Int) ≤ a4.toInt ∧ a4.toInt ≤ 60) ∧ ((0 : Int) ≤ a5.toInt ∧ a5.toInt ≤ 60) ∧ ((1 : Int) ≤ ob_slots0_filled.toInt ∧ ob_slots0_filled.toInt ≤ 1) ∧ ((1 : Int) ≤ ob_slots1_filled.toInt ∧ ob_slots1_filled.toInt ≤ 1) ∧ (ob_slots0_filled.toInt = 1 ∧ ob_slots1_filled.toInt = 1 ∧ ob_slots0_width.toInt = ob_slots1_width.toInt ∧ 0 ≤ a2.toInt ∧ 0 ≤ a4.toInt ∧ 0 ≤ a5.toInt ∧ a2.toInt + a5.toInt ≤ ob_slots0_size.toInt ∧ a4.toInt + a5.toInt ≤ ob_slots1_size.toInt) ∧ r = 0 ∧ w = [(ce_X9 ob ob_tape ob_tapeSize ob_reader ob_state ob_images ob_slots ob_rounds ob_ways ob_otherDebts ob_otherKnows), (ce_q4 y ob_slots (va_up (va_up (va_up (va_up (fun _ => none) 0 (some ob_slots0)) 1 (some ob_slots1)) 2 (some ob_slots2)) 3 (some ob_slots3))), (ce_X5 ob_slots0 ob_slots0_filled ob_slots0_width ob_slots0_size ob_slots0_numbers), (ce_l60 y ob_slots0_numbers fob_slots0_numbers), (ce_X5 ob_slots1 ob_slots1_filled ob_slots1_width ob_slots1_size ob_slots1_numbers), (ce_l60 y ob_slots1_numbers f_45)])) (kq G (va_A [(ce_X9 ob ob_tape ob_tapeSize ob_reader ob_state ob_images ob_slots ob_rounds ob_ways ob_otherDebts ob_otherKnows), (ce_q4 y ob_slots (va_up (va_up (va_up (va_up (fun _ => none) 0 (some ob_slots0)) 1 (some ob_slots1)) 2 (some ob_slots2)) 3 (some ob_slots3))), (ce_X5 ob_slots0 ob_slots0_filled ob_slots0_width ob_slots0_size ob_slots0_numbers), (ce_l60 y ob_slots0_numbers fob_slots0_numbers), (ce_X5 ob_slots1 ob_slots1_filled ob_slots1_width ob_slots1_size ob_slots1_numbers), (ce_l60 y ob_slots1_numbers fob_slots1_numbers)] sz)) (va_A [(ce_X9 ob ob_tape ob_tapeSize ob_reader ob_state ob_images ob_slots ob_rounds ob_ways ob_otherDebts ob_otherKnows), (ce_q4 y ob_slots (va_up (va_up (va_up (va_up (fun _ => none) 0 (some ob_slots0)) 1 (some ob_slots1)) 2 (some ob_slots2)) 3 (some ob_slots3))), (ce_X5 ob_slots0 ob_slots0_filled ob_slots0_width ob_slots0_size ob_slots0_numbers), (ce_l60 y ob_slots0_numbers fob_slots0_numbers), (ce_X5 ob_slots1 ob_slots1_filled ob_slots1_width ob_slots1_size ob_slots1_numbers), (ce_l60 y ob_slots1_numbers fob_slots1_numbers)] sz)) 0 0 (va_A [(ce_X9 ob ob_tape ob_tapeSize ob_reader ob_state ob_images ob_slots ob_rounds ob_ways ob_otherDebts ob_otherKnows), (ce_q4 y ob_slots (va_up (va_up (va_up (va_up (fun _ => none) 0 (some ob_slots0)) 1 (some ob_slots1)) 2 (some ob_slots2)) 3 (some ob_slots3))), (ce_X5 ob_slots0 ob_slots0_filled ob_slots0_width ob_slots0_size ob_slots0_numbers), (ce_l60 y ob_slots0_numbers fob_slots0_numbers), (ce_X5 ob_slots1 ob_slots1_filled ob_slots1_width ob_slots1_size ob_slots1_numbers), (ce_l60 y ob_slots1_numbers fob_slots1_numbers)] sz) := by
  refine Met.ofW (cc := cX9_paste) (maxL := 8) (ret := (some .int)) (by decide) rfl ?_
  intro p e s m args below meth c s₁ B hml hv
  obtain ⟨rfl, hsz, hP, hK, hD0⟩ := hv
  have hx := B.exec
  have hb := B.bytes
  have hr := B.returns
  have hw0 : ∀ w ∈ wAll, w.before _ s = true := fun w h => atoms_spec (ws := Cond.code yX9_paste cX9_paste 8 (some .int) :: wAll) B.pre w (List.mem_cons_of_mem _ h)
  have hown : s.vm.findClass RX9 = some m.cls := findClass_of_methodNamed B.named
  subst hsz
  have hD := hD0.self (sz := s.heap.size)
  generalize hAe : va_A [(ce_X9 ob ob_tape ob_tapeSize ob_reader ob_state ob_images ob_slots ob_rounds ob_ways ob_otherDebts ob_otherKnows), (ce_q4 y ob_slots (va_up (va_up (va_up (va_up (fun _ => none) 0 (some ob_slots0)) 1 (some ob_slots1)) 2 (some ob_slots2)) 3 (some ob_slots3))), (ce_X5 ob_slots0 ob_slots0_filled ob_slots0_width ob_slots0_size ob_slots0_numbers), (ce_l60 y ob_slots0_numbers fob_slots0_numbers), (ce_X5 ob_slots1 ob_slots1_filled ob_slots1_width ob_slots1_size ob_slots1_numbers), (ce_l60 y ob_slots1_numbers fob_slots1_numbers)] s.heap.size = A at hD ⊢
  have hA : ∀ q : Nat, s.heap.size ≤ q → A q := fun q h => by rw [← hAe]; exact Or.inr h
  have hS : va_S A s.heap s.heap [] := va_S.rf
  have hP : va_P G vwCl [(ce_X9 ob ob_tape ob_tapeSize ob_reader ob_state ob_images ob_slots ob_rounds ob_ways ob_otherDebts ob_otherKnows), (ce_q4 y ob_slots (va_up (va_up (va_up (va_up (fun _ => none) 0 (some ob_slots0)) 1 (some ob_slots1)) 2 (some ob_slots2)) 3 (some ob_slots3))), (ce_X5 ob_slots0 ob_slots0_filled ob_slots0_width ob_slots0_size ob_slots0_numbers), (ce_l60 y ob_slots0_numbers fob_slots0_numbers), (ce_X5 ob_slots1 ob_slots1_filled ob_slots1_width ob_slots1_size ob_slots1_numbers), (ce_l60 y ob_slots1_numbers fob_slots1_numbers)] s.heap := hP
  have hl := lv_entry ([.ref ob, .int 0, .int a2, .int 1, .int a4, .int a5]) (n := 8) (Nat.le_of_ble_eq_true rfl)
  rw [lg_entry_eq]
  generalize (lg_sl ([.ref ob, .int 0, .int a2, .int 1, .int a4, .int a5]) ++ List.replicate (8 - (lg_sl ([.ref ob, .int 0, .int a2, .int 1, .int a4, .int a5])).length) Slot.unset).toArray = ls at hl ⊢
  have hl : lv_has ls 8 [(0, .ref ob), (1, .int 0), (2, .int a2), (3, .int 1), (4, .int a4), (5, .int a5)] := hl
  refine lv_iload_n hx hb dX9_paste_0 rfl (lv_at hl 1 rfl) ?_
  refine cSim (As := [.int 0]) (rest := []) ⟨hx, hb, hml, hown, hw0⟩ hA hK hP hD hS [] (fisSlot l G y _ 0 ) rfl ⟨(callB_of 1 hw0 (gA m_1260) rfl rfl rfl (hw0 _ m_36) (hw0 _ m_1189) cb_X9_isSlot ⟨Nat.le_of_ble_eq_true rfl, Nat.le_of_ble_eq_true rfl⟩), (hw0 _ m_1190)⟩ rfl hl.1 (Nat.le_of_ble_eq_true rfl) dX9_paste_1 ⟨Nat.le_of_ble_eq_true rfl, Nat.le_of_ble_eq_true rfl⟩ (fun r_1001 w_1001 H locs hw_1001 hP hD hS => ?_)
  rcases hw_1001 with ⟨h_1002, rfl, rfl⟩ | ⟨h_1003, h_1004, rfl, rfl⟩
  · skip
    exact False.elim (by have h9 : Int32.toInt 0 = 0 := (by decide); omega)
  · skip
    obtain ⟨hP, hD⟩ : vPD G A H [(ce_X9 ob ob_tape ob_tapeSize ob_reader ob_state ob_images ob_slots ob_rounds ob_ways ob_otherDebts ob_otherKnows), (ce_q4 y ob_slots (va_up (va_up (va_up (va_up (fun _ => none) 0 (some ob_slots0)) 1 (some ob_slots1)) 2 (some ob_slots2)) 3 (some ob_slots3))), (ce_X5 ob_slots0 ob_slots0_filled ob_slots0_width ob_slots0_size ob_slots0_numbers), (ce_l60 y ob_slots0_numbers fob_slots0_numbers), (ce_X5 ob_slots1 ob_slots1_filled ob_slots1_width ob_slots1_size ob_slots1_numbers), (ce_l60 y ob_slots1_numbers fob_slots1_numbers)] := ⟨hP, hD⟩
    refine lv_if_eq (tgt := 14) hx hb dX9_paste_4 (by decide) (fun c9 => absurd c9 (by decide)) (fun _ => ?_)
    refine lv_iload_n hx hb dX9_paste_7 rfl (lv_at hl 3 rfl) ?_
    refine cSim (As := [.int 1]) (rest := []) ⟨hx, hb, hml, hown, hw0⟩ hA hK hP hD hS [] (fisSlot l G y _ 1 ) rfl ⟨(callB_of 1 hw0 (gA m_1260) rfl rfl rfl (hw0 _ m_36) (hw0 _ m_1189) cb_X9_isSlot ⟨Nat.le_of_ble_eq_true rfl, Nat.le_of_ble_eq_true rfl⟩), (hw0 _ m_1190)⟩ rfl hl.1 (Nat.le_of_ble_eq_true rfl) dX9_paste_8 ⟨Nat.le_of_ble_eq_true rfl, Nat.le_of_ble_eq_true rfl⟩ (fun r_1005 w_1005 H locs hw_1005 hP hD hS => ?_)
    rcases hw_1005 with ⟨h_1006, rfl, rfl⟩ | ⟨h_1007, h_1008, rfl, rfl⟩
    · skip
      exact False.elim (by have h9 : Int32.toInt 1 = 1 := (by decide); omega)
    · skip
      obtain ⟨hP, hD⟩ : vPD G A H [(ce_X9 ob ob_tape ob_tapeSize ob_reader ob_state ob_images ob_slots ob_rounds ob_ways ob_otherDebts ob_otherKnows), (ce_q4 y ob_slots (va_up (va_up (va_up (va_up (fun _ => none) 0 (some ob_slots0)) 1 (some ob_slots1)) 2 (some ob_slots2)) 3 (some ob_slots3))), (ce_X5 ob_slots0 ob_slots0_filled ob_slots0_width ob_slots0_size ob_slots0_numbers), (ce_l60 y ob_slots0_numbers fob_slots0_numbers), (ce_X5 ob_slots1 ob_slots1_filled ob_slots1_width ob_slots1_size ob_slots1_numbers), (ce_l60 y ob_slots1_numbers fob_slots1_numbers)] := ⟨hP, hD⟩
      refine lv_if_ne (tgt := 17) hx hb dX9_paste_11 (by decide) (fun _ => ?_) (fun c9 => absurd c9 (by decide))
      refine lv_aload_n hx hb dX9_paste_17 rfl (lv_at hl 0 rfl) ?_
      refine va_get (D := G) (ci := 9) (v := .ref ob_slots) (C := RX9) (T := TX9) (N := 10) hx hb hw0 inA_wsX90 hown hK.1 hP 0 rfl rfl 5 (by decide) (hw0 _ m_1191) (fun _ h9 => h9) rfl dX9_paste_18 ?_
      refine lv_iload_n hx hb dX9_paste_21 rfl (lv_at hl 1 rfl) ?_
      refine va_aldq hx hb hK.1 hP 1 4 rfl rfl (vi (bkc (x := 0) (c := 0) (by decide)) (by decide)) dX9_paste_22 ?_
      refine W.eq (g2 := F0 m 23 ls [.ref ob_slots0]) rfl ?_
      refine lv_astore (lv' := [(6, .ref ob_slots0), (0, .ref ob), (1, .int 0), (2, .int a2), (3, .int 1), (4, .int a4), (5, .int a5)]) hx hb dX9_paste_23 hl (by decide) rfl (fun ls hl => ?_)
      refine lv_aload_n hx hb dX9_paste_25 rfl (lv_at hl 1 rfl) ?_
      refine va_get (D := G) (ci := 9) (v := .ref ob_slots) (C := RX9) (T := TX9) (N := 10) hx hb hw0 inA_wsX90 hown hK.1 hP 0 rfl rfl 5 (by decide) (hw0 _ m_1191) (fun _ h9 => h9) rfl dX9_paste_26 ?_
      refine lv_iload_n hx hb dX9_paste_29 rfl (lv_at hl 4 rfl) ?_
      refine va_aldq hx hb hK.1 hP 1 4 rfl rfl (vi (bkc (x := 1) (c := 1) (by decide)) (by decide)) dX9_paste_30 ?_
      refine W.eq (g2 := F0 m 31 ls [.ref ob_slots1]) rfl ?_
      refine lv_astore (lv' := [(7, .ref ob_slots1), (6, .ref ob_slots0), (0, .ref ob), (1, .int 0), (2, .int a2), (3, .int 1), (4, .int a4), (5, .int a5)]) hx hb dX9_paste_31 hl (by decide) rfl (fun ls hl => ?_)
      refine lv_aload hx hb dX9_paste_33 (lv_at hl 1 rfl) ?_
      refine va_get (D := G) (ci := 5) (v := .int ob_slots0_filled) (C := RX5) (T := TX5) (N := 4) hx hb hw0 inA_wsX50 hown hK.1 hP 2 rfl rfl 0 (by decide) (hw0 _ m_1192) (fun _ h9 => h9) rfl dX9_paste_35 ?_
      refine lv_if_eq (tgt := 49) hx hb dX9_paste_38 (by decide) (fun c_1009 => ?_) (fun c_1009 => ?_)
      · skip
        have nc_1009 := nb_eq (0) (0) c_1009 p_ob_slots0_filled (bkc (x := 0) (c := 0) (by decide)) (by decide)
        refine lv_bipush (v := (-6)) hx hb dX9_paste_49 (by decide) ?_
        exact W.iret (v := (-6)) hx hb hr (fun t ht hW => ⟨⟨(-6), _, rfl, Or.inl (⟨by have h90 : Int32.toInt (-6) = -6 := (by decide); have h91 : Int32.toInt 0 = 0 := (by decide); have h92 : Int32.toInt 1 = 1 := (by decide); omega, rfl, rfl⟩), by rw [ht]; exact hP, hD⟩, hS.F ht⟩) hS.2.2 dX9_paste_51
      · skip
        have nc_1009 := nb_ne (1) (1) c_1009 p_ob_slots0_filled (k := 0) (by decide) (by decide)
        refine lv_aload hx hb dX9_paste_41 (lv_at hl 0 rfl) ?_
        refine va_get (D := G) (ci := 5) (v := .int ob_slots1_filled) (C := RX5) (T := TX5) (N := 4) hx hb hw0 inA_wsX50 hown hK.1 hP 4 rfl rfl 0 (by decide) (hw0 _ m_1192) (fun _ h9 => h9) rfl dX9_paste_43 ?_
        refine lv_if_ne (tgt := 52) hx hb dX9_paste_46 (by decide) (fun c_1010 => ?_) (fun c_1010 => ?_)
        · skip
          have nc_1010 := nb_ne (1) (1) c_1010 p_ob_slots1_filled (k := 0) (by decide) (by decide)
          refine lv_aload hx hb dX9_paste_52 (lv_at hl 1 rfl) ?_
          refine va_get (D := G) (ci := 5) (v := .int ob_slots0_width) (C := RX5) (T := TX5) (N := 4) hx hb hw0 inA_wsX50 hown hK.1 hP 2 rfl rfl 1 (by decide) (hw0 _ m_1289) (fun _ h9 => h9) rfl dX9_paste_54 ?_
          refine lv_aload hx hb dX9_paste_57 (lv_at hl 0 rfl) ?_
          refine va_get (D := G) (ci := 5) (v := .int ob_slots1_width) (C := RX5) (T := TX5) (N := 4) hx hb hw0 inA_wsX50 hown hK.1 hP 4 rfl rfl 1 (by decide) (hw0 _ m_1289) (fun _ h9 => h9) rfl dX9_paste_59 ?_
          refine lv_icmp_eq (tgt := 68) hx hb dX9_paste_62 (by decide) (fun c_1011 => ?_) (fun c_1011 => ?_)
          · skip
            have nc_1011 := nb_eq (-2147483648) (2147483647) c_1011 (btop ob_slots0_width) (btop ob_slots1_width) (by decide)
            refine lv_aload hx hb dX9_paste_68 (lv_at hl 1 rfl) ?_
            refine lv_iload_n hx hb dX9_paste_70 rfl (lv_at hl 4 rfl) ?_
            refine lv_iload hx hb dX9_paste_71 (lv_at hl 7 rfl) ?_
            refine cVim (As := [.int a2, .int a5]) (rest := []) ⟨hx, hb, hml, hown, hw0⟩ hA hK hP hD hS [false, false, true] (sX5_hasRun l G y _ ob_slots0 a2 a5 ob_slots0_filled ob_slots0_width ob_slots0_size ob_slots0_numbers (bw (0) (1) nc_1009.1 (by decide)) p_ob_slots0_size) rfl ⟨(callB_of 2 hw0 (gA m_941) rfl rfl rfl (hw0 _ m_858) (hw0 _ m_1290) cb_X5_hasRun ⟨Nat.le_of_ble_eq_true rfl, Nat.le_of_ble_eq_true rfl⟩), (hw0 _ m_1291), (hw0 _ m_1292)⟩ (ci := 5) (q := (RX5, TX5, 4)) rfl rfl rfl hl.1 (Nat.le_of_ble_eq_true rfl) dX9_paste_73 ⟨Nat.le_of_ble_eq_true rfl, Nat.le_of_ble_eq_true rfl⟩ (fun r_1012 w_1012 H locs hw_1012 hP hD hS => ?_)
            rcases hw_1012 with ⟨h_1013, rfl, rfl⟩ | ⟨h_1014, h_1015, h_1016, rfl, rfl⟩
            · skip
              obtain ⟨hP, hD⟩ : vPD G A H [(ce_X9 ob ob_tape ob_tapeSize ob_reader ob_state ob_images ob_slots ob_rounds ob_ways ob_otherDebts ob_otherKnows), (ce_q4 y ob_slots (va_up (va_up (va_up (va_up (fun _ => none) 0 (some ob_slots0)) 1 (some ob_slots1)) 2 (some ob_slots2)) 3 (some ob_slots3))), (ce_X5 ob_slots0 ob_slots0_filled ob_slots0_width ob_slots0_size ob_slots0_numbers), (ce_l60 y ob_slots0_numbers fob_slots0_numbers), (ce_X5 ob_slots1 ob_slots1_filled ob_slots1_width ob_slots1_size ob_slots1_numbers), (ce_l60 y ob_slots1_numbers fob_slots1_numbers)] := ⟨hP, hD⟩
              refine lv_if_eq (tgt := 91) hx hb dX9_paste_76 (by decide) (fun _ => ?_) (fun c9 => absurd (by decide) c9)
              refine lv_bipush (v := (-7)) hx hb dX9_paste_91 (by decide) ?_
              exact W.iret (v := (-7)) hx hb hr (fun t ht hW => ⟨⟨(-7), _, rfl, Or.inr (Or.inl (⟨nc_1009.1, nc_1010.1, by have h90 : Int32.toInt (-7) = -7 := (by decide); have h91 : Int32.toInt 0 = 0 := (by decide); have h92 : Int32.toInt 1 = 1 := (by decide); omega, rfl, rfl⟩)), by rw [ht]; exact hP, hD⟩, hS.F ht⟩) hS.2.2 dX9_paste_93
            · skip
              obtain ⟨hP, hD⟩ : vPD G A H [(ce_X9 ob ob_tape ob_tapeSize ob_reader ob_state ob_images ob_slots ob_rounds ob_ways ob_otherDebts ob_otherKnows), (ce_q4 y ob_slots (va_up (va_up (va_up (va_up (fun _ => none) 0 (some ob_slots0)) 1 (some ob_slots1)) 2 (some ob_slots2)) 3 (some ob_slots3))), (ce_X5 ob_slots0 ob_slots0_filled ob_slots0_width ob_slots0_size ob_slots0_numbers), (ce_l60 y ob_slots0_numbers fob_slots0_numbers), (ce_X5 ob_slots1 ob_slots1_filled ob_slots1_width ob_slots1_size ob_slots1_numbers), (ce_l60 y ob_slots1_numbers fob_slots1_numbers)] := ⟨hP, hD⟩
              refine lv_if_eq (tgt := 91) hx hb dX9_paste_76 (by decide) (fun c9 => absurd c9 (by decide)) (fun _ => ?_)
              refine lv_aload hx hb dX9_paste_79 (lv_at hl 0 rfl) ?_
              refine lv_iload hx hb dX9_paste_81 (lv_at hl 6 rfl) ?_
              refine lv_iload hx hb dX9_paste_83 (lv_at hl 7 rfl) ?_
              refine cVim (As := [.int a4, .int a5]) (rest := []) ⟨hx, hb, hml, hown, hw0⟩ hA hK hP hD hS [false, false, false, false, true] (sX5_hasRun l G y _ ob_slots1 a4 a5 ob_slots1_filled ob_slots1_width ob_slots1_size ob_slots1_numbers (bw (0) (1) nc_1010.1 (by decide)) p_ob_slots1_size) rfl ⟨(callB_of 2 hw0 (gA m_941) rfl rfl rfl (hw0 _ m_858) (hw0 _ m_1290) cb_X5_hasRun ⟨Nat.le_of_ble_eq_true rfl, Nat.le_of_ble_eq_true rfl⟩), (hw0 _ m_1291), (hw0 _ m_1292)⟩ (ci := 5) (q := (RX5, TX5, 4)) rfl rfl rfl hl.1 (Nat.le_of_ble_eq_true rfl) dX9_paste_85 ⟨Nat.le_of_ble_eq_true rfl, Nat.le_of_ble_eq_true rfl⟩ (fun r_1017 w_1017 H locs hw_1017 hP hD hS => ?_)
              rcases hw_1017 with ⟨h_1018, rfl, rfl⟩ | ⟨h_1019, h_1020, h_1021, rfl, rfl⟩
              · skip
                obtain ⟨hP, hD⟩ : vPD G A H [(ce_X9 ob ob_tape ob_tapeSize ob_reader ob_state ob_images ob_slots ob_rounds ob_ways ob_otherDebts ob_otherKnows), (ce_q4 y ob_slots (va_up (va_up (va_up (va_up (fun _ => none) 0 (some ob_slots0)) 1 (some ob_slots1)) 2 (some ob_slots2)) 3 (some ob_slots3))), (ce_X5 ob_slots0 ob_slots0_filled ob_slots0_width ob_slots0_size ob_slots0_numbers), (ce_l60 y ob_slots0_numbers fob_slots0_numbers), (ce_X5 ob_slots1 ob_slots1_filled ob_slots1_width ob_slots1_size ob_slots1_numbers), (ce_l60 y ob_slots1_numbers fob_slots1_numbers)] := ⟨hP, hD⟩
                refine lv_if_ne (tgt := 94) hx hb dX9_paste_88 (by decide) (fun c9 => absurd (by decide) c9) (fun _ => ?_)
                refine lv_bipush (v := (-7)) hx hb dX9_paste_91 (by decide) ?_
                exact W.iret (v := (-7)) hx hb hr (fun t ht hW => ⟨⟨(-7), _, rfl, Or.inr (Or.inl (⟨nc_1009.1, nc_1010.1, by have h90 : Int32.toInt (-7) = -7 := (by decide); have h91 : Int32.toInt 0 = 0 := (by decide); have h92 : Int32.toInt 1 = 1 := (by decide); omega, rfl, rfl⟩)), by rw [ht]; exact hP, hD⟩, hS.F ht⟩) hS.2.2 dX9_paste_93
              · skip
                obtain ⟨hP, hD⟩ : vPD G A H [(ce_X9 ob ob_tape ob_tapeSize ob_reader ob_state ob_images ob_slots ob_rounds ob_ways ob_otherDebts ob_otherKnows), (ce_q4 y ob_slots (va_up (va_up (va_up (va_up (fun _ => none) 0 (some ob_slots0)) 1 (some ob_slots1)) 2 (some ob_slots2)) 3 (some ob_slots3))), (ce_X5 ob_slots0 ob_slots0_filled ob_slots0_width ob_slots0_size ob_slots0_numbers), (ce_l60 y ob_slots0_numbers fob_slots0_numbers), (ce_X5 ob_slots1 ob_slots1_filled ob_slots1_width ob_slots1_size ob_slots1_numbers), (ce_l60 y ob_slots1_numbers fob_slots1_numbers)] := ⟨hP, hD⟩
                refine lv_if_ne (tgt := 94) hx hb dX9_paste_88 (by decide) (fun _ => ?_) (fun c9 => absurd c9 (by decide))
                refine lv_aload hx hb dX9_paste_94 (lv_at hl 1 rfl) ?_
                refine va_get (D := G) (ci := 5) (v := .ref ob_slots0_numbers) (C := RX5) (T := TX5) (N := 4) hx hb hw0 inA_wsX50 hown hK.1 hP 2 rfl rfl 3 (by decide) (hw0 _ m_1293) (fun _ h9 => h9) rfl dX9_paste_96 ?_
                refine lv_iload_n hx hb dX9_paste_99 rfl (lv_at hl 4 rfl) ?_
                refine lv_aload hx hb dX9_paste_100 (lv_at hl 0 rfl) ?_
                refine va_get (D := G) (ci := 5) (v := .ref ob_slots1_numbers) (C := RX5) (T := TX5) (N := 4) hx hb hw0 inA_wsX50 hown hK.1 hP 4 rfl rfl 3 (by decide) (hw0 _ m_1293) (fun _ h9 => h9) rfl dX9_paste_102 ?_
                refine lv_iload hx hb dX9_paste_105 (lv_at hl 6 rfl) ?_
                refine lv_iload hx hb dX9_paste_107 (lv_at hl 7 rfl) ?_
                refine va_copyl (own := RX9) hx hb (by rw [hml]; exact hl.1.symm) hown (hw0 _ m_1294) (hw0 _ m_272) (hw0 _ m_273) (hw0 _ m_274) hK.1 hP hD hS 3 5 2 2 rfl rfl rfl rfl rfl (cy_n h_1014 (by decide)) (cy_n h_1019 (by decide)) (cy_n h_1015 (by decide)) (cy_g h_1014 h_1015 (by decide) (by decide) (by omega)) (cy_g h_1019 h_1015 (by decide) (by decide) (by omega)) (fun i hi => rfl) (Nat.le_of_ble_eq_true rfl) (by decide) dX9_paste_109 (fun H locs hP hD hS => ?_)
                generalize hf_1022 : (va_cpy fob_slots0_numbers fob_slots1_numbers (a2 : Int32).toNatClampNeg (a4 : Int32).toNatClampNeg (a5 : Int32).toNatClampNeg) = f_1022 at hP hD
                obtain ⟨hP, hD⟩ : vPD G A H [(ce_X9 ob ob_tape ob_tapeSize ob_reader ob_state ob_images ob_slots ob_rounds ob_ways ob_otherDebts ob_otherKnows), (ce_q4 y ob_slots (va_up (va_up (va_up (va_up (fun _ => none) 0 (some ob_slots0)) 1 (some ob_slots1)) 2 (some ob_slots2)) 3 (some ob_slots3))), (ce_X5 ob_slots0 ob_slots0_filled ob_slots0_width ob_slots0_size ob_slots0_numbers), (ce_l60 y ob_slots0_numbers fob_slots0_numbers), (ce_X5 ob_slots1 ob_slots1_filled ob_slots1_width ob_slots1_size ob_slots1_numbers), (ce_l60 y ob_slots1_numbers f_1022)] := ⟨hP, hD⟩
                refine lv_iconst (v := 0) hx hb dX9_paste_112 (by decide) ?_
                exact W.iret (v := 0) hx hb hr (fun t ht hW => ⟨⟨0, _, rfl, Or.inr (Or.inr (Or.inr (⟨f_1022, h_1014, h_1019, h_1015, nc_1009.1, nc_1010.1, by have h90 : Int32.toInt 0 = 0 := (by decide); have h91 : Int32.toInt 1 = 1 := (by decide); omega, rfl, rfl⟩))), by rw [ht]; exact hP, hD⟩, hS.F ht⟩) hS.2.2 dX9_paste_113
          · skip
            have nc_1011 : ob_slots0_width.toInt ≠ ob_slots1_width.toInt := fun h9 => c_1011 (Int32.toInt_inj.mp h9)
            refine lv_bipush (v := (-8)) hx hb dX9_paste_65 (by decide) ?_
            exact W.iret (v := (-8)) hx hb hr (fun t ht hW => ⟨⟨(-8), _, rfl, Or.inr (Or.inr (Or.inl (⟨nc_1009.1, nc_1010.1, by have h90 : Int32.toInt (-8) = -8 := (by decide); have h91 : Int32.toInt 0 = 0 := (by decide); have h92 : Int32.toInt 1 = 1 := (by decide); omega, rfl, rfl⟩))), by rw [ht]; exact hP, hD⟩, hS.F ht⟩) hS.2.2 dX9_paste_67
        · skip
          have nc_1010 := nb_eq (0) (0) c_1010 p_ob_slots1_filled (bkc (x := 0) (c := 0) (by decide)) (by decide)
          refine lv_bipush (v := (-6)) hx hb dX9_paste_49 (by decide) ?_
          exact W.iret (v := (-6)) hx hb hr (fun t ht hW => ⟨⟨(-6), _, rfl, Or.inl (⟨by have h90 : Int32.toInt (-6) = -6 := (by decide); have h91 : Int32.toInt 0 = 0 := (by decide); have h92 : Int32.toInt 1 = 1 := (by decide); omega, rfl, rfl⟩), by rw [ht]; exact hP, hD⟩, hS.F ht⟩) hS.2.2 dX9_paste_51

set_option maxHeartbeats 4000000 in
set_option maxRecDepth 100000 in
theorem fpaste02 (l : Launch) (G : va_G) (y : Nat → ClassId) (sz : Nat) (ob : Nat) (a2 : Int32) (a4 : Int32) (a5 : Int32) (ob_tape : Nat) (ob_tapeSize : Int32) (ob_reader : Nat) (ob_state : Nat) (ob_images : Nat) (ob_slots : Nat) (ob_rounds : Nat) (ob_ways : Nat) (ob_otherDebts : Nat) (ob_otherKnows : Nat) (ob_slots0 : Nat) (ob_slots1 : Nat) (ob_slots2 : Nat) (ob_slots3 : Nat) (ob_slots0_filled : Int32) (ob_slots0_width : Int32) (ob_slots0_size : Int32) (ob_slots0_numbers : Nat) (fob_slots0_numbers : Nat → Int64) (ob_slots2_filled : Int32) (ob_slots2_width : Int32) (ob_slots2_size : Int32) (ob_slots2_numbers : Nat) (fob_slots2_numbers : Nat → Int64) (p_ob_tapeSize : (0 : Int) ≤ ob_tapeSize.toInt ∧ ob_tapeSize.toInt ≤ 1400) (p_ob_slots0_filled : (0 : Int) ≤ ob_slots0_filled.toInt ∧ ob_slots0_filled.toInt ≤ 1) (p_ob_slots0_size : (0 : Int) ≤ ob_slots0_size.toInt ∧ ob_slots0_size.toInt ≤ 60) (p_ob_slots2_filled : (0 : Int) ≤ ob_slots2_filled.toInt ∧ ob_slots2_filled.toInt ≤ 1) (p_ob_slots2_size : (0 : Int) ≤ ob_slots2_size.toInt ∧ ob_slots2_size.toInt ≤ 60) : Met l yX9_paste (Cond.code yX9_paste cX9_paste 8 (some .int) :: wAll) ({ frames := 1, cells := 0, slots := 0, locals := 72 }) (va_Pc [.ref ob, .int 0, .int a2, .int 2, .int a4, .int a5] (kp G y sz [(ce_X9 ob ob_tape ob_tapeSize ob_reader ob_state ob_images ob_slots ob_rounds ob_ways ob_otherDebts ob_otherKnows), (ce_q4 y ob_slots (va_up (va_up (va_up (va_up (fun _ => none) 0 (some ob_slots0)) 1 (some ob_slots1)) 2 (some ob_slots2)) 3 (some ob_slots3))), (ce_X5 ob_slots0 ob_slots0_filled ob_slots0_width ob_slots0_size ob_slots0_numbers), (ce_l60 y ob_slots0_numbers fob_slots0_numbers), (ce_X5 ob_slots2 ob_slots2_filled ob_slots2_width ob_slots2_size ob_slots2_numbers), (ce_l60 y ob_slots2_numbers fob_slots2_numbers)])) (va_Qi (fun (r : Int32) (w : va_W) => ((ob_slots0_filled.toInt = 0 ∨ ob_slots2_filled.toInt = 0) ∧ r = (-6) ∧ w = [(ce_X9 ob ob_tape ob_tapeSize ob_reader ob_state ob_images ob_slots ob_rounds ob_ways ob_otherDebts ob_otherKnows), (ce_q4 y ob_slots (va_up (va_up (va_up (va_up (fun _ => none) 0 (some ob_slots0)) 1 (some ob_slots1)) 2 (some ob_slots2)) 3 (some ob_slots3))), (ce_X5 ob_slots0 ob_slots0_filled ob_slots0_width ob_slots0_size ob_slots0_numbers), (ce_l60 y ob_slots0_numbers fob_slots0_numbers), (ce_X5 ob_slots2 ob_slots2_filled ob_slots2_width ob_slots2_size ob_slots2_numbers), (ce_l60 y ob_slots2_numbers fob_slots2_numbers)]) ∨ (((1 : Int) ≤ ob_slots0_filled.toInt ∧ ob_slots0_filled.toInt ≤ 1) ∧ ((1 : Int) ≤ ob_slots2_filled.toInt ∧ ob_slots2_filled.toInt ≤ 1) ∧ (ob_slots0_filled.toInt = 1 ∧ ob_slots2_filled.toInt = 1 ∧ ob_slots0_width.toInt = ob_slots2_width.toInt ∧ ¬ (0 ≤ a2.toInt ∧ 0 ≤ a4.toInt ∧ 0 ≤ a5.toInt ∧ a2.toInt + a5.toInt ≤ ob_slots0_size.toInt ∧ a4.toInt + a5.toInt ≤ ob_slots2_size.toInt)) ∧ r = (-7) ∧ w = [(ce_X9 ob ob_tape ob_tapeSize ob_reader ob_state ob_images ob_slots ob_rounds ob_ways ob_otherDebts ob_otherKnows), (ce_q4 y ob_slots (va_up (va_up (va_up (va_up (fun _ => none) 0 (some ob_slots0)) 1 (some ob_slots1)) 2 (some ob_slots2)) 3 (some ob_slots3))), (ce_X5 ob_slots0 ob_slots0_filled ob_slots0_width ob_slots0_size ob_slots0_numbers), (ce_l60 y ob_slots0_numbers fob_slots0_numbers), (ce_X5 ob_slots2 ob_slots2_filled ob_slots2_width ob_slots2_size ob_slots2_numbers), (ce_l60 y ob_slots2_numbers fob_slots2_numbers)]) ∨ (((1 : Int) ≤ ob_slots0_filled.toInt ∧ ob_slots0_filled.toInt ≤ 1) ∧ ((1 : Int) ≤ ob_slots2_filled.toInt ∧ ob_slots2_filled.toInt ≤ 1) ∧ (ob_slots0_filled.toInt = 1 ∧ ob_slots2_filled.toInt = 1 ∧ ¬ ob_slots0_width.toInt = ob_slots2_width.toInt) ∧ r = (-8) ∧ w = [(ce_X9 ob ob_tape ob_tapeSize ob_reader ob_state ob_images ob_slots ob_rounds ob_ways ob_otherDebts ob_otherKnows), (ce_q4 y ob_slots (va_up (va_up (va_up (va_up (fun _ => none) 0 (some ob_slots0)) 1 (some ob_slots1)) 2 (some ob_slots2)) 3 (some ob_slots3))), (ce_X5 ob_slots0 ob_slots0_filled ob_slots0_width ob_slots0_size ob_slots0_numbers), (ce_l60 y ob_slots0_numbers fob_slots0_numbers), (ce_X5 ob_slots2 ob_slots2_filled ob_slots2_width ob_slots2_size ob_slots2_numbers), (ce_l60 y ob_slots2_numbers fob_slots2_numbers)]) ∨ (∃ (f_45 : Nat → Int64), ((0 : Int) ≤ a2.toInt ∧ a2.toInt ≤ 60) ∧ ((0 : Int) ≤ a4.toInt ∧ a4.toInt ≤ 60) ∧ ((0 : Int) ≤ a5.toInt ∧ a5.toInt ≤ 60) ∧ ((1 : Int) ≤ ob_slots0_filled.toInt ∧ ob_slots0_filled.toInt ≤ 1) ∧ ((1 : Int) ≤ ob_slots2_filled.toInt ∧ ob_slots2_filled.toInt ≤ 1) ∧ (ob_slots0_filled.toInt = 1 ∧ ob_slots2_filled.toInt = 1 ∧ ob_slots0_width.toInt = ob_slots2_width.toInt ∧ 0 ≤ a2.toInt ∧ 0 ≤ a4.toInt ∧ 0 ≤ a5.toInt ∧ a2.toInt + a5.toInt ≤ ob_slots0_size.toInt ∧ a4.toInt + a5.toInt ≤ ob_slots2_size.toInt) ∧ r = 0 ∧ w = [(ce_X9 ob ob_tape ob_tapeSize ob_reader ob_state ob_images ob_slots ob_rounds ob_ways ob_otherDebts ob_otherKnows), (ce_q4 y ob_slots (va_up (va_up (va_up (va_up (fun _ => none) 0 (some ob_slots0)) 1 (some ob_slots1)) 2 (some ob_slots2)) 3 (some ob_slots3))), (ce_X5 ob_slots0 ob_slots0_filled ob_slots0_width ob_slots0_size ob_slots0_numbers), (ce_l60 y ob_slots0_numbers fob_slots0_numbers), (ce_X5 ob_slots2 ob_slots2_filled ob_slots2_width ob_slots2_size ob_slots2_numbers), (ce_l60 y ob_slots2_numbers f_45)])) (kq G (va_A [(ce_X9 ob ob_tape ob_tapeSize ob_reader ob_state ob_images ob_slots ob_rounds ob_ways ob_otherDebts ob_otherKnows), (ce_q4 y ob_slots (va_up (va_up (va_up (va_up (fun _ => none) 0 (some ob_slots0)) 1 (some ob_slots1)) 2 (some ob_slots2)) 3 (some ob_slots3))), (ce_X5 ob_slots0 ob_slots0_filled ob_slots0_width ob_slots0_size ob_slots0_numbers), (ce_l60 y ob_slots0_numbers fob_slots0_numbers), (ce_X5 ob_slots2 ob_slots2_filled ob_slots2_width ob_slots2_size ob_slots2_numbers), (ce_l60 y ob_slots2_numbers fob_slots2_numbers)] sz)) (va_A [(ce_X9 ob ob_tape ob_tapeSize ob_reader ob_state ob_images ob_slots ob_rounds ob_ways ob_otherDebts ob_otherKnows), (ce_q4 y ob_slots (va_up (va_up (va_up (va_up (fun _ => none) 0 (some ob_slots0)) 1 (some ob_slots1)) 2 (some ob_slots2)) 3 (some ob_slots3))), (ce_X5 ob_slots0 ob_slots0_filled ob_slots0_width ob_slots0_size ob_slots0_numbers), (ce_l60 y ob_slots0_numbers fob_slots0_numbers), (ce_X5 ob_slots2 ob_slots2_filled ob_slots2_width ob_slots2_size ob_slots2_numbers), (ce_l60 y ob_slots2_numbers fob_slots2_numbers)] sz)) 0 0 (va_A [(ce_X9 ob ob_tape ob_tapeSize ob_reader ob_state ob_images ob_slots ob_rounds ob_ways ob_otherDebts ob_otherKnows), (ce_q4 y ob_slots (va_up (va_up (va_up (va_up (fun _ => none) 0 (some ob_slots0)) 1 (some ob_slots1)) 2 (some ob_slots2)) 3 (some ob_slots3))), (ce_X5 ob_slots0 ob_slots0_filled ob_slots0_width ob_slots0_size ob_slots0_numbers), (ce_l60 y ob_slots0_numbers fob_slots0_numbers), (ce_X5 ob_slots2 ob_slots2_filled ob_slots2_width ob_slots2_size ob_slots2_numbers), (ce_l60 y ob_slots2_numbers fob_slots2_numbers)] sz) := by
  refine Met.ofW (cc := cX9_paste) (maxL := 8) (ret := (some .int)) (by decide) rfl ?_
  intro p e s m args below meth c s₁ B hml hv
  obtain ⟨rfl, hsz, hP, hK, hD0⟩ := hv
  have hx := B.exec
  have hb := B.bytes
  have hr := B.returns
  have hw0 : ∀ w ∈ wAll, w.before _ s = true := fun w h => atoms_spec (ws := Cond.code yX9_paste cX9_paste 8 (some .int) :: wAll) B.pre w (List.mem_cons_of_mem _ h)
  have hown : s.vm.findClass RX9 = some m.cls := findClass_of_methodNamed B.named
  subst hsz
  have hD := hD0.self (sz := s.heap.size)
  generalize hAe : va_A [(ce_X9 ob ob_tape ob_tapeSize ob_reader ob_state ob_images ob_slots ob_rounds ob_ways ob_otherDebts ob_otherKnows), (ce_q4 y ob_slots (va_up (va_up (va_up (va_up (fun _ => none) 0 (some ob_slots0)) 1 (some ob_slots1)) 2 (some ob_slots2)) 3 (some ob_slots3))), (ce_X5 ob_slots0 ob_slots0_filled ob_slots0_width ob_slots0_size ob_slots0_numbers), (ce_l60 y ob_slots0_numbers fob_slots0_numbers), (ce_X5 ob_slots2 ob_slots2_filled ob_slots2_width ob_slots2_size ob_slots2_numbers), (ce_l60 y ob_slots2_numbers fob_slots2_numbers)] s.heap.size = A at hD ⊢
  have hA : ∀ q : Nat, s.heap.size ≤ q → A q := fun q h => by rw [← hAe]; exact Or.inr h
  have hS : va_S A s.heap s.heap [] := va_S.rf
  have hP : va_P G vwCl [(ce_X9 ob ob_tape ob_tapeSize ob_reader ob_state ob_images ob_slots ob_rounds ob_ways ob_otherDebts ob_otherKnows), (ce_q4 y ob_slots (va_up (va_up (va_up (va_up (fun _ => none) 0 (some ob_slots0)) 1 (some ob_slots1)) 2 (some ob_slots2)) 3 (some ob_slots3))), (ce_X5 ob_slots0 ob_slots0_filled ob_slots0_width ob_slots0_size ob_slots0_numbers), (ce_l60 y ob_slots0_numbers fob_slots0_numbers), (ce_X5 ob_slots2 ob_slots2_filled ob_slots2_width ob_slots2_size ob_slots2_numbers), (ce_l60 y ob_slots2_numbers fob_slots2_numbers)] s.heap := hP
  have hl := lv_entry ([.ref ob, .int 0, .int a2, .int 2, .int a4, .int a5]) (n := 8) (Nat.le_of_ble_eq_true rfl)
  rw [lg_entry_eq]
  generalize (lg_sl ([.ref ob, .int 0, .int a2, .int 2, .int a4, .int a5]) ++ List.replicate (8 - (lg_sl ([.ref ob, .int 0, .int a2, .int 2, .int a4, .int a5])).length) Slot.unset).toArray = ls at hl ⊢
  have hl : lv_has ls 8 [(0, .ref ob), (1, .int 0), (2, .int a2), (3, .int 2), (4, .int a4), (5, .int a5)] := hl
  refine lv_iload_n hx hb dX9_paste_0 rfl (lv_at hl 1 rfl) ?_
  refine cSim (As := [.int 0]) (rest := []) ⟨hx, hb, hml, hown, hw0⟩ hA hK hP hD hS [] (fisSlot l G y _ 0 ) rfl ⟨(callB_of 1 hw0 (gA m_1260) rfl rfl rfl (hw0 _ m_36) (hw0 _ m_1189) cb_X9_isSlot ⟨Nat.le_of_ble_eq_true rfl, Nat.le_of_ble_eq_true rfl⟩), (hw0 _ m_1190)⟩ rfl hl.1 (Nat.le_of_ble_eq_true rfl) dX9_paste_1 ⟨Nat.le_of_ble_eq_true rfl, Nat.le_of_ble_eq_true rfl⟩ (fun r_1001 w_1001 H locs hw_1001 hP hD hS => ?_)
  rcases hw_1001 with ⟨h_1002, rfl, rfl⟩ | ⟨h_1003, h_1004, rfl, rfl⟩
  · skip
    exact False.elim (by have h9 : Int32.toInt 0 = 0 := (by decide); omega)
  · skip
    obtain ⟨hP, hD⟩ : vPD G A H [(ce_X9 ob ob_tape ob_tapeSize ob_reader ob_state ob_images ob_slots ob_rounds ob_ways ob_otherDebts ob_otherKnows), (ce_q4 y ob_slots (va_up (va_up (va_up (va_up (fun _ => none) 0 (some ob_slots0)) 1 (some ob_slots1)) 2 (some ob_slots2)) 3 (some ob_slots3))), (ce_X5 ob_slots0 ob_slots0_filled ob_slots0_width ob_slots0_size ob_slots0_numbers), (ce_l60 y ob_slots0_numbers fob_slots0_numbers), (ce_X5 ob_slots2 ob_slots2_filled ob_slots2_width ob_slots2_size ob_slots2_numbers), (ce_l60 y ob_slots2_numbers fob_slots2_numbers)] := ⟨hP, hD⟩
    refine lv_if_eq (tgt := 14) hx hb dX9_paste_4 (by decide) (fun c9 => absurd c9 (by decide)) (fun _ => ?_)
    refine lv_iload_n hx hb dX9_paste_7 rfl (lv_at hl 3 rfl) ?_
    refine cSim (As := [.int 2]) (rest := []) ⟨hx, hb, hml, hown, hw0⟩ hA hK hP hD hS [] (fisSlot l G y _ 2 ) rfl ⟨(callB_of 1 hw0 (gA m_1260) rfl rfl rfl (hw0 _ m_36) (hw0 _ m_1189) cb_X9_isSlot ⟨Nat.le_of_ble_eq_true rfl, Nat.le_of_ble_eq_true rfl⟩), (hw0 _ m_1190)⟩ rfl hl.1 (Nat.le_of_ble_eq_true rfl) dX9_paste_8 ⟨Nat.le_of_ble_eq_true rfl, Nat.le_of_ble_eq_true rfl⟩ (fun r_1005 w_1005 H locs hw_1005 hP hD hS => ?_)
    rcases hw_1005 with ⟨h_1006, rfl, rfl⟩ | ⟨h_1007, h_1008, rfl, rfl⟩
    · skip
      exact False.elim (by have h9 : Int32.toInt 2 = 2 := (by decide); omega)
    · skip
      obtain ⟨hP, hD⟩ : vPD G A H [(ce_X9 ob ob_tape ob_tapeSize ob_reader ob_state ob_images ob_slots ob_rounds ob_ways ob_otherDebts ob_otherKnows), (ce_q4 y ob_slots (va_up (va_up (va_up (va_up (fun _ => none) 0 (some ob_slots0)) 1 (some ob_slots1)) 2 (some ob_slots2)) 3 (some ob_slots3))), (ce_X5 ob_slots0 ob_slots0_filled ob_slots0_width ob_slots0_size ob_slots0_numbers), (ce_l60 y ob_slots0_numbers fob_slots0_numbers), (ce_X5 ob_slots2 ob_slots2_filled ob_slots2_width ob_slots2_size ob_slots2_numbers), (ce_l60 y ob_slots2_numbers fob_slots2_numbers)] := ⟨hP, hD⟩
      refine lv_if_ne (tgt := 17) hx hb dX9_paste_11 (by decide) (fun _ => ?_) (fun c9 => absurd c9 (by decide))
      refine lv_aload_n hx hb dX9_paste_17 rfl (lv_at hl 0 rfl) ?_
      refine va_get (D := G) (ci := 9) (v := .ref ob_slots) (C := RX9) (T := TX9) (N := 10) hx hb hw0 inA_wsX90 hown hK.1 hP 0 rfl rfl 5 (by decide) (hw0 _ m_1191) (fun _ h9 => h9) rfl dX9_paste_18 ?_
      refine lv_iload_n hx hb dX9_paste_21 rfl (lv_at hl 1 rfl) ?_
      refine va_aldq hx hb hK.1 hP 1 4 rfl rfl (vi (bkc (x := 0) (c := 0) (by decide)) (by decide)) dX9_paste_22 ?_
      refine W.eq (g2 := F0 m 23 ls [.ref ob_slots0]) rfl ?_
      refine lv_astore (lv' := [(6, .ref ob_slots0), (0, .ref ob), (1, .int 0), (2, .int a2), (3, .int 2), (4, .int a4), (5, .int a5)]) hx hb dX9_paste_23 hl (by decide) rfl (fun ls hl => ?_)
      refine lv_aload_n hx hb dX9_paste_25 rfl (lv_at hl 1 rfl) ?_
      refine va_get (D := G) (ci := 9) (v := .ref ob_slots) (C := RX9) (T := TX9) (N := 10) hx hb hw0 inA_wsX90 hown hK.1 hP 0 rfl rfl 5 (by decide) (hw0 _ m_1191) (fun _ h9 => h9) rfl dX9_paste_26 ?_
      refine lv_iload_n hx hb dX9_paste_29 rfl (lv_at hl 4 rfl) ?_
      refine va_aldq hx hb hK.1 hP 1 4 rfl rfl (vi (bkc (x := 2) (c := 2) (by decide)) (by decide)) dX9_paste_30 ?_
      refine W.eq (g2 := F0 m 31 ls [.ref ob_slots2]) rfl ?_
      refine lv_astore (lv' := [(7, .ref ob_slots2), (6, .ref ob_slots0), (0, .ref ob), (1, .int 0), (2, .int a2), (3, .int 2), (4, .int a4), (5, .int a5)]) hx hb dX9_paste_31 hl (by decide) rfl (fun ls hl => ?_)
      refine lv_aload hx hb dX9_paste_33 (lv_at hl 1 rfl) ?_
      refine va_get (D := G) (ci := 5) (v := .int ob_slots0_filled) (C := RX5) (T := TX5) (N := 4) hx hb hw0 inA_wsX50 hown hK.1 hP 2 rfl rfl 0 (by decide) (hw0 _ m_1192) (fun _ h9 => h9) rfl dX9_paste_35 ?_
      refine lv_if_eq (tgt := 49) hx hb dX9_paste_38 (by decide) (fun c_1009 => ?_) (fun c_1009 => ?_)
      · skip
        have nc_1009 := nb_eq (0) (0) c_1009 p_ob_slots0_filled (bkc (x := 0) (c := 0) (by decide)) (by decide)
        refine lv_bipush (v := (-6)) hx hb dX9_paste_49 (by decide) ?_
        exact W.iret (v := (-6)) hx hb hr (fun t ht hW => ⟨⟨(-6), _, rfl, Or.inl (⟨by have h90 : Int32.toInt (-6) = -6 := (by decide); have h91 : Int32.toInt 0 = 0 := (by decide); have h92 : Int32.toInt 2 = 2 := (by decide); omega, rfl, rfl⟩), by rw [ht]; exact hP, hD⟩, hS.F ht⟩) hS.2.2 dX9_paste_51
      · skip
        have nc_1009 := nb_ne (1) (1) c_1009 p_ob_slots0_filled (k := 0) (by decide) (by decide)
        refine lv_aload hx hb dX9_paste_41 (lv_at hl 0 rfl) ?_
        refine va_get (D := G) (ci := 5) (v := .int ob_slots2_filled) (C := RX5) (T := TX5) (N := 4) hx hb hw0 inA_wsX50 hown hK.1 hP 4 rfl rfl 0 (by decide) (hw0 _ m_1192) (fun _ h9 => h9) rfl dX9_paste_43 ?_
        refine lv_if_ne (tgt := 52) hx hb dX9_paste_46 (by decide) (fun c_1010 => ?_) (fun c_1010 => ?_)
        · skip
          have nc_1010 := nb_ne (1) (1) c_1010 p_ob_slots2_filled (k := 0) (by decide) (by decide)
          refine lv_aload hx hb dX9_paste_52 (lv_at hl 1 rfl) ?_
          refine va_get (D := G) (ci := 5) (v := .int ob_slots0_width) (C := RX5) (T := TX5) (N := 4) hx hb hw0 inA_wsX50 hown hK.1 hP 2 rfl rfl 1 (by decide) (hw0 _ m_1289) (fun _ h9 => h9) rfl dX9_paste_54 ?_
          refine lv_aload hx hb dX9_paste_57 (lv_at hl 0 rfl) ?_
          refine va_get (D := G) (ci := 5) (v := .int ob_slots2_width) (C := RX5) (T := TX5) (N := 4) hx hb hw0 inA_wsX50 hown hK.1 hP 4 rfl rfl 1 (by decide) (hw0 _ m_1289) (fun _ h9 => h9) rfl dX9_paste_59 ?_
          refine lv_icmp_eq (tgt := 68) hx hb dX9_paste_62 (by decide) (fun c_1011 => ?_) (fun c_1011 => ?_)
          · skip
            have nc_1011 := nb_eq (-2147483648) (2147483647) c_1011 (btop ob_slots0_width) (btop ob_slots2_width) (by decide)
            refine lv_aload hx hb dX9_paste_68 (lv_at hl 1 rfl) ?_
            refine lv_iload_n hx hb dX9_paste_70 rfl (lv_at hl 4 rfl) ?_
            refine lv_iload hx hb dX9_paste_71 (lv_at hl 7 rfl) ?_
            refine cVim (As := [.int a2, .int a5]) (rest := []) ⟨hx, hb, hml, hown, hw0⟩ hA hK hP hD hS [false, false, true] (sX5_hasRun l G y _ ob_slots0 a2 a5 ob_slots0_filled ob_slots0_width ob_slots0_size ob_slots0_numbers (bw (0) (1) nc_1009.1 (by decide)) p_ob_slots0_size) rfl ⟨(callB_of 2 hw0 (gA m_941) rfl rfl rfl (hw0 _ m_858) (hw0 _ m_1290) cb_X5_hasRun ⟨Nat.le_of_ble_eq_true rfl, Nat.le_of_ble_eq_true rfl⟩), (hw0 _ m_1291), (hw0 _ m_1292)⟩ (ci := 5) (q := (RX5, TX5, 4)) rfl rfl rfl hl.1 (Nat.le_of_ble_eq_true rfl) dX9_paste_73 ⟨Nat.le_of_ble_eq_true rfl, Nat.le_of_ble_eq_true rfl⟩ (fun r_1012 w_1012 H locs hw_1012 hP hD hS => ?_)
            rcases hw_1012 with ⟨h_1013, rfl, rfl⟩ | ⟨h_1014, h_1015, h_1016, rfl, rfl⟩
            · skip
              obtain ⟨hP, hD⟩ : vPD G A H [(ce_X9 ob ob_tape ob_tapeSize ob_reader ob_state ob_images ob_slots ob_rounds ob_ways ob_otherDebts ob_otherKnows), (ce_q4 y ob_slots (va_up (va_up (va_up (va_up (fun _ => none) 0 (some ob_slots0)) 1 (some ob_slots1)) 2 (some ob_slots2)) 3 (some ob_slots3))), (ce_X5 ob_slots0 ob_slots0_filled ob_slots0_width ob_slots0_size ob_slots0_numbers), (ce_l60 y ob_slots0_numbers fob_slots0_numbers), (ce_X5 ob_slots2 ob_slots2_filled ob_slots2_width ob_slots2_size ob_slots2_numbers), (ce_l60 y ob_slots2_numbers fob_slots2_numbers)] := ⟨hP, hD⟩
              refine lv_if_eq (tgt := 91) hx hb dX9_paste_76 (by decide) (fun _ => ?_) (fun c9 => absurd (by decide) c9)
              refine lv_bipush (v := (-7)) hx hb dX9_paste_91 (by decide) ?_
              exact W.iret (v := (-7)) hx hb hr (fun t ht hW => ⟨⟨(-7), _, rfl, Or.inr (Or.inl (⟨nc_1009.1, nc_1010.1, by have h90 : Int32.toInt (-7) = -7 := (by decide); have h91 : Int32.toInt 0 = 0 := (by decide); have h92 : Int32.toInt 2 = 2 := (by decide); omega, rfl, rfl⟩)), by rw [ht]; exact hP, hD⟩, hS.F ht⟩) hS.2.2 dX9_paste_93
            · skip
              obtain ⟨hP, hD⟩ : vPD G A H [(ce_X9 ob ob_tape ob_tapeSize ob_reader ob_state ob_images ob_slots ob_rounds ob_ways ob_otherDebts ob_otherKnows), (ce_q4 y ob_slots (va_up (va_up (va_up (va_up (fun _ => none) 0 (some ob_slots0)) 1 (some ob_slots1)) 2 (some ob_slots2)) 3 (some ob_slots3))), (ce_X5 ob_slots0 ob_slots0_filled ob_slots0_width ob_slots0_size ob_slots0_numbers), (ce_l60 y ob_slots0_numbers fob_slots0_numbers), (ce_X5 ob_slots2 ob_slots2_filled ob_slots2_width ob_slots2_size ob_slots2_numbers), (ce_l60 y ob_slots2_numbers fob_slots2_numbers)] := ⟨hP, hD⟩
              refine lv_if_eq (tgt := 91) hx hb dX9_paste_76 (by decide) (fun c9 => absurd c9 (by decide)) (fun _ => ?_)
              refine lv_aload hx hb dX9_paste_79 (lv_at hl 0 rfl) ?_
              refine lv_iload hx hb dX9_paste_81 (lv_at hl 6 rfl) ?_
              refine lv_iload hx hb dX9_paste_83 (lv_at hl 7 rfl) ?_
              refine cVim (As := [.int a4, .int a5]) (rest := []) ⟨hx, hb, hml, hown, hw0⟩ hA hK hP hD hS [false, false, false, false, true] (sX5_hasRun l G y _ ob_slots2 a4 a5 ob_slots2_filled ob_slots2_width ob_slots2_size ob_slots2_numbers (bw (0) (1) nc_1010.1 (by decide)) p_ob_slots2_size) rfl ⟨(callB_of 2 hw0 (gA m_941) rfl rfl rfl (hw0 _ m_858) (hw0 _ m_1290) cb_X5_hasRun ⟨Nat.le_of_ble_eq_true rfl, Nat.le_of_ble_eq_true rfl⟩), (hw0 _ m_1291), (hw0 _ m_1292)⟩ (ci := 5) (q := (RX5, TX5, 4)) rfl rfl rfl hl.1 (Nat.le_of_ble_eq_true rfl) dX9_paste_85 ⟨Nat.le_of_ble_eq_true rfl, Nat.le_of_ble_eq_true rfl⟩ (fun r_1017 w_1017 H locs hw_1017 hP hD hS => ?_)
              rcases hw_1017 with ⟨h_1018, rfl, rfl⟩ | ⟨h_1019, h_1020, h_1021, rfl, rfl⟩
              · skip
                obtain ⟨hP, hD⟩ : vPD G A H [(ce_X9 ob ob_tape ob_tapeSize ob_reader ob_state ob_images ob_slots ob_rounds ob_ways ob_otherDebts ob_otherKnows), (ce_q4 y ob_slots (va_up (va_up (va_up (va_up (fun _ => none) 0 (some ob_slots0)) 1 (some ob_slots1)) 2 (some ob_slots2)) 3 (some ob_slots3))), (ce_X5 ob_slots0 ob_slots0_filled ob_slots0_width ob_slots0_size ob_slots0_numbers), (ce_l60 y ob_slots0_numbers fob_slots0_numbers), (ce_X5 ob_slots2 ob_slots2_filled ob_slots2_width ob_slots2_size ob_slots2_numbers), (ce_l60 y ob_slots2_numbers fob_slots2_numbers)] := ⟨hP, hD⟩
                refine lv_if_ne (tgt := 94) hx hb dX9_paste_88 (by decide) (fun c9 => absurd (by decide) c9) (fun _ => ?_)
                refine lv_bipush (v := (-7)) hx hb dX9_paste_91 (by decide) ?_
                exact W.iret (v := (-7)) hx hb hr (fun t ht hW => ⟨⟨(-7), _, rfl, Or.inr (Or.inl (⟨nc_1009.1, nc_1010.1, by have h90 : Int32.toInt (-7) = -7 := (by decide); have h91 : Int32.toInt 0 = 0 := (by decide); have h92 : Int32.toInt 2 = 2 := (by decide); omega, rfl, rfl⟩)), by rw [ht]; exact hP, hD⟩, hS.F ht⟩) hS.2.2 dX9_paste_93
              · skip
                obtain ⟨hP, hD⟩ : vPD G A H [(ce_X9 ob ob_tape ob_tapeSize ob_reader ob_state ob_images ob_slots ob_rounds ob_ways ob_otherDebts ob_otherKnows), (ce_q4 y ob_slots (va_up (va_up (va_up (va_up (fun _ => none) 0 (some ob_slots0)) 1 (some ob_slots1)) 2 (some ob_slots2)) 3 (some ob_slots3))), (ce_X5 ob_slots0 ob_slots0_filled ob_slots0_width ob_slots0_size ob_slots0_numbers), (ce_l60 y ob_slots0_numbers fob_slots0_numbers), (ce_X5 ob_slots2 ob_slots2_filled ob_slots2_width ob_slots2_size ob_slots2_numbers), (ce_l60 y ob_slots2_numbers fob_slots2_numbers)] := ⟨hP, hD⟩
                refine lv_if_ne (tgt := 94) hx hb dX9_paste_88 (by decide) (fun _ => ?_) (fun c9 => absurd c9 (by decide))
                refine lv_aload hx hb dX9_paste_94 (lv_at hl 1 rfl) ?_
                refine va_get (D := G) (ci := 5) (v := .ref ob_slots0_numbers) (C := RX5) (T := TX5) (N := 4) hx hb hw0 inA_wsX50 hown hK.1 hP 2 rfl rfl 3 (by decide) (hw0 _ m_1293) (fun _ h9 => h9) rfl dX9_paste_96 ?_
                refine lv_iload_n hx hb dX9_paste_99 rfl (lv_at hl 4 rfl) ?_
                refine lv_aload hx hb dX9_paste_100 (lv_at hl 0 rfl) ?_
                refine va_get (D := G) (ci := 5) (v := .ref ob_slots2_numbers) (C := RX5) (T := TX5) (N := 4) hx hb hw0 inA_wsX50 hown hK.1 hP 4 rfl rfl 3 (by decide) (hw0 _ m_1293) (fun _ h9 => h9) rfl dX9_paste_102 ?_
                refine lv_iload hx hb dX9_paste_105 (lv_at hl 6 rfl) ?_
                refine lv_iload hx hb dX9_paste_107 (lv_at hl 7 rfl) ?_
                refine va_copyl (own := RX9) hx hb (by rw [hml]; exact hl.1.symm) hown (hw0 _ m_1294) (hw0 _ m_272) (hw0 _ m_273) (hw0 _ m_274) hK.1 hP hD hS 3 5 2 2 rfl rfl rfl rfl rfl (cy_n h_1014 (by decide)) (cy_n h_1019 (by decide)) (cy_n h_1015 (by decide)) (cy_g h_1014 h_1015 (by decide) (by decide) (by omega)) (cy_g h_1019 h_1015 (by decide) (by decide) (by omega)) (fun i hi => rfl) (Nat.le_of_ble_eq_true rfl) (by decide) dX9_paste_109 (fun H locs hP hD hS => ?_)
                generalize hf_1022 : (va_cpy fob_slots0_numbers fob_slots2_numbers (a2 : Int32).toNatClampNeg (a4 : Int32).toNatClampNeg (a5 : Int32).toNatClampNeg) = f_1022 at hP hD
                obtain ⟨hP, hD⟩ : vPD G A H [(ce_X9 ob ob_tape ob_tapeSize ob_reader ob_state ob_images ob_slots ob_rounds ob_ways ob_otherDebts ob_otherKnows), (ce_q4 y ob_slots (va_up (va_up (va_up (va_up (fun _ => none) 0 (some ob_slots0)) 1 (some ob_slots1)) 2 (some ob_slots2)) 3 (some ob_slots3))), (ce_X5 ob_slots0 ob_slots0_filled ob_slots0_width ob_slots0_size ob_slots0_numbers), (ce_l60 y ob_slots0_numbers fob_slots0_numbers), (ce_X5 ob_slots2 ob_slots2_filled ob_slots2_width ob_slots2_size ob_slots2_numbers), (ce_l60 y ob_slots2_numbers f_1022)] := ⟨hP, hD⟩
                refine lv_iconst (v := 0) hx hb dX9_paste_112 (by decide) ?_
                exact W.iret (v := 0) hx hb hr (fun t ht hW => ⟨⟨0, _, rfl, Or.inr (Or.inr (Or.inr (⟨f_1022, h_1014, h_1019, h_1015, nc_1009.1, nc_1010.1, by have h90 : Int32.toInt 0 = 0 := (by decide); have h91 : Int32.toInt 2 = 2 := (by decide); omega, rfl, rfl⟩))), by rw [ht]; exact hP, hD⟩, hS.F ht⟩) hS.2.2 dX9_paste_113
          · skip
            have nc_1011 : ob_slots0_width.toInt ≠ ob_slots2_width.toInt := fun h9 => c_1011 (Int32.toInt_inj.mp h9)
            refine lv_bipush (v := (-8)) hx hb dX9_paste_65 (by decide) ?_
            exact W.iret (v := (-8)) hx hb hr (fun t ht hW => ⟨⟨(-8), _, rfl, Or.inr (Or.inr (Or.inl (⟨nc_1009.1, nc_1010.1, by have h90 : Int32.toInt (-8) = -8 := (by decide); have h91 : Int32.toInt 0 = 0 := (by decide); have h92 : Int32.toInt 2 = 2 := (by decide); omega, rfl, rfl⟩))), by rw [ht]; exact hP, hD⟩, hS.F ht⟩) hS.2.2 dX9_paste_67
        · skip
          have nc_1010 := nb_eq (0) (0) c_1010 p_ob_slots2_filled (bkc (x := 0) (c := 0) (by decide)) (by decide)
          refine lv_bipush (v := (-6)) hx hb dX9_paste_49 (by decide) ?_
          exact W.iret (v := (-6)) hx hb hr (fun t ht hW => ⟨⟨(-6), _, rfl, Or.inl (⟨by have h90 : Int32.toInt (-6) = -6 := (by decide); have h91 : Int32.toInt 0 = 0 := (by decide); have h92 : Int32.toInt 2 = 2 := (by decide); omega, rfl, rfl⟩), by rw [ht]; exact hP, hD⟩, hS.F ht⟩) hS.2.2 dX9_paste_51

set_option maxHeartbeats 4000000 in
set_option maxRecDepth 100000 in
theorem fpaste03 (l : Launch) (G : va_G) (y : Nat → ClassId) (sz : Nat) (ob : Nat) (a2 : Int32) (a4 : Int32) (a5 : Int32) (ob_tape : Nat) (ob_tapeSize : Int32) (ob_reader : Nat) (ob_state : Nat) (ob_images : Nat) (ob_slots : Nat) (ob_rounds : Nat) (ob_ways : Nat) (ob_otherDebts : Nat) (ob_otherKnows : Nat) (ob_slots0 : Nat) (ob_slots1 : Nat) (ob_slots2 : Nat) (ob_slots3 : Nat) (ob_slots0_filled : Int32) (ob_slots0_width : Int32) (ob_slots0_size : Int32) (ob_slots0_numbers : Nat) (fob_slots0_numbers : Nat → Int64) (ob_slots3_filled : Int32) (ob_slots3_width : Int32) (ob_slots3_size : Int32) (ob_slots3_numbers : Nat) (fob_slots3_numbers : Nat → Int64) (p_ob_tapeSize : (0 : Int) ≤ ob_tapeSize.toInt ∧ ob_tapeSize.toInt ≤ 1400) (p_ob_slots0_filled : (0 : Int) ≤ ob_slots0_filled.toInt ∧ ob_slots0_filled.toInt ≤ 1) (p_ob_slots0_size : (0 : Int) ≤ ob_slots0_size.toInt ∧ ob_slots0_size.toInt ≤ 60) (p_ob_slots3_filled : (0 : Int) ≤ ob_slots3_filled.toInt ∧ ob_slots3_filled.toInt ≤ 1) (p_ob_slots3_size : (0 : Int) ≤ ob_slots3_size.toInt ∧ ob_slots3_size.toInt ≤ 60) : Met l yX9_paste (Cond.code yX9_paste cX9_paste 8 (some .int) :: wAll) ({ frames := 1, cells := 0, slots := 0, locals := 72 }) (va_Pc [.ref ob, .int 0, .int a2, .int 3, .int a4, .int a5] (kp G y sz [(ce_X9 ob ob_tape ob_tapeSize ob_reader ob_state ob_images ob_slots ob_rounds ob_ways ob_otherDebts ob_otherKnows), (ce_q4 y ob_slots (va_up (va_up (va_up (va_up (fun _ => none) 0 (some ob_slots0)) 1 (some ob_slots1)) 2 (some ob_slots2)) 3 (some ob_slots3))), (ce_X5 ob_slots0 ob_slots0_filled ob_slots0_width ob_slots0_size ob_slots0_numbers), (ce_l60 y ob_slots0_numbers fob_slots0_numbers), (ce_X5 ob_slots3 ob_slots3_filled ob_slots3_width ob_slots3_size ob_slots3_numbers), (ce_l60 y ob_slots3_numbers fob_slots3_numbers)])) (va_Qi (fun (r : Int32) (w : va_W) => ((ob_slots0_filled.toInt = 0 ∨ ob_slots3_filled.toInt = 0) ∧ r = (-6) ∧ w = [(ce_X9 ob ob_tape ob_tapeSize ob_reader ob_state ob_images ob_slots ob_rounds ob_ways ob_otherDebts ob_otherKnows), (ce_q4 y ob_slots (va_up (va_up (va_up (va_up (fun _ => none) 0 (some ob_slots0)) 1 (some ob_slots1)) 2 (some ob_slots2)) 3 (some ob_slots3))), (ce_X5 ob_slots0 ob_slots0_filled ob_slots0_width ob_slots0_size ob_slots0_numbers), (ce_l60 y ob_slots0_numbers fob_slots0_numbers), (ce_X5 ob_slots3 ob_slots3_filled ob_slots3_width ob_slots3_size ob_slots3_numbers), (ce_l60 y ob_slots3_numbers fob_slots3_numbers)]) ∨ (((1 : Int) ≤ ob_slots0_filled.toInt ∧ ob_slots0_filled.toInt ≤ 1) ∧ ((1 : Int) ≤ ob_slots3_filled.toInt ∧ ob_slots3_filled.toInt ≤ 1) ∧ (ob_slots0_filled.toInt = 1 ∧ ob_slots3_filled.toInt = 1 ∧ ob_slots0_width.toInt = ob_slots3_width.toInt ∧ ¬ (0 ≤ a2.toInt ∧ 0 ≤ a4.toInt ∧ 0 ≤ a5.toInt ∧ a2.toInt + a5.toInt ≤ ob_slots0_size.toInt ∧ a4.toInt + a5.toInt ≤ ob_slots3_size.toInt)) ∧ r = (-7) ∧ w = [(ce_X9 ob ob_tape ob_tapeSize ob_reader ob_state ob_images ob_slots ob_rounds ob_ways ob_otherDebts ob_otherKnows), (ce_q4 y ob_slots (va_up (va_up (va_up (va_up (fun _ => none) 0 (some ob_slots0)) 1 (some ob_slots1)) 2 (some ob_slots2)) 3 (some ob_slots3))), (ce_X5 ob_slots0 ob_slots0_filled ob_slots0_width ob_slots0_size ob_slots0_numbers), (ce_l60 y ob_slots0_numbers fob_slots0_numbers), (ce_X5 ob_slots3 ob_slots3_filled ob_slots3_width ob_slots3_size ob_slots3_numbers), (ce_l60 y ob_slots3_numbers fob_slots3_numbers)]) ∨ (((1 : Int) ≤ ob_slots0_filled.toInt ∧ ob_slots0_filled.toInt ≤ 1) ∧ ((1 : Int) ≤ ob_slots3_filled.toInt ∧ ob_slots3_filled.toInt ≤ 1) ∧ (ob_slots0_filled.toInt = 1 ∧ ob_slots3_filled.toInt = 1 ∧ ¬ ob_slots0_width.toInt = ob_slots3_width.toInt) ∧ r = (-8) ∧ w = [(ce_X9 ob ob_tape ob_tapeSize ob_reader ob_state ob_images ob_slots ob_rounds ob_ways ob_otherDebts ob_otherKnows), (ce_q4 y ob_slots (va_up (va_up (va_up (va_up (fun _ => none) 0 (some ob_slots0)) 1 (some ob_slots1)) 2 (some ob_slots2)) 3 (some ob_slots3))), (ce_X5 ob_slots0 ob_slots0_filled ob_slots0_width ob_slots0_size ob_slots0_numbers), (ce_l60 y ob_slots0_numbers fob_slots0_numbers), (ce_X5 ob_slots3 ob_slots3_filled ob_slots3_width ob_slots3_size ob_slots3_numbers), (ce_l60 y ob_slots3_numbers fob_slots3_numbers)]) ∨ (∃ (f_45 : Nat → Int64), ((0 : Int) ≤ a2.toInt ∧ a2.toInt ≤ 60) ∧ ((0 : Int) ≤ a4.toInt ∧ a4.toInt ≤ 60) ∧ ((0 : Int) ≤ a5.toInt ∧ a5.toInt ≤ 60) ∧ ((1 : Int) ≤ ob_slots0_filled.toInt ∧ ob_slots0_filled.toInt ≤ 1) ∧ ((1 : Int) ≤ ob_slots3_filled.toInt ∧ ob_slots3_filled.toInt ≤ 1) ∧ (ob_slots0_filled.toInt = 1 ∧ ob_slots3_filled.toInt = 1 ∧ ob_slots0_width.toInt = ob_slots3_width.toInt ∧ 0 ≤ a2.toInt ∧ 0 ≤ a4.toInt ∧ 0 ≤ a5.toInt ∧ a2.toInt + a5.toInt ≤ ob_slots0_size.toInt ∧ a4.toInt + a5.toInt ≤ ob_slots3_size.toInt) ∧ r = 0 ∧ w = [(ce_X9 ob ob_tape ob_tapeSize ob_reader ob_state ob_images ob_slots ob_rounds ob_ways ob_otherDebts ob_otherKnows), (ce_q4 y ob_slots (va_up (va_up (va_up (va_up (fun _ => none) 0 (some ob_slots0)) 1 (some ob_slots1)) 2 (some ob_slots2)) 3 (some ob_slots3))), (ce_X5 ob_slots0 ob_slots0_filled ob_slots0_width ob_slots0_size ob_slots0_numbers), (ce_l60 y ob_slots0_numbers fob_slots0_numbers), (ce_X5 ob_slots3 ob_slots3_filled ob_slots3_width ob_slots3_size ob_slots3_numbers), (ce_l60 y ob_slots3_numbers f_45)])) (kq G (va_A [(ce_X9 ob ob_tape ob_tapeSize ob_reader ob_state ob_images ob_slots ob_rounds ob_ways ob_otherDebts ob_otherKnows), (ce_q4 y ob_slots (va_up (va_up (va_up (va_up (fun _ => none) 0 (some ob_slots0)) 1 (some ob_slots1)) 2 (some ob_slots2)) 3 (some ob_slots3))), (ce_X5 ob_slots0 ob_slots0_filled ob_slots0_width ob_slots0_size ob_slots0_numbers), (ce_l60 y ob_slots0_numbers fob_slots0_numbers), (ce_X5 ob_slots3 ob_slots3_filled ob_slots3_width ob_slots3_size ob_slots3_numbers), (ce_l60 y ob_slots3_numbers fob_slots3_numbers)] sz)) (va_A [(ce_X9 ob ob_tape ob_tapeSize ob_reader ob_state ob_images ob_slots ob_rounds ob_ways ob_otherDebts ob_otherKnows), (ce_q4 y ob_slots (va_up (va_up (va_up (va_up (fun _ => none) 0 (some ob_slots0)) 1 (some ob_slots1)) 2 (some ob_slots2)) 3 (some ob_slots3))), (ce_X5 ob_slots0 ob_slots0_filled ob_slots0_width ob_slots0_size ob_slots0_numbers), (ce_l60 y ob_slots0_numbers fob_slots0_numbers), (ce_X5 ob_slots3 ob_slots3_filled ob_slots3_width ob_slots3_size ob_slots3_numbers), (ce_l60 y ob_slots3_numbers fob_slots3_numbers)] sz)) 0 0 (va_A [(ce_X9 ob ob_tape ob_tapeSize ob_reader ob_state ob_images ob_slots ob_rounds ob_ways ob_otherDebts ob_otherKnows), (ce_q4 y ob_slots (va_up (va_up (va_up (va_up (fun _ => none) 0 (some ob_slots0)) 1 (some ob_slots1)) 2 (some ob_slots2)) 3 (some ob_slots3))), (ce_X5 ob_slots0 ob_slots0_filled ob_slots0_width ob_slots0_size ob_slots0_numbers), (ce_l60 y ob_slots0_numbers fob_slots0_numbers), (ce_X5 ob_slots3 ob_slots3_filled ob_slots3_width ob_slots3_size ob_slots3_numbers), (ce_l60 y ob_slots3_numbers fob_slots3_numbers)] sz) := by
  refine Met.ofW (cc := cX9_paste) (maxL := 8) (ret := (some .int)) (by decide) rfl ?_
  intro p e s m args below meth c s₁ B hml hv
  obtain ⟨rfl, hsz, hP, hK, hD0⟩ := hv
  have hx := B.exec
  have hb := B.bytes
  have hr := B.returns
  have hw0 : ∀ w ∈ wAll, w.before _ s = true := fun w h => atoms_spec (ws := Cond.code yX9_paste cX9_paste 8 (some .int) :: wAll) B.pre w (List.mem_cons_of_mem _ h)
  have hown : s.vm.findClass RX9 = some m.cls := findClass_of_methodNamed B.named
  subst hsz
  have hD := hD0.self (sz := s.heap.size)
  generalize hAe : va_A [(ce_X9 ob ob_tape ob_tapeSize ob_reader ob_state ob_images ob_slots ob_rounds ob_ways ob_otherDebts ob_otherKnows), (ce_q4 y ob_slots (va_up (va_up (va_up (va_up (fun _ => none) 0 (some ob_slots0)) 1 (some ob_slots1)) 2 (some ob_slots2)) 3 (some ob_slots3))), (ce_X5 ob_slots0 ob_slots0_filled ob_slots0_width ob_slots0_size ob_slots0_numbers), (ce_l60 y ob_slots0_numbers fob_slots0_numbers), (ce_X5 ob_slots3 ob_slots3_filled ob_slots3_width ob_slots3_size ob_slots3_numbers), (ce_l60 y ob_slots3_numbers fob_slots3_numbers)] s.heap.size = A at hD ⊢
  have hA : ∀ q : Nat, s.heap.size ≤ q → A q := fun q h => by rw [← hAe]; exact Or.inr h
  have hS : va_S A s.heap s.heap [] := va_S.rf
  have hP : va_P G vwCl [(ce_X9 ob ob_tape ob_tapeSize ob_reader ob_state ob_images ob_slots ob_rounds ob_ways ob_otherDebts ob_otherKnows), (ce_q4 y ob_slots (va_up (va_up (va_up (va_up (fun _ => none) 0 (some ob_slots0)) 1 (some ob_slots1)) 2 (some ob_slots2)) 3 (some ob_slots3))), (ce_X5 ob_slots0 ob_slots0_filled ob_slots0_width ob_slots0_size ob_slots0_numbers), (ce_l60 y ob_slots0_numbers fob_slots0_numbers), (ce_X5 ob_slots3 ob_slots3_filled ob_slots3_width ob_slots3_size ob_slots3_numbers), (ce_l60 y ob_slots3_numbers fob_slots3_numbers)] s.heap := hP
  have hl := lv_entry ([.ref ob, .int 0, .int a2, .int 3, .int a4, .int a5]) (n := 8) (Nat.le_of_ble_eq_true rfl)
  rw [lg_entry_eq]
  generalize (lg_sl ([.ref ob, .int 0, .int a2, .int 3, .int a4, .int a5]) ++ List.replicate (8 - (lg_sl ([.ref ob, .int 0, .int a2, .int 3, .int a4, .int a5])).length) Slot.unset).toArray = ls at hl ⊢
  have hl : lv_has ls 8 [(0, .ref ob), (1, .int 0), (2, .int a2), (3, .int 3), (4, .int a4), (5, .int a5)] := hl
  refine lv_iload_n hx hb dX9_paste_0 rfl (lv_at hl 1 rfl) ?_
  refine cSim (As := [.int 0]) (rest := []) ⟨hx, hb, hml, hown, hw0⟩ hA hK hP hD hS [] (fisSlot l G y _ 0 ) rfl ⟨(callB_of 1 hw0 (gA m_1260) rfl rfl rfl (hw0 _ m_36) (hw0 _ m_1189) cb_X9_isSlot ⟨Nat.le_of_ble_eq_true rfl, Nat.le_of_ble_eq_true rfl⟩), (hw0 _ m_1190)⟩ rfl hl.1 (Nat.le_of_ble_eq_true rfl) dX9_paste_1 ⟨Nat.le_of_ble_eq_true rfl, Nat.le_of_ble_eq_true rfl⟩ (fun r_1001 w_1001 H locs hw_1001 hP hD hS => ?_)
  rcases hw_1001 with ⟨h_1002, rfl, rfl⟩ | ⟨h_1003, h_1004, rfl, rfl⟩
  · skip
    exact False.elim (by have h9 : Int32.toInt 0 = 0 := (by decide); omega)
  · skip
    obtain ⟨hP, hD⟩ : vPD G A H [(ce_X9 ob ob_tape ob_tapeSize ob_reader ob_state ob_images ob_slots ob_rounds ob_ways ob_otherDebts ob_otherKnows), (ce_q4 y ob_slots (va_up (va_up (va_up (va_up (fun _ => none) 0 (some ob_slots0)) 1 (some ob_slots1)) 2 (some ob_slots2)) 3 (some ob_slots3))), (ce_X5 ob_slots0 ob_slots0_filled ob_slots0_width ob_slots0_size ob_slots0_numbers), (ce_l60 y ob_slots0_numbers fob_slots0_numbers), (ce_X5 ob_slots3 ob_slots3_filled ob_slots3_width ob_slots3_size ob_slots3_numbers), (ce_l60 y ob_slots3_numbers fob_slots3_numbers)] := ⟨hP, hD⟩
    refine lv_if_eq (tgt := 14) hx hb dX9_paste_4 (by decide) (fun c9 => absurd c9 (by decide)) (fun _ => ?_)
    refine lv_iload_n hx hb dX9_paste_7 rfl (lv_at hl 3 rfl) ?_
    refine cSim (As := [.int 3]) (rest := []) ⟨hx, hb, hml, hown, hw0⟩ hA hK hP hD hS [] (fisSlot l G y _ 3 ) rfl ⟨(callB_of 1 hw0 (gA m_1260) rfl rfl rfl (hw0 _ m_36) (hw0 _ m_1189) cb_X9_isSlot ⟨Nat.le_of_ble_eq_true rfl, Nat.le_of_ble_eq_true rfl⟩), (hw0 _ m_1190)⟩ rfl hl.1 (Nat.le_of_ble_eq_true rfl) dX9_paste_8 ⟨Nat.le_of_ble_eq_true rfl, Nat.le_of_ble_eq_true rfl⟩ (fun r_1005 w_1005 H locs hw_1005 hP hD hS => ?_)
    rcases hw_1005 with ⟨h_1006, rfl, rfl⟩ | ⟨h_1007, h_1008, rfl, rfl⟩
    · skip
      exact False.elim (by have h9 : Int32.toInt 3 = 3 := (by decide); omega)
    · skip
      obtain ⟨hP, hD⟩ : vPD G A H [(ce_X9 ob ob_tape ob_tapeSize ob_reader ob_state ob_images ob_slots ob_rounds ob_ways ob_otherDebts ob_otherKnows), (ce_q4 y ob_slots (va_up (va_up (va_up (va_up (fun _ => none) 0 (some ob_slots0)) 1 (some ob_slots1)) 2 (some ob_slots2)) 3 (some ob_slots3))), (ce_X5 ob_slots0 ob_slots0_filled ob_slots0_width ob_slots0_size ob_slots0_numbers), (ce_l60 y ob_slots0_numbers fob_slots0_numbers), (ce_X5 ob_slots3 ob_slots3_filled ob_slots3_width ob_slots3_size ob_slots3_numbers), (ce_l60 y ob_slots3_numbers fob_slots3_numbers)] := ⟨hP, hD⟩
      refine lv_if_ne (tgt := 17) hx hb dX9_paste_11 (by decide) (fun _ => ?_) (fun c9 => absurd c9 (by decide))
      refine lv_aload_n hx hb dX9_paste_17 rfl (lv_at hl 0 rfl) ?_
      refine va_get (D := G) (ci := 9) (v := .ref ob_slots) (C := RX9) (T := TX9) (N := 10) hx hb hw0 inA_wsX90 hown hK.1 hP 0 rfl rfl 5 (by decide) (hw0 _ m_1191) (fun _ h9 => h9) rfl dX9_paste_18 ?_
      refine lv_iload_n hx hb dX9_paste_21 rfl (lv_at hl 1 rfl) ?_
      refine va_aldq hx hb hK.1 hP 1 4 rfl rfl (vi (bkc (x := 0) (c := 0) (by decide)) (by decide)) dX9_paste_22 ?_
      refine W.eq (g2 := F0 m 23 ls [.ref ob_slots0]) rfl ?_
      refine lv_astore (lv' := [(6, .ref ob_slots0), (0, .ref ob), (1, .int 0), (2, .int a2), (3, .int 3), (4, .int a4), (5, .int a5)]) hx hb dX9_paste_23 hl (by decide) rfl (fun ls hl => ?_)
      refine lv_aload_n hx hb dX9_paste_25 rfl (lv_at hl 1 rfl) ?_
      refine va_get (D := G) (ci := 9) (v := .ref ob_slots) (C := RX9) (T := TX9) (N := 10) hx hb hw0 inA_wsX90 hown hK.1 hP 0 rfl rfl 5 (by decide) (hw0 _ m_1191) (fun _ h9 => h9) rfl dX9_paste_26 ?_
      refine lv_iload_n hx hb dX9_paste_29 rfl (lv_at hl 4 rfl) ?_
      refine va_aldq hx hb hK.1 hP 1 4 rfl rfl (vi (bkc (x := 3) (c := 3) (by decide)) (by decide)) dX9_paste_30 ?_
      refine W.eq (g2 := F0 m 31 ls [.ref ob_slots3]) rfl ?_
      refine lv_astore (lv' := [(7, .ref ob_slots3), (6, .ref ob_slots0), (0, .ref ob), (1, .int 0), (2, .int a2), (3, .int 3), (4, .int a4), (5, .int a5)]) hx hb dX9_paste_31 hl (by decide) rfl (fun ls hl => ?_)
      refine lv_aload hx hb dX9_paste_33 (lv_at hl 1 rfl) ?_
      refine va_get (D := G) (ci := 5) (v := .int ob_slots0_filled) (C := RX5) (T := TX5) (N := 4) hx hb hw0 inA_wsX50 hown hK.1 hP 2 rfl rfl 0 (by decide) (hw0 _ m_1192) (fun _ h9 => h9) rfl dX9_paste_35 ?_
      refine lv_if_eq (tgt := 49) hx hb dX9_paste_38 (by decide) (fun c_1009 => ?_) (fun c_1009 => ?_)
      · skip
        have nc_1009 := nb_eq (0) (0) c_1009 p_ob_slots0_filled (bkc (x := 0) (c := 0) (by decide)) (by decide)
        refine lv_bipush (v := (-6)) hx hb dX9_paste_49 (by decide) ?_
        exact W.iret (v := (-6)) hx hb hr (fun t ht hW => ⟨⟨(-6), _, rfl, Or.inl (⟨by have h90 : Int32.toInt (-6) = -6 := (by decide); have h91 : Int32.toInt 0 = 0 := (by decide); have h92 : Int32.toInt 3 = 3 := (by decide); omega, rfl, rfl⟩), by rw [ht]; exact hP, hD⟩, hS.F ht⟩) hS.2.2 dX9_paste_51
      · skip
        have nc_1009 := nb_ne (1) (1) c_1009 p_ob_slots0_filled (k := 0) (by decide) (by decide)
        refine lv_aload hx hb dX9_paste_41 (lv_at hl 0 rfl) ?_
        refine va_get (D := G) (ci := 5) (v := .int ob_slots3_filled) (C := RX5) (T := TX5) (N := 4) hx hb hw0 inA_wsX50 hown hK.1 hP 4 rfl rfl 0 (by decide) (hw0 _ m_1192) (fun _ h9 => h9) rfl dX9_paste_43 ?_
        refine lv_if_ne (tgt := 52) hx hb dX9_paste_46 (by decide) (fun c_1010 => ?_) (fun c_1010 => ?_)
        · skip
          have nc_1010 := nb_ne (1) (1) c_1010 p_ob_slots3_filled (k := 0) (by decide) (by decide)
          refine lv_aload hx hb dX9_paste_52 (lv_at hl 1 rfl) ?_
          refine va_get (D := G) (ci := 5) (v := .int ob_slots0_width) (C := RX5) (T := TX5) (N := 4) hx hb hw0 inA_wsX50 hown hK.1 hP 2 rfl rfl 1 (by decide) (hw0 _ m_1289) (fun _ h9 => h9) rfl dX9_paste_54 ?_
          refine lv_aload hx hb dX9_paste_57 (lv_at hl 0 rfl) ?_
          refine va_get (D := G) (ci := 5) (v := .int ob_slots3_width) (C := RX5) (T := TX5) (N := 4) hx hb hw0 inA_wsX50 hown hK.1 hP 4 rfl rfl 1 (by decide) (hw0 _ m_1289) (fun _ h9 => h9) rfl dX9_paste_59 ?_
          refine lv_icmp_eq (tgt := 68) hx hb dX9_paste_62 (by decide) (fun c_1011 => ?_) (fun c_1011 => ?_)
          · skip
            have nc_1011 := nb_eq (-2147483648) (2147483647) c_1011 (btop ob_slots0_width) (btop ob_slots3_width) (by decide)
            refine lv_aload hx hb dX9_paste_68 (lv_at hl 1 rfl) ?_
            refine lv_iload_n hx hb dX9_paste_70 rfl (lv_at hl 4 rfl) ?_
            refine lv_iload hx hb dX9_paste_71 (lv_at hl 7 rfl) ?_
            refine cVim (As := [.int a2, .int a5]) (rest := []) ⟨hx, hb, hml, hown, hw0⟩ hA hK hP hD hS [false, false, true] (sX5_hasRun l G y _ ob_slots0 a2 a5 ob_slots0_filled ob_slots0_width ob_slots0_size ob_slots0_numbers (bw (0) (1) nc_1009.1 (by decide)) p_ob_slots0_size) rfl ⟨(callB_of 2 hw0 (gA m_941) rfl rfl rfl (hw0 _ m_858) (hw0 _ m_1290) cb_X5_hasRun ⟨Nat.le_of_ble_eq_true rfl, Nat.le_of_ble_eq_true rfl⟩), (hw0 _ m_1291), (hw0 _ m_1292)⟩ (ci := 5) (q := (RX5, TX5, 4)) rfl rfl rfl hl.1 (Nat.le_of_ble_eq_true rfl) dX9_paste_73 ⟨Nat.le_of_ble_eq_true rfl, Nat.le_of_ble_eq_true rfl⟩ (fun r_1012 w_1012 H locs hw_1012 hP hD hS => ?_)
            rcases hw_1012 with ⟨h_1013, rfl, rfl⟩ | ⟨h_1014, h_1015, h_1016, rfl, rfl⟩
            · skip
              obtain ⟨hP, hD⟩ : vPD G A H [(ce_X9 ob ob_tape ob_tapeSize ob_reader ob_state ob_images ob_slots ob_rounds ob_ways ob_otherDebts ob_otherKnows), (ce_q4 y ob_slots (va_up (va_up (va_up (va_up (fun _ => none) 0 (some ob_slots0)) 1 (some ob_slots1)) 2 (some ob_slots2)) 3 (some ob_slots3))), (ce_X5 ob_slots0 ob_slots0_filled ob_slots0_width ob_slots0_size ob_slots0_numbers), (ce_l60 y ob_slots0_numbers fob_slots0_numbers), (ce_X5 ob_slots3 ob_slots3_filled ob_slots3_width ob_slots3_size ob_slots3_numbers), (ce_l60 y ob_slots3_numbers fob_slots3_numbers)] := ⟨hP, hD⟩
              refine lv_if_eq (tgt := 91) hx hb dX9_paste_76 (by decide) (fun _ => ?_) (fun c9 => absurd (by decide) c9)
              refine lv_bipush (v := (-7)) hx hb dX9_paste_91 (by decide) ?_
              exact W.iret (v := (-7)) hx hb hr (fun t ht hW => ⟨⟨(-7), _, rfl, Or.inr (Or.inl (⟨nc_1009.1, nc_1010.1, by have h90 : Int32.toInt (-7) = -7 := (by decide); have h91 : Int32.toInt 0 = 0 := (by decide); have h92 : Int32.toInt 3 = 3 := (by decide); omega, rfl, rfl⟩)), by rw [ht]; exact hP, hD⟩, hS.F ht⟩) hS.2.2 dX9_paste_93
            · skip
              obtain ⟨hP, hD⟩ : vPD G A H [(ce_X9 ob ob_tape ob_tapeSize ob_reader ob_state ob_images ob_slots ob_rounds ob_ways ob_otherDebts ob_otherKnows), (ce_q4 y ob_slots (va_up (va_up (va_up (va_up (fun _ => none) 0 (some ob_slots0)) 1 (some ob_slots1)) 2 (some ob_slots2)) 3 (some ob_slots3))), (ce_X5 ob_slots0 ob_slots0_filled ob_slots0_width ob_slots0_size ob_slots0_numbers), (ce_l60 y ob_slots0_numbers fob_slots0_numbers), (ce_X5 ob_slots3 ob_slots3_filled ob_slots3_width ob_slots3_size ob_slots3_numbers), (ce_l60 y ob_slots3_numbers fob_slots3_numbers)] := ⟨hP, hD⟩
              refine lv_if_eq (tgt := 91) hx hb dX9_paste_76 (by decide) (fun c9 => absurd c9 (by decide)) (fun _ => ?_)
              refine lv_aload hx hb dX9_paste_79 (lv_at hl 0 rfl) ?_
              refine lv_iload hx hb dX9_paste_81 (lv_at hl 6 rfl) ?_
              refine lv_iload hx hb dX9_paste_83 (lv_at hl 7 rfl) ?_
              refine cVim (As := [.int a4, .int a5]) (rest := []) ⟨hx, hb, hml, hown, hw0⟩ hA hK hP hD hS [false, false, false, false, true] (sX5_hasRun l G y _ ob_slots3 a4 a5 ob_slots3_filled ob_slots3_width ob_slots3_size ob_slots3_numbers (bw (0) (1) nc_1010.1 (by decide)) p_ob_slots3_size) rfl ⟨(callB_of 2 hw0 (gA m_941) rfl rfl rfl (hw0 _ m_858) (hw0 _ m_1290) cb_X5_hasRun ⟨Nat.le_of_ble_eq_true rfl, Nat.le_of_ble_eq_true rfl⟩), (hw0 _ m_1291), (hw0 _ m_1292)⟩ (ci := 5) (q := (RX5, TX5, 4)) rfl rfl rfl hl.1 (Nat.le_of_ble_eq_true rfl) dX9_paste_85 ⟨Nat.le_of_ble_eq_true rfl, Nat.le_of_ble_eq_true rfl⟩ (fun r_1017 w_1017 H locs hw_1017 hP hD hS => ?_)
              rcases hw_1017 with ⟨h_1018, rfl, rfl⟩ | ⟨h_1019, h_1020, h_1021, rfl, rfl⟩
              · skip
                obtain ⟨hP, hD⟩ : vPD G A H [(ce_X9 ob ob_tape ob_tapeSize ob_reader ob_state ob_images ob_slots ob_rounds ob_ways ob_otherDebts ob_otherKnows), (ce_q4 y ob_slots (va_up (va_up (va_up (va_up (fun _ => none) 0 (some ob_slots0)) 1 (some ob_slots1)) 2 (some ob_slots2)) 3 (some ob_slots3))), (ce_X5 ob_slots0 ob_slots0_filled ob_slots0_width ob_slots0_size ob_slots0_numbers), (ce_l60 y ob_slots0_numbers fob_slots0_numbers), (ce_X5 ob_slots3 ob_slots3_filled ob_slots3_width ob_slots3_size ob_slots3_numbers), (ce_l60 y ob_slots3_numbers fob_slots3_numbers)] := ⟨hP, hD⟩
                refine lv_if_ne (tgt := 94) hx hb dX9_paste_88 (by decide) (fun c9 => absurd (by decide) c9) (fun _ => ?_)
                refine lv_bipush (v := (-7)) hx hb dX9_paste_91 (by decide) ?_
                exact W.iret (v := (-7)) hx hb hr (fun t ht hW => ⟨⟨(-7), _, rfl, Or.inr (Or.inl (⟨nc_1009.1, nc_1010.1, by have h90 : Int32.toInt (-7) = -7 := (by decide); have h91 : Int32.toInt 0 = 0 := (by decide); have h92 : Int32.toInt 3 = 3 := (by decide); omega, rfl, rfl⟩)), by rw [ht]; exact hP, hD⟩, hS.F ht⟩) hS.2.2 dX9_paste_93
              · skip
                obtain ⟨hP, hD⟩ : vPD G A H [(ce_X9 ob ob_tape ob_tapeSize ob_reader ob_state ob_images ob_slots ob_rounds ob_ways ob_otherDebts ob_otherKnows), (ce_q4 y ob_slots (va_up (va_up (va_up (va_up (fun _ => none) 0 (some ob_slots0)) 1 (some ob_slots1)) 2 (some ob_slots2)) 3 (some ob_slots3))), (ce_X5 ob_slots0 ob_slots0_filled ob_slots0_width ob_slots0_size ob_slots0_numbers), (ce_l60 y ob_slots0_numbers fob_slots0_numbers), (ce_X5 ob_slots3 ob_slots3_filled ob_slots3_width ob_slots3_size ob_slots3_numbers), (ce_l60 y ob_slots3_numbers fob_slots3_numbers)] := ⟨hP, hD⟩
                refine lv_if_ne (tgt := 94) hx hb dX9_paste_88 (by decide) (fun _ => ?_) (fun c9 => absurd c9 (by decide))
                refine lv_aload hx hb dX9_paste_94 (lv_at hl 1 rfl) ?_
                refine va_get (D := G) (ci := 5) (v := .ref ob_slots0_numbers) (C := RX5) (T := TX5) (N := 4) hx hb hw0 inA_wsX50 hown hK.1 hP 2 rfl rfl 3 (by decide) (hw0 _ m_1293) (fun _ h9 => h9) rfl dX9_paste_96 ?_
                refine lv_iload_n hx hb dX9_paste_99 rfl (lv_at hl 4 rfl) ?_
                refine lv_aload hx hb dX9_paste_100 (lv_at hl 0 rfl) ?_
                refine va_get (D := G) (ci := 5) (v := .ref ob_slots3_numbers) (C := RX5) (T := TX5) (N := 4) hx hb hw0 inA_wsX50 hown hK.1 hP 4 rfl rfl 3 (by decide) (hw0 _ m_1293) (fun _ h9 => h9) rfl dX9_paste_102 ?_
                refine lv_iload hx hb dX9_paste_105 (lv_at hl 6 rfl) ?_
                refine lv_iload hx hb dX9_paste_107 (lv_at hl 7 rfl) ?_
                refine va_copyl (own := RX9) hx hb (by rw [hml]; exact hl.1.symm) hown (hw0 _ m_1294) (hw0 _ m_272) (hw0 _ m_273) (hw0 _ m_274) hK.1 hP hD hS 3 5 2 2 rfl rfl rfl rfl rfl (cy_n h_1014 (by decide)) (cy_n h_1019 (by decide)) (cy_n h_1015 (by decide)) (cy_g h_1014 h_1015 (by decide) (by decide) (by omega)) (cy_g h_1019 h_1015 (by decide) (by decide) (by omega)) (fun i hi => rfl) (Nat.le_of_ble_eq_true rfl) (by decide) dX9_paste_109 (fun H locs hP hD hS => ?_)
                generalize hf_1022 : (va_cpy fob_slots0_numbers fob_slots3_numbers (a2 : Int32).toNatClampNeg (a4 : Int32).toNatClampNeg (a5 : Int32).toNatClampNeg) = f_1022 at hP hD
                obtain ⟨hP, hD⟩ : vPD G A H [(ce_X9 ob ob_tape ob_tapeSize ob_reader ob_state ob_images ob_slots ob_rounds ob_ways ob_otherDebts ob_otherKnows), (ce_q4 y ob_slots (va_up (va_up (va_up (va_up (fun _ => none) 0 (some ob_slots0)) 1 (some ob_slots1)) 2 (some ob_slots2)) 3 (some ob_slots3))), (ce_X5 ob_slots0 ob_slots0_filled ob_slots0_width ob_slots0_size ob_slots0_numbers), (ce_l60 y ob_slots0_numbers fob_slots0_numbers), (ce_X5 ob_slots3 ob_slots3_filled ob_slots3_width ob_slots3_size ob_slots3_numbers), (ce_l60 y ob_slots3_numbers f_1022)] := ⟨hP, hD⟩
                refine lv_iconst (v := 0) hx hb dX9_paste_112 (by decide) ?_
                exact W.iret (v := 0) hx hb hr (fun t ht hW => ⟨⟨0, _, rfl, Or.inr (Or.inr (Or.inr (⟨f_1022, h_1014, h_1019, h_1015, nc_1009.1, nc_1010.1, by have h90 : Int32.toInt 0 = 0 := (by decide); have h91 : Int32.toInt 3 = 3 := (by decide); omega, rfl, rfl⟩))), by rw [ht]; exact hP, hD⟩, hS.F ht⟩) hS.2.2 dX9_paste_113
          · skip
            have nc_1011 : ob_slots0_width.toInt ≠ ob_slots3_width.toInt := fun h9 => c_1011 (Int32.toInt_inj.mp h9)
            refine lv_bipush (v := (-8)) hx hb dX9_paste_65 (by decide) ?_
            exact W.iret (v := (-8)) hx hb hr (fun t ht hW => ⟨⟨(-8), _, rfl, Or.inr (Or.inr (Or.inl (⟨nc_1009.1, nc_1010.1, by have h90 : Int32.toInt (-8) = -8 := (by decide); have h91 : Int32.toInt 0 = 0 := (by decide); have h92 : Int32.toInt 3 = 3 := (by decide); omega, rfl, rfl⟩))), by rw [ht]; exact hP, hD⟩, hS.F ht⟩) hS.2.2 dX9_paste_67
        · skip
          have nc_1010 := nb_eq (0) (0) c_1010 p_ob_slots3_filled (bkc (x := 0) (c := 0) (by decide)) (by decide)
          refine lv_bipush (v := (-6)) hx hb dX9_paste_49 (by decide) ?_
          exact W.iret (v := (-6)) hx hb hr (fun t ht hW => ⟨⟨(-6), _, rfl, Or.inl (⟨by have h90 : Int32.toInt (-6) = -6 := (by decide); have h91 : Int32.toInt 0 = 0 := (by decide); have h92 : Int32.toInt 3 = 3 := (by decide); omega, rfl, rfl⟩), by rw [ht]; exact hP, hD⟩, hS.F ht⟩) hS.2.2 dX9_paste_51

set_option maxHeartbeats 4000000 in
set_option maxRecDepth 100000 in
theorem fpaste10 (l : Launch) (G : va_G) (y : Nat → ClassId) (sz : Nat) (ob : Nat) (a2 : Int32) (a4 : Int32) (a5 : Int32) (ob_tape : Nat) (ob_tapeSize : Int32) (ob_reader : Nat) (ob_state : Nat) (ob_images : Nat) (ob_slots : Nat) (ob_rounds : Nat) (ob_ways : Nat) (ob_otherDebts : Nat) (ob_otherKnows : Nat) (ob_slots0 : Nat) (ob_slots1 : Nat) (ob_slots2 : Nat) (ob_slots3 : Nat) (ob_slots0_filled : Int32) (ob_slots0_width : Int32) (ob_slots0_size : Int32) (ob_slots0_numbers : Nat) (fob_slots0_numbers : Nat → Int64) (ob_slots1_filled : Int32) (ob_slots1_width : Int32) (ob_slots1_size : Int32) (ob_slots1_numbers : Nat) (fob_slots1_numbers : Nat → Int64) (p_ob_tapeSize : (0 : Int) ≤ ob_tapeSize.toInt ∧ ob_tapeSize.toInt ≤ 1400) (p_ob_slots0_filled : (0 : Int) ≤ ob_slots0_filled.toInt ∧ ob_slots0_filled.toInt ≤ 1) (p_ob_slots0_size : (0 : Int) ≤ ob_slots0_size.toInt ∧ ob_slots0_size.toInt ≤ 60) (p_ob_slots1_filled : (0 : Int) ≤ ob_slots1_filled.toInt ∧ ob_slots1_filled.toInt ≤ 1) (p_ob_slots1_size : (0 : Int) ≤ ob_slots1_size.toInt ∧ ob_slots1_size.toInt ≤ 60) : Met l yX9_paste (Cond.code yX9_paste cX9_paste 8 (some .int) :: wAll) ({ frames := 1, cells := 0, slots := 0, locals := 72 }) (va_Pc [.ref ob, .int 1, .int a2, .int 0, .int a4, .int a5] (kp G y sz [(ce_X9 ob ob_tape ob_tapeSize ob_reader ob_state ob_images ob_slots ob_rounds ob_ways ob_otherDebts ob_otherKnows), (ce_q4 y ob_slots (va_up (va_up (va_up (va_up (fun _ => none) 0 (some ob_slots0)) 1 (some ob_slots1)) 2 (some ob_slots2)) 3 (some ob_slots3))), (ce_X5 ob_slots0 ob_slots0_filled ob_slots0_width ob_slots0_size ob_slots0_numbers), (ce_l60 y ob_slots0_numbers fob_slots0_numbers), (ce_X5 ob_slots1 ob_slots1_filled ob_slots1_width ob_slots1_size ob_slots1_numbers), (ce_l60 y ob_slots1_numbers fob_slots1_numbers)])) (va_Qi (fun (r : Int32) (w : va_W) => ((ob_slots1_filled.toInt = 0 ∨ ob_slots0_filled.toInt = 0) ∧ r = (-6) ∧ w = [(ce_X9 ob ob_tape ob_tapeSize ob_reader ob_state ob_images ob_slots ob_rounds ob_ways ob_otherDebts ob_otherKnows), (ce_q4 y ob_slots (va_up (va_up (va_up (va_up (fun _ => none) 0 (some ob_slots0)) 1 (some ob_slots1)) 2 (some ob_slots2)) 3 (some ob_slots3))), (ce_X5 ob_slots0 ob_slots0_filled ob_slots0_width ob_slots0_size ob_slots0_numbers), (ce_l60 y ob_slots0_numbers fob_slots0_numbers), (ce_X5 ob_slots1 ob_slots1_filled ob_slots1_width ob_slots1_size ob_slots1_numbers), (ce_l60 y ob_slots1_numbers fob_slots1_numbers)]) ∨ (((1 : Int) ≤ ob_slots0_filled.toInt ∧ ob_slots0_filled.toInt ≤ 1) ∧ ((1 : Int) ≤ ob_slots1_filled.toInt ∧ ob_slots1_filled.toInt ≤ 1) ∧ (ob_slots1_filled.toInt = 1 ∧ ob_slots0_filled.toInt = 1 ∧ ob_slots1_width.toInt = ob_slots0_width.toInt ∧ ¬ (0 ≤ a2.toInt ∧ 0 ≤ a4.toInt ∧ 0 ≤ a5.toInt ∧ a2.toInt + a5.toInt ≤ ob_slots1_size.toInt ∧ a4.toInt + a5.toInt ≤ ob_slots0_size.toInt)) ∧ r = (-7) ∧ w = [(ce_X9 ob ob_tape ob_tapeSize ob_reader ob_state ob_images ob_slots ob_rounds ob_ways ob_otherDebts ob_otherKnows), (ce_q4 y ob_slots (va_up (va_up (va_up (va_up (fun _ => none) 0 (some ob_slots0)) 1 (some ob_slots1)) 2 (some ob_slots2)) 3 (some ob_slots3))), (ce_X5 ob_slots0 ob_slots0_filled ob_slots0_width ob_slots0_size ob_slots0_numbers), (ce_l60 y ob_slots0_numbers fob_slots0_numbers), (ce_X5 ob_slots1 ob_slots1_filled ob_slots1_width ob_slots1_size ob_slots1_numbers), (ce_l60 y ob_slots1_numbers fob_slots1_numbers)]) ∨ (((1 : Int) ≤ ob_slots0_filled.toInt ∧ ob_slots0_filled.toInt ≤ 1) ∧ ((1 : Int) ≤ ob_slots1_filled.toInt ∧ ob_slots1_filled.toInt ≤ 1) ∧ (ob_slots1_filled.toInt = 1 ∧ ob_slots0_filled.toInt = 1 ∧ ¬ ob_slots1_width.toInt = ob_slots0_width.toInt) ∧ r = (-8) ∧ w = [(ce_X9 ob ob_tape ob_tapeSize ob_reader ob_state ob_images ob_slots ob_rounds ob_ways ob_otherDebts ob_otherKnows), (ce_q4 y ob_slots (va_up (va_up (va_up (va_up (fun _ => none) 0 (some ob_slots0)) 1 (some ob_slots1)) 2 (some ob_slots2)) 3 (some ob_slots3))), (ce_X5 ob_slots0 ob_slots0_filled ob_slots0_width ob_slots0_size ob_slots0_numbers), (ce_l60 y ob_slots0_numbers fob_slots0_numbers), (ce_X5 ob_slots1 ob_slots1_filled ob_slots1_width ob_slots1_size ob_slots1_numbers), (ce_l60 y ob_slots1_numbers fob_slots1_numbers)]) ∨ (∃ (f_45 : Nat → Int64), ((0 : Int) ≤ a2.toInt ∧ a2.toInt ≤ 60) ∧ ((0 : Int) ≤ a4.toInt ∧ a4.toInt ≤ 60) ∧ ((0 : Int) ≤ a5.toInt ∧ a5.toInt ≤ 60) ∧ ((1 : Int) ≤ ob_slots0_filled.toInt ∧ ob_slots0_filled.toInt ≤ 1) ∧ ((1 : Int) ≤ ob_slots1_filled.toInt ∧ ob_slots1_filled.toInt ≤ 1) ∧ (ob_slots1_filled.toInt = 1 ∧ ob_slots0_filled.toInt = 1 ∧ ob_slots1_width.toInt = ob_slots0_width.toInt ∧ 0 ≤ a2.toInt ∧ 0 ≤ a4.toInt ∧ 0 ≤ a5.toInt ∧ a2.toInt + a5.toInt ≤ ob_slots1_size.toInt ∧ a4.toInt + a5.toInt ≤ ob_slots0_size.toInt) ∧ r = 0 ∧ w = [(ce_X9 ob ob_tape ob_tapeSize ob_reader ob_state ob_images ob_slots ob_rounds ob_ways ob_otherDebts ob_otherKnows), (ce_q4 y ob_slots (va_up (va_up (va_up (va_up (fun _ => none) 0 (some ob_slots0)) 1 (some ob_slots1)) 2 (some ob_slots2)) 3 (some ob_slots3))), (ce_X5 ob_slots0 ob_slots0_filled ob_slots0_width ob_slots0_size ob_slots0_numbers), (ce_l60 y ob_slots0_numbers f_45), (ce_X5 ob_slots1 ob_slots1_filled ob_slots1_width ob_slots1_size ob_slots1_numbers), (ce_l60 y ob_slots1_numbers fob_slots1_numbers)])) (kq G (va_A [(ce_X9 ob ob_tape ob_tapeSize ob_reader ob_state ob_images ob_slots ob_rounds ob_ways ob_otherDebts ob_otherKnows), (ce_q4 y ob_slots (va_up (va_up (va_up (va_up (fun _ => none) 0 (some ob_slots0)) 1 (some ob_slots1)) 2 (some ob_slots2)) 3 (some ob_slots3))), (ce_X5 ob_slots0 ob_slots0_filled ob_slots0_width ob_slots0_size ob_slots0_numbers), (ce_l60 y ob_slots0_numbers fob_slots0_numbers), (ce_X5 ob_slots1 ob_slots1_filled ob_slots1_width ob_slots1_size ob_slots1_numbers), (ce_l60 y ob_slots1_numbers fob_slots1_numbers)] sz)) (va_A [(ce_X9 ob ob_tape ob_tapeSize ob_reader ob_state ob_images ob_slots ob_rounds ob_ways ob_otherDebts ob_otherKnows), (ce_q4 y ob_slots (va_up (va_up (va_up (va_up (fun _ => none) 0 (some ob_slots0)) 1 (some ob_slots1)) 2 (some ob_slots2)) 3 (some ob_slots3))), (ce_X5 ob_slots0 ob_slots0_filled ob_slots0_width ob_slots0_size ob_slots0_numbers), (ce_l60 y ob_slots0_numbers fob_slots0_numbers), (ce_X5 ob_slots1 ob_slots1_filled ob_slots1_width ob_slots1_size ob_slots1_numbers), (ce_l60 y ob_slots1_numbers fob_slots1_numbers)] sz)) 0 0 (va_A [(ce_X9 ob ob_tape ob_tapeSize ob_reader ob_state ob_images ob_slots ob_rounds ob_ways ob_otherDebts ob_otherKnows), (ce_q4 y ob_slots (va_up (va_up (va_up (va_up (fun _ => none) 0 (some ob_slots0)) 1 (some ob_slots1)) 2 (some ob_slots2)) 3 (some ob_slots3))), (ce_X5 ob_slots0 ob_slots0_filled ob_slots0_width ob_slots0_size ob_slots0_numbers), (ce_l60 y ob_slots0_numbers fob_slots0_numbers), (ce_X5 ob_slots1 ob_slots1_filled ob_slots1_width ob_slots1_size ob_slots1_numbers), (ce_l60 y ob_slots1_numbers fob_slots1_numbers)] sz) := by
  refine Met.ofW (cc := cX9_paste) (maxL := 8) (ret := (some .int)) (by decide) rfl ?_
  intro p e s m args below meth c s₁ B hml hv
  obtain ⟨rfl, hsz, hP, hK, hD0⟩ := hv
  have hx := B.exec
  have hb := B.bytes
  have hr := B.returns
  have hw0 : ∀ w ∈ wAll, w.before _ s = true := fun w h => atoms_spec (ws := Cond.code yX9_paste cX9_paste 8 (some .int) :: wAll) B.pre w (List.mem_cons_of_mem _ h)
  have hown : s.vm.findClass RX9 = some m.cls := findClass_of_methodNamed B.named
  subst hsz
  have hD := hD0.self (sz := s.heap.size)
  generalize hAe : va_A [(ce_X9 ob ob_tape ob_tapeSize ob_reader ob_state ob_images ob_slots ob_rounds ob_ways ob_otherDebts ob_otherKnows), (ce_q4 y ob_slots (va_up (va_up (va_up (va_up (fun _ => none) 0 (some ob_slots0)) 1 (some ob_slots1)) 2 (some ob_slots2)) 3 (some ob_slots3))), (ce_X5 ob_slots0 ob_slots0_filled ob_slots0_width ob_slots0_size ob_slots0_numbers), (ce_l60 y ob_slots0_numbers fob_slots0_numbers), (ce_X5 ob_slots1 ob_slots1_filled ob_slots1_width ob_slots1_size ob_slots1_numbers), (ce_l60 y ob_slots1_numbers fob_slots1_numbers)] s.heap.size = A at hD ⊢
  have hA : ∀ q : Nat, s.heap.size ≤ q → A q := fun q h => by rw [← hAe]; exact Or.inr h
  have hS : va_S A s.heap s.heap [] := va_S.rf
  have hP : va_P G vwCl [(ce_X9 ob ob_tape ob_tapeSize ob_reader ob_state ob_images ob_slots ob_rounds ob_ways ob_otherDebts ob_otherKnows), (ce_q4 y ob_slots (va_up (va_up (va_up (va_up (fun _ => none) 0 (some ob_slots0)) 1 (some ob_slots1)) 2 (some ob_slots2)) 3 (some ob_slots3))), (ce_X5 ob_slots0 ob_slots0_filled ob_slots0_width ob_slots0_size ob_slots0_numbers), (ce_l60 y ob_slots0_numbers fob_slots0_numbers), (ce_X5 ob_slots1 ob_slots1_filled ob_slots1_width ob_slots1_size ob_slots1_numbers), (ce_l60 y ob_slots1_numbers fob_slots1_numbers)] s.heap := hP
  have hl := lv_entry ([.ref ob, .int 1, .int a2, .int 0, .int a4, .int a5]) (n := 8) (Nat.le_of_ble_eq_true rfl)
  rw [lg_entry_eq]
  generalize (lg_sl ([.ref ob, .int 1, .int a2, .int 0, .int a4, .int a5]) ++ List.replicate (8 - (lg_sl ([.ref ob, .int 1, .int a2, .int 0, .int a4, .int a5])).length) Slot.unset).toArray = ls at hl ⊢
  have hl : lv_has ls 8 [(0, .ref ob), (1, .int 1), (2, .int a2), (3, .int 0), (4, .int a4), (5, .int a5)] := hl
  refine lv_iload_n hx hb dX9_paste_0 rfl (lv_at hl 1 rfl) ?_
  refine cSim (As := [.int 1]) (rest := []) ⟨hx, hb, hml, hown, hw0⟩ hA hK hP hD hS [] (fisSlot l G y _ 1 ) rfl ⟨(callB_of 1 hw0 (gA m_1260) rfl rfl rfl (hw0 _ m_36) (hw0 _ m_1189) cb_X9_isSlot ⟨Nat.le_of_ble_eq_true rfl, Nat.le_of_ble_eq_true rfl⟩), (hw0 _ m_1190)⟩ rfl hl.1 (Nat.le_of_ble_eq_true rfl) dX9_paste_1 ⟨Nat.le_of_ble_eq_true rfl, Nat.le_of_ble_eq_true rfl⟩ (fun r_1001 w_1001 H locs hw_1001 hP hD hS => ?_)
  rcases hw_1001 with ⟨h_1002, rfl, rfl⟩ | ⟨h_1003, h_1004, rfl, rfl⟩
  · skip
    exact False.elim (by have h9 : Int32.toInt 1 = 1 := (by decide); omega)
  · skip
    obtain ⟨hP, hD⟩ : vPD G A H [(ce_X9 ob ob_tape ob_tapeSize ob_reader ob_state ob_images ob_slots ob_rounds ob_ways ob_otherDebts ob_otherKnows), (ce_q4 y ob_slots (va_up (va_up (va_up (va_up (fun _ => none) 0 (some ob_slots0)) 1 (some ob_slots1)) 2 (some ob_slots2)) 3 (some ob_slots3))), (ce_X5 ob_slots0 ob_slots0_filled ob_slots0_width ob_slots0_size ob_slots0_numbers), (ce_l60 y ob_slots0_numbers fob_slots0_numbers), (ce_X5 ob_slots1 ob_slots1_filled ob_slots1_width ob_slots1_size ob_slots1_numbers), (ce_l60 y ob_slots1_numbers fob_slots1_numbers)] := ⟨hP, hD⟩
    refine lv_if_eq (tgt := 14) hx hb dX9_paste_4 (by decide) (fun c9 => absurd c9 (by decide)) (fun _ => ?_)
    refine lv_iload_n hx hb dX9_paste_7 rfl (lv_at hl 3 rfl) ?_
    refine cSim (As := [.int 0]) (rest := []) ⟨hx, hb, hml, hown, hw0⟩ hA hK hP hD hS [] (fisSlot l G y _ 0 ) rfl ⟨(callB_of 1 hw0 (gA m_1260) rfl rfl rfl (hw0 _ m_36) (hw0 _ m_1189) cb_X9_isSlot ⟨Nat.le_of_ble_eq_true rfl, Nat.le_of_ble_eq_true rfl⟩), (hw0 _ m_1190)⟩ rfl hl.1 (Nat.le_of_ble_eq_true rfl) dX9_paste_8 ⟨Nat.le_of_ble_eq_true rfl, Nat.le_of_ble_eq_true rfl⟩ (fun r_1005 w_1005 H locs hw_1005 hP hD hS => ?_)
    rcases hw_1005 with ⟨h_1006, rfl, rfl⟩ | ⟨h_1007, h_1008, rfl, rfl⟩
    · skip
      exact False.elim (by have h9 : Int32.toInt 0 = 0 := (by decide); omega)
    · skip
      obtain ⟨hP, hD⟩ : vPD G A H [(ce_X9 ob ob_tape ob_tapeSize ob_reader ob_state ob_images ob_slots ob_rounds ob_ways ob_otherDebts ob_otherKnows), (ce_q4 y ob_slots (va_up (va_up (va_up (va_up (fun _ => none) 0 (some ob_slots0)) 1 (some ob_slots1)) 2 (some ob_slots2)) 3 (some ob_slots3))), (ce_X5 ob_slots0 ob_slots0_filled ob_slots0_width ob_slots0_size ob_slots0_numbers), (ce_l60 y ob_slots0_numbers fob_slots0_numbers), (ce_X5 ob_slots1 ob_slots1_filled ob_slots1_width ob_slots1_size ob_slots1_numbers), (ce_l60 y ob_slots1_numbers fob_slots1_numbers)] := ⟨hP, hD⟩
      refine lv_if_ne (tgt := 17) hx hb dX9_paste_11 (by decide) (fun _ => ?_) (fun c9 => absurd c9 (by decide))
      refine lv_aload_n hx hb dX9_paste_17 rfl (lv_at hl 0 rfl) ?_
      refine va_get (D := G) (ci := 9) (v := .ref ob_slots) (C := RX9) (T := TX9) (N := 10) hx hb hw0 inA_wsX90 hown hK.1 hP 0 rfl rfl 5 (by decide) (hw0 _ m_1191) (fun _ h9 => h9) rfl dX9_paste_18 ?_
      refine lv_iload_n hx hb dX9_paste_21 rfl (lv_at hl 1 rfl) ?_
      refine va_aldq hx hb hK.1 hP 1 4 rfl rfl (vi (bkc (x := 1) (c := 1) (by decide)) (by decide)) dX9_paste_22 ?_
      refine W.eq (g2 := F0 m 23 ls [.ref ob_slots1]) rfl ?_
      refine lv_astore (lv' := [(6, .ref ob_slots1), (0, .ref ob), (1, .int 1), (2, .int a2), (3, .int 0), (4, .int a4), (5, .int a5)]) hx hb dX9_paste_23 hl (by decide) rfl (fun ls hl => ?_)
      refine lv_aload_n hx hb dX9_paste_25 rfl (lv_at hl 1 rfl) ?_
      refine va_get (D := G) (ci := 9) (v := .ref ob_slots) (C := RX9) (T := TX9) (N := 10) hx hb hw0 inA_wsX90 hown hK.1 hP 0 rfl rfl 5 (by decide) (hw0 _ m_1191) (fun _ h9 => h9) rfl dX9_paste_26 ?_
      refine lv_iload_n hx hb dX9_paste_29 rfl (lv_at hl 4 rfl) ?_
      refine va_aldq hx hb hK.1 hP 1 4 rfl rfl (vi (bkc (x := 0) (c := 0) (by decide)) (by decide)) dX9_paste_30 ?_
      refine W.eq (g2 := F0 m 31 ls [.ref ob_slots0]) rfl ?_
      refine lv_astore (lv' := [(7, .ref ob_slots0), (6, .ref ob_slots1), (0, .ref ob), (1, .int 1), (2, .int a2), (3, .int 0), (4, .int a4), (5, .int a5)]) hx hb dX9_paste_31 hl (by decide) rfl (fun ls hl => ?_)
      refine lv_aload hx hb dX9_paste_33 (lv_at hl 1 rfl) ?_
      refine va_get (D := G) (ci := 5) (v := .int ob_slots1_filled) (C := RX5) (T := TX5) (N := 4) hx hb hw0 inA_wsX50 hown hK.1 hP 4 rfl rfl 0 (by decide) (hw0 _ m_1192) (fun _ h9 => h9) rfl dX9_paste_35 ?_
      refine lv_if_eq (tgt := 49) hx hb dX9_paste_38 (by decide) (fun c_1009 => ?_) (fun c_1009 => ?_)
      · skip
        have nc_1009 := nb_eq (0) (0) c_1009 p_ob_slots1_filled (bkc (x := 0) (c := 0) (by decide)) (by decide)
        refine lv_bipush (v := (-6)) hx hb dX9_paste_49 (by decide) ?_
        exact W.iret (v := (-6)) hx hb hr (fun t ht hW => ⟨⟨(-6), _, rfl, Or.inl (⟨by have h90 : Int32.toInt (-6) = -6 := (by decide); have h91 : Int32.toInt 0 = 0 := (by decide); have h92 : Int32.toInt 1 = 1 := (by decide); omega, rfl, rfl⟩), by rw [ht]; exact hP, hD⟩, hS.F ht⟩) hS.2.2 dX9_paste_51
      · skip
        have nc_1009 := nb_ne (1) (1) c_1009 p_ob_slots1_filled (k := 0) (by decide) (by decide)
        refine lv_aload hx hb dX9_paste_41 (lv_at hl 0 rfl) ?_
        refine va_get (D := G) (ci := 5) (v := .int ob_slots0_filled) (C := RX5) (T := TX5) (N := 4) hx hb hw0 inA_wsX50 hown hK.1 hP 2 rfl rfl 0 (by decide) (hw0 _ m_1192) (fun _ h9 => h9) rfl dX9_paste_43 ?_
        refine lv_if_ne (tgt := 52) hx hb dX9_paste_46 (by decide) (fun c_1010 => ?_) (fun c_1010 => ?_)
        · skip
          have nc_1010 := nb_ne (1) (1) c_1010 p_ob_slots0_filled (k := 0) (by decide) (by decide)
          refine lv_aload hx hb dX9_paste_52 (lv_at hl 1 rfl) ?_
          refine va_get (D := G) (ci := 5) (v := .int ob_slots1_width) (C := RX5) (T := TX5) (N := 4) hx hb hw0 inA_wsX50 hown hK.1 hP 4 rfl rfl 1 (by decide) (hw0 _ m_1289) (fun _ h9 => h9) rfl dX9_paste_54 ?_
          refine lv_aload hx hb dX9_paste_57 (lv_at hl 0 rfl) ?_
          refine va_get (D := G) (ci := 5) (v := .int ob_slots0_width) (C := RX5) (T := TX5) (N := 4) hx hb hw0 inA_wsX50 hown hK.1 hP 2 rfl rfl 1 (by decide) (hw0 _ m_1289) (fun _ h9 => h9) rfl dX9_paste_59 ?_
          refine lv_icmp_eq (tgt := 68) hx hb dX9_paste_62 (by decide) (fun c_1011 => ?_) (fun c_1011 => ?_)
          · skip
            have nc_1011 := nb_eq (-2147483648) (2147483647) c_1011 (btop ob_slots1_width) (btop ob_slots0_width) (by decide)
            refine lv_aload hx hb dX9_paste_68 (lv_at hl 1 rfl) ?_
            refine lv_iload_n hx hb dX9_paste_70 rfl (lv_at hl 4 rfl) ?_
            refine lv_iload hx hb dX9_paste_71 (lv_at hl 7 rfl) ?_
            refine cVim (As := [.int a2, .int a5]) (rest := []) ⟨hx, hb, hml, hown, hw0⟩ hA hK hP hD hS [false, false, false, false, true] (sX5_hasRun l G y _ ob_slots1 a2 a5 ob_slots1_filled ob_slots1_width ob_slots1_size ob_slots1_numbers (bw (0) (1) nc_1009.1 (by decide)) p_ob_slots1_size) rfl ⟨(callB_of 2 hw0 (gA m_941) rfl rfl rfl (hw0 _ m_858) (hw0 _ m_1290) cb_X5_hasRun ⟨Nat.le_of_ble_eq_true rfl, Nat.le_of_ble_eq_true rfl⟩), (hw0 _ m_1291), (hw0 _ m_1292)⟩ (ci := 5) (q := (RX5, TX5, 4)) rfl rfl rfl hl.1 (Nat.le_of_ble_eq_true rfl) dX9_paste_73 ⟨Nat.le_of_ble_eq_true rfl, Nat.le_of_ble_eq_true rfl⟩ (fun r_1012 w_1012 H locs hw_1012 hP hD hS => ?_)
            rcases hw_1012 with ⟨h_1013, rfl, rfl⟩ | ⟨h_1014, h_1015, h_1016, rfl, rfl⟩
            · skip
              obtain ⟨hP, hD⟩ : vPD G A H [(ce_X9 ob ob_tape ob_tapeSize ob_reader ob_state ob_images ob_slots ob_rounds ob_ways ob_otherDebts ob_otherKnows), (ce_q4 y ob_slots (va_up (va_up (va_up (va_up (fun _ => none) 0 (some ob_slots0)) 1 (some ob_slots1)) 2 (some ob_slots2)) 3 (some ob_slots3))), (ce_X5 ob_slots0 ob_slots0_filled ob_slots0_width ob_slots0_size ob_slots0_numbers), (ce_l60 y ob_slots0_numbers fob_slots0_numbers), (ce_X5 ob_slots1 ob_slots1_filled ob_slots1_width ob_slots1_size ob_slots1_numbers), (ce_l60 y ob_slots1_numbers fob_slots1_numbers)] := ⟨hP, hD⟩
              refine lv_if_eq (tgt := 91) hx hb dX9_paste_76 (by decide) (fun _ => ?_) (fun c9 => absurd (by decide) c9)
              refine lv_bipush (v := (-7)) hx hb dX9_paste_91 (by decide) ?_
              exact W.iret (v := (-7)) hx hb hr (fun t ht hW => ⟨⟨(-7), _, rfl, Or.inr (Or.inl (⟨nc_1010.1, nc_1009.1, by have h90 : Int32.toInt (-7) = -7 := (by decide); have h91 : Int32.toInt 0 = 0 := (by decide); have h92 : Int32.toInt 1 = 1 := (by decide); omega, rfl, rfl⟩)), by rw [ht]; exact hP, hD⟩, hS.F ht⟩) hS.2.2 dX9_paste_93
            · skip
              obtain ⟨hP, hD⟩ : vPD G A H [(ce_X9 ob ob_tape ob_tapeSize ob_reader ob_state ob_images ob_slots ob_rounds ob_ways ob_otherDebts ob_otherKnows), (ce_q4 y ob_slots (va_up (va_up (va_up (va_up (fun _ => none) 0 (some ob_slots0)) 1 (some ob_slots1)) 2 (some ob_slots2)) 3 (some ob_slots3))), (ce_X5 ob_slots0 ob_slots0_filled ob_slots0_width ob_slots0_size ob_slots0_numbers), (ce_l60 y ob_slots0_numbers fob_slots0_numbers), (ce_X5 ob_slots1 ob_slots1_filled ob_slots1_width ob_slots1_size ob_slots1_numbers), (ce_l60 y ob_slots1_numbers fob_slots1_numbers)] := ⟨hP, hD⟩
              refine lv_if_eq (tgt := 91) hx hb dX9_paste_76 (by decide) (fun c9 => absurd c9 (by decide)) (fun _ => ?_)
              refine lv_aload hx hb dX9_paste_79 (lv_at hl 0 rfl) ?_
              refine lv_iload hx hb dX9_paste_81 (lv_at hl 6 rfl) ?_
              refine lv_iload hx hb dX9_paste_83 (lv_at hl 7 rfl) ?_
              refine cVim (As := [.int a4, .int a5]) (rest := []) ⟨hx, hb, hml, hown, hw0⟩ hA hK hP hD hS [false, false, true] (sX5_hasRun l G y _ ob_slots0 a4 a5 ob_slots0_filled ob_slots0_width ob_slots0_size ob_slots0_numbers (bw (0) (1) nc_1010.1 (by decide)) p_ob_slots0_size) rfl ⟨(callB_of 2 hw0 (gA m_941) rfl rfl rfl (hw0 _ m_858) (hw0 _ m_1290) cb_X5_hasRun ⟨Nat.le_of_ble_eq_true rfl, Nat.le_of_ble_eq_true rfl⟩), (hw0 _ m_1291), (hw0 _ m_1292)⟩ (ci := 5) (q := (RX5, TX5, 4)) rfl rfl rfl hl.1 (Nat.le_of_ble_eq_true rfl) dX9_paste_85 ⟨Nat.le_of_ble_eq_true rfl, Nat.le_of_ble_eq_true rfl⟩ (fun r_1017 w_1017 H locs hw_1017 hP hD hS => ?_)
              rcases hw_1017 with ⟨h_1018, rfl, rfl⟩ | ⟨h_1019, h_1020, h_1021, rfl, rfl⟩
              · skip
                obtain ⟨hP, hD⟩ : vPD G A H [(ce_X9 ob ob_tape ob_tapeSize ob_reader ob_state ob_images ob_slots ob_rounds ob_ways ob_otherDebts ob_otherKnows), (ce_q4 y ob_slots (va_up (va_up (va_up (va_up (fun _ => none) 0 (some ob_slots0)) 1 (some ob_slots1)) 2 (some ob_slots2)) 3 (some ob_slots3))), (ce_X5 ob_slots0 ob_slots0_filled ob_slots0_width ob_slots0_size ob_slots0_numbers), (ce_l60 y ob_slots0_numbers fob_slots0_numbers), (ce_X5 ob_slots1 ob_slots1_filled ob_slots1_width ob_slots1_size ob_slots1_numbers), (ce_l60 y ob_slots1_numbers fob_slots1_numbers)] := ⟨hP, hD⟩
                refine lv_if_ne (tgt := 94) hx hb dX9_paste_88 (by decide) (fun c9 => absurd (by decide) c9) (fun _ => ?_)
                refine lv_bipush (v := (-7)) hx hb dX9_paste_91 (by decide) ?_
                exact W.iret (v := (-7)) hx hb hr (fun t ht hW => ⟨⟨(-7), _, rfl, Or.inr (Or.inl (⟨nc_1010.1, nc_1009.1, by have h90 : Int32.toInt (-7) = -7 := (by decide); have h91 : Int32.toInt 0 = 0 := (by decide); have h92 : Int32.toInt 1 = 1 := (by decide); omega, rfl, rfl⟩)), by rw [ht]; exact hP, hD⟩, hS.F ht⟩) hS.2.2 dX9_paste_93
              · skip
                obtain ⟨hP, hD⟩ : vPD G A H [(ce_X9 ob ob_tape ob_tapeSize ob_reader ob_state ob_images ob_slots ob_rounds ob_ways ob_otherDebts ob_otherKnows), (ce_q4 y ob_slots (va_up (va_up (va_up (va_up (fun _ => none) 0 (some ob_slots0)) 1 (some ob_slots1)) 2 (some ob_slots2)) 3 (some ob_slots3))), (ce_X5 ob_slots0 ob_slots0_filled ob_slots0_width ob_slots0_size ob_slots0_numbers), (ce_l60 y ob_slots0_numbers fob_slots0_numbers), (ce_X5 ob_slots1 ob_slots1_filled ob_slots1_width ob_slots1_size ob_slots1_numbers), (ce_l60 y ob_slots1_numbers fob_slots1_numbers)] := ⟨hP, hD⟩
                refine lv_if_ne (tgt := 94) hx hb dX9_paste_88 (by decide) (fun _ => ?_) (fun c9 => absurd c9 (by decide))
                refine lv_aload hx hb dX9_paste_94 (lv_at hl 1 rfl) ?_
                refine va_get (D := G) (ci := 5) (v := .ref ob_slots1_numbers) (C := RX5) (T := TX5) (N := 4) hx hb hw0 inA_wsX50 hown hK.1 hP 4 rfl rfl 3 (by decide) (hw0 _ m_1293) (fun _ h9 => h9) rfl dX9_paste_96 ?_
                refine lv_iload_n hx hb dX9_paste_99 rfl (lv_at hl 4 rfl) ?_
                refine lv_aload hx hb dX9_paste_100 (lv_at hl 0 rfl) ?_
                refine va_get (D := G) (ci := 5) (v := .ref ob_slots0_numbers) (C := RX5) (T := TX5) (N := 4) hx hb hw0 inA_wsX50 hown hK.1 hP 2 rfl rfl 3 (by decide) (hw0 _ m_1293) (fun _ h9 => h9) rfl dX9_paste_102 ?_
                refine lv_iload hx hb dX9_paste_105 (lv_at hl 6 rfl) ?_
                refine lv_iload hx hb dX9_paste_107 (lv_at hl 7 rfl) ?_
                refine va_copyl (own := RX9) hx hb (by rw [hml]; exact hl.1.symm) hown (hw0 _ m_1294) (hw0 _ m_272) (hw0 _ m_273) (hw0 _ m_274) hK.1 hP hD hS 5 3 2 2 rfl rfl rfl rfl rfl (cy_n h_1014 (by decide)) (cy_n h_1019 (by decide)) (cy_n h_1015 (by decide)) (cy_g h_1014 h_1015 (by decide) (by decide) (by omega)) (cy_g h_1019 h_1015 (by decide) (by decide) (by omega)) (fun i hi => rfl) (Nat.le_of_ble_eq_true rfl) (by decide) dX9_paste_109 (fun H locs hP hD hS => ?_)
                generalize hf_1022 : (va_cpy fob_slots1_numbers fob_slots0_numbers (a2 : Int32).toNatClampNeg (a4 : Int32).toNatClampNeg (a5 : Int32).toNatClampNeg) = f_1022 at hP hD
                obtain ⟨hP, hD⟩ : vPD G A H [(ce_X9 ob ob_tape ob_tapeSize ob_reader ob_state ob_images ob_slots ob_rounds ob_ways ob_otherDebts ob_otherKnows), (ce_q4 y ob_slots (va_up (va_up (va_up (va_up (fun _ => none) 0 (some ob_slots0)) 1 (some ob_slots1)) 2 (some ob_slots2)) 3 (some ob_slots3))), (ce_X5 ob_slots0 ob_slots0_filled ob_slots0_width ob_slots0_size ob_slots0_numbers), (ce_l60 y ob_slots0_numbers f_1022), (ce_X5 ob_slots1 ob_slots1_filled ob_slots1_width ob_slots1_size ob_slots1_numbers), (ce_l60 y ob_slots1_numbers fob_slots1_numbers)] := ⟨hP, hD⟩
                refine lv_iconst (v := 0) hx hb dX9_paste_112 (by decide) ?_
                exact W.iret (v := 0) hx hb hr (fun t ht hW => ⟨⟨0, _, rfl, Or.inr (Or.inr (Or.inr (⟨f_1022, h_1014, h_1019, h_1015, nc_1010.1, nc_1009.1, by have h90 : Int32.toInt 0 = 0 := (by decide); have h91 : Int32.toInt 1 = 1 := (by decide); omega, rfl, rfl⟩))), by rw [ht]; exact hP, hD⟩, hS.F ht⟩) hS.2.2 dX9_paste_113
          · skip
            have nc_1011 : ob_slots1_width.toInt ≠ ob_slots0_width.toInt := fun h9 => c_1011 (Int32.toInt_inj.mp h9)
            refine lv_bipush (v := (-8)) hx hb dX9_paste_65 (by decide) ?_
            exact W.iret (v := (-8)) hx hb hr (fun t ht hW => ⟨⟨(-8), _, rfl, Or.inr (Or.inr (Or.inl (⟨nc_1010.1, nc_1009.1, by have h90 : Int32.toInt (-8) = -8 := (by decide); have h91 : Int32.toInt 0 = 0 := (by decide); have h92 : Int32.toInt 1 = 1 := (by decide); omega, rfl, rfl⟩))), by rw [ht]; exact hP, hD⟩, hS.F ht⟩) hS.2.2 dX9_paste_67
        · skip
          have nc_1010 := nb_eq (0) (0) c_1010 p_ob_slots0_filled (bkc (x := 0) (c := 0) (by decide)) (by decide)
          refine lv_bipush (v := (-6)) hx hb dX9_paste_49 (by decide) ?_
          exact W.iret (v := (-6)) hx hb hr (fun t ht hW => ⟨⟨(-6), _, rfl, Or.inl (⟨by have h90 : Int32.toInt (-6) = -6 := (by decide); have h91 : Int32.toInt 0 = 0 := (by decide); have h92 : Int32.toInt 1 = 1 := (by decide); omega, rfl, rfl⟩), by rw [ht]; exact hP, hD⟩, hS.F ht⟩) hS.2.2 dX9_paste_51

set_option maxHeartbeats 4000000 in
set_option maxRecDepth 100000 in
theorem fpaste11 (l : Launch) (G : va_G) (y : Nat → ClassId) (sz : Nat) (ob : Nat) (a2 : Int32) (a4 : Int32) (a5 : Int32) (ob_tape : Nat) (ob_tapeSize : Int32) (ob_reader : Nat) (ob_state : Nat) (ob_images : Nat) (ob_slots : Nat) (ob_rounds : Nat) (ob_ways : Nat) (ob_otherDebts : Nat) (ob_otherKnows : Nat) (ob_slots0 : Nat) (ob_slots1 : Nat) (ob_slots2 : Nat) (ob_slots3 : Nat) (ob_slots1_filled : Int32) (ob_slots1_width : Int32) (ob_slots1_size : Int32) (ob_slots1_numbers : Nat) (fob_slots1_numbers : Nat → Int64) (p_ob_tapeSize : (0 : Int) ≤ ob_tapeSize.toInt ∧ ob_tapeSize.toInt ≤ 1400) (p_ob_slots1_filled : (0 : Int) ≤ ob_slots1_filled.toInt ∧ ob_slots1_filled.toInt ≤ 1) (p_ob_slots1_size : (0 : Int) ≤ ob_slots1_size.toInt ∧ ob_slots1_size.toInt ≤ 60) : Met l yX9_paste (Cond.code yX9_paste cX9_paste 8 (some .int) :: wAll) ({ frames := 1, cells := 0, slots := 0, locals := 72 }) (va_Pc [.ref ob, .int 1, .int a2, .int 1, .int a4, .int a5] (kp G y sz [(ce_X9 ob ob_tape ob_tapeSize ob_reader ob_state ob_images ob_slots ob_rounds ob_ways ob_otherDebts ob_otherKnows), (ce_q4 y ob_slots (va_up (va_up (va_up (va_up (fun _ => none) 0 (some ob_slots0)) 1 (some ob_slots1)) 2 (some ob_slots2)) 3 (some ob_slots3))), (ce_X5 ob_slots1 ob_slots1_filled ob_slots1_width ob_slots1_size ob_slots1_numbers), (ce_l60 y ob_slots1_numbers fob_slots1_numbers)])) (va_Qi (fun (r : Int32) (w : va_W) => (((0 : Int) ≤ ob_slots1_filled.toInt ∧ ob_slots1_filled.toInt ≤ 0) ∧ (ob_slots1_filled.toInt = 0 ∨ ob_slots1_filled.toInt = 0) ∧ r = (-6) ∧ w = [(ce_X9 ob ob_tape ob_tapeSize ob_reader ob_state ob_images ob_slots ob_rounds ob_ways ob_otherDebts ob_otherKnows), (ce_q4 y ob_slots (va_up (va_up (va_up (va_up (fun _ => none) 0 (some ob_slots0)) 1 (some ob_slots1)) 2 (some ob_slots2)) 3 (some ob_slots3))), (ce_X5 ob_slots1 ob_slots1_filled ob_slots1_width ob_slots1_size ob_slots1_numbers), (ce_l60 y ob_slots1_numbers fob_slots1_numbers)]) ∨ (((1 : Int) ≤ ob_slots1_filled.toInt ∧ ob_slots1_filled.toInt ≤ 1) ∧ (ob_slots1_filled.toInt = 1 ∧ ob_slots1_filled.toInt = 1 ∧ ob_slots1_width.toInt = ob_slots1_width.toInt ∧ ¬ (0 ≤ a2.toInt ∧ 0 ≤ a4.toInt ∧ 0 ≤ a5.toInt ∧ a2.toInt + a5.toInt ≤ ob_slots1_size.toInt ∧ a4.toInt + a5.toInt ≤ ob_slots1_size.toInt)) ∧ r = (-7) ∧ w = [(ce_X9 ob ob_tape ob_tapeSize ob_reader ob_state ob_images ob_slots ob_rounds ob_ways ob_otherDebts ob_otherKnows), (ce_q4 y ob_slots (va_up (va_up (va_up (va_up (fun _ => none) 0 (some ob_slots0)) 1 (some ob_slots1)) 2 (some ob_slots2)) 3 (some ob_slots3))), (ce_X5 ob_slots1 ob_slots1_filled ob_slots1_width ob_slots1_size ob_slots1_numbers), (ce_l60 y ob_slots1_numbers fob_slots1_numbers)]) ∨ (∃ (f_41 : Nat → Int64), ((0 : Int) ≤ a2.toInt ∧ a2.toInt ≤ 60) ∧ ((0 : Int) ≤ a4.toInt ∧ a4.toInt ≤ 60) ∧ ((0 : Int) ≤ a5.toInt ∧ a5.toInt ≤ 60) ∧ ((1 : Int) ≤ ob_slots1_filled.toInt ∧ ob_slots1_filled.toInt ≤ 1) ∧ (ob_slots1_filled.toInt = 1 ∧ ob_slots1_filled.toInt = 1 ∧ ob_slots1_width.toInt = ob_slots1_width.toInt ∧ 0 ≤ a2.toInt ∧ 0 ≤ a4.toInt ∧ 0 ≤ a5.toInt ∧ a2.toInt + a5.toInt ≤ ob_slots1_size.toInt ∧ a4.toInt + a5.toInt ≤ ob_slots1_size.toInt) ∧ r = 0 ∧ w = [(ce_X9 ob ob_tape ob_tapeSize ob_reader ob_state ob_images ob_slots ob_rounds ob_ways ob_otherDebts ob_otherKnows), (ce_q4 y ob_slots (va_up (va_up (va_up (va_up (fun _ => none) 0 (some ob_slots0)) 1 (some ob_slots1)) 2 (some ob_slots2)) 3 (some ob_slots3))), (ce_X5 ob_slots1 ob_slots1_filled ob_slots1_width ob_slots1_size ob_slots1_numbers), (ce_l60 y ob_slots1_numbers f_41)])) (kq G (va_A [(ce_X9 ob ob_tape ob_tapeSize ob_reader ob_state ob_images ob_slots ob_rounds ob_ways ob_otherDebts ob_otherKnows), (ce_q4 y ob_slots (va_up (va_up (va_up (va_up (fun _ => none) 0 (some ob_slots0)) 1 (some ob_slots1)) 2 (some ob_slots2)) 3 (some ob_slots3))), (ce_X5 ob_slots1 ob_slots1_filled ob_slots1_width ob_slots1_size ob_slots1_numbers), (ce_l60 y ob_slots1_numbers fob_slots1_numbers)] sz)) (va_A [(ce_X9 ob ob_tape ob_tapeSize ob_reader ob_state ob_images ob_slots ob_rounds ob_ways ob_otherDebts ob_otherKnows), (ce_q4 y ob_slots (va_up (va_up (va_up (va_up (fun _ => none) 0 (some ob_slots0)) 1 (some ob_slots1)) 2 (some ob_slots2)) 3 (some ob_slots3))), (ce_X5 ob_slots1 ob_slots1_filled ob_slots1_width ob_slots1_size ob_slots1_numbers), (ce_l60 y ob_slots1_numbers fob_slots1_numbers)] sz)) 0 0 (va_A [(ce_X9 ob ob_tape ob_tapeSize ob_reader ob_state ob_images ob_slots ob_rounds ob_ways ob_otherDebts ob_otherKnows), (ce_q4 y ob_slots (va_up (va_up (va_up (va_up (fun _ => none) 0 (some ob_slots0)) 1 (some ob_slots1)) 2 (some ob_slots2)) 3 (some ob_slots3))), (ce_X5 ob_slots1 ob_slots1_filled ob_slots1_width ob_slots1_size ob_slots1_numbers), (ce_l60 y ob_slots1_numbers fob_slots1_numbers)] sz) := by
  refine Met.ofW (cc := cX9_paste) (maxL := 8) (ret := (some .int)) (by decide) rfl ?_
  intro p e s m args below meth c s₁ B hml hv
  obtain ⟨rfl, hsz, hP, hK, hD0⟩ := hv
  have hx := B.exec
  have hb := B.bytes
  have hr := B.returns
  have hw0 : ∀ w ∈ wAll, w.before _ s = true := fun w h => atoms_spec (ws := Cond.code yX9_paste cX9_paste 8 (some .int) :: wAll) B.pre w (List.mem_cons_of_mem _ h)
  have hown : s.vm.findClass RX9 = some m.cls := findClass_of_methodNamed B.named
  subst hsz
  have hD := hD0.self (sz := s.heap.size)
  generalize hAe : va_A [(ce_X9 ob ob_tape ob_tapeSize ob_reader ob_state ob_images ob_slots ob_rounds ob_ways ob_otherDebts ob_otherKnows), (ce_q4 y ob_slots (va_up (va_up (va_up (va_up (fun _ => none) 0 (some ob_slots0)) 1 (some ob_slots1)) 2 (some ob_slots2)) 3 (some ob_slots3))), (ce_X5 ob_slots1 ob_slots1_filled ob_slots1_width ob_slots1_size ob_slots1_numbers), (ce_l60 y ob_slots1_numbers fob_slots1_numbers)] s.heap.size = A at hD ⊢
  have hA : ∀ q : Nat, s.heap.size ≤ q → A q := fun q h => by rw [← hAe]; exact Or.inr h
  have hS : va_S A s.heap s.heap [] := va_S.rf
  have hP : va_P G vwCl [(ce_X9 ob ob_tape ob_tapeSize ob_reader ob_state ob_images ob_slots ob_rounds ob_ways ob_otherDebts ob_otherKnows), (ce_q4 y ob_slots (va_up (va_up (va_up (va_up (fun _ => none) 0 (some ob_slots0)) 1 (some ob_slots1)) 2 (some ob_slots2)) 3 (some ob_slots3))), (ce_X5 ob_slots1 ob_slots1_filled ob_slots1_width ob_slots1_size ob_slots1_numbers), (ce_l60 y ob_slots1_numbers fob_slots1_numbers)] s.heap := hP
  have hl := lv_entry ([.ref ob, .int 1, .int a2, .int 1, .int a4, .int a5]) (n := 8) (Nat.le_of_ble_eq_true rfl)
  rw [lg_entry_eq]
  generalize (lg_sl ([.ref ob, .int 1, .int a2, .int 1, .int a4, .int a5]) ++ List.replicate (8 - (lg_sl ([.ref ob, .int 1, .int a2, .int 1, .int a4, .int a5])).length) Slot.unset).toArray = ls at hl ⊢
  have hl : lv_has ls 8 [(0, .ref ob), (1, .int 1), (2, .int a2), (3, .int 1), (4, .int a4), (5, .int a5)] := hl
  refine lv_iload_n hx hb dX9_paste_0 rfl (lv_at hl 1 rfl) ?_
  refine cSim (As := [.int 1]) (rest := []) ⟨hx, hb, hml, hown, hw0⟩ hA hK hP hD hS [] (fisSlot l G y _ 1 ) rfl ⟨(callB_of 1 hw0 (gA m_1260) rfl rfl rfl (hw0 _ m_36) (hw0 _ m_1189) cb_X9_isSlot ⟨Nat.le_of_ble_eq_true rfl, Nat.le_of_ble_eq_true rfl⟩), (hw0 _ m_1190)⟩ rfl hl.1 (Nat.le_of_ble_eq_true rfl) dX9_paste_1 ⟨Nat.le_of_ble_eq_true rfl, Nat.le_of_ble_eq_true rfl⟩ (fun r_1001 w_1001 H locs hw_1001 hP hD hS => ?_)
  rcases hw_1001 with ⟨h_1002, rfl, rfl⟩ | ⟨h_1003, h_1004, rfl, rfl⟩
  · skip
    exact False.elim (by have h9 : Int32.toInt 1 = 1 := (by decide); omega)
  · skip
    obtain ⟨hP, hD⟩ : vPD G A H [(ce_X9 ob ob_tape ob_tapeSize ob_reader ob_state ob_images ob_slots ob_rounds ob_ways ob_otherDebts ob_otherKnows), (ce_q4 y ob_slots (va_up (va_up (va_up (va_up (fun _ => none) 0 (some ob_slots0)) 1 (some ob_slots1)) 2 (some ob_slots2)) 3 (some ob_slots3))), (ce_X5 ob_slots1 ob_slots1_filled ob_slots1_width ob_slots1_size ob_slots1_numbers), (ce_l60 y ob_slots1_numbers fob_slots1_numbers)] := ⟨hP, hD⟩
    refine lv_if_eq (tgt := 14) hx hb dX9_paste_4 (by decide) (fun c9 => absurd c9 (by decide)) (fun _ => ?_)
    refine lv_iload_n hx hb dX9_paste_7 rfl (lv_at hl 3 rfl) ?_
    refine cSim (As := [.int 1]) (rest := []) ⟨hx, hb, hml, hown, hw0⟩ hA hK hP hD hS [] (fisSlot l G y _ 1 ) rfl ⟨(callB_of 1 hw0 (gA m_1260) rfl rfl rfl (hw0 _ m_36) (hw0 _ m_1189) cb_X9_isSlot ⟨Nat.le_of_ble_eq_true rfl, Nat.le_of_ble_eq_true rfl⟩), (hw0 _ m_1190)⟩ rfl hl.1 (Nat.le_of_ble_eq_true rfl) dX9_paste_8 ⟨Nat.le_of_ble_eq_true rfl, Nat.le_of_ble_eq_true rfl⟩ (fun r_1005 w_1005 H locs hw_1005 hP hD hS => ?_)
    rcases hw_1005 with ⟨h_1006, rfl, rfl⟩ | ⟨h_1007, h_1008, rfl, rfl⟩
    · skip
      exact False.elim (by have h9 : Int32.toInt 1 = 1 := (by decide); omega)
    · skip
      obtain ⟨hP, hD⟩ : vPD G A H [(ce_X9 ob ob_tape ob_tapeSize ob_reader ob_state ob_images ob_slots ob_rounds ob_ways ob_otherDebts ob_otherKnows), (ce_q4 y ob_slots (va_up (va_up (va_up (va_up (fun _ => none) 0 (some ob_slots0)) 1 (some ob_slots1)) 2 (some ob_slots2)) 3 (some ob_slots3))), (ce_X5 ob_slots1 ob_slots1_filled ob_slots1_width ob_slots1_size ob_slots1_numbers), (ce_l60 y ob_slots1_numbers fob_slots1_numbers)] := ⟨hP, hD⟩
      refine lv_if_ne (tgt := 17) hx hb dX9_paste_11 (by decide) (fun _ => ?_) (fun c9 => absurd c9 (by decide))
      refine lv_aload_n hx hb dX9_paste_17 rfl (lv_at hl 0 rfl) ?_
      refine va_get (D := G) (ci := 9) (v := .ref ob_slots) (C := RX9) (T := TX9) (N := 10) hx hb hw0 inA_wsX90 hown hK.1 hP 0 rfl rfl 5 (by decide) (hw0 _ m_1191) (fun _ h9 => h9) rfl dX9_paste_18 ?_
      refine lv_iload_n hx hb dX9_paste_21 rfl (lv_at hl 1 rfl) ?_
      refine va_aldq hx hb hK.1 hP 1 4 rfl rfl (vi (bkc (x := 1) (c := 1) (by decide)) (by decide)) dX9_paste_22 ?_
      refine W.eq (g2 := F0 m 23 ls [.ref ob_slots1]) rfl ?_
      refine lv_astore (lv' := [(6, .ref ob_slots1), (0, .ref ob), (1, .int 1), (2, .int a2), (3, .int 1), (4, .int a4), (5, .int a5)]) hx hb dX9_paste_23 hl (by decide) rfl (fun ls hl => ?_)
      refine lv_aload_n hx hb dX9_paste_25 rfl (lv_at hl 1 rfl) ?_
      refine va_get (D := G) (ci := 9) (v := .ref ob_slots) (C := RX9) (T := TX9) (N := 10) hx hb hw0 inA_wsX90 hown hK.1 hP 0 rfl rfl 5 (by decide) (hw0 _ m_1191) (fun _ h9 => h9) rfl dX9_paste_26 ?_
      refine lv_iload_n hx hb dX9_paste_29 rfl (lv_at hl 4 rfl) ?_
      refine va_aldq hx hb hK.1 hP 1 4 rfl rfl (vi (bkc (x := 1) (c := 1) (by decide)) (by decide)) dX9_paste_30 ?_
      refine W.eq (g2 := F0 m 31 ls [.ref ob_slots1]) rfl ?_
      refine lv_astore (lv' := [(7, .ref ob_slots1), (6, .ref ob_slots1), (0, .ref ob), (1, .int 1), (2, .int a2), (3, .int 1), (4, .int a4), (5, .int a5)]) hx hb dX9_paste_31 hl (by decide) rfl (fun ls hl => ?_)
      refine lv_aload hx hb dX9_paste_33 (lv_at hl 1 rfl) ?_
      refine va_get (D := G) (ci := 5) (v := .int ob_slots1_filled) (C := RX5) (T := TX5) (N := 4) hx hb hw0 inA_wsX50 hown hK.1 hP 2 rfl rfl 0 (by decide) (hw0 _ m_1192) (fun _ h9 => h9) rfl dX9_paste_35 ?_
      refine lv_if_eq (tgt := 49) hx hb dX9_paste_38 (by decide) (fun c_1009 => ?_) (fun c_1009 => ?_)
      · skip
        have nc_1009 := nb_eq (0) (0) c_1009 p_ob_slots1_filled (bkc (x := 0) (c := 0) (by decide)) (by decide)
        refine lv_bipush (v := (-6)) hx hb dX9_paste_49 (by decide) ?_
        exact W.iret (v := (-6)) hx hb hr (fun t ht hW => ⟨⟨(-6), _, rfl, Or.inl (⟨nc_1009.1, by have h90 : Int32.toInt (-6) = -6 := (by decide); have h91 : Int32.toInt 1 = 1 := (by decide); omega, rfl, rfl⟩), by rw [ht]; exact hP, hD⟩, hS.F ht⟩) hS.2.2 dX9_paste_51
      · skip
        have nc_1009 := nb_ne (1) (1) c_1009 p_ob_slots1_filled (k := 0) (by decide) (by decide)
        refine lv_aload hx hb dX9_paste_41 (lv_at hl 0 rfl) ?_
        refine va_get (D := G) (ci := 5) (v := .int ob_slots1_filled) (C := RX5) (T := TX5) (N := 4) hx hb hw0 inA_wsX50 hown hK.1 hP 2 rfl rfl 0 (by decide) (hw0 _ m_1192) (fun _ h9 => h9) rfl dX9_paste_43 ?_
        refine lv_if_ne (tgt := 52) hx hb dX9_paste_46 (by decide) (fun _ => ?_) (fun c9 => absurd c9 (dc_neq nc_1009.1 (bkc (x := 0) (c := 0) (by decide)) (by decide)))
        refine lv_aload hx hb dX9_paste_52 (lv_at hl 1 rfl) ?_
        refine va_get (D := G) (ci := 5) (v := .int ob_slots1_width) (C := RX5) (T := TX5) (N := 4) hx hb hw0 inA_wsX50 hown hK.1 hP 2 rfl rfl 1 (by decide) (hw0 _ m_1289) (fun _ h9 => h9) rfl dX9_paste_54 ?_
        refine lv_aload hx hb dX9_paste_57 (lv_at hl 0 rfl) ?_
        refine va_get (D := G) (ci := 5) (v := .int ob_slots1_width) (C := RX5) (T := TX5) (N := 4) hx hb hw0 inA_wsX50 hown hK.1 hP 2 rfl rfl 1 (by decide) (hw0 _ m_1289) (fun _ h9 => h9) rfl dX9_paste_59 ?_
        refine lv_icmp_eq (tgt := 68) hx hb dX9_paste_62 (by decide) (fun _ => ?_) (fun c9 => absurd (rfl) c9)
        refine lv_aload hx hb dX9_paste_68 (lv_at hl 1 rfl) ?_
        refine lv_iload_n hx hb dX9_paste_70 rfl (lv_at hl 4 rfl) ?_
        refine lv_iload hx hb dX9_paste_71 (lv_at hl 7 rfl) ?_
        refine cVim (As := [.int a2, .int a5]) (rest := []) ⟨hx, hb, hml, hown, hw0⟩ hA hK hP hD hS [false, false, true] (sX5_hasRun l G y _ ob_slots1 a2 a5 ob_slots1_filled ob_slots1_width ob_slots1_size ob_slots1_numbers (bw (0) (1) nc_1009.1 (by decide)) p_ob_slots1_size) rfl ⟨(callB_of 2 hw0 (gA m_941) rfl rfl rfl (hw0 _ m_858) (hw0 _ m_1290) cb_X5_hasRun ⟨Nat.le_of_ble_eq_true rfl, Nat.le_of_ble_eq_true rfl⟩), (hw0 _ m_1291), (hw0 _ m_1292)⟩ (ci := 5) (q := (RX5, TX5, 4)) rfl rfl rfl hl.1 (Nat.le_of_ble_eq_true rfl) dX9_paste_73 ⟨Nat.le_of_ble_eq_true rfl, Nat.le_of_ble_eq_true rfl⟩ (fun r_1010 w_1010 H locs hw_1010 hP hD hS => ?_)
        rcases hw_1010 with ⟨h_1011, rfl, rfl⟩ | ⟨h_1012, h_1013, h_1014, rfl, rfl⟩
        · skip
          obtain ⟨hP, hD⟩ : vPD G A H [(ce_X9 ob ob_tape ob_tapeSize ob_reader ob_state ob_images ob_slots ob_rounds ob_ways ob_otherDebts ob_otherKnows), (ce_q4 y ob_slots (va_up (va_up (va_up (va_up (fun _ => none) 0 (some ob_slots0)) 1 (some ob_slots1)) 2 (some ob_slots2)) 3 (some ob_slots3))), (ce_X5 ob_slots1 ob_slots1_filled ob_slots1_width ob_slots1_size ob_slots1_numbers), (ce_l60 y ob_slots1_numbers fob_slots1_numbers)] := ⟨hP, hD⟩
          refine lv_if_eq (tgt := 91) hx hb dX9_paste_76 (by decide) (fun _ => ?_) (fun c9 => absurd (by decide) c9)
          refine lv_bipush (v := (-7)) hx hb dX9_paste_91 (by decide) ?_
          exact W.iret (v := (-7)) hx hb hr (fun t ht hW => ⟨⟨(-7), _, rfl, Or.inr (Or.inl (⟨nc_1009.1, by have h90 : Int32.toInt (-7) = -7 := (by decide); have h91 : Int32.toInt 1 = 1 := (by decide); omega, rfl, rfl⟩)), by rw [ht]; exact hP, hD⟩, hS.F ht⟩) hS.2.2 dX9_paste_93
        · skip
          obtain ⟨hP, hD⟩ : vPD G A H [(ce_X9 ob ob_tape ob_tapeSize ob_reader ob_state ob_images ob_slots ob_rounds ob_ways ob_otherDebts ob_otherKnows), (ce_q4 y ob_slots (va_up (va_up (va_up (va_up (fun _ => none) 0 (some ob_slots0)) 1 (some ob_slots1)) 2 (some ob_slots2)) 3 (some ob_slots3))), (ce_X5 ob_slots1 ob_slots1_filled ob_slots1_width ob_slots1_size ob_slots1_numbers), (ce_l60 y ob_slots1_numbers fob_slots1_numbers)] := ⟨hP, hD⟩
          refine lv_if_eq (tgt := 91) hx hb dX9_paste_76 (by decide) (fun c9 => absurd c9 (by decide)) (fun _ => ?_)
          refine lv_aload hx hb dX9_paste_79 (lv_at hl 0 rfl) ?_
          refine lv_iload hx hb dX9_paste_81 (lv_at hl 6 rfl) ?_
          refine lv_iload hx hb dX9_paste_83 (lv_at hl 7 rfl) ?_
          refine cVim (As := [.int a4, .int a5]) (rest := []) ⟨hx, hb, hml, hown, hw0⟩ hA hK hP hD hS [false, false, true] (sX5_hasRun l G y _ ob_slots1 a4 a5 ob_slots1_filled ob_slots1_width ob_slots1_size ob_slots1_numbers (bw (0) (1) nc_1009.1 (by decide)) p_ob_slots1_size) rfl ⟨(callB_of 2 hw0 (gA m_941) rfl rfl rfl (hw0 _ m_858) (hw0 _ m_1290) cb_X5_hasRun ⟨Nat.le_of_ble_eq_true rfl, Nat.le_of_ble_eq_true rfl⟩), (hw0 _ m_1291), (hw0 _ m_1292)⟩ (ci := 5) (q := (RX5, TX5, 4)) rfl rfl rfl hl.1 (Nat.le_of_ble_eq_true rfl) dX9_paste_85 ⟨Nat.le_of_ble_eq_true rfl, Nat.le_of_ble_eq_true rfl⟩ (fun r_1015 w_1015 H locs hw_1015 hP hD hS => ?_)
          rcases hw_1015 with ⟨h_1016, rfl, rfl⟩ | ⟨h_1017, h_1018, h_1019, rfl, rfl⟩
          · skip
            obtain ⟨hP, hD⟩ : vPD G A H [(ce_X9 ob ob_tape ob_tapeSize ob_reader ob_state ob_images ob_slots ob_rounds ob_ways ob_otherDebts ob_otherKnows), (ce_q4 y ob_slots (va_up (va_up (va_up (va_up (fun _ => none) 0 (some ob_slots0)) 1 (some ob_slots1)) 2 (some ob_slots2)) 3 (some ob_slots3))), (ce_X5 ob_slots1 ob_slots1_filled ob_slots1_width ob_slots1_size ob_slots1_numbers), (ce_l60 y ob_slots1_numbers fob_slots1_numbers)] := ⟨hP, hD⟩
            refine lv_if_ne (tgt := 94) hx hb dX9_paste_88 (by decide) (fun c9 => absurd (by decide) c9) (fun _ => ?_)
            refine lv_bipush (v := (-7)) hx hb dX9_paste_91 (by decide) ?_
            exact W.iret (v := (-7)) hx hb hr (fun t ht hW => ⟨⟨(-7), _, rfl, Or.inr (Or.inl (⟨nc_1009.1, by have h90 : Int32.toInt (-7) = -7 := (by decide); have h91 : Int32.toInt 1 = 1 := (by decide); omega, rfl, rfl⟩)), by rw [ht]; exact hP, hD⟩, hS.F ht⟩) hS.2.2 dX9_paste_93
          · skip
            obtain ⟨hP, hD⟩ : vPD G A H [(ce_X9 ob ob_tape ob_tapeSize ob_reader ob_state ob_images ob_slots ob_rounds ob_ways ob_otherDebts ob_otherKnows), (ce_q4 y ob_slots (va_up (va_up (va_up (va_up (fun _ => none) 0 (some ob_slots0)) 1 (some ob_slots1)) 2 (some ob_slots2)) 3 (some ob_slots3))), (ce_X5 ob_slots1 ob_slots1_filled ob_slots1_width ob_slots1_size ob_slots1_numbers), (ce_l60 y ob_slots1_numbers fob_slots1_numbers)] := ⟨hP, hD⟩
            refine lv_if_ne (tgt := 94) hx hb dX9_paste_88 (by decide) (fun _ => ?_) (fun c9 => absurd c9 (by decide))
            refine lv_aload hx hb dX9_paste_94 (lv_at hl 1 rfl) ?_
            refine va_get (D := G) (ci := 5) (v := .ref ob_slots1_numbers) (C := RX5) (T := TX5) (N := 4) hx hb hw0 inA_wsX50 hown hK.1 hP 2 rfl rfl 3 (by decide) (hw0 _ m_1293) (fun _ h9 => h9) rfl dX9_paste_96 ?_
            refine lv_iload_n hx hb dX9_paste_99 rfl (lv_at hl 4 rfl) ?_
            refine lv_aload hx hb dX9_paste_100 (lv_at hl 0 rfl) ?_
            refine va_get (D := G) (ci := 5) (v := .ref ob_slots1_numbers) (C := RX5) (T := TX5) (N := 4) hx hb hw0 inA_wsX50 hown hK.1 hP 2 rfl rfl 3 (by decide) (hw0 _ m_1293) (fun _ h9 => h9) rfl dX9_paste_102 ?_
            refine lv_iload hx hb dX9_paste_105 (lv_at hl 6 rfl) ?_
            refine lv_iload hx hb dX9_paste_107 (lv_at hl 7 rfl) ?_
            refine va_copyl (own := RX9) hx hb (by rw [hml]; exact hl.1.symm) hown (hw0 _ m_1294) (hw0 _ m_272) (hw0 _ m_273) (hw0 _ m_274) hK.1 hP hD hS 3 3 2 2 rfl rfl rfl rfl rfl (cy_n h_1012 (by decide)) (cy_n h_1017 (by decide)) (cy_n h_1013 (by decide)) (cy_g h_1012 h_1013 (by decide) (by decide) (by omega)) (cy_g h_1017 h_1013 (by decide) (by decide) (by omega)) (fun i hi => rfl) (Nat.le_of_ble_eq_true rfl) (by decide) dX9_paste_109 (fun H locs hP hD hS => ?_)
            generalize hf_1020 : (va_cpy fob_slots1_numbers fob_slots1_numbers (a2 : Int32).toNatClampNeg (a4 : Int32).toNatClampNeg (a5 : Int32).toNatClampNeg) = f_1020 at hP hD
            obtain ⟨hP, hD⟩ : vPD G A H [(ce_X9 ob ob_tape ob_tapeSize ob_reader ob_state ob_images ob_slots ob_rounds ob_ways ob_otherDebts ob_otherKnows), (ce_q4 y ob_slots (va_up (va_up (va_up (va_up (fun _ => none) 0 (some ob_slots0)) 1 (some ob_slots1)) 2 (some ob_slots2)) 3 (some ob_slots3))), (ce_X5 ob_slots1 ob_slots1_filled ob_slots1_width ob_slots1_size ob_slots1_numbers), (ce_l60 y ob_slots1_numbers f_1020)] := ⟨hP, hD⟩
            refine lv_iconst (v := 0) hx hb dX9_paste_112 (by decide) ?_
            exact W.iret (v := 0) hx hb hr (fun t ht hW => ⟨⟨0, _, rfl, Or.inr (Or.inr (⟨f_1020, h_1012, h_1017, h_1013, nc_1009.1, by have h90 : Int32.toInt 0 = 0 := (by decide); have h91 : Int32.toInt 1 = 1 := (by decide); omega, rfl, rfl⟩)), by rw [ht]; exact hP, hD⟩, hS.F ht⟩) hS.2.2 dX9_paste_113

set_option maxHeartbeats 4000000 in
set_option maxRecDepth 100000 in
theorem fpaste12 (l : Launch) (G : va_G) (y : Nat → ClassId) (sz : Nat) (ob : Nat) (a2 : Int32) (a4 : Int32) (a5 : Int32) (ob_tape : Nat) (ob_tapeSize : Int32) (ob_reader : Nat) (ob_state : Nat) (ob_images : Nat) (ob_slots : Nat) (ob_rounds : Nat) (ob_ways : Nat) (ob_otherDebts : Nat) (ob_otherKnows : Nat) (ob_slots0 : Nat) (ob_slots1 : Nat) (ob_slots2 : Nat) (ob_slots3 : Nat) (ob_slots1_filled : Int32) (ob_slots1_width : Int32) (ob_slots1_size : Int32) (ob_slots1_numbers : Nat) (fob_slots1_numbers : Nat → Int64) (ob_slots2_filled : Int32) (ob_slots2_width : Int32) (ob_slots2_size : Int32) (ob_slots2_numbers : Nat) (fob_slots2_numbers : Nat → Int64) (p_ob_tapeSize : (0 : Int) ≤ ob_tapeSize.toInt ∧ ob_tapeSize.toInt ≤ 1400) (p_ob_slots1_filled : (0 : Int) ≤ ob_slots1_filled.toInt ∧ ob_slots1_filled.toInt ≤ 1) (p_ob_slots1_size : (0 : Int) ≤ ob_slots1_size.toInt ∧ ob_slots1_size.toInt ≤ 60) (p_ob_slots2_filled : (0 : Int) ≤ ob_slots2_filled.toInt ∧ ob_slots2_filled.toInt ≤ 1) (p_ob_slots2_size : (0 : Int) ≤ ob_slots2_size.toInt ∧ ob_slots2_size.toInt ≤ 60) : Met l yX9_paste (Cond.code yX9_paste cX9_paste 8 (some .int) :: wAll) ({ frames := 1, cells := 0, slots := 0, locals := 72 }) (va_Pc [.ref ob, .int 1, .int a2, .int 2, .int a4, .int a5] (kp G y sz [(ce_X9 ob ob_tape ob_tapeSize ob_reader ob_state ob_images ob_slots ob_rounds ob_ways ob_otherDebts ob_otherKnows), (ce_q4 y ob_slots (va_up (va_up (va_up (va_up (fun _ => none) 0 (some ob_slots0)) 1 (some ob_slots1)) 2 (some ob_slots2)) 3 (some ob_slots3))), (ce_X5 ob_slots1 ob_slots1_filled ob_slots1_width ob_slots1_size ob_slots1_numbers), (ce_l60 y ob_slots1_numbers fob_slots1_numbers), (ce_X5 ob_slots2 ob_slots2_filled ob_slots2_width ob_slots2_size ob_slots2_numbers), (ce_l60 y ob_slots2_numbers fob_slots2_numbers)])) (va_Qi (fun (r : Int32) (w : va_W) => ((ob_slots1_filled.toInt = 0 ∨ ob_slots2_filled.toInt = 0) ∧ r = (-6) ∧ w = [(ce_X9 ob ob_tape ob_tapeSize ob_reader ob_state ob_images ob_slots ob_rounds ob_ways ob_otherDebts ob_otherKnows), (ce_q4 y ob_slots (va_up (va_up (va_up (va_up (fun _ => none) 0 (some ob_slots0)) 1 (some ob_slots1)) 2 (some ob_slots2)) 3 (some ob_slots3))), (ce_X5 ob_slots1 ob_slots1_filled ob_slots1_width ob_slots1_size ob_slots1_numbers), (ce_l60 y ob_slots1_numbers fob_slots1_numbers), (ce_X5 ob_slots2 ob_slots2_filled ob_slots2_width ob_slots2_size ob_slots2_numbers), (ce_l60 y ob_slots2_numbers fob_slots2_numbers)]) ∨ (((1 : Int) ≤ ob_slots1_filled.toInt ∧ ob_slots1_filled.toInt ≤ 1) ∧ ((1 : Int) ≤ ob_slots2_filled.toInt ∧ ob_slots2_filled.toInt ≤ 1) ∧ (ob_slots1_filled.toInt = 1 ∧ ob_slots2_filled.toInt = 1 ∧ ob_slots1_width.toInt = ob_slots2_width.toInt ∧ ¬ (0 ≤ a2.toInt ∧ 0 ≤ a4.toInt ∧ 0 ≤ a5.toInt ∧ a2.toInt + a5.toInt ≤ ob_slots1_size.toInt ∧ a4.toInt + a5.toInt ≤ ob_slots2_size.toInt)) ∧ r = (-7) ∧ w = [(ce_X9 ob ob_tape ob_tapeSize ob_reader ob_state ob_images ob_slots ob_rounds ob_ways ob_otherDebts ob_otherKnows), (ce_q4 y ob_slots (va_up (va_up (va_up (va_up (fun _ => none) 0 (some ob_slots0)) 1 (some ob_slots1)) 2 (some ob_slots2)) 3 (some ob_slots3))), (ce_X5 ob_slots1 ob_slots1_filled ob_slots1_width ob_slots1_size ob_slots1_numbers), (ce_l60 y ob_slots1_numbers fob_slots1_numbers), (ce_X5 ob_slots2 ob_slots2_filled ob_slots2_width ob_slots2_size ob_slots2_numbers), (ce_l60 y ob_slots2_numbers fob_slots2_numbers)]) ∨ (((1 : Int) ≤ ob_slots1_filled.toInt ∧ ob_slots1_filled.toInt ≤ 1) ∧ ((1 : Int) ≤ ob_slots2_filled.toInt ∧ ob_slots2_filled.toInt ≤ 1) ∧ (ob_slots1_filled.toInt = 1 ∧ ob_slots2_filled.toInt = 1 ∧ ¬ ob_slots1_width.toInt = ob_slots2_width.toInt) ∧ r = (-8) ∧ w = [(ce_X9 ob ob_tape ob_tapeSize ob_reader ob_state ob_images ob_slots ob_rounds ob_ways ob_otherDebts ob_otherKnows), (ce_q4 y ob_slots (va_up (va_up (va_up (va_up (fun _ => none) 0 (some ob_slots0)) 1 (some ob_slots1)) 2 (some ob_slots2)) 3 (some ob_slots3))), (ce_X5 ob_slots1 ob_slots1_filled ob_slots1_width ob_slots1_size ob_slots1_numbers), (ce_l60 y ob_slots1_numbers fob_slots1_numbers), (ce_X5 ob_slots2 ob_slots2_filled ob_slots2_width ob_slots2_size ob_slots2_numbers), (ce_l60 y ob_slots2_numbers fob_slots2_numbers)]) ∨ (∃ (f_45 : Nat → Int64), ((0 : Int) ≤ a2.toInt ∧ a2.toInt ≤ 60) ∧ ((0 : Int) ≤ a4.toInt ∧ a4.toInt ≤ 60) ∧ ((0 : Int) ≤ a5.toInt ∧ a5.toInt ≤ 60) ∧ ((1 : Int) ≤ ob_slots1_filled.toInt ∧ ob_slots1_filled.toInt ≤ 1) ∧ ((1 : Int) ≤ ob_slots2_filled.toInt ∧ ob_slots2_filled.toInt ≤ 1) ∧ (ob_slots1_filled.toInt = 1 ∧ ob_slots2_filled.toInt = 1 ∧ ob_slots1_width.toInt = ob_slots2_width.toInt ∧ 0 ≤ a2.toInt ∧ 0 ≤ a4.toInt ∧ 0 ≤ a5.toInt ∧ a2.toInt + a5.toInt ≤ ob_slots1_size.toInt ∧ a4.toInt + a5.toInt ≤ ob_slots2_size.toInt) ∧ r = 0 ∧ w = [(ce_X9 ob ob_tape ob_tapeSize ob_reader ob_state ob_images ob_slots ob_rounds ob_ways ob_otherDebts ob_otherKnows), (ce_q4 y ob_slots (va_up (va_up (va_up (va_up (fun _ => none) 0 (some ob_slots0)) 1 (some ob_slots1)) 2 (some ob_slots2)) 3 (some ob_slots3))), (ce_X5 ob_slots1 ob_slots1_filled ob_slots1_width ob_slots1_size ob_slots1_numbers), (ce_l60 y ob_slots1_numbers fob_slots1_numbers), (ce_X5 ob_slots2 ob_slots2_filled ob_slots2_width ob_slots2_size ob_slots2_numbers), (ce_l60 y ob_slots2_numbers f_45)])) (kq G (va_A [(ce_X9 ob ob_tape ob_tapeSize ob_reader ob_state ob_images ob_slots ob_rounds ob_ways ob_otherDebts ob_otherKnows), (ce_q4 y ob_slots (va_up (va_up (va_up (va_up (fun _ => none) 0 (some ob_slots0)) 1 (some ob_slots1)) 2 (some ob_slots2)) 3 (some ob_slots3))), (ce_X5 ob_slots1 ob_slots1_filled ob_slots1_width ob_slots1_size ob_slots1_numbers), (ce_l60 y ob_slots1_numbers fob_slots1_numbers), (ce_X5 ob_slots2 ob_slots2_filled ob_slots2_width ob_slots2_size ob_slots2_numbers), (ce_l60 y ob_slots2_numbers fob_slots2_numbers)] sz)) (va_A [(ce_X9 ob ob_tape ob_tapeSize ob_reader ob_state ob_images ob_slots ob_rounds ob_ways ob_otherDebts ob_otherKnows), (ce_q4 y ob_slots (va_up (va_up (va_up (va_up (fun _ => none) 0 (some ob_slots0)) 1 (some ob_slots1)) 2 (some ob_slots2)) 3 (some ob_slots3))), (ce_X5 ob_slots1 ob_slots1_filled ob_slots1_width ob_slots1_size ob_slots1_numbers), (ce_l60 y ob_slots1_numbers fob_slots1_numbers), (ce_X5 ob_slots2 ob_slots2_filled ob_slots2_width ob_slots2_size ob_slots2_numbers), (ce_l60 y ob_slots2_numbers fob_slots2_numbers)] sz)) 0 0 (va_A [(ce_X9 ob ob_tape ob_tapeSize ob_reader ob_state ob_images ob_slots ob_rounds ob_ways ob_otherDebts ob_otherKnows), (ce_q4 y ob_slots (va_up (va_up (va_up (va_up (fun _ => none) 0 (some ob_slots0)) 1 (some ob_slots1)) 2 (some ob_slots2)) 3 (some ob_slots3))), (ce_X5 ob_slots1 ob_slots1_filled ob_slots1_width ob_slots1_size ob_slots1_numbers), (ce_l60 y ob_slots1_numbers fob_slots1_numbers), (ce_X5 ob_slots2 ob_slots2_filled ob_slots2_width ob_slots2_size ob_slots2_numbers), (ce_l60 y ob_slots2_numbers fob_slots2_numbers)] sz) := by
  refine Met.ofW (cc := cX9_paste) (maxL := 8) (ret := (some .int)) (by decide) rfl ?_
  intro p e s m args below meth c s₁ B hml hv
  obtain ⟨rfl, hsz, hP, hK, hD0⟩ := hv
  have hx := B.exec
  have hb := B.bytes
  have hr := B.returns
  have hw0 : ∀ w ∈ wAll, w.before _ s = true := fun w h => atoms_spec (ws := Cond.code yX9_paste cX9_paste 8 (some .int) :: wAll) B.pre w (List.mem_cons_of_mem _ h)
  have hown : s.vm.findClass RX9 = some m.cls := findClass_of_methodNamed B.named
  subst hsz
  have hD := hD0.self (sz := s.heap.size)
  generalize hAe : va_A [(ce_X9 ob ob_tape ob_tapeSize ob_reader ob_state ob_images ob_slots ob_rounds ob_ways ob_otherDebts ob_otherKnows), (ce_q4 y ob_slots (va_up (va_up (va_up (va_up (fun _ => none) 0 (some ob_slots0)) 1 (some ob_slots1)) 2 (some ob_slots2)) 3 (some ob_slots3))), (ce_X5 ob_slots1 ob_slots1_filled ob_slots1_width ob_slots1_size ob_slots1_numbers), (ce_l60 y ob_slots1_numbers fob_slots1_numbers), (ce_X5 ob_slots2 ob_slots2_filled ob_slots2_width ob_slots2_size ob_slots2_numbers), (ce_l60 y ob_slots2_numbers fob_slots2_numbers)] s.heap.size = A at hD ⊢
  have hA : ∀ q : Nat, s.heap.size ≤ q → A q := fun q h => by rw [← hAe]; exact Or.inr h
  have hS : va_S A s.heap s.heap [] := va_S.rf
  have hP : va_P G vwCl [(ce_X9 ob ob_tape ob_tapeSize ob_reader ob_state ob_images ob_slots ob_rounds ob_ways ob_otherDebts ob_otherKnows), (ce_q4 y ob_slots (va_up (va_up (va_up (va_up (fun _ => none) 0 (some ob_slots0)) 1 (some ob_slots1)) 2 (some ob_slots2)) 3 (some ob_slots3))), (ce_X5 ob_slots1 ob_slots1_filled ob_slots1_width ob_slots1_size ob_slots1_numbers), (ce_l60 y ob_slots1_numbers fob_slots1_numbers), (ce_X5 ob_slots2 ob_slots2_filled ob_slots2_width ob_slots2_size ob_slots2_numbers), (ce_l60 y ob_slots2_numbers fob_slots2_numbers)] s.heap := hP
  have hl := lv_entry ([.ref ob, .int 1, .int a2, .int 2, .int a4, .int a5]) (n := 8) (Nat.le_of_ble_eq_true rfl)
  rw [lg_entry_eq]
  generalize (lg_sl ([.ref ob, .int 1, .int a2, .int 2, .int a4, .int a5]) ++ List.replicate (8 - (lg_sl ([.ref ob, .int 1, .int a2, .int 2, .int a4, .int a5])).length) Slot.unset).toArray = ls at hl ⊢
  have hl : lv_has ls 8 [(0, .ref ob), (1, .int 1), (2, .int a2), (3, .int 2), (4, .int a4), (5, .int a5)] := hl
  refine lv_iload_n hx hb dX9_paste_0 rfl (lv_at hl 1 rfl) ?_
  refine cSim (As := [.int 1]) (rest := []) ⟨hx, hb, hml, hown, hw0⟩ hA hK hP hD hS [] (fisSlot l G y _ 1 ) rfl ⟨(callB_of 1 hw0 (gA m_1260) rfl rfl rfl (hw0 _ m_36) (hw0 _ m_1189) cb_X9_isSlot ⟨Nat.le_of_ble_eq_true rfl, Nat.le_of_ble_eq_true rfl⟩), (hw0 _ m_1190)⟩ rfl hl.1 (Nat.le_of_ble_eq_true rfl) dX9_paste_1 ⟨Nat.le_of_ble_eq_true rfl, Nat.le_of_ble_eq_true rfl⟩ (fun r_1001 w_1001 H locs hw_1001 hP hD hS => ?_)
  rcases hw_1001 with ⟨h_1002, rfl, rfl⟩ | ⟨h_1003, h_1004, rfl, rfl⟩
  · skip
    exact False.elim (by have h9 : Int32.toInt 1 = 1 := (by decide); omega)
  · skip
    obtain ⟨hP, hD⟩ : vPD G A H [(ce_X9 ob ob_tape ob_tapeSize ob_reader ob_state ob_images ob_slots ob_rounds ob_ways ob_otherDebts ob_otherKnows), (ce_q4 y ob_slots (va_up (va_up (va_up (va_up (fun _ => none) 0 (some ob_slots0)) 1 (some ob_slots1)) 2 (some ob_slots2)) 3 (some ob_slots3))), (ce_X5 ob_slots1 ob_slots1_filled ob_slots1_width ob_slots1_size ob_slots1_numbers), (ce_l60 y ob_slots1_numbers fob_slots1_numbers), (ce_X5 ob_slots2 ob_slots2_filled ob_slots2_width ob_slots2_size ob_slots2_numbers), (ce_l60 y ob_slots2_numbers fob_slots2_numbers)] := ⟨hP, hD⟩
    refine lv_if_eq (tgt := 14) hx hb dX9_paste_4 (by decide) (fun c9 => absurd c9 (by decide)) (fun _ => ?_)
    refine lv_iload_n hx hb dX9_paste_7 rfl (lv_at hl 3 rfl) ?_
    refine cSim (As := [.int 2]) (rest := []) ⟨hx, hb, hml, hown, hw0⟩ hA hK hP hD hS [] (fisSlot l G y _ 2 ) rfl ⟨(callB_of 1 hw0 (gA m_1260) rfl rfl rfl (hw0 _ m_36) (hw0 _ m_1189) cb_X9_isSlot ⟨Nat.le_of_ble_eq_true rfl, Nat.le_of_ble_eq_true rfl⟩), (hw0 _ m_1190)⟩ rfl hl.1 (Nat.le_of_ble_eq_true rfl) dX9_paste_8 ⟨Nat.le_of_ble_eq_true rfl, Nat.le_of_ble_eq_true rfl⟩ (fun r_1005 w_1005 H locs hw_1005 hP hD hS => ?_)
    rcases hw_1005 with ⟨h_1006, rfl, rfl⟩ | ⟨h_1007, h_1008, rfl, rfl⟩
    · skip
      exact False.elim (by have h9 : Int32.toInt 2 = 2 := (by decide); omega)
    · skip
      obtain ⟨hP, hD⟩ : vPD G A H [(ce_X9 ob ob_tape ob_tapeSize ob_reader ob_state ob_images ob_slots ob_rounds ob_ways ob_otherDebts ob_otherKnows), (ce_q4 y ob_slots (va_up (va_up (va_up (va_up (fun _ => none) 0 (some ob_slots0)) 1 (some ob_slots1)) 2 (some ob_slots2)) 3 (some ob_slots3))), (ce_X5 ob_slots1 ob_slots1_filled ob_slots1_width ob_slots1_size ob_slots1_numbers), (ce_l60 y ob_slots1_numbers fob_slots1_numbers), (ce_X5 ob_slots2 ob_slots2_filled ob_slots2_width ob_slots2_size ob_slots2_numbers), (ce_l60 y ob_slots2_numbers fob_slots2_numbers)] := ⟨hP, hD⟩
      refine lv_if_ne (tgt := 17) hx hb dX9_paste_11 (by decide) (fun _ => ?_) (fun c9 => absurd c9 (by decide))
      refine lv_aload_n hx hb dX9_paste_17 rfl (lv_at hl 0 rfl) ?_
      refine va_get (D := G) (ci := 9) (v := .ref ob_slots) (C := RX9) (T := TX9) (N := 10) hx hb hw0 inA_wsX90 hown hK.1 hP 0 rfl rfl 5 (by decide) (hw0 _ m_1191) (fun _ h9 => h9) rfl dX9_paste_18 ?_
      refine lv_iload_n hx hb dX9_paste_21 rfl (lv_at hl 1 rfl) ?_
      refine va_aldq hx hb hK.1 hP 1 4 rfl rfl (vi (bkc (x := 1) (c := 1) (by decide)) (by decide)) dX9_paste_22 ?_
      refine W.eq (g2 := F0 m 23 ls [.ref ob_slots1]) rfl ?_
      refine lv_astore (lv' := [(6, .ref ob_slots1), (0, .ref ob), (1, .int 1), (2, .int a2), (3, .int 2), (4, .int a4), (5, .int a5)]) hx hb dX9_paste_23 hl (by decide) rfl (fun ls hl => ?_)
      refine lv_aload_n hx hb dX9_paste_25 rfl (lv_at hl 1 rfl) ?_
      refine va_get (D := G) (ci := 9) (v := .ref ob_slots) (C := RX9) (T := TX9) (N := 10) hx hb hw0 inA_wsX90 hown hK.1 hP 0 rfl rfl 5 (by decide) (hw0 _ m_1191) (fun _ h9 => h9) rfl dX9_paste_26 ?_
      refine lv_iload_n hx hb dX9_paste_29 rfl (lv_at hl 4 rfl) ?_
      refine va_aldq hx hb hK.1 hP 1 4 rfl rfl (vi (bkc (x := 2) (c := 2) (by decide)) (by decide)) dX9_paste_30 ?_
      refine W.eq (g2 := F0 m 31 ls [.ref ob_slots2]) rfl ?_
      refine lv_astore (lv' := [(7, .ref ob_slots2), (6, .ref ob_slots1), (0, .ref ob), (1, .int 1), (2, .int a2), (3, .int 2), (4, .int a4), (5, .int a5)]) hx hb dX9_paste_31 hl (by decide) rfl (fun ls hl => ?_)
      refine lv_aload hx hb dX9_paste_33 (lv_at hl 1 rfl) ?_
      refine va_get (D := G) (ci := 5) (v := .int ob_slots1_filled) (C := RX5) (T := TX5) (N := 4) hx hb hw0 inA_wsX50 hown hK.1 hP 2 rfl rfl 0 (by decide) (hw0 _ m_1192) (fun _ h9 => h9) rfl dX9_paste_35 ?_
      refine lv_if_eq (tgt := 49) hx hb dX9_paste_38 (by decide) (fun c_1009 => ?_) (fun c_1009 => ?_)
      · skip
        have nc_1009 := nb_eq (0) (0) c_1009 p_ob_slots1_filled (bkc (x := 0) (c := 0) (by decide)) (by decide)
        refine lv_bipush (v := (-6)) hx hb dX9_paste_49 (by decide) ?_
        exact W.iret (v := (-6)) hx hb hr (fun t ht hW => ⟨⟨(-6), _, rfl, Or.inl (⟨by have h90 : Int32.toInt (-6) = -6 := (by decide); have h91 : Int32.toInt 1 = 1 := (by decide); have h92 : Int32.toInt 2 = 2 := (by decide); omega, rfl, rfl⟩), by rw [ht]; exact hP, hD⟩, hS.F ht⟩) hS.2.2 dX9_paste_51
      · skip
        have nc_1009 := nb_ne (1) (1) c_1009 p_ob_slots1_filled (k := 0) (by decide) (by decide)
        refine lv_aload hx hb dX9_paste_41 (lv_at hl 0 rfl) ?_
        refine va_get (D := G) (ci := 5) (v := .int ob_slots2_filled) (C := RX5) (T := TX5) (N := 4) hx hb hw0 inA_wsX50 hown hK.1 hP 4 rfl rfl 0 (by decide) (hw0 _ m_1192) (fun _ h9 => h9) rfl dX9_paste_43 ?_
        refine lv_if_ne (tgt := 52) hx hb dX9_paste_46 (by decide) (fun c_1010 => ?_) (fun c_1010 => ?_)
        · skip
          have nc_1010 := nb_ne (1) (1) c_1010 p_ob_slots2_filled (k := 0) (by decide) (by decide)
          refine lv_aload hx hb dX9_paste_52 (lv_at hl 1 rfl) ?_
          refine va_get (D := G) (ci := 5) (v := .int ob_slots1_width) (C := RX5) (T := TX5) (N := 4) hx hb hw0 inA_wsX50 hown hK.1 hP 2 rfl rfl 1 (by decide) (hw0 _ m_1289) (fun _ h9 => h9) rfl dX9_paste_54 ?_
          refine lv_aload hx hb dX9_paste_57 (lv_at hl 0 rfl) ?_
          refine va_get (D := G) (ci := 5) (v := .int ob_slots2_width) (C := RX5) (T := TX5) (N := 4) hx hb hw0 inA_wsX50 hown hK.1 hP 4 rfl rfl 1 (by decide) (hw0 _ m_1289) (fun _ h9 => h9) rfl dX9_paste_59 ?_
          refine lv_icmp_eq (tgt := 68) hx hb dX9_paste_62 (by decide) (fun c_1011 => ?_) (fun c_1011 => ?_)
          · skip
            have nc_1011 := nb_eq (-2147483648) (2147483647) c_1011 (btop ob_slots1_width) (btop ob_slots2_width) (by decide)
            refine lv_aload hx hb dX9_paste_68 (lv_at hl 1 rfl) ?_
            refine lv_iload_n hx hb dX9_paste_70 rfl (lv_at hl 4 rfl) ?_
            refine lv_iload hx hb dX9_paste_71 (lv_at hl 7 rfl) ?_
            refine cVim (As := [.int a2, .int a5]) (rest := []) ⟨hx, hb, hml, hown, hw0⟩ hA hK hP hD hS [false, false, true] (sX5_hasRun l G y _ ob_slots1 a2 a5 ob_slots1_filled ob_slots1_width ob_slots1_size ob_slots1_numbers (bw (0) (1) nc_1009.1 (by decide)) p_ob_slots1_size) rfl ⟨(callB_of 2 hw0 (gA m_941) rfl rfl rfl (hw0 _ m_858) (hw0 _ m_1290) cb_X5_hasRun ⟨Nat.le_of_ble_eq_true rfl, Nat.le_of_ble_eq_true rfl⟩), (hw0 _ m_1291), (hw0 _ m_1292)⟩ (ci := 5) (q := (RX5, TX5, 4)) rfl rfl rfl hl.1 (Nat.le_of_ble_eq_true rfl) dX9_paste_73 ⟨Nat.le_of_ble_eq_true rfl, Nat.le_of_ble_eq_true rfl⟩ (fun r_1012 w_1012 H locs hw_1012 hP hD hS => ?_)
            rcases hw_1012 with ⟨h_1013, rfl, rfl⟩ | ⟨h_1014, h_1015, h_1016, rfl, rfl⟩
            · skip
              obtain ⟨hP, hD⟩ : vPD G A H [(ce_X9 ob ob_tape ob_tapeSize ob_reader ob_state ob_images ob_slots ob_rounds ob_ways ob_otherDebts ob_otherKnows), (ce_q4 y ob_slots (va_up (va_up (va_up (va_up (fun _ => none) 0 (some ob_slots0)) 1 (some ob_slots1)) 2 (some ob_slots2)) 3 (some ob_slots3))), (ce_X5 ob_slots1 ob_slots1_filled ob_slots1_width ob_slots1_size ob_slots1_numbers), (ce_l60 y ob_slots1_numbers fob_slots1_numbers), (ce_X5 ob_slots2 ob_slots2_filled ob_slots2_width ob_slots2_size ob_slots2_numbers), (ce_l60 y ob_slots2_numbers fob_slots2_numbers)] := ⟨hP, hD⟩
              refine lv_if_eq (tgt := 91) hx hb dX9_paste_76 (by decide) (fun _ => ?_) (fun c9 => absurd (by decide) c9)
              refine lv_bipush (v := (-7)) hx hb dX9_paste_91 (by decide) ?_
              exact W.iret (v := (-7)) hx hb hr (fun t ht hW => ⟨⟨(-7), _, rfl, Or.inr (Or.inl (⟨nc_1009.1, nc_1010.1, by have h90 : Int32.toInt (-7) = -7 := (by decide); have h91 : Int32.toInt 1 = 1 := (by decide); have h92 : Int32.toInt 2 = 2 := (by decide); omega, rfl, rfl⟩)), by rw [ht]; exact hP, hD⟩, hS.F ht⟩) hS.2.2 dX9_paste_93
            · skip
              obtain ⟨hP, hD⟩ : vPD G A H [(ce_X9 ob ob_tape ob_tapeSize ob_reader ob_state ob_images ob_slots ob_rounds ob_ways ob_otherDebts ob_otherKnows), (ce_q4 y ob_slots (va_up (va_up (va_up (va_up (fun _ => none) 0 (some ob_slots0)) 1 (some ob_slots1)) 2 (some ob_slots2)) 3 (some ob_slots3))), (ce_X5 ob_slots1 ob_slots1_filled ob_slots1_width ob_slots1_size ob_slots1_numbers), (ce_l60 y ob_slots1_numbers fob_slots1_numbers), (ce_X5 ob_slots2 ob_slots2_filled ob_slots2_width ob_slots2_size ob_slots2_numbers), (ce_l60 y ob_slots2_numbers fob_slots2_numbers)] := ⟨hP, hD⟩
              refine lv_if_eq (tgt := 91) hx hb dX9_paste_76 (by decide) (fun c9 => absurd c9 (by decide)) (fun _ => ?_)
              refine lv_aload hx hb dX9_paste_79 (lv_at hl 0 rfl) ?_
              refine lv_iload hx hb dX9_paste_81 (lv_at hl 6 rfl) ?_
              refine lv_iload hx hb dX9_paste_83 (lv_at hl 7 rfl) ?_
              refine cVim (As := [.int a4, .int a5]) (rest := []) ⟨hx, hb, hml, hown, hw0⟩ hA hK hP hD hS [false, false, false, false, true] (sX5_hasRun l G y _ ob_slots2 a4 a5 ob_slots2_filled ob_slots2_width ob_slots2_size ob_slots2_numbers (bw (0) (1) nc_1010.1 (by decide)) p_ob_slots2_size) rfl ⟨(callB_of 2 hw0 (gA m_941) rfl rfl rfl (hw0 _ m_858) (hw0 _ m_1290) cb_X5_hasRun ⟨Nat.le_of_ble_eq_true rfl, Nat.le_of_ble_eq_true rfl⟩), (hw0 _ m_1291), (hw0 _ m_1292)⟩ (ci := 5) (q := (RX5, TX5, 4)) rfl rfl rfl hl.1 (Nat.le_of_ble_eq_true rfl) dX9_paste_85 ⟨Nat.le_of_ble_eq_true rfl, Nat.le_of_ble_eq_true rfl⟩ (fun r_1017 w_1017 H locs hw_1017 hP hD hS => ?_)
              rcases hw_1017 with ⟨h_1018, rfl, rfl⟩ | ⟨h_1019, h_1020, h_1021, rfl, rfl⟩
              · skip
                obtain ⟨hP, hD⟩ : vPD G A H [(ce_X9 ob ob_tape ob_tapeSize ob_reader ob_state ob_images ob_slots ob_rounds ob_ways ob_otherDebts ob_otherKnows), (ce_q4 y ob_slots (va_up (va_up (va_up (va_up (fun _ => none) 0 (some ob_slots0)) 1 (some ob_slots1)) 2 (some ob_slots2)) 3 (some ob_slots3))), (ce_X5 ob_slots1 ob_slots1_filled ob_slots1_width ob_slots1_size ob_slots1_numbers), (ce_l60 y ob_slots1_numbers fob_slots1_numbers), (ce_X5 ob_slots2 ob_slots2_filled ob_slots2_width ob_slots2_size ob_slots2_numbers), (ce_l60 y ob_slots2_numbers fob_slots2_numbers)] := ⟨hP, hD⟩
                refine lv_if_ne (tgt := 94) hx hb dX9_paste_88 (by decide) (fun c9 => absurd (by decide) c9) (fun _ => ?_)
                refine lv_bipush (v := (-7)) hx hb dX9_paste_91 (by decide) ?_
                exact W.iret (v := (-7)) hx hb hr (fun t ht hW => ⟨⟨(-7), _, rfl, Or.inr (Or.inl (⟨nc_1009.1, nc_1010.1, by have h90 : Int32.toInt (-7) = -7 := (by decide); have h91 : Int32.toInt 1 = 1 := (by decide); have h92 : Int32.toInt 2 = 2 := (by decide); omega, rfl, rfl⟩)), by rw [ht]; exact hP, hD⟩, hS.F ht⟩) hS.2.2 dX9_paste_93
              · skip
                obtain ⟨hP, hD⟩ : vPD G A H [(ce_X9 ob ob_tape ob_tapeSize ob_reader ob_state ob_images ob_slots ob_rounds ob_ways ob_otherDebts ob_otherKnows), (ce_q4 y ob_slots (va_up (va_up (va_up (va_up (fun _ => none) 0 (some ob_slots0)) 1 (some ob_slots1)) 2 (some ob_slots2)) 3 (some ob_slots3))), (ce_X5 ob_slots1 ob_slots1_filled ob_slots1_width ob_slots1_size ob_slots1_numbers), (ce_l60 y ob_slots1_numbers fob_slots1_numbers), (ce_X5 ob_slots2 ob_slots2_filled ob_slots2_width ob_slots2_size ob_slots2_numbers), (ce_l60 y ob_slots2_numbers fob_slots2_numbers)] := ⟨hP, hD⟩
                refine lv_if_ne (tgt := 94) hx hb dX9_paste_88 (by decide) (fun _ => ?_) (fun c9 => absurd c9 (by decide))
                refine lv_aload hx hb dX9_paste_94 (lv_at hl 1 rfl) ?_
                refine va_get (D := G) (ci := 5) (v := .ref ob_slots1_numbers) (C := RX5) (T := TX5) (N := 4) hx hb hw0 inA_wsX50 hown hK.1 hP 2 rfl rfl 3 (by decide) (hw0 _ m_1293) (fun _ h9 => h9) rfl dX9_paste_96 ?_
                refine lv_iload_n hx hb dX9_paste_99 rfl (lv_at hl 4 rfl) ?_
                refine lv_aload hx hb dX9_paste_100 (lv_at hl 0 rfl) ?_
                refine va_get (D := G) (ci := 5) (v := .ref ob_slots2_numbers) (C := RX5) (T := TX5) (N := 4) hx hb hw0 inA_wsX50 hown hK.1 hP 4 rfl rfl 3 (by decide) (hw0 _ m_1293) (fun _ h9 => h9) rfl dX9_paste_102 ?_
                refine lv_iload hx hb dX9_paste_105 (lv_at hl 6 rfl) ?_
                refine lv_iload hx hb dX9_paste_107 (lv_at hl 7 rfl) ?_
                refine va_copyl (own := RX9) hx hb (by rw [hml]; exact hl.1.symm) hown (hw0 _ m_1294) (hw0 _ m_272) (hw0 _ m_273) (hw0 _ m_274) hK.1 hP hD hS 3 5 2 2 rfl rfl rfl rfl rfl (cy_n h_1014 (by decide)) (cy_n h_1019 (by decide)) (cy_n h_1015 (by decide)) (cy_g h_1014 h_1015 (by decide) (by decide) (by omega)) (cy_g h_1019 h_1015 (by decide) (by decide) (by omega)) (fun i hi => rfl) (Nat.le_of_ble_eq_true rfl) (by decide) dX9_paste_109 (fun H locs hP hD hS => ?_)
                generalize hf_1022 : (va_cpy fob_slots1_numbers fob_slots2_numbers (a2 : Int32).toNatClampNeg (a4 : Int32).toNatClampNeg (a5 : Int32).toNatClampNeg) = f_1022 at hP hD
                obtain ⟨hP, hD⟩ : vPD G A H [(ce_X9 ob ob_tape ob_tapeSize ob_reader ob_state ob_images ob_slots ob_rounds ob_ways ob_otherDebts ob_otherKnows), (ce_q4 y ob_slots (va_up (va_up (va_up (va_up (fun _ => none) 0 (some ob_slots0)) 1 (some ob_slots1)) 2 (some ob_slots2)) 3 (some ob_slots3))), (ce_X5 ob_slots1 ob_slots1_filled ob_slots1_width ob_slots1_size ob_slots1_numbers), (ce_l60 y ob_slots1_numbers fob_slots1_numbers), (ce_X5 ob_slots2 ob_slots2_filled ob_slots2_width ob_slots2_size ob_slots2_numbers), (ce_l60 y ob_slots2_numbers f_1022)] := ⟨hP, hD⟩
                refine lv_iconst (v := 0) hx hb dX9_paste_112 (by decide) ?_
                exact W.iret (v := 0) hx hb hr (fun t ht hW => ⟨⟨0, _, rfl, Or.inr (Or.inr (Or.inr (⟨f_1022, h_1014, h_1019, h_1015, nc_1009.1, nc_1010.1, by have h90 : Int32.toInt 0 = 0 := (by decide); have h91 : Int32.toInt 1 = 1 := (by decide); have h92 : Int32.toInt 2 = 2 := (by decide); omega, rfl, rfl⟩))), by rw [ht]; exact hP, hD⟩, hS.F ht⟩) hS.2.2 dX9_paste_113
          · skip
            have nc_1011 : ob_slots1_width.toInt ≠ ob_slots2_width.toInt := fun h9 => c_1011 (Int32.toInt_inj.mp h9)
            refine lv_bipush (v := (-8)) hx hb dX9_paste_65 (by decide) ?_
            exact W.iret (v := (-8)) hx hb hr (fun t ht hW => ⟨⟨(-8), _, rfl, Or.inr (Or.inr (Or.inl (⟨nc_1009.1, nc_1010.1, by have h90 : Int32.toInt (-8) = -8 := (by decide); have h91 : Int32.toInt 1 = 1 := (by decide); have h92 : Int32.toInt 2 = 2 := (by decide); omega, rfl, rfl⟩))), by rw [ht]; exact hP, hD⟩, hS.F ht⟩) hS.2.2 dX9_paste_67
        · skip
          have nc_1010 := nb_eq (0) (0) c_1010 p_ob_slots2_filled (bkc (x := 0) (c := 0) (by decide)) (by decide)
          refine lv_bipush (v := (-6)) hx hb dX9_paste_49 (by decide) ?_
          exact W.iret (v := (-6)) hx hb hr (fun t ht hW => ⟨⟨(-6), _, rfl, Or.inl (⟨by have h90 : Int32.toInt (-6) = -6 := (by decide); have h91 : Int32.toInt 1 = 1 := (by decide); have h92 : Int32.toInt 2 = 2 := (by decide); omega, rfl, rfl⟩), by rw [ht]; exact hP, hD⟩, hS.F ht⟩) hS.2.2 dX9_paste_51

set_option maxHeartbeats 4000000 in
set_option maxRecDepth 100000 in
theorem fpaste13 (l : Launch) (G : va_G) (y : Nat → ClassId) (sz : Nat) (ob : Nat) (a2 : Int32) (a4 : Int32) (a5 : Int32) (ob_tape : Nat) (ob_tapeSize : Int32) (ob_reader : Nat) (ob_state : Nat) (ob_images : Nat) (ob_slots : Nat) (ob_rounds : Nat) (ob_ways : Nat) (ob_otherDebts : Nat) (ob_otherKnows : Nat) (ob_slots0 : Nat) (ob_slots1 : Nat) (ob_slots2 : Nat) (ob_slots3 : Nat) (ob_slots1_filled : Int32) (ob_slots1_width : Int32) (ob_slots1_size : Int32) (ob_slots1_numbers : Nat) (fob_slots1_numbers : Nat → Int64) (ob_slots3_filled : Int32) (ob_slots3_width : Int32) (ob_slots3_size : Int32) (ob_slots3_numbers : Nat) (fob_slots3_numbers : Nat → Int64) (p_ob_tapeSize : (0 : Int) ≤ ob_tapeSize.toInt ∧ ob_tapeSize.toInt ≤ 1400) (p_ob_slots1_filled : (0 : Int) ≤ ob_slots1_filled.toInt ∧ ob_slots1_filled.toInt ≤ 1) (p_ob_slots1_size : (0 : Int) ≤ ob_slots1_size.toInt ∧ ob_slots1_size.toInt ≤ 60) (p_ob_slots3_filled : (0 : Int) ≤ ob_slots3_filled.toInt ∧ ob_slots3_filled.toInt ≤ 1) (p_ob_slots3_size : (0 : Int) ≤ ob_slots3_size.toInt ∧ ob_slots3_size.toInt ≤ 60) : Met l yX9_paste (Cond.code yX9_paste cX9_paste 8 (some .int) :: wAll) ({ frames := 1, cells := 0, slots := 0, locals := 72 }) (va_Pc [.ref ob, .int 1, .int a2, .int 3, .int a4, .int a5] (kp G y sz [(ce_X9 ob ob_tape ob_tapeSize ob_reader ob_state ob_images ob_slots ob_rounds ob_ways ob_otherDebts ob_otherKnows), (ce_q4 y ob_slots (va_up (va_up (va_up (va_up (fun _ => none) 0 (some ob_slots0)) 1 (some ob_slots1)) 2 (some ob_slots2)) 3 (some ob_slots3))), (ce_X5 ob_slots1 ob_slots1_filled ob_slots1_width ob_slots1_size ob_slots1_numbers), (ce_l60 y ob_slots1_numbers fob_slots1_numbers), (ce_X5 ob_slots3 ob_slots3_filled ob_slots3_width ob_slots3_size ob_slots3_numbers), (ce_l60 y ob_slots3_numbers fob_slots3_numbers)])) (va_Qi (fun (r : Int32) (w : va_W) => ((ob_slots1_filled.toInt = 0 ∨ ob_slots3_filled.toInt = 0) ∧ r = (-6) ∧ w = [(ce_X9 ob ob_tape ob_tapeSize ob_reader ob_state ob_images ob_slots ob_rounds ob_ways ob_otherDebts ob_otherKnows), (ce_q4 y ob_slots (va_up (va_up (va_up (va_up (fun _ => none) 0 (some ob_slots0)) 1 (some ob_slots1)) 2 (some ob_slots2)) 3 (some ob_slots3))), (ce_X5 ob_slots1 ob_slots1_filled ob_slots1_width ob_slots1_size ob_slots1_numbers), (ce_l60 y ob_slots1_numbers fob_slots1_numbers), (ce_X5 ob_slots3 ob_slots3_filled ob_slots3_width ob_slots3_size ob_slots3_numbers), (ce_l60 y ob_slots3_numbers fob_slots3_numbers)]) ∨ (((1 : Int) ≤ ob_slots1_filled.toInt ∧ ob_slots1_filled.toInt ≤ 1) ∧ ((1 : Int) ≤ ob_slots3_filled.toInt ∧ ob_slots3_filled.toInt ≤ 1) ∧ (ob_slots1_filled.toInt = 1 ∧ ob_slots3_filled.toInt = 1 ∧ ob_slots1_width.toInt = ob_slots3_width.toInt ∧ ¬ (0 ≤ a2.toInt ∧ 0 ≤ a4.toInt ∧ 0 ≤ a5.toInt ∧ a2.toInt + a5.toInt ≤ ob_slots1_size.toInt ∧ a4.toInt + a5.toInt ≤ ob_slots3_size.toInt)) ∧ r = (-7) ∧ w = [(ce_X9 ob ob_tape ob_tapeSize ob_reader ob_state ob_images ob_slots ob_rounds ob_ways ob_otherDebts ob_otherKnows), (ce_q4 y ob_slots (va_up (va_up (va_up (va_up (fun _ => none) 0 (some ob_slots0)) 1 (some ob_slots1)) 2 (some ob_slots2)) 3 (some ob_slots3))), (ce_X5 ob_slots1 ob_slots1_filled ob_slots1_width ob_slots1_size ob_slots1_numbers), (ce_l60 y ob_slots1_numbers fob_slots1_numbers), (ce_X5 ob_slots3 ob_slots3_filled ob_slots3_width ob_slots3_size ob_slots3_numbers), (ce_l60 y ob_slots3_numbers fob_slots3_numbers)]) ∨ (((1 : Int) ≤ ob_slots1_filled.toInt ∧ ob_slots1_filled.toInt ≤ 1) ∧ ((1 : Int) ≤ ob_slots3_filled.toInt ∧ ob_slots3_filled.toInt ≤ 1) ∧ (ob_slots1_filled.toInt = 1 ∧ ob_slots3_filled.toInt = 1 ∧ ¬ ob_slots1_width.toInt = ob_slots3_width.toInt) ∧ r = (-8) ∧ w = [(ce_X9 ob ob_tape ob_tapeSize ob_reader ob_state ob_images ob_slots ob_rounds ob_ways ob_otherDebts ob_otherKnows), (ce_q4 y ob_slots (va_up (va_up (va_up (va_up (fun _ => none) 0 (some ob_slots0)) 1 (some ob_slots1)) 2 (some ob_slots2)) 3 (some ob_slots3))), (ce_X5 ob_slots1 ob_slots1_filled ob_slots1_width ob_slots1_size ob_slots1_numbers), (ce_l60 y ob_slots1_numbers fob_slots1_numbers), (ce_X5 ob_slots3 ob_slots3_filled ob_slots3_width ob_slots3_size ob_slots3_numbers), (ce_l60 y ob_slots3_numbers fob_slots3_numbers)]) ∨ (∃ (f_45 : Nat → Int64), ((0 : Int) ≤ a2.toInt ∧ a2.toInt ≤ 60) ∧ ((0 : Int) ≤ a4.toInt ∧ a4.toInt ≤ 60) ∧ ((0 : Int) ≤ a5.toInt ∧ a5.toInt ≤ 60) ∧ ((1 : Int) ≤ ob_slots1_filled.toInt ∧ ob_slots1_filled.toInt ≤ 1) ∧ ((1 : Int) ≤ ob_slots3_filled.toInt ∧ ob_slots3_filled.toInt ≤ 1) ∧ (ob_slots1_filled.toInt = 1 ∧ ob_slots3_filled.toInt = 1 ∧ ob_slots1_width.toInt = ob_slots3_width.toInt ∧ 0 ≤ a2.toInt ∧ 0 ≤ a4.toInt ∧ 0 ≤ a5.toInt ∧ a2.toInt + a5.toInt ≤ ob_slots1_size.toInt ∧ a4.toInt + a5.toInt ≤ ob_slots3_size.toInt) ∧ r = 0 ∧ w = [(ce_X9 ob ob_tape ob_tapeSize ob_reader ob_state ob_images ob_slots ob_rounds ob_ways ob_otherDebts ob_otherKnows), (ce_q4 y ob_slots (va_up (va_up (va_up (va_up (fun _ => none) 0 (some ob_slots0)) 1 (some ob_slots1)) 2 (some ob_slots2)) 3 (some ob_slots3))), (ce_X5 ob_slots1 ob_slots1_filled ob_slots1_width ob_slots1_size ob_slots1_numbers), (ce_l60 y ob_slots1_numbers fob_slots1_numbers), (ce_X5 ob_slots3 ob_slots3_filled ob_slots3_width ob_slots3_size ob_slots3_numbers), (ce_l60 y ob_slots3_numbers f_45)])) (kq G (va_A [(ce_X9 ob ob_tape ob_tapeSize ob_reader ob_state ob_images ob_slots ob_rounds ob_ways ob_otherDebts ob_otherKnows), (ce_q4 y ob_slots (va_up (va_up (va_up (va_up (fun _ => none) 0 (some ob_slots0)) 1 (some ob_slots1)) 2 (some ob_slots2)) 3 (some ob_slots3))), (ce_X5 ob_slots1 ob_slots1_filled ob_slots1_width ob_slots1_size ob_slots1_numbers), (ce_l60 y ob_slots1_numbers fob_slots1_numbers), (ce_X5 ob_slots3 ob_slots3_filled ob_slots3_width ob_slots3_size ob_slots3_numbers), (ce_l60 y ob_slots3_numbers fob_slots3_numbers)] sz)) (va_A [(ce_X9 ob ob_tape ob_tapeSize ob_reader ob_state ob_images ob_slots ob_rounds ob_ways ob_otherDebts ob_otherKnows), (ce_q4 y ob_slots (va_up (va_up (va_up (va_up (fun _ => none) 0 (some ob_slots0)) 1 (some ob_slots1)) 2 (some ob_slots2)) 3 (some ob_slots3))), (ce_X5 ob_slots1 ob_slots1_filled ob_slots1_width ob_slots1_size ob_slots1_numbers), (ce_l60 y ob_slots1_numbers fob_slots1_numbers), (ce_X5 ob_slots3 ob_slots3_filled ob_slots3_width ob_slots3_size ob_slots3_numbers), (ce_l60 y ob_slots3_numbers fob_slots3_numbers)] sz)) 0 0 (va_A [(ce_X9 ob ob_tape ob_tapeSize ob_reader ob_state ob_images ob_slots ob_rounds ob_ways ob_otherDebts ob_otherKnows), (ce_q4 y ob_slots (va_up (va_up (va_up (va_up (fun _ => none) 0 (some ob_slots0)) 1 (some ob_slots1)) 2 (some ob_slots2)) 3 (some ob_slots3))), (ce_X5 ob_slots1 ob_slots1_filled ob_slots1_width ob_slots1_size ob_slots1_numbers), (ce_l60 y ob_slots1_numbers fob_slots1_numbers), (ce_X5 ob_slots3 ob_slots3_filled ob_slots3_width ob_slots3_size ob_slots3_numbers), (ce_l60 y ob_slots3_numbers fob_slots3_numbers)] sz) := by
  refine Met.ofW (cc := cX9_paste) (maxL := 8) (ret := (some .int)) (by decide) rfl ?_
  intro p e s m args below meth c s₁ B hml hv
  obtain ⟨rfl, hsz, hP, hK, hD0⟩ := hv
  have hx := B.exec
  have hb := B.bytes
  have hr := B.returns
  have hw0 : ∀ w ∈ wAll, w.before _ s = true := fun w h => atoms_spec (ws := Cond.code yX9_paste cX9_paste 8 (some .int) :: wAll) B.pre w (List.mem_cons_of_mem _ h)
  have hown : s.vm.findClass RX9 = some m.cls := findClass_of_methodNamed B.named
  subst hsz
  have hD := hD0.self (sz := s.heap.size)
  generalize hAe : va_A [(ce_X9 ob ob_tape ob_tapeSize ob_reader ob_state ob_images ob_slots ob_rounds ob_ways ob_otherDebts ob_otherKnows), (ce_q4 y ob_slots (va_up (va_up (va_up (va_up (fun _ => none) 0 (some ob_slots0)) 1 (some ob_slots1)) 2 (some ob_slots2)) 3 (some ob_slots3))), (ce_X5 ob_slots1 ob_slots1_filled ob_slots1_width ob_slots1_size ob_slots1_numbers), (ce_l60 y ob_slots1_numbers fob_slots1_numbers), (ce_X5 ob_slots3 ob_slots3_filled ob_slots3_width ob_slots3_size ob_slots3_numbers), (ce_l60 y ob_slots3_numbers fob_slots3_numbers)] s.heap.size = A at hD ⊢
  have hA : ∀ q : Nat, s.heap.size ≤ q → A q := fun q h => by rw [← hAe]; exact Or.inr h
  have hS : va_S A s.heap s.heap [] := va_S.rf
  have hP : va_P G vwCl [(ce_X9 ob ob_tape ob_tapeSize ob_reader ob_state ob_images ob_slots ob_rounds ob_ways ob_otherDebts ob_otherKnows), (ce_q4 y ob_slots (va_up (va_up (va_up (va_up (fun _ => none) 0 (some ob_slots0)) 1 (some ob_slots1)) 2 (some ob_slots2)) 3 (some ob_slots3))), (ce_X5 ob_slots1 ob_slots1_filled ob_slots1_width ob_slots1_size ob_slots1_numbers), (ce_l60 y ob_slots1_numbers fob_slots1_numbers), (ce_X5 ob_slots3 ob_slots3_filled ob_slots3_width ob_slots3_size ob_slots3_numbers), (ce_l60 y ob_slots3_numbers fob_slots3_numbers)] s.heap := hP
  have hl := lv_entry ([.ref ob, .int 1, .int a2, .int 3, .int a4, .int a5]) (n := 8) (Nat.le_of_ble_eq_true rfl)
  rw [lg_entry_eq]
  generalize (lg_sl ([.ref ob, .int 1, .int a2, .int 3, .int a4, .int a5]) ++ List.replicate (8 - (lg_sl ([.ref ob, .int 1, .int a2, .int 3, .int a4, .int a5])).length) Slot.unset).toArray = ls at hl ⊢
  have hl : lv_has ls 8 [(0, .ref ob), (1, .int 1), (2, .int a2), (3, .int 3), (4, .int a4), (5, .int a5)] := hl
  refine lv_iload_n hx hb dX9_paste_0 rfl (lv_at hl 1 rfl) ?_
  refine cSim (As := [.int 1]) (rest := []) ⟨hx, hb, hml, hown, hw0⟩ hA hK hP hD hS [] (fisSlot l G y _ 1 ) rfl ⟨(callB_of 1 hw0 (gA m_1260) rfl rfl rfl (hw0 _ m_36) (hw0 _ m_1189) cb_X9_isSlot ⟨Nat.le_of_ble_eq_true rfl, Nat.le_of_ble_eq_true rfl⟩), (hw0 _ m_1190)⟩ rfl hl.1 (Nat.le_of_ble_eq_true rfl) dX9_paste_1 ⟨Nat.le_of_ble_eq_true rfl, Nat.le_of_ble_eq_true rfl⟩ (fun r_1001 w_1001 H locs hw_1001 hP hD hS => ?_)
  rcases hw_1001 with ⟨h_1002, rfl, rfl⟩ | ⟨h_1003, h_1004, rfl, rfl⟩
  · skip
    exact False.elim (by have h9 : Int32.toInt 1 = 1 := (by decide); omega)
  · skip
    obtain ⟨hP, hD⟩ : vPD G A H [(ce_X9 ob ob_tape ob_tapeSize ob_reader ob_state ob_images ob_slots ob_rounds ob_ways ob_otherDebts ob_otherKnows), (ce_q4 y ob_slots (va_up (va_up (va_up (va_up (fun _ => none) 0 (some ob_slots0)) 1 (some ob_slots1)) 2 (some ob_slots2)) 3 (some ob_slots3))), (ce_X5 ob_slots1 ob_slots1_filled ob_slots1_width ob_slots1_size ob_slots1_numbers), (ce_l60 y ob_slots1_numbers fob_slots1_numbers), (ce_X5 ob_slots3 ob_slots3_filled ob_slots3_width ob_slots3_size ob_slots3_numbers), (ce_l60 y ob_slots3_numbers fob_slots3_numbers)] := ⟨hP, hD⟩
    refine lv_if_eq (tgt := 14) hx hb dX9_paste_4 (by decide) (fun c9 => absurd c9 (by decide)) (fun _ => ?_)
    refine lv_iload_n hx hb dX9_paste_7 rfl (lv_at hl 3 rfl) ?_
    refine cSim (As := [.int 3]) (rest := []) ⟨hx, hb, hml, hown, hw0⟩ hA hK hP hD hS [] (fisSlot l G y _ 3 ) rfl ⟨(callB_of 1 hw0 (gA m_1260) rfl rfl rfl (hw0 _ m_36) (hw0 _ m_1189) cb_X9_isSlot ⟨Nat.le_of_ble_eq_true rfl, Nat.le_of_ble_eq_true rfl⟩), (hw0 _ m_1190)⟩ rfl hl.1 (Nat.le_of_ble_eq_true rfl) dX9_paste_8 ⟨Nat.le_of_ble_eq_true rfl, Nat.le_of_ble_eq_true rfl⟩ (fun r_1005 w_1005 H locs hw_1005 hP hD hS => ?_)
    rcases hw_1005 with ⟨h_1006, rfl, rfl⟩ | ⟨h_1007, h_1008, rfl, rfl⟩
    · skip
      exact False.elim (by have h9 : Int32.toInt 3 = 3 := (by decide); omega)
    · skip
      obtain ⟨hP, hD⟩ : vPD G A H [(ce_X9 ob ob_tape ob_tapeSize ob_reader ob_state ob_images ob_slots ob_rounds ob_ways ob_otherDebts ob_otherKnows), (ce_q4 y ob_slots (va_up (va_up (va_up (va_up (fun _ => none) 0 (some ob_slots0)) 1 (some ob_slots1)) 2 (some ob_slots2)) 3 (some ob_slots3))), (ce_X5 ob_slots1 ob_slots1_filled ob_slots1_width ob_slots1_size ob_slots1_numbers), (ce_l60 y ob_slots1_numbers fob_slots1_numbers), (ce_X5 ob_slots3 ob_slots3_filled ob_slots3_width ob_slots3_size ob_slots3_numbers), (ce_l60 y ob_slots3_numbers fob_slots3_numbers)] := ⟨hP, hD⟩
      refine lv_if_ne (tgt := 17) hx hb dX9_paste_11 (by decide) (fun _ => ?_) (fun c9 => absurd c9 (by decide))
      refine lv_aload_n hx hb dX9_paste_17 rfl (lv_at hl 0 rfl) ?_
      refine va_get (D := G) (ci := 9) (v := .ref ob_slots) (C := RX9) (T := TX9) (N := 10) hx hb hw0 inA_wsX90 hown hK.1 hP 0 rfl rfl 5 (by decide) (hw0 _ m_1191) (fun _ h9 => h9) rfl dX9_paste_18 ?_
      refine lv_iload_n hx hb dX9_paste_21 rfl (lv_at hl 1 rfl) ?_
      refine va_aldq hx hb hK.1 hP 1 4 rfl rfl (vi (bkc (x := 1) (c := 1) (by decide)) (by decide)) dX9_paste_22 ?_
      refine W.eq (g2 := F0 m 23 ls [.ref ob_slots1]) rfl ?_
      refine lv_astore (lv' := [(6, .ref ob_slots1), (0, .ref ob), (1, .int 1), (2, .int a2), (3, .int 3), (4, .int a4), (5, .int a5)]) hx hb dX9_paste_23 hl (by decide) rfl (fun ls hl => ?_)
      refine lv_aload_n hx hb dX9_paste_25 rfl (lv_at hl 1 rfl) ?_
      refine va_get (D := G) (ci := 9) (v := .ref ob_slots) (C := RX9) (T := TX9) (N := 10) hx hb hw0 inA_wsX90 hown hK.1 hP 0 rfl rfl 5 (by decide) (hw0 _ m_1191) (fun _ h9 => h9) rfl dX9_paste_26 ?_
      refine lv_iload_n hx hb dX9_paste_29 rfl (lv_at hl 4 rfl) ?_
      refine va_aldq hx hb hK.1 hP 1 4 rfl rfl (vi (bkc (x := 3) (c := 3) (by decide)) (by decide)) dX9_paste_30 ?_
      refine W.eq (g2 := F0 m 31 ls [.ref ob_slots3]) rfl ?_
      refine lv_astore (lv' := [(7, .ref ob_slots3), (6, .ref ob_slots1), (0, .ref ob), (1, .int 1), (2, .int a2), (3, .int 3), (4, .int a4), (5, .int a5)]) hx hb dX9_paste_31 hl (by decide) rfl (fun ls hl => ?_)
      refine lv_aload hx hb dX9_paste_33 (lv_at hl 1 rfl) ?_
      refine va_get (D := G) (ci := 5) (v := .int ob_slots1_filled) (C := RX5) (T := TX5) (N := 4) hx hb hw0 inA_wsX50 hown hK.1 hP 2 rfl rfl 0 (by decide) (hw0 _ m_1192) (fun _ h9 => h9) rfl dX9_paste_35 ?_
      refine lv_if_eq (tgt := 49) hx hb dX9_paste_38 (by decide) (fun c_1009 => ?_) (fun c_1009 => ?_)
      · skip
        have nc_1009 := nb_eq (0) (0) c_1009 p_ob_slots1_filled (bkc (x := 0) (c := 0) (by decide)) (by decide)
        refine lv_bipush (v := (-6)) hx hb dX9_paste_49 (by decide) ?_
        exact W.iret (v := (-6)) hx hb hr (fun t ht hW => ⟨⟨(-6), _, rfl, Or.inl (⟨by have h90 : Int32.toInt (-6) = -6 := (by decide); have h91 : Int32.toInt 1 = 1 := (by decide); have h92 : Int32.toInt 3 = 3 := (by decide); omega, rfl, rfl⟩), by rw [ht]; exact hP, hD⟩, hS.F ht⟩) hS.2.2 dX9_paste_51
      · skip
        have nc_1009 := nb_ne (1) (1) c_1009 p_ob_slots1_filled (k := 0) (by decide) (by decide)
        refine lv_aload hx hb dX9_paste_41 (lv_at hl 0 rfl) ?_
        refine va_get (D := G) (ci := 5) (v := .int ob_slots3_filled) (C := RX5) (T := TX5) (N := 4) hx hb hw0 inA_wsX50 hown hK.1 hP 4 rfl rfl 0 (by decide) (hw0 _ m_1192) (fun _ h9 => h9) rfl dX9_paste_43 ?_
        refine lv_if_ne (tgt := 52) hx hb dX9_paste_46 (by decide) (fun c_1010 => ?_) (fun c_1010 => ?_)
        · skip
          have nc_1010 := nb_ne (1) (1) c_1010 p_ob_slots3_filled (k := 0) (by decide) (by decide)
          refine lv_aload hx hb dX9_paste_52 (lv_at hl 1 rfl) ?_
          refine va_get (D := G) (ci := 5) (v := .int ob_slots1_width) (C := RX5) (T := TX5) (N := 4) hx hb hw0 inA_wsX50 hown hK.1 hP 2 rfl rfl 1 (by decide) (hw0 _ m_1289) (fun _ h9 => h9) rfl dX9_paste_54 ?_
          refine lv_aload hx hb dX9_paste_57 (lv_at hl 0 rfl) ?_
          refine va_get (D := G) (ci := 5) (v := .int ob_slots3_width) (C := RX5) (T := TX5) (N := 4) hx hb hw0 inA_wsX50 hown hK.1 hP 4 rfl rfl 1 (by decide) (hw0 _ m_1289) (fun _ h9 => h9) rfl dX9_paste_59 ?_
          refine lv_icmp_eq (tgt := 68) hx hb dX9_paste_62 (by decide) (fun c_1011 => ?_) (fun c_1011 => ?_)
          · skip
            have nc_1011 := nb_eq (-2147483648) (2147483647) c_1011 (btop ob_slots1_width) (btop ob_slots3_width) (by decide)
            refine lv_aload hx hb dX9_paste_68 (lv_at hl 1 rfl) ?_
            refine lv_iload_n hx hb dX9_paste_70 rfl (lv_at hl 4 rfl) ?_
            refine lv_iload hx hb dX9_paste_71 (lv_at hl 7 rfl) ?_
            refine cVim (As := [.int a2, .int a5]) (rest := []) ⟨hx, hb, hml, hown, hw0⟩ hA hK hP hD hS [false, false, true] (sX5_hasRun l G y _ ob_slots1 a2 a5 ob_slots1_filled ob_slots1_width ob_slots1_size ob_slots1_numbers (bw (0) (1) nc_1009.1 (by decide)) p_ob_slots1_size) rfl ⟨(callB_of 2 hw0 (gA m_941) rfl rfl rfl (hw0 _ m_858) (hw0 _ m_1290) cb_X5_hasRun ⟨Nat.le_of_ble_eq_true rfl, Nat.le_of_ble_eq_true rfl⟩), (hw0 _ m_1291), (hw0 _ m_1292)⟩ (ci := 5) (q := (RX5, TX5, 4)) rfl rfl rfl hl.1 (Nat.le_of_ble_eq_true rfl) dX9_paste_73 ⟨Nat.le_of_ble_eq_true rfl, Nat.le_of_ble_eq_true rfl⟩ (fun r_1012 w_1012 H locs hw_1012 hP hD hS => ?_)
            rcases hw_1012 with ⟨h_1013, rfl, rfl⟩ | ⟨h_1014, h_1015, h_1016, rfl, rfl⟩
            · skip
              obtain ⟨hP, hD⟩ : vPD G A H [(ce_X9 ob ob_tape ob_tapeSize ob_reader ob_state ob_images ob_slots ob_rounds ob_ways ob_otherDebts ob_otherKnows), (ce_q4 y ob_slots (va_up (va_up (va_up (va_up (fun _ => none) 0 (some ob_slots0)) 1 (some ob_slots1)) 2 (some ob_slots2)) 3 (some ob_slots3))), (ce_X5 ob_slots1 ob_slots1_filled ob_slots1_width ob_slots1_size ob_slots1_numbers), (ce_l60 y ob_slots1_numbers fob_slots1_numbers), (ce_X5 ob_slots3 ob_slots3_filled ob_slots3_width ob_slots3_size ob_slots3_numbers), (ce_l60 y ob_slots3_numbers fob_slots3_numbers)] := ⟨hP, hD⟩
              refine lv_if_eq (tgt := 91) hx hb dX9_paste_76 (by decide) (fun _ => ?_) (fun c9 => absurd (by decide) c9)
              refine lv_bipush (v := (-7)) hx hb dX9_paste_91 (by decide) ?_
              exact W.iret (v := (-7)) hx hb hr (fun t ht hW => ⟨⟨(-7), _, rfl, Or.inr (Or.inl (⟨nc_1009.1, nc_1010.1, by have h90 : Int32.toInt (-7) = -7 := (by decide); have h91 : Int32.toInt 1 = 1 := (by decide); have h92 : Int32.toInt 3 = 3 := (by decide); omega, rfl, rfl⟩)), by rw [ht]; exact hP, hD⟩, hS.F ht⟩) hS.2.2 dX9_paste_93
            · skip
              obtain ⟨hP, hD⟩ : vPD G A H [(ce_X9 ob ob_tape ob_tapeSize ob_reader ob_state ob_images ob_slots ob_rounds ob_ways ob_otherDebts ob_otherKnows), (ce_q4 y ob_slots (va_up (va_up (va_up (va_up (fun _ => none) 0 (some ob_slots0)) 1 (some ob_slots1)) 2 (some ob_slots2)) 3 (some ob_slots3))), (ce_X5 ob_slots1 ob_slots1_filled ob_slots1_width ob_slots1_size ob_slots1_numbers), (ce_l60 y ob_slots1_numbers fob_slots1_numbers), (ce_X5 ob_slots3 ob_slots3_filled ob_slots3_width ob_slots3_size ob_slots3_numbers), (ce_l60 y ob_slots3_numbers fob_slots3_numbers)] := ⟨hP, hD⟩
              refine lv_if_eq (tgt := 91) hx hb dX9_paste_76 (by decide) (fun c9 => absurd c9 (by decide)) (fun _ => ?_)
              refine lv_aload hx hb dX9_paste_79 (lv_at hl 0 rfl) ?_
              refine lv_iload hx hb dX9_paste_81 (lv_at hl 6 rfl) ?_
              refine lv_iload hx hb dX9_paste_83 (lv_at hl 7 rfl) ?_
              refine cVim (As := [.int a4, .int a5]) (rest := []) ⟨hx, hb, hml, hown, hw0⟩ hA hK hP hD hS [false, false, false, false, true] (sX5_hasRun l G y _ ob_slots3 a4 a5 ob_slots3_filled ob_slots3_width ob_slots3_size ob_slots3_numbers (bw (0) (1) nc_1010.1 (by decide)) p_ob_slots3_size) rfl ⟨(callB_of 2 hw0 (gA m_941) rfl rfl rfl (hw0 _ m_858) (hw0 _ m_1290) cb_X5_hasRun ⟨Nat.le_of_ble_eq_true rfl, Nat.le_of_ble_eq_true rfl⟩), (hw0 _ m_1291), (hw0 _ m_1292)⟩ (ci := 5) (q := (RX5, TX5, 4)) rfl rfl rfl hl.1 (Nat.le_of_ble_eq_true rfl) dX9_paste_85 ⟨Nat.le_of_ble_eq_true rfl, Nat.le_of_ble_eq_true rfl⟩ (fun r_1017 w_1017 H locs hw_1017 hP hD hS => ?_)
              rcases hw_1017 with ⟨h_1018, rfl, rfl⟩ | ⟨h_1019, h_1020, h_1021, rfl, rfl⟩
              · skip
                obtain ⟨hP, hD⟩ : vPD G A H [(ce_X9 ob ob_tape ob_tapeSize ob_reader ob_state ob_images ob_slots ob_rounds ob_ways ob_otherDebts ob_otherKnows), (ce_q4 y ob_slots (va_up (va_up (va_up (va_up (fun _ => none) 0 (some ob_slots0)) 1 (some ob_slots1)) 2 (some ob_slots2)) 3 (some ob_slots3))), (ce_X5 ob_slots1 ob_slots1_filled ob_slots1_width ob_slots1_size ob_slots1_numbers), (ce_l60 y ob_slots1_numbers fob_slots1_numbers), (ce_X5 ob_slots3 ob_slots3_filled ob_slots3_width ob_slots3_size ob_slots3_numbers), (ce_l60 y ob_slots3_numbers fob_slots3_numbers)] := ⟨hP, hD⟩
                refine lv_if_ne (tgt := 94) hx hb dX9_paste_88 (by decide) (fun c9 => absurd (by decide) c9) (fun _ => ?_)
                refine lv_bipush (v := (-7)) hx hb dX9_paste_91 (by decide) ?_
                exact W.iret (v := (-7)) hx hb hr (fun t ht hW => ⟨⟨(-7), _, rfl, Or.inr (Or.inl (⟨nc_1009.1, nc_1010.1, by have h90 : Int32.toInt (-7) = -7 := (by decide); have h91 : Int32.toInt 1 = 1 := (by decide); have h92 : Int32.toInt 3 = 3 := (by decide); omega, rfl, rfl⟩)), by rw [ht]; exact hP, hD⟩, hS.F ht⟩) hS.2.2 dX9_paste_93
              · skip
                obtain ⟨hP, hD⟩ : vPD G A H [(ce_X9 ob ob_tape ob_tapeSize ob_reader ob_state ob_images ob_slots ob_rounds ob_ways ob_otherDebts ob_otherKnows), (ce_q4 y ob_slots (va_up (va_up (va_up (va_up (fun _ => none) 0 (some ob_slots0)) 1 (some ob_slots1)) 2 (some ob_slots2)) 3 (some ob_slots3))), (ce_X5 ob_slots1 ob_slots1_filled ob_slots1_width ob_slots1_size ob_slots1_numbers), (ce_l60 y ob_slots1_numbers fob_slots1_numbers), (ce_X5 ob_slots3 ob_slots3_filled ob_slots3_width ob_slots3_size ob_slots3_numbers), (ce_l60 y ob_slots3_numbers fob_slots3_numbers)] := ⟨hP, hD⟩
                refine lv_if_ne (tgt := 94) hx hb dX9_paste_88 (by decide) (fun _ => ?_) (fun c9 => absurd c9 (by decide))
                refine lv_aload hx hb dX9_paste_94 (lv_at hl 1 rfl) ?_
                refine va_get (D := G) (ci := 5) (v := .ref ob_slots1_numbers) (C := RX5) (T := TX5) (N := 4) hx hb hw0 inA_wsX50 hown hK.1 hP 2 rfl rfl 3 (by decide) (hw0 _ m_1293) (fun _ h9 => h9) rfl dX9_paste_96 ?_
                refine lv_iload_n hx hb dX9_paste_99 rfl (lv_at hl 4 rfl) ?_
                refine lv_aload hx hb dX9_paste_100 (lv_at hl 0 rfl) ?_
                refine va_get (D := G) (ci := 5) (v := .ref ob_slots3_numbers) (C := RX5) (T := TX5) (N := 4) hx hb hw0 inA_wsX50 hown hK.1 hP 4 rfl rfl 3 (by decide) (hw0 _ m_1293) (fun _ h9 => h9) rfl dX9_paste_102 ?_
                refine lv_iload hx hb dX9_paste_105 (lv_at hl 6 rfl) ?_
                refine lv_iload hx hb dX9_paste_107 (lv_at hl 7 rfl) ?_
                refine va_copyl (own := RX9) hx hb (by rw [hml]; exact hl.1.symm) hown (hw0 _ m_1294) (hw0 _ m_272) (hw0 _ m_273) (hw0 _ m_274) hK.1 hP hD hS 3 5 2 2 rfl rfl rfl rfl rfl (cy_n h_1014 (by decide)) (cy_n h_1019 (by decide)) (cy_n h_1015 (by decide)) (cy_g h_1014 h_1015 (by decide) (by decide) (by omega)) (cy_g h_1019 h_1015 (by decide) (by decide) (by omega)) (fun i hi => rfl) (Nat.le_of_ble_eq_true rfl) (by decide) dX9_paste_109 (fun H locs hP hD hS => ?_)
                generalize hf_1022 : (va_cpy fob_slots1_numbers fob_slots3_numbers (a2 : Int32).toNatClampNeg (a4 : Int32).toNatClampNeg (a5 : Int32).toNatClampNeg) = f_1022 at hP hD
                obtain ⟨hP, hD⟩ : vPD G A H [(ce_X9 ob ob_tape ob_tapeSize ob_reader ob_state ob_images ob_slots ob_rounds ob_ways ob_otherDebts ob_otherKnows), (ce_q4 y ob_slots (va_up (va_up (va_up (va_up (fun _ => none) 0 (some ob_slots0)) 1 (some ob_slots1)) 2 (some ob_slots2)) 3 (some ob_slots3))), (ce_X5 ob_slots1 ob_slots1_filled ob_slots1_width ob_slots1_size ob_slots1_numbers), (ce_l60 y ob_slots1_numbers fob_slots1_numbers), (ce_X5 ob_slots3 ob_slots3_filled ob_slots3_width ob_slots3_size ob_slots3_numbers), (ce_l60 y ob_slots3_numbers f_1022)] := ⟨hP, hD⟩
                refine lv_iconst (v := 0) hx hb dX9_paste_112 (by decide) ?_
                exact W.iret (v := 0) hx hb hr (fun t ht hW => ⟨⟨0, _, rfl, Or.inr (Or.inr (Or.inr (⟨f_1022, h_1014, h_1019, h_1015, nc_1009.1, nc_1010.1, by have h90 : Int32.toInt 0 = 0 := (by decide); have h91 : Int32.toInt 1 = 1 := (by decide); have h92 : Int32.toInt 3 = 3 := (by decide); omega, rfl, rfl⟩))), by rw [ht]; exact hP, hD⟩, hS.F ht⟩) hS.2.2 dX9_paste_113
          · skip
            have nc_1011 : ob_slots1_width.toInt ≠ ob_slots3_width.toInt := fun h9 => c_1011 (Int32.toInt_inj.mp h9)
            refine lv_bipush (v := (-8)) hx hb dX9_paste_65 (by decide) ?_
            exact W.iret (v := (-8)) hx hb hr (fun t ht hW => ⟨⟨(-8), _, rfl, Or.inr (Or.inr (Or.inl (⟨nc_1009.1, nc_1010.1, by have h90 : Int32.toInt (-8) = -8 := (by decide); have h91 : Int32.toInt 1 = 1 := (by decide); have h92 : Int32.toInt 3 = 3 := (by decide); omega, rfl, rfl⟩))), by rw [ht]; exact hP, hD⟩, hS.F ht⟩) hS.2.2 dX9_paste_67
        · skip
          have nc_1010 := nb_eq (0) (0) c_1010 p_ob_slots3_filled (bkc (x := 0) (c := 0) (by decide)) (by decide)
          refine lv_bipush (v := (-6)) hx hb dX9_paste_49 (by decide) ?_
          exact W.iret (v := (-6)) hx hb hr (fun t ht hW => ⟨⟨(-6), _, rfl, Or.inl (⟨by have h90 : Int32.toInt (-6) = -6 := (by decide); have h91 : Int32.toInt 1 = 1 := (by decide); have h92 : Int32.toInt 3 = 3 := (by decide); omega, rfl, rfl⟩), by rw [ht]; exact hP, hD⟩, hS.F ht⟩) hS.2.2 dX9_paste_51

set_option maxHeartbeats 4000000 in
set_option maxRecDepth 100000 in
theorem fpaste20 (l : Launch) (G : va_G) (y : Nat → ClassId) (sz : Nat) (ob : Nat) (a2 : Int32) (a4 : Int32) (a5 : Int32) (ob_tape : Nat) (ob_tapeSize : Int32) (ob_reader : Nat) (ob_state : Nat) (ob_images : Nat) (ob_slots : Nat) (ob_rounds : Nat) (ob_ways : Nat) (ob_otherDebts : Nat) (ob_otherKnows : Nat) (ob_slots0 : Nat) (ob_slots1 : Nat) (ob_slots2 : Nat) (ob_slots3 : Nat) (ob_slots0_filled : Int32) (ob_slots0_width : Int32) (ob_slots0_size : Int32) (ob_slots0_numbers : Nat) (fob_slots0_numbers : Nat → Int64) (ob_slots2_filled : Int32) (ob_slots2_width : Int32) (ob_slots2_size : Int32) (ob_slots2_numbers : Nat) (fob_slots2_numbers : Nat → Int64) (p_ob_tapeSize : (0 : Int) ≤ ob_tapeSize.toInt ∧ ob_tapeSize.toInt ≤ 1400) (p_ob_slots0_filled : (0 : Int) ≤ ob_slots0_filled.toInt ∧ ob_slots0_filled.toInt ≤ 1) (p_ob_slots0_size : (0 : Int) ≤ ob_slots0_size.toInt ∧ ob_slots0_size.toInt ≤ 60) (p_ob_slots2_filled : (0 : Int) ≤ ob_slots2_filled.toInt ∧ ob_slots2_filled.toInt ≤ 1) (p_ob_slots2_size : (0 : Int) ≤ ob_slots2_size.toInt ∧ ob_slots2_size.toInt ≤ 60) : Met l yX9_paste (Cond.code yX9_paste cX9_paste 8 (some .int) :: wAll) ({ frames := 1, cells := 0, slots := 0, locals := 72 }) (va_Pc [.ref ob, .int 2, .int a2, .int 0, .int a4, .int a5] (kp G y sz [(ce_X9 ob ob_tape ob_tapeSize ob_reader ob_state ob_images ob_slots ob_rounds ob_ways ob_otherDebts ob_otherKnows), (ce_q4 y ob_slots (va_up (va_up (va_up (va_up (fun _ => none) 0 (some ob_slots0)) 1 (some ob_slots1)) 2 (some ob_slots2)) 3 (some ob_slots3))), (ce_X5 ob_slots0 ob_slots0_filled ob_slots0_width ob_slots0_size ob_slots0_numbers), (ce_l60 y ob_slots0_numbers fob_slots0_numbers), (ce_X5 ob_slots2 ob_slots2_filled ob_slots2_width ob_slots2_size ob_slots2_numbers), (ce_l60 y ob_slots2_numbers fob_slots2_numbers)])) (va_Qi (fun (r : Int32) (w : va_W) => ((ob_slots2_filled.toInt = 0 ∨ ob_slots0_filled.toInt = 0) ∧ r = (-6) ∧ w = [(ce_X9 ob ob_tape ob_tapeSize ob_reader ob_state ob_images ob_slots ob_rounds ob_ways ob_otherDebts ob_otherKnows), (ce_q4 y ob_slots (va_up (va_up (va_up (va_up (fun _ => none) 0 (some ob_slots0)) 1 (some ob_slots1)) 2 (some ob_slots2)) 3 (some ob_slots3))), (ce_X5 ob_slots0 ob_slots0_filled ob_slots0_width ob_slots0_size ob_slots0_numbers), (ce_l60 y ob_slots0_numbers fob_slots0_numbers), (ce_X5 ob_slots2 ob_slots2_filled ob_slots2_width ob_slots2_size ob_slots2_numbers), (ce_l60 y ob_slots2_numbers fob_slots2_numbers)]) ∨ (((1 : Int) ≤ ob_slots0_filled.toInt ∧ ob_slots0_filled.toInt ≤ 1) ∧ ((1 : Int) ≤ ob_slots2_filled.toInt ∧ ob_slots2_filled.toInt ≤ 1) ∧ (ob_slots2_filled.toInt = 1 ∧ ob_slots0_filled.toInt = 1 ∧ ob_slots2_width.toInt = ob_slots0_width.toInt ∧ ¬ (0 ≤ a2.toInt ∧ 0 ≤ a4.toInt ∧ 0 ≤ a5.toInt ∧ a2.toInt + a5.toInt ≤ ob_slots2_size.toInt ∧ a4.toInt + a5.toInt ≤ ob_slots0_size.toInt)) ∧ r = (-7) ∧ w = [(ce_X9 ob ob_tape ob_tapeSize ob_reader ob_state ob_images ob_slots ob_rounds ob_ways ob_otherDebts ob_otherKnows), (ce_q4 y ob_slots (va_up (va_up (va_up (va_up (fun _ => none) 0 (some ob_slots0)) 1 (some ob_slots1)) 2 (some ob_slots2)) 3 (some ob_slots3))), (ce_X5 ob_slots0 ob_slots0_filled ob_slots0_width ob_slots0_size ob_slots0_numbers), (ce_l60 y ob_slots0_numbers fob_slots0_numbers), (ce_X5 ob_slots2 ob_slots2_filled ob_slots2_width ob_slots2_size ob_slots2_numbers), (ce_l60 y ob_slots2_numbers fob_slots2_numbers)]) ∨ (((1 : Int) ≤ ob_slots0_filled.toInt ∧ ob_slots0_filled.toInt ≤ 1) ∧ ((1 : Int) ≤ ob_slots2_filled.toInt ∧ ob_slots2_filled.toInt ≤ 1) ∧ (ob_slots2_filled.toInt = 1 ∧ ob_slots0_filled.toInt = 1 ∧ ¬ ob_slots2_width.toInt = ob_slots0_width.toInt) ∧ r = (-8) ∧ w = [(ce_X9 ob ob_tape ob_tapeSize ob_reader ob_state ob_images ob_slots ob_rounds ob_ways ob_otherDebts ob_otherKnows), (ce_q4 y ob_slots (va_up (va_up (va_up (va_up (fun _ => none) 0 (some ob_slots0)) 1 (some ob_slots1)) 2 (some ob_slots2)) 3 (some ob_slots3))), (ce_X5 ob_slots0 ob_slots0_filled ob_slots0_width ob_slots0_size ob_slots0_numbers), (ce_l60 y ob_slots0_numbers fob_slots0_numbers), (ce_X5 ob_slots2 ob_slots2_filled ob_slots2_width ob_slots2_size ob_slots2_numbers), (ce_l60 y ob_slots2_numbers fob_slots2_numbers)]) ∨ (∃ (f_45 : Nat → Int64), ((0 : Int) ≤ a2.toInt ∧ a2.toInt ≤ 60) ∧ ((0 : Int) ≤ a4.toInt ∧ a4.toInt ≤ 60) ∧ ((0 : Int) ≤ a5.toInt ∧ a5.toInt ≤ 60) ∧ ((1 : Int) ≤ ob_slots0_filled.toInt ∧ ob_slots0_filled.toInt ≤ 1) ∧ ((1 : Int) ≤ ob_slots2_filled.toInt ∧ ob_slots2_filled.toInt ≤ 1) ∧ (ob_slots2_filled.toInt = 1 ∧ ob_slots0_filled.toInt = 1 ∧ ob_slots2_width.toInt = ob_slots0_width.toInt ∧ 0 ≤ a2.toInt ∧ 0 ≤ a4.toInt ∧ 0 ≤ a5.toInt ∧ a2.toInt + a5.toInt ≤ ob_slots2_size.toInt ∧ a4.toInt + a5.toInt ≤ ob_slots0_size.toInt) ∧ r = 0 ∧ w = [(ce_X9 ob ob_tape ob_tapeSize ob_reader ob_state ob_images ob_slots ob_rounds ob_ways ob_otherDebts ob_otherKnows), (ce_q4 y ob_slots (va_up (va_up (va_up (va_up (fun _ => none) 0 (some ob_slots0)) 1 (some ob_slots1)) 2 (some ob_slots2)) 3 (some ob_slots3))), (ce_X5 ob_slots0 ob_slots0_filled ob_slots0_width ob_slots0_size ob_slots0_numbers), (ce_l60 y ob_slots0_numbers f_45), (ce_X5 ob_slots2 ob_slots2_filled ob_slots2_width ob_slots2_size ob_slots2_numbers), (ce_l60 y ob_slots2_numbers fob_slots2_numbers)])) (kq G (va_A [(ce_X9 ob ob_tape ob_tapeSize ob_reader ob_state ob_images ob_slots ob_rounds ob_ways ob_otherDebts ob_otherKnows), (ce_q4 y ob_slots (va_up (va_up (va_up (va_up (fun _ => none) 0 (some ob_slots0)) 1 (some ob_slots1)) 2 (some ob_slots2)) 3 (some ob_slots3))), (ce_X5 ob_slots0 ob_slots0_filled ob_slots0_width ob_slots0_size ob_slots0_numbers), (ce_l60 y ob_slots0_numbers fob_slots0_numbers), (ce_X5 ob_slots2 ob_slots2_filled ob_slots2_width ob_slots2_size ob_slots2_numbers), (ce_l60 y ob_slots2_numbers fob_slots2_numbers)] sz)) (va_A [(ce_X9 ob ob_tape ob_tapeSize ob_reader ob_state ob_images ob_slots ob_rounds ob_ways ob_otherDebts ob_otherKnows), (ce_q4 y ob_slots (va_up (va_up (va_up (va_up (fun _ => none) 0 (some ob_slots0)) 1 (some ob_slots1)) 2 (some ob_slots2)) 3 (some ob_slots3))), (ce_X5 ob_slots0 ob_slots0_filled ob_slots0_width ob_slots0_size ob_slots0_numbers), (ce_l60 y ob_slots0_numbers fob_slots0_numbers), (ce_X5 ob_slots2 ob_slots2_filled ob_slots2_width ob_slots2_size ob_slots2_numbers), (ce_l60 y ob_slots2_numbers fob_slots2_numbers)] sz)) 0 0 (va_A [(ce_X9 ob ob_tape ob_tapeSize ob_reader ob_state ob_images ob_slots ob_rounds ob_ways ob_otherDebts ob_otherKnows), (ce_q4 y ob_slots (va_up (va_up (va_up (va_up (fun _ => none) 0 (some ob_slots0)) 1 (some ob_slots1)) 2 (some ob_slots2)) 3 (some ob_slots3))), (ce_X5 ob_slots0 ob_slots0_filled ob_slots0_width ob_slots0_size ob_slots0_numbers), (ce_l60 y ob_slots0_numbers fob_slots0_numbers), (ce_X5 ob_slots2 ob_slots2_filled ob_slots2_width ob_slots2_size ob_slots2_numbers), (ce_l60 y ob_slots2_numbers fob_slots2_numbers)] sz) := by
  refine Met.ofW (cc := cX9_paste) (maxL := 8) (ret := (some .int)) (by decide) rfl ?_
  intro p e s m args below meth c s₁ B hml hv
  obtain ⟨rfl, hsz, hP, hK, hD0⟩ := hv
  have hx := B.exec
  have hb := B.bytes
  have hr := B.returns
  have hw0 : ∀ w ∈ wAll, w.before _ s = true := fun w h => atoms_spec (ws := Cond.code yX9_paste cX9_paste 8 (some .int) :: wAll) B.pre w (List.mem_cons_of_mem _ h)
  have hown : s.vm.findClass RX9 = some m.cls := findClass_of_methodNamed B.named
  subst hsz
  have hD := hD0.self (sz := s.heap.size)
  generalize hAe : va_A [(ce_X9 ob ob_tape ob_tapeSize ob_reader ob_state ob_images ob_slots ob_rounds ob_ways ob_otherDebts ob_otherKnows), (ce_q4 y ob_slots (va_up (va_up (va_up (va_up (fun _ => none) 0 (some ob_slots0)) 1 (some ob_slots1)) 2 (some ob_slots2)) 3 (some ob_slots3))), (ce_X5 ob_slots0 ob_slots0_filled ob_slots0_width ob_slots0_size ob_slots0_numbers), (ce_l60 y ob_slots0_numbers fob_slots0_numbers), (ce_X5 ob_slots2 ob_slots2_filled ob_slots2_width ob_slots2_size ob_slots2_numbers), (ce_l60 y ob_slots2_numbers fob_slots2_numbers)] s.heap.size = A at hD ⊢
  have hA : ∀ q : Nat, s.heap.size ≤ q → A q := fun q h => by rw [← hAe]; exact Or.inr h
  have hS : va_S A s.heap s.heap [] := va_S.rf
  have hP : va_P G vwCl [(ce_X9 ob ob_tape ob_tapeSize ob_reader ob_state ob_images ob_slots ob_rounds ob_ways ob_otherDebts ob_otherKnows), (ce_q4 y ob_slots (va_up (va_up (va_up (va_up (fun _ => none) 0 (some ob_slots0)) 1 (some ob_slots1)) 2 (some ob_slots2)) 3 (some ob_slots3))), (ce_X5 ob_slots0 ob_slots0_filled ob_slots0_width ob_slots0_size ob_slots0_numbers), (ce_l60 y ob_slots0_numbers fob_slots0_numbers), (ce_X5 ob_slots2 ob_slots2_filled ob_slots2_width ob_slots2_size ob_slots2_numbers), (ce_l60 y ob_slots2_numbers fob_slots2_numbers)] s.heap := hP
  have hl := lv_entry ([.ref ob, .int 2, .int a2, .int 0, .int a4, .int a5]) (n := 8) (Nat.le_of_ble_eq_true rfl)
  rw [lg_entry_eq]
  generalize (lg_sl ([.ref ob, .int 2, .int a2, .int 0, .int a4, .int a5]) ++ List.replicate (8 - (lg_sl ([.ref ob, .int 2, .int a2, .int 0, .int a4, .int a5])).length) Slot.unset).toArray = ls at hl ⊢
  have hl : lv_has ls 8 [(0, .ref ob), (1, .int 2), (2, .int a2), (3, .int 0), (4, .int a4), (5, .int a5)] := hl
  refine lv_iload_n hx hb dX9_paste_0 rfl (lv_at hl 1 rfl) ?_
  refine cSim (As := [.int 2]) (rest := []) ⟨hx, hb, hml, hown, hw0⟩ hA hK hP hD hS [] (fisSlot l G y _ 2 ) rfl ⟨(callB_of 1 hw0 (gA m_1260) rfl rfl rfl (hw0 _ m_36) (hw0 _ m_1189) cb_X9_isSlot ⟨Nat.le_of_ble_eq_true rfl, Nat.le_of_ble_eq_true rfl⟩), (hw0 _ m_1190)⟩ rfl hl.1 (Nat.le_of_ble_eq_true rfl) dX9_paste_1 ⟨Nat.le_of_ble_eq_true rfl, Nat.le_of_ble_eq_true rfl⟩ (fun r_1001 w_1001 H locs hw_1001 hP hD hS => ?_)
  rcases hw_1001 with ⟨h_1002, rfl, rfl⟩ | ⟨h_1003, h_1004, rfl, rfl⟩
  · skip
    exact False.elim (by have h9 : Int32.toInt 2 = 2 := (by decide); omega)
  · skip
    obtain ⟨hP, hD⟩ : vPD G A H [(ce_X9 ob ob_tape ob_tapeSize ob_reader ob_state ob_images ob_slots ob_rounds ob_ways ob_otherDebts ob_otherKnows), (ce_q4 y ob_slots (va_up (va_up (va_up (va_up (fun _ => none) 0 (some ob_slots0)) 1 (some ob_slots1)) 2 (some ob_slots2)) 3 (some ob_slots3))), (ce_X5 ob_slots0 ob_slots0_filled ob_slots0_width ob_slots0_size ob_slots0_numbers), (ce_l60 y ob_slots0_numbers fob_slots0_numbers), (ce_X5 ob_slots2 ob_slots2_filled ob_slots2_width ob_slots2_size ob_slots2_numbers), (ce_l60 y ob_slots2_numbers fob_slots2_numbers)] := ⟨hP, hD⟩
    refine lv_if_eq (tgt := 14) hx hb dX9_paste_4 (by decide) (fun c9 => absurd c9 (by decide)) (fun _ => ?_)
    refine lv_iload_n hx hb dX9_paste_7 rfl (lv_at hl 3 rfl) ?_
    refine cSim (As := [.int 0]) (rest := []) ⟨hx, hb, hml, hown, hw0⟩ hA hK hP hD hS [] (fisSlot l G y _ 0 ) rfl ⟨(callB_of 1 hw0 (gA m_1260) rfl rfl rfl (hw0 _ m_36) (hw0 _ m_1189) cb_X9_isSlot ⟨Nat.le_of_ble_eq_true rfl, Nat.le_of_ble_eq_true rfl⟩), (hw0 _ m_1190)⟩ rfl hl.1 (Nat.le_of_ble_eq_true rfl) dX9_paste_8 ⟨Nat.le_of_ble_eq_true rfl, Nat.le_of_ble_eq_true rfl⟩ (fun r_1005 w_1005 H locs hw_1005 hP hD hS => ?_)
    rcases hw_1005 with ⟨h_1006, rfl, rfl⟩ | ⟨h_1007, h_1008, rfl, rfl⟩
    · skip
      exact False.elim (by have h9 : Int32.toInt 0 = 0 := (by decide); omega)
    · skip
      obtain ⟨hP, hD⟩ : vPD G A H [(ce_X9 ob ob_tape ob_tapeSize ob_reader ob_state ob_images ob_slots ob_rounds ob_ways ob_otherDebts ob_otherKnows), (ce_q4 y ob_slots (va_up (va_up (va_up (va_up (fun _ => none) 0 (some ob_slots0)) 1 (some ob_slots1)) 2 (some ob_slots2)) 3 (some ob_slots3))), (ce_X5 ob_slots0 ob_slots0_filled ob_slots0_width ob_slots0_size ob_slots0_numbers), (ce_l60 y ob_slots0_numbers fob_slots0_numbers), (ce_X5 ob_slots2 ob_slots2_filled ob_slots2_width ob_slots2_size ob_slots2_numbers), (ce_l60 y ob_slots2_numbers fob_slots2_numbers)] := ⟨hP, hD⟩
      refine lv_if_ne (tgt := 17) hx hb dX9_paste_11 (by decide) (fun _ => ?_) (fun c9 => absurd c9 (by decide))
      refine lv_aload_n hx hb dX9_paste_17 rfl (lv_at hl 0 rfl) ?_
      refine va_get (D := G) (ci := 9) (v := .ref ob_slots) (C := RX9) (T := TX9) (N := 10) hx hb hw0 inA_wsX90 hown hK.1 hP 0 rfl rfl 5 (by decide) (hw0 _ m_1191) (fun _ h9 => h9) rfl dX9_paste_18 ?_
      refine lv_iload_n hx hb dX9_paste_21 rfl (lv_at hl 1 rfl) ?_
      refine va_aldq hx hb hK.1 hP 1 4 rfl rfl (vi (bkc (x := 2) (c := 2) (by decide)) (by decide)) dX9_paste_22 ?_
      refine W.eq (g2 := F0 m 23 ls [.ref ob_slots2]) rfl ?_
      refine lv_astore (lv' := [(6, .ref ob_slots2), (0, .ref ob), (1, .int 2), (2, .int a2), (3, .int 0), (4, .int a4), (5, .int a5)]) hx hb dX9_paste_23 hl (by decide) rfl (fun ls hl => ?_)
      refine lv_aload_n hx hb dX9_paste_25 rfl (lv_at hl 1 rfl) ?_
      refine va_get (D := G) (ci := 9) (v := .ref ob_slots) (C := RX9) (T := TX9) (N := 10) hx hb hw0 inA_wsX90 hown hK.1 hP 0 rfl rfl 5 (by decide) (hw0 _ m_1191) (fun _ h9 => h9) rfl dX9_paste_26 ?_
      refine lv_iload_n hx hb dX9_paste_29 rfl (lv_at hl 4 rfl) ?_
      refine va_aldq hx hb hK.1 hP 1 4 rfl rfl (vi (bkc (x := 0) (c := 0) (by decide)) (by decide)) dX9_paste_30 ?_
      refine W.eq (g2 := F0 m 31 ls [.ref ob_slots0]) rfl ?_
      refine lv_astore (lv' := [(7, .ref ob_slots0), (6, .ref ob_slots2), (0, .ref ob), (1, .int 2), (2, .int a2), (3, .int 0), (4, .int a4), (5, .int a5)]) hx hb dX9_paste_31 hl (by decide) rfl (fun ls hl => ?_)
      refine lv_aload hx hb dX9_paste_33 (lv_at hl 1 rfl) ?_
      refine va_get (D := G) (ci := 5) (v := .int ob_slots2_filled) (C := RX5) (T := TX5) (N := 4) hx hb hw0 inA_wsX50 hown hK.1 hP 4 rfl rfl 0 (by decide) (hw0 _ m_1192) (fun _ h9 => h9) rfl dX9_paste_35 ?_
      refine lv_if_eq (tgt := 49) hx hb dX9_paste_38 (by decide) (fun c_1009 => ?_) (fun c_1009 => ?_)
      · skip
        have nc_1009 := nb_eq (0) (0) c_1009 p_ob_slots2_filled (bkc (x := 0) (c := 0) (by decide)) (by decide)
        refine lv_bipush (v := (-6)) hx hb dX9_paste_49 (by decide) ?_
        exact W.iret (v := (-6)) hx hb hr (fun t ht hW => ⟨⟨(-6), _, rfl, Or.inl (⟨by have h90 : Int32.toInt (-6) = -6 := (by decide); have h91 : Int32.toInt 0 = 0 := (by decide); have h92 : Int32.toInt 2 = 2 := (by decide); omega, rfl, rfl⟩), by rw [ht]; exact hP, hD⟩, hS.F ht⟩) hS.2.2 dX9_paste_51
      · skip
        have nc_1009 := nb_ne (1) (1) c_1009 p_ob_slots2_filled (k := 0) (by decide) (by decide)
        refine lv_aload hx hb dX9_paste_41 (lv_at hl 0 rfl) ?_
        refine va_get (D := G) (ci := 5) (v := .int ob_slots0_filled) (C := RX5) (T := TX5) (N := 4) hx hb hw0 inA_wsX50 hown hK.1 hP 2 rfl rfl 0 (by decide) (hw0 _ m_1192) (fun _ h9 => h9) rfl dX9_paste_43 ?_
        refine lv_if_ne (tgt := 52) hx hb dX9_paste_46 (by decide) (fun c_1010 => ?_) (fun c_1010 => ?_)
        · skip
          have nc_1010 := nb_ne (1) (1) c_1010 p_ob_slots0_filled (k := 0) (by decide) (by decide)
          refine lv_aload hx hb dX9_paste_52 (lv_at hl 1 rfl) ?_
          refine va_get (D := G) (ci := 5) (v := .int ob_slots2_width) (C := RX5) (T := TX5) (N := 4) hx hb hw0 inA_wsX50 hown hK.1 hP 4 rfl rfl 1 (by decide) (hw0 _ m_1289) (fun _ h9 => h9) rfl dX9_paste_54 ?_
          refine lv_aload hx hb dX9_paste_57 (lv_at hl 0 rfl) ?_
          refine va_get (D := G) (ci := 5) (v := .int ob_slots0_width) (C := RX5) (T := TX5) (N := 4) hx hb hw0 inA_wsX50 hown hK.1 hP 2 rfl rfl 1 (by decide) (hw0 _ m_1289) (fun _ h9 => h9) rfl dX9_paste_59 ?_
          refine lv_icmp_eq (tgt := 68) hx hb dX9_paste_62 (by decide) (fun c_1011 => ?_) (fun c_1011 => ?_)
          · skip
            have nc_1011 := nb_eq (-2147483648) (2147483647) c_1011 (btop ob_slots2_width) (btop ob_slots0_width) (by decide)
            refine lv_aload hx hb dX9_paste_68 (lv_at hl 1 rfl) ?_
            refine lv_iload_n hx hb dX9_paste_70 rfl (lv_at hl 4 rfl) ?_
            refine lv_iload hx hb dX9_paste_71 (lv_at hl 7 rfl) ?_
            refine cVim (As := [.int a2, .int a5]) (rest := []) ⟨hx, hb, hml, hown, hw0⟩ hA hK hP hD hS [false, false, false, false, true] (sX5_hasRun l G y _ ob_slots2 a2 a5 ob_slots2_filled ob_slots2_width ob_slots2_size ob_slots2_numbers (bw (0) (1) nc_1009.1 (by decide)) p_ob_slots2_size) rfl ⟨(callB_of 2 hw0 (gA m_941) rfl rfl rfl (hw0 _ m_858) (hw0 _ m_1290) cb_X5_hasRun ⟨Nat.le_of_ble_eq_true rfl, Nat.le_of_ble_eq_true rfl⟩), (hw0 _ m_1291), (hw0 _ m_1292)⟩ (ci := 5) (q := (RX5, TX5, 4)) rfl rfl rfl hl.1 (Nat.le_of_ble_eq_true rfl) dX9_paste_73 ⟨Nat.le_of_ble_eq_true rfl, Nat.le_of_ble_eq_true rfl⟩ (fun r_1012 w_1012 H locs hw_1012 hP hD hS => ?_)
            rcases hw_1012 with ⟨h_1013, rfl, rfl⟩ | ⟨h_1014, h_1015, h_1016, rfl, rfl⟩
            · skip
              obtain ⟨hP, hD⟩ : vPD G A H [(ce_X9 ob ob_tape ob_tapeSize ob_reader ob_state ob_images ob_slots ob_rounds ob_ways ob_otherDebts ob_otherKnows), (ce_q4 y ob_slots (va_up (va_up (va_up (va_up (fun _ => none) 0 (some ob_slots0)) 1 (some ob_slots1)) 2 (some ob_slots2)) 3 (some ob_slots3))), (ce_X5 ob_slots0 ob_slots0_filled ob_slots0_width ob_slots0_size ob_slots0_numbers), (ce_l60 y ob_slots0_numbers fob_slots0_numbers), (ce_X5 ob_slots2 ob_slots2_filled ob_slots2_width ob_slots2_size ob_slots2_numbers), (ce_l60 y ob_slots2_numbers fob_slots2_numbers)] := ⟨hP, hD⟩
              refine lv_if_eq (tgt := 91) hx hb dX9_paste_76 (by decide) (fun _ => ?_) (fun c9 => absurd (by decide) c9)
              refine lv_bipush (v := (-7)) hx hb dX9_paste_91 (by decide) ?_
              exact W.iret (v := (-7)) hx hb hr (fun t ht hW => ⟨⟨(-7), _, rfl, Or.inr (Or.inl (⟨nc_1010.1, nc_1009.1, by have h90 : Int32.toInt (-7) = -7 := (by decide); have h91 : Int32.toInt 0 = 0 := (by decide); have h92 : Int32.toInt 2 = 2 := (by decide); omega, rfl, rfl⟩)), by rw [ht]; exact hP, hD⟩, hS.F ht⟩) hS.2.2 dX9_paste_93
            · skip
              obtain ⟨hP, hD⟩ : vPD G A H [(ce_X9 ob ob_tape ob_tapeSize ob_reader ob_state ob_images ob_slots ob_rounds ob_ways ob_otherDebts ob_otherKnows), (ce_q4 y ob_slots (va_up (va_up (va_up (va_up (fun _ => none) 0 (some ob_slots0)) 1 (some ob_slots1)) 2 (some ob_slots2)) 3 (some ob_slots3))), (ce_X5 ob_slots0 ob_slots0_filled ob_slots0_width ob_slots0_size ob_slots0_numbers), (ce_l60 y ob_slots0_numbers fob_slots0_numbers), (ce_X5 ob_slots2 ob_slots2_filled ob_slots2_width ob_slots2_size ob_slots2_numbers), (ce_l60 y ob_slots2_numbers fob_slots2_numbers)] := ⟨hP, hD⟩
              refine lv_if_eq (tgt := 91) hx hb dX9_paste_76 (by decide) (fun c9 => absurd c9 (by decide)) (fun _ => ?_)
              refine lv_aload hx hb dX9_paste_79 (lv_at hl 0 rfl) ?_
              refine lv_iload hx hb dX9_paste_81 (lv_at hl 6 rfl) ?_
              refine lv_iload hx hb dX9_paste_83 (lv_at hl 7 rfl) ?_
              refine cVim (As := [.int a4, .int a5]) (rest := []) ⟨hx, hb, hml, hown, hw0⟩ hA hK hP hD hS [false, false, true] (sX5_hasRun l G y _ ob_slots0 a4 a5 ob_slots0_filled ob_slots0_width ob_slots0_size ob_slots0_numbers (bw (0) (1) nc_1010.1 (by decide)) p_ob_slots0_size) rfl ⟨(callB_of 2 hw0 (gA m_941) rfl rfl rfl (hw0 _ m_858) (hw0 _ m_1290) cb_X5_hasRun ⟨Nat.le_of_ble_eq_true rfl, Nat.le_of_ble_eq_true rfl⟩), (hw0 _ m_1291), (hw0 _ m_1292)⟩ (ci := 5) (q := (RX5, TX5, 4)) rfl rfl rfl hl.1 (Nat.le_of_ble_eq_true rfl) dX9_paste_85 ⟨Nat.le_of_ble_eq_true rfl, Nat.le_of_ble_eq_true rfl⟩ (fun r_1017 w_1017 H locs hw_1017 hP hD hS => ?_)
              rcases hw_1017 with ⟨h_1018, rfl, rfl⟩ | ⟨h_1019, h_1020, h_1021, rfl, rfl⟩
              · skip
                obtain ⟨hP, hD⟩ : vPD G A H [(ce_X9 ob ob_tape ob_tapeSize ob_reader ob_state ob_images ob_slots ob_rounds ob_ways ob_otherDebts ob_otherKnows), (ce_q4 y ob_slots (va_up (va_up (va_up (va_up (fun _ => none) 0 (some ob_slots0)) 1 (some ob_slots1)) 2 (some ob_slots2)) 3 (some ob_slots3))), (ce_X5 ob_slots0 ob_slots0_filled ob_slots0_width ob_slots0_size ob_slots0_numbers), (ce_l60 y ob_slots0_numbers fob_slots0_numbers), (ce_X5 ob_slots2 ob_slots2_filled ob_slots2_width ob_slots2_size ob_slots2_numbers), (ce_l60 y ob_slots2_numbers fob_slots2_numbers)] := ⟨hP, hD⟩
                refine lv_if_ne (tgt := 94) hx hb dX9_paste_88 (by decide) (fun c9 => absurd (by decide) c9) (fun _ => ?_)
                refine lv_bipush (v := (-7)) hx hb dX9_paste_91 (by decide) ?_
                exact W.iret (v := (-7)) hx hb hr (fun t ht hW => ⟨⟨(-7), _, rfl, Or.inr (Or.inl (⟨nc_1010.1, nc_1009.1, by have h90 : Int32.toInt (-7) = -7 := (by decide); have h91 : Int32.toInt 0 = 0 := (by decide); have h92 : Int32.toInt 2 = 2 := (by decide); omega, rfl, rfl⟩)), by rw [ht]; exact hP, hD⟩, hS.F ht⟩) hS.2.2 dX9_paste_93
              · skip
                obtain ⟨hP, hD⟩ : vPD G A H [(ce_X9 ob ob_tape ob_tapeSize ob_reader ob_state ob_images ob_slots ob_rounds ob_ways ob_otherDebts ob_otherKnows), (ce_q4 y ob_slots (va_up (va_up (va_up (va_up (fun _ => none) 0 (some ob_slots0)) 1 (some ob_slots1)) 2 (some ob_slots2)) 3 (some ob_slots3))), (ce_X5 ob_slots0 ob_slots0_filled ob_slots0_width ob_slots0_size ob_slots0_numbers), (ce_l60 y ob_slots0_numbers fob_slots0_numbers), (ce_X5 ob_slots2 ob_slots2_filled ob_slots2_width ob_slots2_size ob_slots2_numbers), (ce_l60 y ob_slots2_numbers fob_slots2_numbers)] := ⟨hP, hD⟩
                refine lv_if_ne (tgt := 94) hx hb dX9_paste_88 (by decide) (fun _ => ?_) (fun c9 => absurd c9 (by decide))
                refine lv_aload hx hb dX9_paste_94 (lv_at hl 1 rfl) ?_
                refine va_get (D := G) (ci := 5) (v := .ref ob_slots2_numbers) (C := RX5) (T := TX5) (N := 4) hx hb hw0 inA_wsX50 hown hK.1 hP 4 rfl rfl 3 (by decide) (hw0 _ m_1293) (fun _ h9 => h9) rfl dX9_paste_96 ?_
                refine lv_iload_n hx hb dX9_paste_99 rfl (lv_at hl 4 rfl) ?_
                refine lv_aload hx hb dX9_paste_100 (lv_at hl 0 rfl) ?_
                refine va_get (D := G) (ci := 5) (v := .ref ob_slots0_numbers) (C := RX5) (T := TX5) (N := 4) hx hb hw0 inA_wsX50 hown hK.1 hP 2 rfl rfl 3 (by decide) (hw0 _ m_1293) (fun _ h9 => h9) rfl dX9_paste_102 ?_
                refine lv_iload hx hb dX9_paste_105 (lv_at hl 6 rfl) ?_
                refine lv_iload hx hb dX9_paste_107 (lv_at hl 7 rfl) ?_
                refine va_copyl (own := RX9) hx hb (by rw [hml]; exact hl.1.symm) hown (hw0 _ m_1294) (hw0 _ m_272) (hw0 _ m_273) (hw0 _ m_274) hK.1 hP hD hS 5 3 2 2 rfl rfl rfl rfl rfl (cy_n h_1014 (by decide)) (cy_n h_1019 (by decide)) (cy_n h_1015 (by decide)) (cy_g h_1014 h_1015 (by decide) (by decide) (by omega)) (cy_g h_1019 h_1015 (by decide) (by decide) (by omega)) (fun i hi => rfl) (Nat.le_of_ble_eq_true rfl) (by decide) dX9_paste_109 (fun H locs hP hD hS => ?_)
                generalize hf_1022 : (va_cpy fob_slots2_numbers fob_slots0_numbers (a2 : Int32).toNatClampNeg (a4 : Int32).toNatClampNeg (a5 : Int32).toNatClampNeg) = f_1022 at hP hD
                obtain ⟨hP, hD⟩ : vPD G A H [(ce_X9 ob ob_tape ob_tapeSize ob_reader ob_state ob_images ob_slots ob_rounds ob_ways ob_otherDebts ob_otherKnows), (ce_q4 y ob_slots (va_up (va_up (va_up (va_up (fun _ => none) 0 (some ob_slots0)) 1 (some ob_slots1)) 2 (some ob_slots2)) 3 (some ob_slots3))), (ce_X5 ob_slots0 ob_slots0_filled ob_slots0_width ob_slots0_size ob_slots0_numbers), (ce_l60 y ob_slots0_numbers f_1022), (ce_X5 ob_slots2 ob_slots2_filled ob_slots2_width ob_slots2_size ob_slots2_numbers), (ce_l60 y ob_slots2_numbers fob_slots2_numbers)] := ⟨hP, hD⟩
                refine lv_iconst (v := 0) hx hb dX9_paste_112 (by decide) ?_
                exact W.iret (v := 0) hx hb hr (fun t ht hW => ⟨⟨0, _, rfl, Or.inr (Or.inr (Or.inr (⟨f_1022, h_1014, h_1019, h_1015, nc_1010.1, nc_1009.1, by have h90 : Int32.toInt 0 = 0 := (by decide); have h91 : Int32.toInt 2 = 2 := (by decide); omega, rfl, rfl⟩))), by rw [ht]; exact hP, hD⟩, hS.F ht⟩) hS.2.2 dX9_paste_113
          · skip
            have nc_1011 : ob_slots2_width.toInt ≠ ob_slots0_width.toInt := fun h9 => c_1011 (Int32.toInt_inj.mp h9)
            refine lv_bipush (v := (-8)) hx hb dX9_paste_65 (by decide) ?_
            exact W.iret (v := (-8)) hx hb hr (fun t ht hW => ⟨⟨(-8), _, rfl, Or.inr (Or.inr (Or.inl (⟨nc_1010.1, nc_1009.1, by have h90 : Int32.toInt (-8) = -8 := (by decide); have h91 : Int32.toInt 0 = 0 := (by decide); have h92 : Int32.toInt 2 = 2 := (by decide); omega, rfl, rfl⟩))), by rw [ht]; exact hP, hD⟩, hS.F ht⟩) hS.2.2 dX9_paste_67
        · skip
          have nc_1010 := nb_eq (0) (0) c_1010 p_ob_slots0_filled (bkc (x := 0) (c := 0) (by decide)) (by decide)
          refine lv_bipush (v := (-6)) hx hb dX9_paste_49 (by decide) ?_
          exact W.iret (v := (-6)) hx hb hr (fun t ht hW => ⟨⟨(-6), _, rfl, Or.inl (⟨by have h90 : Int32.toInt (-6) = -6 := (by decide); have h91 : Int32.toInt 0 = 0 := (by decide); have h92 : Int32.toInt 2 = 2 := (by decide); omega, rfl, rfl⟩), by rw [ht]; exact hP, hD⟩, hS.F ht⟩) hS.2.2 dX9_paste_51

set_option maxHeartbeats 4000000 in
set_option maxRecDepth 100000 in
theorem fpaste21 (l : Launch) (G : va_G) (y : Nat → ClassId) (sz : Nat) (ob : Nat) (a2 : Int32) (a4 : Int32) (a5 : Int32) (ob_tape : Nat) (ob_tapeSize : Int32) (ob_reader : Nat) (ob_state : Nat) (ob_images : Nat) (ob_slots : Nat) (ob_rounds : Nat) (ob_ways : Nat) (ob_otherDebts : Nat) (ob_otherKnows : Nat) (ob_slots0 : Nat) (ob_slots1 : Nat) (ob_slots2 : Nat) (ob_slots3 : Nat) (ob_slots1_filled : Int32) (ob_slots1_width : Int32) (ob_slots1_size : Int32) (ob_slots1_numbers : Nat) (fob_slots1_numbers : Nat → Int64) (ob_slots2_filled : Int32) (ob_slots2_width : Int32) (ob_slots2_size : Int32) (ob_slots2_numbers : Nat) (fob_slots2_numbers : Nat → Int64) (p_ob_tapeSize : (0 : Int) ≤ ob_tapeSize.toInt ∧ ob_tapeSize.toInt ≤ 1400) (p_ob_slots1_filled : (0 : Int) ≤ ob_slots1_filled.toInt ∧ ob_slots1_filled.toInt ≤ 1) (p_ob_slots1_size : (0 : Int) ≤ ob_slots1_size.toInt ∧ ob_slots1_size.toInt ≤ 60) (p_ob_slots2_filled : (0 : Int) ≤ ob_slots2_filled.toInt ∧ ob_slots2_filled.toInt ≤ 1) (p_ob_slots2_size : (0 : Int) ≤ ob_slots2_size.toInt ∧ ob_slots2_size.toInt ≤ 60) : Met l yX9_paste (Cond.code yX9_paste cX9_paste 8 (some .int) :: wAll) ({ frames := 1, cells := 0, slots := 0, locals := 72 }) (va_Pc [.ref ob, .int 2, .int a2, .int 1, .int a4, .int a5] (kp G y sz [(ce_X9 ob ob_tape ob_tapeSize ob_reader ob_state ob_images ob_slots ob_rounds ob_ways ob_otherDebts ob_otherKnows), (ce_q4 y ob_slots (va_up (va_up (va_up (va_up (fun _ => none) 0 (some ob_slots0)) 1 (some ob_slots1)) 2 (some ob_slots2)) 3 (some ob_slots3))), (ce_X5 ob_slots1 ob_slots1_filled ob_slots1_width ob_slots1_size ob_slots1_numbers), (ce_l60 y ob_slots1_numbers fob_slots1_numbers), (ce_X5 ob_slots2 ob_slots2_filled ob_slots2_width ob_slots2_size ob_slots2_numbers), (ce_l60 y ob_slots2_numbers fob_slots2_numbers)])) (va_Qi (fun (r : Int32) (w : va_W) => ((ob_slots2_filled.toInt = 0 ∨ ob_slots1_filled.toInt = 0) ∧ r = (-6) ∧ w = [(ce_X9 ob ob_tape ob_tapeSize ob_reader ob_state ob_images ob_slots ob_rounds ob_ways ob_otherDebts ob_otherKnows), (ce_q4 y ob_slots (va_up (va_up (va_up (va_up (fun _ => none) 0 (some ob_slots0)) 1 (some ob_slots1)) 2 (some ob_slots2)) 3 (some ob_slots3))), (ce_X5 ob_slots1 ob_slots1_filled ob_slots1_width ob_slots1_size ob_slots1_numbers), (ce_l60 y ob_slots1_numbers fob_slots1_numbers), (ce_X5 ob_slots2 ob_slots2_filled ob_slots2_width ob_slots2_size ob_slots2_numbers), (ce_l60 y ob_slots2_numbers fob_slots2_numbers)]) ∨ (((1 : Int) ≤ ob_slots1_filled.toInt ∧ ob_slots1_filled.toInt ≤ 1) ∧ ((1 : Int) ≤ ob_slots2_filled.toInt ∧ ob_slots2_filled.toInt ≤ 1) ∧ (ob_slots2_filled.toInt = 1 ∧ ob_slots1_filled.toInt = 1 ∧ ob_slots2_width.toInt = ob_slots1_width.toInt ∧ ¬ (0 ≤ a2.toInt ∧ 0 ≤ a4.toInt ∧ 0 ≤ a5.toInt ∧ a2.toInt + a5.toInt ≤ ob_slots2_size.toInt ∧ a4.toInt + a5.toInt ≤ ob_slots1_size.toInt)) ∧ r = (-7) ∧ w = [(ce_X9 ob ob_tape ob_tapeSize ob_reader ob_state ob_images ob_slots ob_rounds ob_ways ob_otherDebts ob_otherKnows), (ce_q4 y ob_slots (va_up (va_up (va_up (va_up (fun _ => none) 0 (some ob_slots0)) 1 (some ob_slots1)) 2 (some ob_slots2)) 3 (some ob_slots3))), (ce_X5 ob_slots1 ob_slots1_filled ob_slots1_width ob_slots1_size ob_slots1_numbers), (ce_l60 y ob_slots1_numbers fob_slots1_numbers), (ce_X5 ob_slots2 ob_slots2_filled ob_slots2_width ob_slots2_size ob_slots2_numbers), (ce_l60 y ob_slots2_numbers fob_slots2_numbers)]) ∨ (((1 : Int) ≤ ob_slots1_filled.toInt ∧ ob_slots1_filled.toInt ≤ 1) ∧ ((1 : Int) ≤ ob_slots2_filled.toInt ∧ ob_slots2_filled.toInt ≤ 1) ∧ (ob_slots2_filled.toInt = 1 ∧ ob_slots1_filled.toInt = 1 ∧ ¬ ob_slots2_width.toInt = ob_slots1_width.toInt) ∧ r = (-8) ∧ w = [(ce_X9 ob ob_tape ob_tapeSize ob_reader ob_state ob_images ob_slots ob_rounds ob_ways ob_otherDebts ob_otherKnows), (ce_q4 y ob_slots (va_up (va_up (va_up (va_up (fun _ => none) 0 (some ob_slots0)) 1 (some ob_slots1)) 2 (some ob_slots2)) 3 (some ob_slots3))), (ce_X5 ob_slots1 ob_slots1_filled ob_slots1_width ob_slots1_size ob_slots1_numbers), (ce_l60 y ob_slots1_numbers fob_slots1_numbers), (ce_X5 ob_slots2 ob_slots2_filled ob_slots2_width ob_slots2_size ob_slots2_numbers), (ce_l60 y ob_slots2_numbers fob_slots2_numbers)]) ∨ (∃ (f_45 : Nat → Int64), ((0 : Int) ≤ a2.toInt ∧ a2.toInt ≤ 60) ∧ ((0 : Int) ≤ a4.toInt ∧ a4.toInt ≤ 60) ∧ ((0 : Int) ≤ a5.toInt ∧ a5.toInt ≤ 60) ∧ ((1 : Int) ≤ ob_slots1_filled.toInt ∧ ob_slots1_filled.toInt ≤ 1) ∧ ((1 : Int) ≤ ob_slots2_filled.toInt ∧ ob_slots2_filled.toInt ≤ 1) ∧ (ob_slots2_filled.toInt = 1 ∧ ob_slots1_filled.toInt = 1 ∧ ob_slots2_width.toInt = ob_slots1_width.toInt ∧ 0 ≤ a2.toInt ∧ 0 ≤ a4.toInt ∧ 0 ≤ a5.toInt ∧ a2.toInt + a5.toInt ≤ ob_slots2_size.toInt ∧ a4.toInt + a5.toInt ≤ ob_slots1_size.toInt) ∧ r = 0 ∧ w = [(ce_X9 ob ob_tape ob_tapeSize ob_reader ob_state ob_images ob_slots ob_rounds ob_ways ob_otherDebts ob_otherKnows), (ce_q4 y ob_slots (va_up (va_up (va_up (va_up (fun _ => none) 0 (some ob_slots0)) 1 (some ob_slots1)) 2 (some ob_slots2)) 3 (some ob_slots3))), (ce_X5 ob_slots1 ob_slots1_filled ob_slots1_width ob_slots1_size ob_slots1_numbers), (ce_l60 y ob_slots1_numbers f_45), (ce_X5 ob_slots2 ob_slots2_filled ob_slots2_width ob_slots2_size ob_slots2_numbers), (ce_l60 y ob_slots2_numbers fob_slots2_numbers)])) (kq G (va_A [(ce_X9 ob ob_tape ob_tapeSize ob_reader ob_state ob_images ob_slots ob_rounds ob_ways ob_otherDebts ob_otherKnows), (ce_q4 y ob_slots (va_up (va_up (va_up (va_up (fun _ => none) 0 (some ob_slots0)) 1 (some ob_slots1)) 2 (some ob_slots2)) 3 (some ob_slots3))), (ce_X5 ob_slots1 ob_slots1_filled ob_slots1_width ob_slots1_size ob_slots1_numbers), (ce_l60 y ob_slots1_numbers fob_slots1_numbers), (ce_X5 ob_slots2 ob_slots2_filled ob_slots2_width ob_slots2_size ob_slots2_numbers), (ce_l60 y ob_slots2_numbers fob_slots2_numbers)] sz)) (va_A [(ce_X9 ob ob_tape ob_tapeSize ob_reader ob_state ob_images ob_slots ob_rounds ob_ways ob_otherDebts ob_otherKnows), (ce_q4 y ob_slots (va_up (va_up (va_up (va_up (fun _ => none) 0 (some ob_slots0)) 1 (some ob_slots1)) 2 (some ob_slots2)) 3 (some ob_slots3))), (ce_X5 ob_slots1 ob_slots1_filled ob_slots1_width ob_slots1_size ob_slots1_numbers), (ce_l60 y ob_slots1_numbers fob_slots1_numbers), (ce_X5 ob_slots2 ob_slots2_filled ob_slots2_width ob_slots2_size ob_slots2_numbers), (ce_l60 y ob_slots2_numbers fob_slots2_numbers)] sz)) 0 0 (va_A [(ce_X9 ob ob_tape ob_tapeSize ob_reader ob_state ob_images ob_slots ob_rounds ob_ways ob_otherDebts ob_otherKnows), (ce_q4 y ob_slots (va_up (va_up (va_up (va_up (fun _ => none) 0 (some ob_slots0)) 1 (some ob_slots1)) 2 (some ob_slots2)) 3 (some ob_slots3))), (ce_X5 ob_slots1 ob_slots1_filled ob_slots1_width ob_slots1_size ob_slots1_numbers), (ce_l60 y ob_slots1_numbers fob_slots1_numbers), (ce_X5 ob_slots2 ob_slots2_filled ob_slots2_width ob_slots2_size ob_slots2_numbers), (ce_l60 y ob_slots2_numbers fob_slots2_numbers)] sz) := by
  refine Met.ofW (cc := cX9_paste) (maxL := 8) (ret := (some .int)) (by decide) rfl ?_
  intro p e s m args below meth c s₁ B hml hv
  obtain ⟨rfl, hsz, hP, hK, hD0⟩ := hv
  have hx := B.exec
  have hb := B.bytes
  have hr := B.returns
  have hw0 : ∀ w ∈ wAll, w.before _ s = true := fun w h => atoms_spec (ws := Cond.code yX9_paste cX9_paste 8 (some .int) :: wAll) B.pre w (List.mem_cons_of_mem _ h)
  have hown : s.vm.findClass RX9 = some m.cls := findClass_of_methodNamed B.named
  subst hsz
  have hD := hD0.self (sz := s.heap.size)
  generalize hAe : va_A [(ce_X9 ob ob_tape ob_tapeSize ob_reader ob_state ob_images ob_slots ob_rounds ob_ways ob_otherDebts ob_otherKnows), (ce_q4 y ob_slots (va_up (va_up (va_up (va_up (fun _ => none) 0 (some ob_slots0)) 1 (some ob_slots1)) 2 (some ob_slots2)) 3 (some ob_slots3))), (ce_X5 ob_slots1 ob_slots1_filled ob_slots1_width ob_slots1_size ob_slots1_numbers), (ce_l60 y ob_slots1_numbers fob_slots1_numbers), (ce_X5 ob_slots2 ob_slots2_filled ob_slots2_width ob_slots2_size ob_slots2_numbers), (ce_l60 y ob_slots2_numbers fob_slots2_numbers)] s.heap.size = A at hD ⊢
  have hA : ∀ q : Nat, s.heap.size ≤ q → A q := fun q h => by rw [← hAe]; exact Or.inr h
  have hS : va_S A s.heap s.heap [] := va_S.rf
  have hP : va_P G vwCl [(ce_X9 ob ob_tape ob_tapeSize ob_reader ob_state ob_images ob_slots ob_rounds ob_ways ob_otherDebts ob_otherKnows), (ce_q4 y ob_slots (va_up (va_up (va_up (va_up (fun _ => none) 0 (some ob_slots0)) 1 (some ob_slots1)) 2 (some ob_slots2)) 3 (some ob_slots3))), (ce_X5 ob_slots1 ob_slots1_filled ob_slots1_width ob_slots1_size ob_slots1_numbers), (ce_l60 y ob_slots1_numbers fob_slots1_numbers), (ce_X5 ob_slots2 ob_slots2_filled ob_slots2_width ob_slots2_size ob_slots2_numbers), (ce_l60 y ob_slots2_numbers fob_slots2_numbers)] s.heap := hP
  have hl := lv_entry ([.ref ob, .int 2, .int a2, .int 1, .int a4, .int a5]) (n := 8) (Nat.le_of_ble_eq_true rfl)
  rw [lg_entry_eq]
  generalize (lg_sl ([.ref ob, .int 2, .int a2, .int 1, .int a4, .int a5]) ++ List.replicate (8 - (lg_sl ([.ref ob, .int 2, .int a2, .int 1, .int a4, .int a5])).length) Slot.unset).toArray = ls at hl ⊢
  have hl : lv_has ls 8 [(0, .ref ob), (1, .int 2), (2, .int a2), (3, .int 1), (4, .int a4), (5, .int a5)] := hl
  refine lv_iload_n hx hb dX9_paste_0 rfl (lv_at hl 1 rfl) ?_
  refine cSim (As := [.int 2]) (rest := []) ⟨hx, hb, hml, hown, hw0⟩ hA hK hP hD hS [] (fisSlot l G y _ 2 ) rfl ⟨(callB_of 1 hw0 (gA m_1260) rfl rfl rfl (hw0 _ m_36) (hw0 _ m_1189) cb_X9_isSlot ⟨Nat.le_of_ble_eq_true rfl, Nat.le_of_ble_eq_true rfl⟩), (hw0 _ m_1190)⟩ rfl hl.1 (Nat.le_of_ble_eq_true rfl) dX9_paste_1 ⟨Nat.le_of_ble_eq_true rfl, Nat.le_of_ble_eq_true rfl⟩ (fun r_1001 w_1001 H locs hw_1001 hP hD hS => ?_)
  rcases hw_1001 with ⟨h_1002, rfl, rfl⟩ | ⟨h_1003, h_1004, rfl, rfl⟩
  · skip
    exact False.elim (by have h9 : Int32.toInt 2 = 2 := (by decide); omega)
  · skip
    obtain ⟨hP, hD⟩ : vPD G A H [(ce_X9 ob ob_tape ob_tapeSize ob_reader ob_state ob_images ob_slots ob_rounds ob_ways ob_otherDebts ob_otherKnows), (ce_q4 y ob_slots (va_up (va_up (va_up (va_up (fun _ => none) 0 (some ob_slots0)) 1 (some ob_slots1)) 2 (some ob_slots2)) 3 (some ob_slots3))), (ce_X5 ob_slots1 ob_slots1_filled ob_slots1_width ob_slots1_size ob_slots1_numbers), (ce_l60 y ob_slots1_numbers fob_slots1_numbers), (ce_X5 ob_slots2 ob_slots2_filled ob_slots2_width ob_slots2_size ob_slots2_numbers), (ce_l60 y ob_slots2_numbers fob_slots2_numbers)] := ⟨hP, hD⟩
    refine lv_if_eq (tgt := 14) hx hb dX9_paste_4 (by decide) (fun c9 => absurd c9 (by decide)) (fun _ => ?_)
    refine lv_iload_n hx hb dX9_paste_7 rfl (lv_at hl 3 rfl) ?_
    refine cSim (As := [.int 1]) (rest := []) ⟨hx, hb, hml, hown, hw0⟩ hA hK hP hD hS [] (fisSlot l G y _ 1 ) rfl ⟨(callB_of 1 hw0 (gA m_1260) rfl rfl rfl (hw0 _ m_36) (hw0 _ m_1189) cb_X9_isSlot ⟨Nat.le_of_ble_eq_true rfl, Nat.le_of_ble_eq_true rfl⟩), (hw0 _ m_1190)⟩ rfl hl.1 (Nat.le_of_ble_eq_true rfl) dX9_paste_8 ⟨Nat.le_of_ble_eq_true rfl, Nat.le_of_ble_eq_true rfl⟩ (fun r_1005 w_1005 H locs hw_1005 hP hD hS => ?_)
    rcases hw_1005 with ⟨h_1006, rfl, rfl⟩ | ⟨h_1007, h_1008, rfl, rfl⟩
    · skip
      exact False.elim (by have h9 : Int32.toInt 1 = 1 := (by decide); omega)
    · skip
      obtain ⟨hP, hD⟩ : vPD G A H [(ce_X9 ob ob_tape ob_tapeSize ob_reader ob_state ob_images ob_slots ob_rounds ob_ways ob_otherDebts ob_otherKnows), (ce_q4 y ob_slots (va_up (va_up (va_up (va_up (fun _ => none) 0 (some ob_slots0)) 1 (some ob_slots1)) 2 (some ob_slots2)) 3 (some ob_slots3))), (ce_X5 ob_slots1 ob_slots1_filled ob_slots1_width ob_slots1_size ob_slots1_numbers), (ce_l60 y ob_slots1_numbers fob_slots1_numbers), (ce_X5 ob_slots2 ob_slots2_filled ob_slots2_width ob_slots2_size ob_slots2_numbers), (ce_l60 y ob_slots2_numbers fob_slots2_numbers)] := ⟨hP, hD⟩
      refine lv_if_ne (tgt := 17) hx hb dX9_paste_11 (by decide) (fun _ => ?_) (fun c9 => absurd c9 (by decide))
      refine lv_aload_n hx hb dX9_paste_17 rfl (lv_at hl 0 rfl) ?_
      refine va_get (D := G) (ci := 9) (v := .ref ob_slots) (C := RX9) (T := TX9) (N := 10) hx hb hw0 inA_wsX90 hown hK.1 hP 0 rfl rfl 5 (by decide) (hw0 _ m_1191) (fun _ h9 => h9) rfl dX9_paste_18 ?_
      refine lv_iload_n hx hb dX9_paste_21 rfl (lv_at hl 1 rfl) ?_
      refine va_aldq hx hb hK.1 hP 1 4 rfl rfl (vi (bkc (x := 2) (c := 2) (by decide)) (by decide)) dX9_paste_22 ?_
      refine W.eq (g2 := F0 m 23 ls [.ref ob_slots2]) rfl ?_
      refine lv_astore (lv' := [(6, .ref ob_slots2), (0, .ref ob), (1, .int 2), (2, .int a2), (3, .int 1), (4, .int a4), (5, .int a5)]) hx hb dX9_paste_23 hl (by decide) rfl (fun ls hl => ?_)
      refine lv_aload_n hx hb dX9_paste_25 rfl (lv_at hl 1 rfl) ?_
      refine va_get (D := G) (ci := 9) (v := .ref ob_slots) (C := RX9) (T := TX9) (N := 10) hx hb hw0 inA_wsX90 hown hK.1 hP 0 rfl rfl 5 (by decide) (hw0 _ m_1191) (fun _ h9 => h9) rfl dX9_paste_26 ?_
      refine lv_iload_n hx hb dX9_paste_29 rfl (lv_at hl 4 rfl) ?_
      refine va_aldq hx hb hK.1 hP 1 4 rfl rfl (vi (bkc (x := 1) (c := 1) (by decide)) (by decide)) dX9_paste_30 ?_
      refine W.eq (g2 := F0 m 31 ls [.ref ob_slots1]) rfl ?_
      refine lv_astore (lv' := [(7, .ref ob_slots1), (6, .ref ob_slots2), (0, .ref ob), (1, .int 2), (2, .int a2), (3, .int 1), (4, .int a4), (5, .int a5)]) hx hb dX9_paste_31 hl (by decide) rfl (fun ls hl => ?_)
      refine lv_aload hx hb dX9_paste_33 (lv_at hl 1 rfl) ?_
      refine va_get (D := G) (ci := 5) (v := .int ob_slots2_filled) (C := RX5) (T := TX5) (N := 4) hx hb hw0 inA_wsX50 hown hK.1 hP 4 rfl rfl 0 (by decide) (hw0 _ m_1192) (fun _ h9 => h9) rfl dX9_paste_35 ?_
      refine lv_if_eq (tgt := 49) hx hb dX9_paste_38 (by decide) (fun c_1009 => ?_) (fun c_1009 => ?_)
      · skip
        have nc_1009 := nb_eq (0) (0) c_1009 p_ob_slots2_filled (bkc (x := 0) (c := 0) (by decide)) (by decide)
        refine lv_bipush (v := (-6)) hx hb dX9_paste_49 (by decide) ?_
        exact W.iret (v := (-6)) hx hb hr (fun t ht hW => ⟨⟨(-6), _, rfl, Or.inl (⟨by have h90 : Int32.toInt (-6) = -6 := (by decide); have h91 : Int32.toInt 1 = 1 := (by decide); have h92 : Int32.toInt 2 = 2 := (by decide); omega, rfl, rfl⟩), by rw [ht]; exact hP, hD⟩, hS.F ht⟩) hS.2.2 dX9_paste_51
      · skip
        have nc_1009 := nb_ne (1) (1) c_1009 p_ob_slots2_filled (k := 0) (by decide) (by decide)
        refine lv_aload hx hb dX9_paste_41 (lv_at hl 0 rfl) ?_
        refine va_get (D := G) (ci := 5) (v := .int ob_slots1_filled) (C := RX5) (T := TX5) (N := 4) hx hb hw0 inA_wsX50 hown hK.1 hP 2 rfl rfl 0 (by decide) (hw0 _ m_1192) (fun _ h9 => h9) rfl dX9_paste_43 ?_
        refine lv_if_ne (tgt := 52) hx hb dX9_paste_46 (by decide) (fun c_1010 => ?_) (fun c_1010 => ?_)
        · skip
          have nc_1010 := nb_ne (1) (1) c_1010 p_ob_slots1_filled (k := 0) (by decide) (by decide)
          refine lv_aload hx hb dX9_paste_52 (lv_at hl 1 rfl) ?_
          refine va_get (D := G) (ci := 5) (v := .int ob_slots2_width) (C := RX5) (T := TX5) (N := 4) hx hb hw0 inA_wsX50 hown hK.1 hP 4 rfl rfl 1 (by decide) (hw0 _ m_1289) (fun _ h9 => h9) rfl dX9_paste_54 ?_
          refine lv_aload hx hb dX9_paste_57 (lv_at hl 0 rfl) ?_
          refine va_get (D := G) (ci := 5) (v := .int ob_slots1_width) (C := RX5) (T := TX5) (N := 4) hx hb hw0 inA_wsX50 hown hK.1 hP 2 rfl rfl 1 (by decide) (hw0 _ m_1289) (fun _ h9 => h9) rfl dX9_paste_59 ?_
          refine lv_icmp_eq (tgt := 68) hx hb dX9_paste_62 (by decide) (fun c_1011 => ?_) (fun c_1011 => ?_)
          · skip
            have nc_1011 := nb_eq (-2147483648) (2147483647) c_1011 (btop ob_slots2_width) (btop ob_slots1_width) (by decide)
            refine lv_aload hx hb dX9_paste_68 (lv_at hl 1 rfl) ?_
            refine lv_iload_n hx hb dX9_paste_70 rfl (lv_at hl 4 rfl) ?_
            refine lv_iload hx hb dX9_paste_71 (lv_at hl 7 rfl) ?_
            refine cVim (As := [.int a2, .int a5]) (rest := []) ⟨hx, hb, hml, hown, hw0⟩ hA hK hP hD hS [false, false, false, false, true] (sX5_hasRun l G y _ ob_slots2 a2 a5 ob_slots2_filled ob_slots2_width ob_slots2_size ob_slots2_numbers (bw (0) (1) nc_1009.1 (by decide)) p_ob_slots2_size) rfl ⟨(callB_of 2 hw0 (gA m_941) rfl rfl rfl (hw0 _ m_858) (hw0 _ m_1290) cb_X5_hasRun ⟨Nat.le_of_ble_eq_true rfl, Nat.le_of_ble_eq_true rfl⟩), (hw0 _ m_1291), (hw0 _ m_1292)⟩ (ci := 5) (q := (RX5, TX5, 4)) rfl rfl rfl hl.1 (Nat.le_of_ble_eq_true rfl) dX9_paste_73 ⟨Nat.le_of_ble_eq_true rfl, Nat.le_of_ble_eq_true rfl⟩ (fun r_1012 w_1012 H locs hw_1012 hP hD hS => ?_)
            rcases hw_1012 with ⟨h_1013, rfl, rfl⟩ | ⟨h_1014, h_1015, h_1016, rfl, rfl⟩
            · skip
              obtain ⟨hP, hD⟩ : vPD G A H [(ce_X9 ob ob_tape ob_tapeSize ob_reader ob_state ob_images ob_slots ob_rounds ob_ways ob_otherDebts ob_otherKnows), (ce_q4 y ob_slots (va_up (va_up (va_up (va_up (fun _ => none) 0 (some ob_slots0)) 1 (some ob_slots1)) 2 (some ob_slots2)) 3 (some ob_slots3))), (ce_X5 ob_slots1 ob_slots1_filled ob_slots1_width ob_slots1_size ob_slots1_numbers), (ce_l60 y ob_slots1_numbers fob_slots1_numbers), (ce_X5 ob_slots2 ob_slots2_filled ob_slots2_width ob_slots2_size ob_slots2_numbers), (ce_l60 y ob_slots2_numbers fob_slots2_numbers)] := ⟨hP, hD⟩
              refine lv_if_eq (tgt := 91) hx hb dX9_paste_76 (by decide) (fun _ => ?_) (fun c9 => absurd (by decide) c9)
              refine lv_bipush (v := (-7)) hx hb dX9_paste_91 (by decide) ?_
              exact W.iret (v := (-7)) hx hb hr (fun t ht hW => ⟨⟨(-7), _, rfl, Or.inr (Or.inl (⟨nc_1010.1, nc_1009.1, by have h90 : Int32.toInt (-7) = -7 := (by decide); have h91 : Int32.toInt 1 = 1 := (by decide); have h92 : Int32.toInt 2 = 2 := (by decide); omega, rfl, rfl⟩)), by rw [ht]; exact hP, hD⟩, hS.F ht⟩) hS.2.2 dX9_paste_93
            · skip
              obtain ⟨hP, hD⟩ : vPD G A H [(ce_X9 ob ob_tape ob_tapeSize ob_reader ob_state ob_images ob_slots ob_rounds ob_ways ob_otherDebts ob_otherKnows), (ce_q4 y ob_slots (va_up (va_up (va_up (va_up (fun _ => none) 0 (some ob_slots0)) 1 (some ob_slots1)) 2 (some ob_slots2)) 3 (some ob_slots3))), (ce_X5 ob_slots1 ob_slots1_filled ob_slots1_width ob_slots1_size ob_slots1_numbers), (ce_l60 y ob_slots1_numbers fob_slots1_numbers), (ce_X5 ob_slots2 ob_slots2_filled ob_slots2_width ob_slots2_size ob_slots2_numbers), (ce_l60 y ob_slots2_numbers fob_slots2_numbers)] := ⟨hP, hD⟩
              refine lv_if_eq (tgt := 91) hx hb dX9_paste_76 (by decide) (fun c9 => absurd c9 (by decide)) (fun _ => ?_)
              refine lv_aload hx hb dX9_paste_79 (lv_at hl 0 rfl) ?_
              refine lv_iload hx hb dX9_paste_81 (lv_at hl 6 rfl) ?_
              refine lv_iload hx hb dX9_paste_83 (lv_at hl 7 rfl) ?_
              refine cVim (As := [.int a4, .int a5]) (rest := []) ⟨hx, hb, hml, hown, hw0⟩ hA hK hP hD hS [false, false, true] (sX5_hasRun l G y _ ob_slots1 a4 a5 ob_slots1_filled ob_slots1_width ob_slots1_size ob_slots1_numbers (bw (0) (1) nc_1010.1 (by decide)) p_ob_slots1_size) rfl ⟨(callB_of 2 hw0 (gA m_941) rfl rfl rfl (hw0 _ m_858) (hw0 _ m_1290) cb_X5_hasRun ⟨Nat.le_of_ble_eq_true rfl, Nat.le_of_ble_eq_true rfl⟩), (hw0 _ m_1291), (hw0 _ m_1292)⟩ (ci := 5) (q := (RX5, TX5, 4)) rfl rfl rfl hl.1 (Nat.le_of_ble_eq_true rfl) dX9_paste_85 ⟨Nat.le_of_ble_eq_true rfl, Nat.le_of_ble_eq_true rfl⟩ (fun r_1017 w_1017 H locs hw_1017 hP hD hS => ?_)
              rcases hw_1017 with ⟨h_1018, rfl, rfl⟩ | ⟨h_1019, h_1020, h_1021, rfl, rfl⟩
              · skip
                obtain ⟨hP, hD⟩ : vPD G A H [(ce_X9 ob ob_tape ob_tapeSize ob_reader ob_state ob_images ob_slots ob_rounds ob_ways ob_otherDebts ob_otherKnows), (ce_q4 y ob_slots (va_up (va_up (va_up (va_up (fun _ => none) 0 (some ob_slots0)) 1 (some ob_slots1)) 2 (some ob_slots2)) 3 (some ob_slots3))), (ce_X5 ob_slots1 ob_slots1_filled ob_slots1_width ob_slots1_size ob_slots1_numbers), (ce_l60 y ob_slots1_numbers fob_slots1_numbers), (ce_X5 ob_slots2 ob_slots2_filled ob_slots2_width ob_slots2_size ob_slots2_numbers), (ce_l60 y ob_slots2_numbers fob_slots2_numbers)] := ⟨hP, hD⟩
                refine lv_if_ne (tgt := 94) hx hb dX9_paste_88 (by decide) (fun c9 => absurd (by decide) c9) (fun _ => ?_)
                refine lv_bipush (v := (-7)) hx hb dX9_paste_91 (by decide) ?_
                exact W.iret (v := (-7)) hx hb hr (fun t ht hW => ⟨⟨(-7), _, rfl, Or.inr (Or.inl (⟨nc_1010.1, nc_1009.1, by have h90 : Int32.toInt (-7) = -7 := (by decide); have h91 : Int32.toInt 1 = 1 := (by decide); have h92 : Int32.toInt 2 = 2 := (by decide); omega, rfl, rfl⟩)), by rw [ht]; exact hP, hD⟩, hS.F ht⟩) hS.2.2 dX9_paste_93
              · skip
                obtain ⟨hP, hD⟩ : vPD G A H [(ce_X9 ob ob_tape ob_tapeSize ob_reader ob_state ob_images ob_slots ob_rounds ob_ways ob_otherDebts ob_otherKnows), (ce_q4 y ob_slots (va_up (va_up (va_up (va_up (fun _ => none) 0 (some ob_slots0)) 1 (some ob_slots1)) 2 (some ob_slots2)) 3 (some ob_slots3))), (ce_X5 ob_slots1 ob_slots1_filled ob_slots1_width ob_slots1_size ob_slots1_numbers), (ce_l60 y ob_slots1_numbers fob_slots1_numbers), (ce_X5 ob_slots2 ob_slots2_filled ob_slots2_width ob_slots2_size ob_slots2_numbers), (ce_l60 y ob_slots2_numbers fob_slots2_numbers)] := ⟨hP, hD⟩
                refine lv_if_ne (tgt := 94) hx hb dX9_paste_88 (by decide) (fun _ => ?_) (fun c9 => absurd c9 (by decide))
                refine lv_aload hx hb dX9_paste_94 (lv_at hl 1 rfl) ?_
                refine va_get (D := G) (ci := 5) (v := .ref ob_slots2_numbers) (C := RX5) (T := TX5) (N := 4) hx hb hw0 inA_wsX50 hown hK.1 hP 4 rfl rfl 3 (by decide) (hw0 _ m_1293) (fun _ h9 => h9) rfl dX9_paste_96 ?_
                refine lv_iload_n hx hb dX9_paste_99 rfl (lv_at hl 4 rfl) ?_
                refine lv_aload hx hb dX9_paste_100 (lv_at hl 0 rfl) ?_
                refine va_get (D := G) (ci := 5) (v := .ref ob_slots1_numbers) (C := RX5) (T := TX5) (N := 4) hx hb hw0 inA_wsX50 hown hK.1 hP 2 rfl rfl 3 (by decide) (hw0 _ m_1293) (fun _ h9 => h9) rfl dX9_paste_102 ?_
                refine lv_iload hx hb dX9_paste_105 (lv_at hl 6 rfl) ?_
                refine lv_iload hx hb dX9_paste_107 (lv_at hl 7 rfl) ?_
                refine va_copyl (own := RX9) hx hb (by rw [hml]; exact hl.1.symm) hown (hw0 _ m_1294) (hw0 _ m_272) (hw0 _ m_273) (hw0 _ m_274) hK.1 hP hD hS 5 3 2 2 rfl rfl rfl rfl rfl (cy_n h_1014 (by decide)) (cy_n h_1019 (by decide)) (cy_n h_1015 (by decide)) (cy_g h_1014 h_1015 (by decide) (by decide) (by omega)) (cy_g h_1019 h_1015 (by decide) (by decide) (by omega)) (fun i hi => rfl) (Nat.le_of_ble_eq_true rfl) (by decide) dX9_paste_109 (fun H locs hP hD hS => ?_)
                generalize hf_1022 : (va_cpy fob_slots2_numbers fob_slots1_numbers (a2 : Int32).toNatClampNeg (a4 : Int32).toNatClampNeg (a5 : Int32).toNatClampNeg) = f_1022 at hP hD
                obtain ⟨hP, hD⟩ : vPD G A H [(ce_X9 ob ob_tape ob_tapeSize ob_reader ob_state ob_images ob_slots ob_rounds ob_ways ob_otherDebts ob_otherKnows), (ce_q4 y ob_slots (va_up (va_up (va_up (va_up (fun _ => none) 0 (some ob_slots0)) 1 (some ob_slots1)) 2 (some ob_slots2)) 3 (some ob_slots3))), (ce_X5 ob_slots1 ob_slots1_filled ob_slots1_width ob_slots1_size ob_slots1_numbers), (ce_l60 y ob_slots1_numbers f_1022), (ce_X5 ob_slots2 ob_slots2_filled ob_slots2_width ob_slots2_size ob_slots2_numbers), (ce_l60 y ob_slots2_numbers fob_slots2_numbers)] := ⟨hP, hD⟩
                refine lv_iconst (v := 0) hx hb dX9_paste_112 (by decide) ?_
                exact W.iret (v := 0) hx hb hr (fun t ht hW => ⟨⟨0, _, rfl, Or.inr (Or.inr (Or.inr (⟨f_1022, h_1014, h_1019, h_1015, nc_1010.1, nc_1009.1, by have h90 : Int32.toInt 0 = 0 := (by decide); have h91 : Int32.toInt 1 = 1 := (by decide); have h92 : Int32.toInt 2 = 2 := (by decide); omega, rfl, rfl⟩))), by rw [ht]; exact hP, hD⟩, hS.F ht⟩) hS.2.2 dX9_paste_113
          · skip
            have nc_1011 : ob_slots2_width.toInt ≠ ob_slots1_width.toInt := fun h9 => c_1011 (Int32.toInt_inj.mp h9)
            refine lv_bipush (v := (-8)) hx hb dX9_paste_65 (by decide) ?_
            exact W.iret (v := (-8)) hx hb hr (fun t ht hW => ⟨⟨(-8), _, rfl, Or.inr (Or.inr (Or.inl (⟨nc_1010.1, nc_1009.1, by have h90 : Int32.toInt (-8) = -8 := (by decide); have h91 : Int32.toInt 1 = 1 := (by decide); have h92 : Int32.toInt 2 = 2 := (by decide); omega, rfl, rfl⟩))), by rw [ht]; exact hP, hD⟩, hS.F ht⟩) hS.2.2 dX9_paste_67
        · skip
          have nc_1010 := nb_eq (0) (0) c_1010 p_ob_slots1_filled (bkc (x := 0) (c := 0) (by decide)) (by decide)
          refine lv_bipush (v := (-6)) hx hb dX9_paste_49 (by decide) ?_
          exact W.iret (v := (-6)) hx hb hr (fun t ht hW => ⟨⟨(-6), _, rfl, Or.inl (⟨by have h90 : Int32.toInt (-6) = -6 := (by decide); have h91 : Int32.toInt 1 = 1 := (by decide); have h92 : Int32.toInt 2 = 2 := (by decide); omega, rfl, rfl⟩), by rw [ht]; exact hP, hD⟩, hS.F ht⟩) hS.2.2 dX9_paste_51

set_option maxHeartbeats 4000000 in
set_option maxRecDepth 100000 in
theorem fpaste22 (l : Launch) (G : va_G) (y : Nat → ClassId) (sz : Nat) (ob : Nat) (a2 : Int32) (a4 : Int32) (a5 : Int32) (ob_tape : Nat) (ob_tapeSize : Int32) (ob_reader : Nat) (ob_state : Nat) (ob_images : Nat) (ob_slots : Nat) (ob_rounds : Nat) (ob_ways : Nat) (ob_otherDebts : Nat) (ob_otherKnows : Nat) (ob_slots0 : Nat) (ob_slots1 : Nat) (ob_slots2 : Nat) (ob_slots3 : Nat) (ob_slots2_filled : Int32) (ob_slots2_width : Int32) (ob_slots2_size : Int32) (ob_slots2_numbers : Nat) (fob_slots2_numbers : Nat → Int64) (p_ob_tapeSize : (0 : Int) ≤ ob_tapeSize.toInt ∧ ob_tapeSize.toInt ≤ 1400) (p_ob_slots2_filled : (0 : Int) ≤ ob_slots2_filled.toInt ∧ ob_slots2_filled.toInt ≤ 1) (p_ob_slots2_size : (0 : Int) ≤ ob_slots2_size.toInt ∧ ob_slots2_size.toInt ≤ 60) : Met l yX9_paste (Cond.code yX9_paste cX9_paste 8 (some .int) :: wAll) ({ frames := 1, cells := 0, slots := 0, locals := 72 }) (va_Pc [.ref ob, .int 2, .int a2, .int 2, .int a4, .int a5] (kp G y sz [(ce_X9 ob ob_tape ob_tapeSize ob_reader ob_state ob_images ob_slots ob_rounds ob_ways ob_otherDebts ob_otherKnows), (ce_q4 y ob_slots (va_up (va_up (va_up (va_up (fun _ => none) 0 (some ob_slots0)) 1 (some ob_slots1)) 2 (some ob_slots2)) 3 (some ob_slots3))), (ce_X5 ob_slots2 ob_slots2_filled ob_slots2_width ob_slots2_size ob_slots2_numbers), (ce_l60 y ob_slots2_numbers fob_slots2_numbers)])) (va_Qi (fun (r : Int32) (w : va_W) => (((0 : Int) ≤ ob_slots2_filled.toInt ∧ ob_slots2_filled.toInt ≤ 0) ∧ (ob_slots2_filled.toInt = 0 ∨ ob_slots2_filled.toInt = 0) ∧ r = (-6) ∧ w = [(ce_X9 ob ob_tape ob_tapeSize ob_reader ob_state ob_images ob_slots ob_rounds ob_ways ob_otherDebts ob_otherKnows), (ce_q4 y ob_slots (va_up (va_up (va_up (va_up (fun _ => none) 0 (some ob_slots0)) 1 (some ob_slots1)) 2 (some ob_slots2)) 3 (some ob_slots3))), (ce_X5 ob_slots2 ob_slots2_filled ob_slots2_width ob_slots2_size ob_slots2_numbers), (ce_l60 y ob_slots2_numbers fob_slots2_numbers)]) ∨ (((1 : Int) ≤ ob_slots2_filled.toInt ∧ ob_slots2_filled.toInt ≤ 1) ∧ (ob_slots2_filled.toInt = 1 ∧ ob_slots2_filled.toInt = 1 ∧ ob_slots2_width.toInt = ob_slots2_width.toInt ∧ ¬ (0 ≤ a2.toInt ∧ 0 ≤ a4.toInt ∧ 0 ≤ a5.toInt ∧ a2.toInt + a5.toInt ≤ ob_slots2_size.toInt ∧ a4.toInt + a5.toInt ≤ ob_slots2_size.toInt)) ∧ r = (-7) ∧ w = [(ce_X9 ob ob_tape ob_tapeSize ob_reader ob_state ob_images ob_slots ob_rounds ob_ways ob_otherDebts ob_otherKnows), (ce_q4 y ob_slots (va_up (va_up (va_up (va_up (fun _ => none) 0 (some ob_slots0)) 1 (some ob_slots1)) 2 (some ob_slots2)) 3 (some ob_slots3))), (ce_X5 ob_slots2 ob_slots2_filled ob_slots2_width ob_slots2_size ob_slots2_numbers), (ce_l60 y ob_slots2_numbers fob_slots2_numbers)]) ∨ (∃ (f_41 : Nat → Int64), ((0 : Int) ≤ a2.toInt ∧ a2.toInt ≤ 60) ∧ ((0 : Int) ≤ a4.toInt ∧ a4.toInt ≤ 60) ∧ ((0 : Int) ≤ a5.toInt ∧ a5.toInt ≤ 60) ∧ ((1 : Int) ≤ ob_slots2_filled.toInt ∧ ob_slots2_filled.toInt ≤ 1) ∧ (ob_slots2_filled.toInt = 1 ∧ ob_slots2_filled.toInt = 1 ∧ ob_slots2_width.toInt = ob_slots2_width.toInt ∧ 0 ≤ a2.toInt ∧ 0 ≤ a4.toInt ∧ 0 ≤ a5.toInt ∧ a2.toInt + a5.toInt ≤ ob_slots2_size.toInt ∧ a4.toInt + a5.toInt ≤ ob_slots2_size.toInt) ∧ r = 0 ∧ w = [(ce_X9 ob ob_tape ob_tapeSize ob_reader ob_state ob_images ob_slots ob_rounds ob_ways ob_otherDebts ob_otherKnows), (ce_q4 y ob_slots (va_up (va_up (va_up (va_up (fun _ => none) 0 (some ob_slots0)) 1 (some ob_slots1)) 2 (some ob_slots2)) 3 (some ob_slots3))), (ce_X5 ob_slots2 ob_slots2_filled ob_slots2_width ob_slots2_size ob_slots2_numbers), (ce_l60 y ob_slots2_numbers f_41)])) (kq G (va_A [(ce_X9 ob ob_tape ob_tapeSize ob_reader ob_state ob_images ob_slots ob_rounds ob_ways ob_otherDebts ob_otherKnows), (ce_q4 y ob_slots (va_up (va_up (va_up (va_up (fun _ => none) 0 (some ob_slots0)) 1 (some ob_slots1)) 2 (some ob_slots2)) 3 (some ob_slots3))), (ce_X5 ob_slots2 ob_slots2_filled ob_slots2_width ob_slots2_size ob_slots2_numbers), (ce_l60 y ob_slots2_numbers fob_slots2_numbers)] sz)) (va_A [(ce_X9 ob ob_tape ob_tapeSize ob_reader ob_state ob_images ob_slots ob_rounds ob_ways ob_otherDebts ob_otherKnows), (ce_q4 y ob_slots (va_up (va_up (va_up (va_up (fun _ => none) 0 (some ob_slots0)) 1 (some ob_slots1)) 2 (some ob_slots2)) 3 (some ob_slots3))), (ce_X5 ob_slots2 ob_slots2_filled ob_slots2_width ob_slots2_size ob_slots2_numbers), (ce_l60 y ob_slots2_numbers fob_slots2_numbers)] sz)) 0 0 (va_A [(ce_X9 ob ob_tape ob_tapeSize ob_reader ob_state ob_images ob_slots ob_rounds ob_ways ob_otherDebts ob_otherKnows), (ce_q4 y ob_slots (va_up (va_up (va_up (va_up (fun _ => none) 0 (some ob_slots0)) 1 (some ob_slots1)) 2 (some ob_slots2)) 3 (some ob_slots3))), (ce_X5 ob_slots2 ob_slots2_filled ob_slots2_width ob_slots2_size ob_slots2_numbers), (ce_l60 y ob_slots2_numbers fob_slots2_numbers)] sz) := by
  refine Met.ofW (cc := cX9_paste) (maxL := 8) (ret := (some .int)) (by decide) rfl ?_
  intro p e s m args below meth c s₁ B hml hv
  obtain ⟨rfl, hsz, hP, hK, hD0⟩ := hv
  have hx := B.exec
  have hb := B.bytes
  have hr := B.returns
  have hw0 : ∀ w ∈ wAll, w.before _ s = true := fun w h => atoms_spec (ws := Cond.code yX9_paste cX9_paste 8 (some .int) :: wAll) B.pre w (List.mem_cons_of_mem _ h)
  have hown : s.vm.findClass RX9 = some m.cls := findClass_of_methodNamed B.named
  subst hsz
  have hD := hD0.self (sz := s.heap.size)
  generalize hAe : va_A [(ce_X9 ob ob_tape ob_tapeSize ob_reader ob_state ob_images ob_slots ob_rounds ob_ways ob_otherDebts ob_otherKnows), (ce_q4 y ob_slots (va_up (va_up (va_up (va_up (fun _ => none) 0 (some ob_slots0)) 1 (some ob_slots1)) 2 (some ob_slots2)) 3 (some ob_slots3))), (ce_X5 ob_slots2 ob_slots2_filled ob_slots2_width ob_slots2_size ob_slots2_numbers), (ce_l60 y ob_slots2_numbers fob_slots2_numbers)] s.heap.size = A at hD ⊢
  have hA : ∀ q : Nat, s.heap.size ≤ q → A q := fun q h => by rw [← hAe]; exact Or.inr h
  have hS : va_S A s.heap s.heap [] := va_S.rf
  have hP : va_P G vwCl [(ce_X9 ob ob_tape ob_tapeSize ob_reader ob_state ob_images ob_slots ob_rounds ob_ways ob_otherDebts ob_otherKnows), (ce_q4 y ob_slots (va_up (va_up (va_up (va_up (fun _ => none) 0 (some ob_slots0)) 1 (some ob_slots1)) 2 (some ob_slots2)) 3 (some ob_slots3))), (ce_X5 ob_slots2 ob_slots2_filled ob_slots2_width ob_slots2_size ob_slots2_numbers), (ce_l60 y ob_slots2_numbers fob_slots2_numbers)] s.heap := hP
  have hl := lv_entry ([.ref ob, .int 2, .int a2, .int 2, .int a4, .int a5]) (n := 8) (Nat.le_of_ble_eq_true rfl)
  rw [lg_entry_eq]
  generalize (lg_sl ([.ref ob, .int 2, .int a2, .int 2, .int a4, .int a5]) ++ List.replicate (8 - (lg_sl ([.ref ob, .int 2, .int a2, .int 2, .int a4, .int a5])).length) Slot.unset).toArray = ls at hl ⊢
  have hl : lv_has ls 8 [(0, .ref ob), (1, .int 2), (2, .int a2), (3, .int 2), (4, .int a4), (5, .int a5)] := hl
  refine lv_iload_n hx hb dX9_paste_0 rfl (lv_at hl 1 rfl) ?_
  refine cSim (As := [.int 2]) (rest := []) ⟨hx, hb, hml, hown, hw0⟩ hA hK hP hD hS [] (fisSlot l G y _ 2 ) rfl ⟨(callB_of 1 hw0 (gA m_1260) rfl rfl rfl (hw0 _ m_36) (hw0 _ m_1189) cb_X9_isSlot ⟨Nat.le_of_ble_eq_true rfl, Nat.le_of_ble_eq_true rfl⟩), (hw0 _ m_1190)⟩ rfl hl.1 (Nat.le_of_ble_eq_true rfl) dX9_paste_1 ⟨Nat.le_of_ble_eq_true rfl, Nat.le_of_ble_eq_true rfl⟩ (fun r_1001 w_1001 H locs hw_1001 hP hD hS => ?_)
  rcases hw_1001 with ⟨h_1002, rfl, rfl⟩ | ⟨h_1003, h_1004, rfl, rfl⟩
  · skip
    exact False.elim (by have h9 : Int32.toInt 2 = 2 := (by decide); omega)
  · skip
    obtain ⟨hP, hD⟩ : vPD G A H [(ce_X9 ob ob_tape ob_tapeSize ob_reader ob_state ob_images ob_slots ob_rounds ob_ways ob_otherDebts ob_otherKnows), (ce_q4 y ob_slots (va_up (va_up (va_up (va_up (fun _ => none) 0 (some ob_slots0)) 1 (some ob_slots1)) 2 (some ob_slots2)) 3 (some ob_slots3))), (ce_X5 ob_slots2 ob_slots2_filled ob_slots2_width ob_slots2_size ob_slots2_numbers), (ce_l60 y ob_slots2_numbers fob_slots2_numbers)] := ⟨hP, hD⟩
    refine lv_if_eq (tgt := 14) hx hb dX9_paste_4 (by decide) (fun c9 => absurd c9 (by decide)) (fun _ => ?_)
    refine lv_iload_n hx hb dX9_paste_7 rfl (lv_at hl 3 rfl) ?_
    refine cSim (As := [.int 2]) (rest := []) ⟨hx, hb, hml, hown, hw0⟩ hA hK hP hD hS [] (fisSlot l G y _ 2 ) rfl ⟨(callB_of 1 hw0 (gA m_1260) rfl rfl rfl (hw0 _ m_36) (hw0 _ m_1189) cb_X9_isSlot ⟨Nat.le_of_ble_eq_true rfl, Nat.le_of_ble_eq_true rfl⟩), (hw0 _ m_1190)⟩ rfl hl.1 (Nat.le_of_ble_eq_true rfl) dX9_paste_8 ⟨Nat.le_of_ble_eq_true rfl, Nat.le_of_ble_eq_true rfl⟩ (fun r_1005 w_1005 H locs hw_1005 hP hD hS => ?_)
    rcases hw_1005 with ⟨h_1006, rfl, rfl⟩ | ⟨h_1007, h_1008, rfl, rfl⟩
    · skip
      exact False.elim (by have h9 : Int32.toInt 2 = 2 := (by decide); omega)
    · skip
      obtain ⟨hP, hD⟩ : vPD G A H [(ce_X9 ob ob_tape ob_tapeSize ob_reader ob_state ob_images ob_slots ob_rounds ob_ways ob_otherDebts ob_otherKnows), (ce_q4 y ob_slots (va_up (va_up (va_up (va_up (fun _ => none) 0 (some ob_slots0)) 1 (some ob_slots1)) 2 (some ob_slots2)) 3 (some ob_slots3))), (ce_X5 ob_slots2 ob_slots2_filled ob_slots2_width ob_slots2_size ob_slots2_numbers), (ce_l60 y ob_slots2_numbers fob_slots2_numbers)] := ⟨hP, hD⟩
      refine lv_if_ne (tgt := 17) hx hb dX9_paste_11 (by decide) (fun _ => ?_) (fun c9 => absurd c9 (by decide))
      refine lv_aload_n hx hb dX9_paste_17 rfl (lv_at hl 0 rfl) ?_
      refine va_get (D := G) (ci := 9) (v := .ref ob_slots) (C := RX9) (T := TX9) (N := 10) hx hb hw0 inA_wsX90 hown hK.1 hP 0 rfl rfl 5 (by decide) (hw0 _ m_1191) (fun _ h9 => h9) rfl dX9_paste_18 ?_
      refine lv_iload_n hx hb dX9_paste_21 rfl (lv_at hl 1 rfl) ?_
      refine va_aldq hx hb hK.1 hP 1 4 rfl rfl (vi (bkc (x := 2) (c := 2) (by decide)) (by decide)) dX9_paste_22 ?_
      refine W.eq (g2 := F0 m 23 ls [.ref ob_slots2]) rfl ?_
      refine lv_astore (lv' := [(6, .ref ob_slots2), (0, .ref ob), (1, .int 2), (2, .int a2), (3, .int 2), (4, .int a4), (5, .int a5)]) hx hb dX9_paste_23 hl (by decide) rfl (fun ls hl => ?_)
      refine lv_aload_n hx hb dX9_paste_25 rfl (lv_at hl 1 rfl) ?_
      refine va_get (D := G) (ci := 9) (v := .ref ob_slots) (C := RX9) (T := TX9) (N := 10) hx hb hw0 inA_wsX90 hown hK.1 hP 0 rfl rfl 5 (by decide) (hw0 _ m_1191) (fun _ h9 => h9) rfl dX9_paste_26 ?_
      refine lv_iload_n hx hb dX9_paste_29 rfl (lv_at hl 4 rfl) ?_
      refine va_aldq hx hb hK.1 hP 1 4 rfl rfl (vi (bkc (x := 2) (c := 2) (by decide)) (by decide)) dX9_paste_30 ?_
      refine W.eq (g2 := F0 m 31 ls [.ref ob_slots2]) rfl ?_
      refine lv_astore (lv' := [(7, .ref ob_slots2), (6, .ref ob_slots2), (0, .ref ob), (1, .int 2), (2, .int a2), (3, .int 2), (4, .int a4), (5, .int a5)]) hx hb dX9_paste_31 hl (by decide) rfl (fun ls hl => ?_)
      refine lv_aload hx hb dX9_paste_33 (lv_at hl 1 rfl) ?_
      refine va_get (D := G) (ci := 5) (v := .int ob_slots2_filled) (C := RX5) (T := TX5) (N := 4) hx hb hw0 inA_wsX50 hown hK.1 hP 2 rfl rfl 0 (by decide) (hw0 _ m_1192) (fun _ h9 => h9) rfl dX9_paste_35 ?_
      refine lv_if_eq (tgt := 49) hx hb dX9_paste_38 (by decide) (fun c_1009 => ?_) (fun c_1009 => ?_)
      · skip
        have nc_1009 := nb_eq (0) (0) c_1009 p_ob_slots2_filled (bkc (x := 0) (c := 0) (by decide)) (by decide)
        refine lv_bipush (v := (-6)) hx hb dX9_paste_49 (by decide) ?_
        exact W.iret (v := (-6)) hx hb hr (fun t ht hW => ⟨⟨(-6), _, rfl, Or.inl (⟨nc_1009.1, by have h90 : Int32.toInt (-6) = -6 := (by decide); have h91 : Int32.toInt 2 = 2 := (by decide); omega, rfl, rfl⟩), by rw [ht]; exact hP, hD⟩, hS.F ht⟩) hS.2.2 dX9_paste_51
      · skip
        have nc_1009 := nb_ne (1) (1) c_1009 p_ob_slots2_filled (k := 0) (by decide) (by decide)
        refine lv_aload hx hb dX9_paste_41 (lv_at hl 0 rfl) ?_
        refine va_get (D := G) (ci := 5) (v := .int ob_slots2_filled) (C := RX5) (T := TX5) (N := 4) hx hb hw0 inA_wsX50 hown hK.1 hP 2 rfl rfl 0 (by decide) (hw0 _ m_1192) (fun _ h9 => h9) rfl dX9_paste_43 ?_
        refine lv_if_ne (tgt := 52) hx hb dX9_paste_46 (by decide) (fun _ => ?_) (fun c9 => absurd c9 (dc_neq nc_1009.1 (bkc (x := 0) (c := 0) (by decide)) (by decide)))
        refine lv_aload hx hb dX9_paste_52 (lv_at hl 1 rfl) ?_
        refine va_get (D := G) (ci := 5) (v := .int ob_slots2_width) (C := RX5) (T := TX5) (N := 4) hx hb hw0 inA_wsX50 hown hK.1 hP 2 rfl rfl 1 (by decide) (hw0 _ m_1289) (fun _ h9 => h9) rfl dX9_paste_54 ?_
        refine lv_aload hx hb dX9_paste_57 (lv_at hl 0 rfl) ?_
        refine va_get (D := G) (ci := 5) (v := .int ob_slots2_width) (C := RX5) (T := TX5) (N := 4) hx hb hw0 inA_wsX50 hown hK.1 hP 2 rfl rfl 1 (by decide) (hw0 _ m_1289) (fun _ h9 => h9) rfl dX9_paste_59 ?_
        refine lv_icmp_eq (tgt := 68) hx hb dX9_paste_62 (by decide) (fun _ => ?_) (fun c9 => absurd (rfl) c9)
        refine lv_aload hx hb dX9_paste_68 (lv_at hl 1 rfl) ?_
        refine lv_iload_n hx hb dX9_paste_70 rfl (lv_at hl 4 rfl) ?_
        refine lv_iload hx hb dX9_paste_71 (lv_at hl 7 rfl) ?_
        refine cVim (As := [.int a2, .int a5]) (rest := []) ⟨hx, hb, hml, hown, hw0⟩ hA hK hP hD hS [false, false, true] (sX5_hasRun l G y _ ob_slots2 a2 a5 ob_slots2_filled ob_slots2_width ob_slots2_size ob_slots2_numbers (bw (0) (1) nc_1009.1 (by decide)) p_ob_slots2_size) rfl ⟨(callB_of 2 hw0 (gA m_941) rfl rfl rfl (hw0 _ m_858) (hw0 _ m_1290) cb_X5_hasRun ⟨Nat.le_of_ble_eq_true rfl, Nat.le_of_ble_eq_true rfl⟩), (hw0 _ m_1291), (hw0 _ m_1292)⟩ (ci := 5) (q := (RX5, TX5, 4)) rfl rfl rfl hl.1 (Nat.le_of_ble_eq_true rfl) dX9_paste_73 ⟨Nat.le_of_ble_eq_true rfl, Nat.le_of_ble_eq_true rfl⟩ (fun r_1010 w_1010 H locs hw_1010 hP hD hS => ?_)
        rcases hw_1010 with ⟨h_1011, rfl, rfl⟩ | ⟨h_1012, h_1013, h_1014, rfl, rfl⟩
        · skip
          obtain ⟨hP, hD⟩ : vPD G A H [(ce_X9 ob ob_tape ob_tapeSize ob_reader ob_state ob_images ob_slots ob_rounds ob_ways ob_otherDebts ob_otherKnows), (ce_q4 y ob_slots (va_up (va_up (va_up (va_up (fun _ => none) 0 (some ob_slots0)) 1 (some ob_slots1)) 2 (some ob_slots2)) 3 (some ob_slots3))), (ce_X5 ob_slots2 ob_slots2_filled ob_slots2_width ob_slots2_size ob_slots2_numbers), (ce_l60 y ob_slots2_numbers fob_slots2_numbers)] := ⟨hP, hD⟩
          refine lv_if_eq (tgt := 91) hx hb dX9_paste_76 (by decide) (fun _ => ?_) (fun c9 => absurd (by decide) c9)
          refine lv_bipush (v := (-7)) hx hb dX9_paste_91 (by decide) ?_
          exact W.iret (v := (-7)) hx hb hr (fun t ht hW => ⟨⟨(-7), _, rfl, Or.inr (Or.inl (⟨nc_1009.1, by have h90 : Int32.toInt (-7) = -7 := (by decide); have h91 : Int32.toInt 2 = 2 := (by decide); omega, rfl, rfl⟩)), by rw [ht]; exact hP, hD⟩, hS.F ht⟩) hS.2.2 dX9_paste_93
        · skip
          obtain ⟨hP, hD⟩ : vPD G A H [(ce_X9 ob ob_tape ob_tapeSize ob_reader ob_state ob_images ob_slots ob_rounds ob_ways ob_otherDebts ob_otherKnows), (ce_q4 y ob_slots (va_up (va_up (va_up (va_up (fun _ => none) 0 (some ob_slots0)) 1 (some ob_slots1)) 2 (some ob_slots2)) 3 (some ob_slots3))), (ce_X5 ob_slots2 ob_slots2_filled ob_slots2_width ob_slots2_size ob_slots2_numbers), (ce_l60 y ob_slots2_numbers fob_slots2_numbers)] := ⟨hP, hD⟩
          refine lv_if_eq (tgt := 91) hx hb dX9_paste_76 (by decide) (fun c9 => absurd c9 (by decide)) (fun _ => ?_)
          refine lv_aload hx hb dX9_paste_79 (lv_at hl 0 rfl) ?_
          refine lv_iload hx hb dX9_paste_81 (lv_at hl 6 rfl) ?_
          refine lv_iload hx hb dX9_paste_83 (lv_at hl 7 rfl) ?_
          refine cVim (As := [.int a4, .int a5]) (rest := []) ⟨hx, hb, hml, hown, hw0⟩ hA hK hP hD hS [false, false, true] (sX5_hasRun l G y _ ob_slots2 a4 a5 ob_slots2_filled ob_slots2_width ob_slots2_size ob_slots2_numbers (bw (0) (1) nc_1009.1 (by decide)) p_ob_slots2_size) rfl ⟨(callB_of 2 hw0 (gA m_941) rfl rfl rfl (hw0 _ m_858) (hw0 _ m_1290) cb_X5_hasRun ⟨Nat.le_of_ble_eq_true rfl, Nat.le_of_ble_eq_true rfl⟩), (hw0 _ m_1291), (hw0 _ m_1292)⟩ (ci := 5) (q := (RX5, TX5, 4)) rfl rfl rfl hl.1 (Nat.le_of_ble_eq_true rfl) dX9_paste_85 ⟨Nat.le_of_ble_eq_true rfl, Nat.le_of_ble_eq_true rfl⟩ (fun r_1015 w_1015 H locs hw_1015 hP hD hS => ?_)
          rcases hw_1015 with ⟨h_1016, rfl, rfl⟩ | ⟨h_1017, h_1018, h_1019, rfl, rfl⟩
          · skip
            obtain ⟨hP, hD⟩ : vPD G A H [(ce_X9 ob ob_tape ob_tapeSize ob_reader ob_state ob_images ob_slots ob_rounds ob_ways ob_otherDebts ob_otherKnows), (ce_q4 y ob_slots (va_up (va_up (va_up (va_up (fun _ => none) 0 (some ob_slots0)) 1 (some ob_slots1)) 2 (some ob_slots2)) 3 (some ob_slots3))), (ce_X5 ob_slots2 ob_slots2_filled ob_slots2_width ob_slots2_size ob_slots2_numbers), (ce_l60 y ob_slots2_numbers fob_slots2_numbers)] := ⟨hP, hD⟩
            refine lv_if_ne (tgt := 94) hx hb dX9_paste_88 (by decide) (fun c9 => absurd (by decide) c9) (fun _ => ?_)
            refine lv_bipush (v := (-7)) hx hb dX9_paste_91 (by decide) ?_
            exact W.iret (v := (-7)) hx hb hr (fun t ht hW => ⟨⟨(-7), _, rfl, Or.inr (Or.inl (⟨nc_1009.1, by have h90 : Int32.toInt (-7) = -7 := (by decide); have h91 : Int32.toInt 2 = 2 := (by decide); omega, rfl, rfl⟩)), by rw [ht]; exact hP, hD⟩, hS.F ht⟩) hS.2.2 dX9_paste_93
          · skip
            obtain ⟨hP, hD⟩ : vPD G A H [(ce_X9 ob ob_tape ob_tapeSize ob_reader ob_state ob_images ob_slots ob_rounds ob_ways ob_otherDebts ob_otherKnows), (ce_q4 y ob_slots (va_up (va_up (va_up (va_up (fun _ => none) 0 (some ob_slots0)) 1 (some ob_slots1)) 2 (some ob_slots2)) 3 (some ob_slots3))), (ce_X5 ob_slots2 ob_slots2_filled ob_slots2_width ob_slots2_size ob_slots2_numbers), (ce_l60 y ob_slots2_numbers fob_slots2_numbers)] := ⟨hP, hD⟩
            refine lv_if_ne (tgt := 94) hx hb dX9_paste_88 (by decide) (fun _ => ?_) (fun c9 => absurd c9 (by decide))
            refine lv_aload hx hb dX9_paste_94 (lv_at hl 1 rfl) ?_
            refine va_get (D := G) (ci := 5) (v := .ref ob_slots2_numbers) (C := RX5) (T := TX5) (N := 4) hx hb hw0 inA_wsX50 hown hK.1 hP 2 rfl rfl 3 (by decide) (hw0 _ m_1293) (fun _ h9 => h9) rfl dX9_paste_96 ?_
            refine lv_iload_n hx hb dX9_paste_99 rfl (lv_at hl 4 rfl) ?_
            refine lv_aload hx hb dX9_paste_100 (lv_at hl 0 rfl) ?_
            refine va_get (D := G) (ci := 5) (v := .ref ob_slots2_numbers) (C := RX5) (T := TX5) (N := 4) hx hb hw0 inA_wsX50 hown hK.1 hP 2 rfl rfl 3 (by decide) (hw0 _ m_1293) (fun _ h9 => h9) rfl dX9_paste_102 ?_
            refine lv_iload hx hb dX9_paste_105 (lv_at hl 6 rfl) ?_
            refine lv_iload hx hb dX9_paste_107 (lv_at hl 7 rfl) ?_
            refine va_copyl (own := RX9) hx hb (by rw [hml]; exact hl.1.symm) hown (hw0 _ m_1294) (hw0 _ m_272) (hw0 _ m_273) (hw0 _ m_274) hK.1 hP hD hS 3 3 2 2 rfl rfl rfl rfl rfl (cy_n h_1012 (by decide)) (cy_n h_1017 (by decide)) (cy_n h_1013 (by decide)) (cy_g h_1012 h_1013 (by decide) (by decide) (by omega)) (cy_g h_1017 h_1013 (by decide) (by decide) (by omega)) (fun i hi => rfl) (Nat.le_of_ble_eq_true rfl) (by decide) dX9_paste_109 (fun H locs hP hD hS => ?_)
            generalize hf_1020 : (va_cpy fob_slots2_numbers fob_slots2_numbers (a2 : Int32).toNatClampNeg (a4 : Int32).toNatClampNeg (a5 : Int32).toNatClampNeg) = f_1020 at hP hD
            obtain ⟨hP, hD⟩ : vPD G A H [(ce_X9 ob ob_tape ob_tapeSize ob_reader ob_state ob_images ob_slots ob_rounds ob_ways ob_otherDebts ob_otherKnows), (ce_q4 y ob_slots (va_up (va_up (va_up (va_up (fun _ => none) 0 (some ob_slots0)) 1 (some ob_slots1)) 2 (some ob_slots2)) 3 (some ob_slots3))), (ce_X5 ob_slots2 ob_slots2_filled ob_slots2_width ob_slots2_size ob_slots2_numbers), (ce_l60 y ob_slots2_numbers f_1020)] := ⟨hP, hD⟩
            refine lv_iconst (v := 0) hx hb dX9_paste_112 (by decide) ?_
            exact W.iret (v := 0) hx hb hr (fun t ht hW => ⟨⟨0, _, rfl, Or.inr (Or.inr (⟨f_1020, h_1012, h_1017, h_1013, nc_1009.1, by have h90 : Int32.toInt 0 = 0 := (by decide); have h91 : Int32.toInt 2 = 2 := (by decide); omega, rfl, rfl⟩)), by rw [ht]; exact hP, hD⟩, hS.F ht⟩) hS.2.2 dX9_paste_113

set_option maxHeartbeats 4000000 in
set_option maxRecDepth 100000 in
theorem fpaste23 (l : Launch) (G : va_G) (y : Nat → ClassId) (sz : Nat) (ob : Nat) (a2 : Int32) (a4 : Int32) (a5 : Int32) (ob_tape : Nat) (ob_tapeSize : Int32) (ob_reader : Nat) (ob_state : Nat) (ob_images : Nat) (ob_slots : Nat) (ob_rounds : Nat) (ob_ways : Nat) (ob_otherDebts : Nat) (ob_otherKnows : Nat) (ob_slots0 : Nat) (ob_slots1 : Nat) (ob_slots2 : Nat) (ob_slots3 : Nat) (ob_slots2_filled : Int32) (ob_slots2_width : Int32) (ob_slots2_size : Int32) (ob_slots2_numbers : Nat) (fob_slots2_numbers : Nat → Int64) (ob_slots3_filled : Int32) (ob_slots3_width : Int32) (ob_slots3_size : Int32) (ob_slots3_numbers : Nat) (fob_slots3_numbers : Nat → Int64) (p_ob_tapeSize : (0 : Int) ≤ ob_tapeSize.toInt ∧ ob_tapeSize.toInt ≤ 1400) (p_ob_slots2_filled : (0 : Int) ≤ ob_slots2_filled.toInt ∧ ob_slots2_filled.toInt ≤ 1) (p_ob_slots2_size : (0 : Int) ≤ ob_slots2_size.toInt ∧ ob_slots2_size.toInt ≤ 60) (p_ob_slots3_filled : (0 : Int) ≤ ob_slots3_filled.toInt ∧ ob_slots3_filled.toInt ≤ 1) (p_ob_slots3_size : (0 : Int) ≤ ob_slots3_size.toInt ∧ ob_slots3_size.toInt ≤ 60) : Met l yX9_paste (Cond.code yX9_paste cX9_paste 8 (some .int) :: wAll) ({ frames := 1, cells := 0, slots := 0, locals := 72 }) (va_Pc [.ref ob, .int 2, .int a2, .int 3, .int a4, .int a5] (kp G y sz [(ce_X9 ob ob_tape ob_tapeSize ob_reader ob_state ob_images ob_slots ob_rounds ob_ways ob_otherDebts ob_otherKnows), (ce_q4 y ob_slots (va_up (va_up (va_up (va_up (fun _ => none) 0 (some ob_slots0)) 1 (some ob_slots1)) 2 (some ob_slots2)) 3 (some ob_slots3))), (ce_X5 ob_slots2 ob_slots2_filled ob_slots2_width ob_slots2_size ob_slots2_numbers), (ce_l60 y ob_slots2_numbers fob_slots2_numbers), (ce_X5 ob_slots3 ob_slots3_filled ob_slots3_width ob_slots3_size ob_slots3_numbers), (ce_l60 y ob_slots3_numbers fob_slots3_numbers)])) (va_Qi (fun (r : Int32) (w : va_W) => ((ob_slots2_filled.toInt = 0 ∨ ob_slots3_filled.toInt = 0) ∧ r = (-6) ∧ w = [(ce_X9 ob ob_tape ob_tapeSize ob_reader ob_state ob_images ob_slots ob_rounds ob_ways ob_otherDebts ob_otherKnows), (ce_q4 y ob_slots (va_up (va_up (va_up (va_up (fun _ => none) 0 (some ob_slots0)) 1 (some ob_slots1)) 2 (some ob_slots2)) 3 (some ob_slots3))), (ce_X5 ob_slots2 ob_slots2_filled ob_slots2_width ob_slots2_size ob_slots2_numbers), (ce_l60 y ob_slots2_numbers fob_slots2_numbers), (ce_X5 ob_slots3 ob_slots3_filled ob_slots3_width ob_slots3_size ob_slots3_numbers), (ce_l60 y ob_slots3_numbers fob_slots3_numbers)]) ∨ (((1 : Int) ≤ ob_slots2_filled.toInt ∧ ob_slots2_filled.toInt ≤ 1) ∧ ((1 : Int) ≤ ob_slots3_filled.toInt ∧ ob_slots3_filled.toInt ≤ 1) ∧ (ob_slots2_filled.toInt = 1 ∧ ob_slots3_filled.toInt = 1 ∧ ob_slots2_width.toInt = ob_slots3_width.toInt ∧ ¬ (0 ≤ a2.toInt ∧ 0 ≤ a4.toInt ∧ 0 ≤ a5.toInt ∧ a2.toInt + a5.toInt ≤ ob_slots2_size.toInt ∧ a4.toInt + a5.toInt ≤ ob_slots3_size.toInt)) ∧ r = (-7) ∧ w = [(ce_X9 ob ob_tape ob_tapeSize ob_reader ob_state ob_images ob_slots ob_rounds ob_ways ob_otherDebts ob_otherKnows), (ce_q4 y ob_slots (va_up (va_up (va_up (va_up (fun _ => none) 0 (some ob_slots0)) 1 (some ob_slots1)) 2 (some ob_slots2)) 3 (some ob_slots3))), (ce_X5 ob_slots2 ob_slots2_filled ob_slots2_width ob_slots2_size ob_slots2_numbers), (ce_l60 y ob_slots2_numbers fob_slots2_numbers), (ce_X5 ob_slots3 ob_slots3_filled ob_slots3_width ob_slots3_size ob_slots3_numbers), (ce_l60 y ob_slots3_numbers fob_slots3_numbers)]) ∨ (((1 : Int) ≤ ob_slots2_filled.toInt ∧ ob_slots2_filled.toInt ≤ 1) ∧ ((1 : Int) ≤ ob_slots3_filled.toInt ∧ ob_slots3_filled.toInt ≤ 1) ∧ (ob_slots2_filled.toInt = 1 ∧ ob_slots3_filled.toInt = 1 ∧ ¬ ob_slots2_width.toInt = ob_slots3_width.toInt) ∧ r = (-8) ∧ w = [(ce_X9 ob ob_tape ob_tapeSize ob_reader ob_state ob_images ob_slots ob_rounds ob_ways ob_otherDebts ob_otherKnows), (ce_q4 y ob_slots (va_up (va_up (va_up (va_up (fun _ => none) 0 (some ob_slots0)) 1 (some ob_slots1)) 2 (some ob_slots2)) 3 (some ob_slots3))), (ce_X5 ob_slots2 ob_slots2_filled ob_slots2_width ob_slots2_size ob_slots2_numbers), (ce_l60 y ob_slots2_numbers fob_slots2_numbers), (ce_X5 ob_slots3 ob_slots3_filled ob_slots3_width ob_slots3_size ob_slots3_numbers), (ce_l60 y ob_slots3_numbers fob_slots3_numbers)]) ∨ (∃ (f_45 : Nat → Int64), ((0 : Int) ≤ a2.toInt ∧ a2.toInt ≤ 60) ∧ ((0 : Int) ≤ a4.toInt ∧ a4.toInt ≤ 60) ∧ ((0 : Int) ≤ a5.toInt ∧ a5.toInt ≤ 60) ∧ ((1 : Int) ≤ ob_slots2_filled.toInt ∧ ob_slots2_filled.toInt ≤ 1) ∧ ((1 : Int) ≤ ob_slots3_filled.toInt ∧ ob_slots3_filled.toInt ≤ 1) ∧ (ob_slots2_filled.toInt = 1 ∧ ob_slots3_filled.toInt = 1 ∧ ob_slots2_width.toInt = ob_slots3_width.toInt ∧ 0 ≤ a2.toInt ∧ 0 ≤ a4.toInt ∧ 0 ≤ a5.toInt ∧ a2.toInt + a5.toInt ≤ ob_slots2_size.toInt ∧ a4.toInt + a5.toInt ≤ ob_slots3_size.toInt) ∧ r = 0 ∧ w = [(ce_X9 ob ob_tape ob_tapeSize ob_reader ob_state ob_images ob_slots ob_rounds ob_ways ob_otherDebts ob_otherKnows), (ce_q4 y ob_slots (va_up (va_up (va_up (va_up (fun _ => none) 0 (some ob_slots0)) 1 (some ob_slots1)) 2 (some ob_slots2)) 3 (some ob_slots3))), (ce_X5 ob_slots2 ob_slots2_filled ob_slots2_width ob_slots2_size ob_slots2_numbers), (ce_l60 y ob_slots2_numbers fob_slots2_numbers), (ce_X5 ob_slots3 ob_slots3_filled ob_slots3_width ob_slots3_size ob_slots3_numbers), (ce_l60 y ob_slots3_numbers f_45)])) (kq G (va_A [(ce_X9 ob ob_tape ob_tapeSize ob_reader ob_state ob_images ob_slots ob_rounds ob_ways ob_otherDebts ob_otherKnows), (ce_q4 y ob_slots (va_up (va_up (va_up (va_up (fun _ => none) 0 (some ob_slots0)) 1 (some ob_slots1)) 2 (some ob_slots2)) 3 (some ob_slots3))), (ce_X5 ob_slots2 ob_slots2_filled ob_slots2_width ob_slots2_size ob_slots2_numbers), (ce_l60 y ob_slots2_numbers fob_slots2_numbers), (ce_X5 ob_slots3 ob_slots3_filled ob_slots3_width ob_slots3_size ob_slots3_numbers), (ce_l60 y ob_slots3_numbers fob_slots3_numbers)] sz)) (va_A [(ce_X9 ob ob_tape ob_tapeSize ob_reader ob_state ob_images ob_slots ob_rounds ob_ways ob_otherDebts ob_otherKnows), (ce_q4 y ob_slots (va_up (va_up (va_up (va_up (fun _ => none) 0 (some ob_slots0)) 1 (some ob_slots1)) 2 (some ob_slots2)) 3 (some ob_slots3))), (ce_X5 ob_slots2 ob_slots2_filled ob_slots2_width ob_slots2_size ob_slots2_numbers), (ce_l60 y ob_slots2_numbers fob_slots2_numbers), (ce_X5 ob_slots3 ob_slots3_filled ob_slots3_width ob_slots3_size ob_slots3_numbers), (ce_l60 y ob_slots3_numbers fob_slots3_numbers)] sz)) 0 0 (va_A [(ce_X9 ob ob_tape ob_tapeSize ob_reader ob_state ob_images ob_slots ob_rounds ob_ways ob_otherDebts ob_otherKnows), (ce_q4 y ob_slots (va_up (va_up (va_up (va_up (fun _ => none) 0 (some ob_slots0)) 1 (some ob_slots1)) 2 (some ob_slots2)) 3 (some ob_slots3))), (ce_X5 ob_slots2 ob_slots2_filled ob_slots2_width ob_slots2_size ob_slots2_numbers), (ce_l60 y ob_slots2_numbers fob_slots2_numbers), (ce_X5 ob_slots3 ob_slots3_filled ob_slots3_width ob_slots3_size ob_slots3_numbers), (ce_l60 y ob_slots3_numbers fob_slots3_numbers)] sz) := by
  refine Met.ofW (cc := cX9_paste) (maxL := 8) (ret := (some .int)) (by decide) rfl ?_
  intro p e s m args below meth c s₁ B hml hv
  obtain ⟨rfl, hsz, hP, hK, hD0⟩ := hv
  have hx := B.exec
  have hb := B.bytes
  have hr := B.returns
  have hw0 : ∀ w ∈ wAll, w.before _ s = true := fun w h => atoms_spec (ws := Cond.code yX9_paste cX9_paste 8 (some .int) :: wAll) B.pre w (List.mem_cons_of_mem _ h)
  have hown : s.vm.findClass RX9 = some m.cls := findClass_of_methodNamed B.named
  subst hsz
  have hD := hD0.self (sz := s.heap.size)
  generalize hAe : va_A [(ce_X9 ob ob_tape ob_tapeSize ob_reader ob_state ob_images ob_slots ob_rounds ob_ways ob_otherDebts ob_otherKnows), (ce_q4 y ob_slots (va_up (va_up (va_up (va_up (fun _ => none) 0 (some ob_slots0)) 1 (some ob_slots1)) 2 (some ob_slots2)) 3 (some ob_slots3))), (ce_X5 ob_slots2 ob_slots2_filled ob_slots2_width ob_slots2_size ob_slots2_numbers), (ce_l60 y ob_slots2_numbers fob_slots2_numbers), (ce_X5 ob_slots3 ob_slots3_filled ob_slots3_width ob_slots3_size ob_slots3_numbers), (ce_l60 y ob_slots3_numbers fob_slots3_numbers)] s.heap.size = A at hD ⊢
  have hA : ∀ q : Nat, s.heap.size ≤ q → A q := fun q h => by rw [← hAe]; exact Or.inr h
  have hS : va_S A s.heap s.heap [] := va_S.rf
  have hP : va_P G vwCl [(ce_X9 ob ob_tape ob_tapeSize ob_reader ob_state ob_images ob_slots ob_rounds ob_ways ob_otherDebts ob_otherKnows), (ce_q4 y ob_slots (va_up (va_up (va_up (va_up (fun _ => none) 0 (some ob_slots0)) 1 (some ob_slots1)) 2 (some ob_slots2)) 3 (some ob_slots3))), (ce_X5 ob_slots2 ob_slots2_filled ob_slots2_width ob_slots2_size ob_slots2_numbers), (ce_l60 y ob_slots2_numbers fob_slots2_numbers), (ce_X5 ob_slots3 ob_slots3_filled ob_slots3_width ob_slots3_size ob_slots3_numbers), (ce_l60 y ob_slots3_numbers fob_slots3_numbers)] s.heap := hP
  have hl := lv_entry ([.ref ob, .int 2, .int a2, .int 3, .int a4, .int a5]) (n := 8) (Nat.le_of_ble_eq_true rfl)
  rw [lg_entry_eq]
  generalize (lg_sl ([.ref ob, .int 2, .int a2, .int 3, .int a4, .int a5]) ++ List.replicate (8 - (lg_sl ([.ref ob, .int 2, .int a2, .int 3, .int a4, .int a5])).length) Slot.unset).toArray = ls at hl ⊢
  have hl : lv_has ls 8 [(0, .ref ob), (1, .int 2), (2, .int a2), (3, .int 3), (4, .int a4), (5, .int a5)] := hl
  refine lv_iload_n hx hb dX9_paste_0 rfl (lv_at hl 1 rfl) ?_
  refine cSim (As := [.int 2]) (rest := []) ⟨hx, hb, hml, hown, hw0⟩ hA hK hP hD hS [] (fisSlot l G y _ 2 ) rfl ⟨(callB_of 1 hw0 (gA m_1260) rfl rfl rfl (hw0 _ m_36) (hw0 _ m_1189) cb_X9_isSlot ⟨Nat.le_of_ble_eq_true rfl, Nat.le_of_ble_eq_true rfl⟩), (hw0 _ m_1190)⟩ rfl hl.1 (Nat.le_of_ble_eq_true rfl) dX9_paste_1 ⟨Nat.le_of_ble_eq_true rfl, Nat.le_of_ble_eq_true rfl⟩ (fun r_1001 w_1001 H locs hw_1001 hP hD hS => ?_)
  rcases hw_1001 with ⟨h_1002, rfl, rfl⟩ | ⟨h_1003, h_1004, rfl, rfl⟩
  · skip
    exact False.elim (by have h9 : Int32.toInt 2 = 2 := (by decide); omega)
  · skip
    obtain ⟨hP, hD⟩ : vPD G A H [(ce_X9 ob ob_tape ob_tapeSize ob_reader ob_state ob_images ob_slots ob_rounds ob_ways ob_otherDebts ob_otherKnows), (ce_q4 y ob_slots (va_up (va_up (va_up (va_up (fun _ => none) 0 (some ob_slots0)) 1 (some ob_slots1)) 2 (some ob_slots2)) 3 (some ob_slots3))), (ce_X5 ob_slots2 ob_slots2_filled ob_slots2_width ob_slots2_size ob_slots2_numbers), (ce_l60 y ob_slots2_numbers fob_slots2_numbers), (ce_X5 ob_slots3 ob_slots3_filled ob_slots3_width ob_slots3_size ob_slots3_numbers), (ce_l60 y ob_slots3_numbers fob_slots3_numbers)] := ⟨hP, hD⟩
    refine lv_if_eq (tgt := 14) hx hb dX9_paste_4 (by decide) (fun c9 => absurd c9 (by decide)) (fun _ => ?_)
    refine lv_iload_n hx hb dX9_paste_7 rfl (lv_at hl 3 rfl) ?_
    refine cSim (As := [.int 3]) (rest := []) ⟨hx, hb, hml, hown, hw0⟩ hA hK hP hD hS [] (fisSlot l G y _ 3 ) rfl ⟨(callB_of 1 hw0 (gA m_1260) rfl rfl rfl (hw0 _ m_36) (hw0 _ m_1189) cb_X9_isSlot ⟨Nat.le_of_ble_eq_true rfl, Nat.le_of_ble_eq_true rfl⟩), (hw0 _ m_1190)⟩ rfl hl.1 (Nat.le_of_ble_eq_true rfl) dX9_paste_8 ⟨Nat.le_of_ble_eq_true rfl, Nat.le_of_ble_eq_true rfl⟩ (fun r_1005 w_1005 H locs hw_1005 hP hD hS => ?_)
    rcases hw_1005 with ⟨h_1006, rfl, rfl⟩ | ⟨h_1007, h_1008, rfl, rfl⟩
    · skip
      exact False.elim (by have h9 : Int32.toInt 3 = 3 := (by decide); omega)
    · skip
      obtain ⟨hP, hD⟩ : vPD G A H [(ce_X9 ob ob_tape ob_tapeSize ob_reader ob_state ob_images ob_slots ob_rounds ob_ways ob_otherDebts ob_otherKnows), (ce_q4 y ob_slots (va_up (va_up (va_up (va_up (fun _ => none) 0 (some ob_slots0)) 1 (some ob_slots1)) 2 (some ob_slots2)) 3 (some ob_slots3))), (ce_X5 ob_slots2 ob_slots2_filled ob_slots2_width ob_slots2_size ob_slots2_numbers), (ce_l60 y ob_slots2_numbers fob_slots2_numbers), (ce_X5 ob_slots3 ob_slots3_filled ob_slots3_width ob_slots3_size ob_slots3_numbers), (ce_l60 y ob_slots3_numbers fob_slots3_numbers)] := ⟨hP, hD⟩
      refine lv_if_ne (tgt := 17) hx hb dX9_paste_11 (by decide) (fun _ => ?_) (fun c9 => absurd c9 (by decide))
      refine lv_aload_n hx hb dX9_paste_17 rfl (lv_at hl 0 rfl) ?_
      refine va_get (D := G) (ci := 9) (v := .ref ob_slots) (C := RX9) (T := TX9) (N := 10) hx hb hw0 inA_wsX90 hown hK.1 hP 0 rfl rfl 5 (by decide) (hw0 _ m_1191) (fun _ h9 => h9) rfl dX9_paste_18 ?_
      refine lv_iload_n hx hb dX9_paste_21 rfl (lv_at hl 1 rfl) ?_
      refine va_aldq hx hb hK.1 hP 1 4 rfl rfl (vi (bkc (x := 2) (c := 2) (by decide)) (by decide)) dX9_paste_22 ?_
      refine W.eq (g2 := F0 m 23 ls [.ref ob_slots2]) rfl ?_
      refine lv_astore (lv' := [(6, .ref ob_slots2), (0, .ref ob), (1, .int 2), (2, .int a2), (3, .int 3), (4, .int a4), (5, .int a5)]) hx hb dX9_paste_23 hl (by decide) rfl (fun ls hl => ?_)
      refine lv_aload_n hx hb dX9_paste_25 rfl (lv_at hl 1 rfl) ?_
      refine va_get (D := G) (ci := 9) (v := .ref ob_slots) (C := RX9) (T := TX9) (N := 10) hx hb hw0 inA_wsX90 hown hK.1 hP 0 rfl rfl 5 (by decide) (hw0 _ m_1191) (fun _ h9 => h9) rfl dX9_paste_26 ?_
      refine lv_iload_n hx hb dX9_paste_29 rfl (lv_at hl 4 rfl) ?_
      refine va_aldq hx hb hK.1 hP 1 4 rfl rfl (vi (bkc (x := 3) (c := 3) (by decide)) (by decide)) dX9_paste_30 ?_
      refine W.eq (g2 := F0 m 31 ls [.ref ob_slots3]) rfl ?_
      refine lv_astore (lv' := [(7, .ref ob_slots3), (6, .ref ob_slots2), (0, .ref ob), (1, .int 2), (2, .int a2), (3, .int 3), (4, .int a4), (5, .int a5)]) hx hb dX9_paste_31 hl (by decide) rfl (fun ls hl => ?_)
      refine lv_aload hx hb dX9_paste_33 (lv_at hl 1 rfl) ?_
      refine va_get (D := G) (ci := 5) (v := .int ob_slots2_filled) (C := RX5) (T := TX5) (N := 4) hx hb hw0 inA_wsX50 hown hK.1 hP 2 rfl rfl 0 (by decide) (hw0 _ m_1192) (fun _ h9 => h9) rfl dX9_paste_35 ?_
      refine lv_if_eq (tgt := 49) hx hb dX9_paste_38 (by decide) (fun c_1009 => ?_) (fun c_1009 => ?_)
      · skip
        have nc_1009 := nb_eq (0) (0) c_1009 p_ob_slots2_filled (bkc (x := 0) (c := 0) (by decide)) (by decide)
        refine lv_bipush (v := (-6)) hx hb dX9_paste_49 (by decide) ?_
        exact W.iret (v := (-6)) hx hb hr (fun t ht hW => ⟨⟨(-6), _, rfl, Or.inl (⟨by have h90 : Int32.toInt (-6) = -6 := (by decide); have h91 : Int32.toInt 2 = 2 := (by decide); have h92 : Int32.toInt 3 = 3 := (by decide); omega, rfl, rfl⟩), by rw [ht]; exact hP, hD⟩, hS.F ht⟩) hS.2.2 dX9_paste_51
      · skip
        have nc_1009 := nb_ne (1) (1) c_1009 p_ob_slots2_filled (k := 0) (by decide) (by decide)
        refine lv_aload hx hb dX9_paste_41 (lv_at hl 0 rfl) ?_
        refine va_get (D := G) (ci := 5) (v := .int ob_slots3_filled) (C := RX5) (T := TX5) (N := 4) hx hb hw0 inA_wsX50 hown hK.1 hP 4 rfl rfl 0 (by decide) (hw0 _ m_1192) (fun _ h9 => h9) rfl dX9_paste_43 ?_
        refine lv_if_ne (tgt := 52) hx hb dX9_paste_46 (by decide) (fun c_1010 => ?_) (fun c_1010 => ?_)
        · skip
          have nc_1010 := nb_ne (1) (1) c_1010 p_ob_slots3_filled (k := 0) (by decide) (by decide)
          refine lv_aload hx hb dX9_paste_52 (lv_at hl 1 rfl) ?_
          refine va_get (D := G) (ci := 5) (v := .int ob_slots2_width) (C := RX5) (T := TX5) (N := 4) hx hb hw0 inA_wsX50 hown hK.1 hP 2 rfl rfl 1 (by decide) (hw0 _ m_1289) (fun _ h9 => h9) rfl dX9_paste_54 ?_
          refine lv_aload hx hb dX9_paste_57 (lv_at hl 0 rfl) ?_
          refine va_get (D := G) (ci := 5) (v := .int ob_slots3_width) (C := RX5) (T := TX5) (N := 4) hx hb hw0 inA_wsX50 hown hK.1 hP 4 rfl rfl 1 (by decide) (hw0 _ m_1289) (fun _ h9 => h9) rfl dX9_paste_59 ?_
          refine lv_icmp_eq (tgt := 68) hx hb dX9_paste_62 (by decide) (fun c_1011 => ?_) (fun c_1011 => ?_)
          · skip
            have nc_1011 := nb_eq (-2147483648) (2147483647) c_1011 (btop ob_slots2_width) (btop ob_slots3_width) (by decide)
            refine lv_aload hx hb dX9_paste_68 (lv_at hl 1 rfl) ?_
            refine lv_iload_n hx hb dX9_paste_70 rfl (lv_at hl 4 rfl) ?_
            refine lv_iload hx hb dX9_paste_71 (lv_at hl 7 rfl) ?_
            refine cVim (As := [.int a2, .int a5]) (rest := []) ⟨hx, hb, hml, hown, hw0⟩ hA hK hP hD hS [false, false, true] (sX5_hasRun l G y _ ob_slots2 a2 a5 ob_slots2_filled ob_slots2_width ob_slots2_size ob_slots2_numbers (bw (0) (1) nc_1009.1 (by decide)) p_ob_slots2_size) rfl ⟨(callB_of 2 hw0 (gA m_941) rfl rfl rfl (hw0 _ m_858) (hw0 _ m_1290) cb_X5_hasRun ⟨Nat.le_of_ble_eq_true rfl, Nat.le_of_ble_eq_true rfl⟩), (hw0 _ m_1291), (hw0 _ m_1292)⟩ (ci := 5) (q := (RX5, TX5, 4)) rfl rfl rfl hl.1 (Nat.le_of_ble_eq_true rfl) dX9_paste_73 ⟨Nat.le_of_ble_eq_true rfl, Nat.le_of_ble_eq_true rfl⟩ (fun r_1012 w_1012 H locs hw_1012 hP hD hS => ?_)
            rcases hw_1012 with ⟨h_1013, rfl, rfl⟩ | ⟨h_1014, h_1015, h_1016, rfl, rfl⟩
            · skip
              obtain ⟨hP, hD⟩ : vPD G A H [(ce_X9 ob ob_tape ob_tapeSize ob_reader ob_state ob_images ob_slots ob_rounds ob_ways ob_otherDebts ob_otherKnows), (ce_q4 y ob_slots (va_up (va_up (va_up (va_up (fun _ => none) 0 (some ob_slots0)) 1 (some ob_slots1)) 2 (some ob_slots2)) 3 (some ob_slots3))), (ce_X5 ob_slots2 ob_slots2_filled ob_slots2_width ob_slots2_size ob_slots2_numbers), (ce_l60 y ob_slots2_numbers fob_slots2_numbers), (ce_X5 ob_slots3 ob_slots3_filled ob_slots3_width ob_slots3_size ob_slots3_numbers), (ce_l60 y ob_slots3_numbers fob_slots3_numbers)] := ⟨hP, hD⟩
              refine lv_if_eq (tgt := 91) hx hb dX9_paste_76 (by decide) (fun _ => ?_) (fun c9 => absurd (by decide) c9)
              refine lv_bipush (v := (-7)) hx hb dX9_paste_91 (by decide) ?_
              exact W.iret (v := (-7)) hx hb hr (fun t ht hW => ⟨⟨(-7), _, rfl, Or.inr (Or.inl (⟨nc_1009.1, nc_1010.1, by have h90 : Int32.toInt (-7) = -7 := (by decide); have h91 : Int32.toInt 2 = 2 := (by decide); have h92 : Int32.toInt 3 = 3 := (by decide); omega, rfl, rfl⟩)), by rw [ht]; exact hP, hD⟩, hS.F ht⟩) hS.2.2 dX9_paste_93
            · skip
              obtain ⟨hP, hD⟩ : vPD G A H [(ce_X9 ob ob_tape ob_tapeSize ob_reader ob_state ob_images ob_slots ob_rounds ob_ways ob_otherDebts ob_otherKnows), (ce_q4 y ob_slots (va_up (va_up (va_up (va_up (fun _ => none) 0 (some ob_slots0)) 1 (some ob_slots1)) 2 (some ob_slots2)) 3 (some ob_slots3))), (ce_X5 ob_slots2 ob_slots2_filled ob_slots2_width ob_slots2_size ob_slots2_numbers), (ce_l60 y ob_slots2_numbers fob_slots2_numbers), (ce_X5 ob_slots3 ob_slots3_filled ob_slots3_width ob_slots3_size ob_slots3_numbers), (ce_l60 y ob_slots3_numbers fob_slots3_numbers)] := ⟨hP, hD⟩
              refine lv_if_eq (tgt := 91) hx hb dX9_paste_76 (by decide) (fun c9 => absurd c9 (by decide)) (fun _ => ?_)
              refine lv_aload hx hb dX9_paste_79 (lv_at hl 0 rfl) ?_
              refine lv_iload hx hb dX9_paste_81 (lv_at hl 6 rfl) ?_
              refine lv_iload hx hb dX9_paste_83 (lv_at hl 7 rfl) ?_
              refine cVim (As := [.int a4, .int a5]) (rest := []) ⟨hx, hb, hml, hown, hw0⟩ hA hK hP hD hS [false, false, false, false, true] (sX5_hasRun l G y _ ob_slots3 a4 a5 ob_slots3_filled ob_slots3_width ob_slots3_size ob_slots3_numbers (bw (0) (1) nc_1010.1 (by decide)) p_ob_slots3_size) rfl ⟨(callB_of 2 hw0 (gA m_941) rfl rfl rfl (hw0 _ m_858) (hw0 _ m_1290) cb_X5_hasRun ⟨Nat.le_of_ble_eq_true rfl, Nat.le_of_ble_eq_true rfl⟩), (hw0 _ m_1291), (hw0 _ m_1292)⟩ (ci := 5) (q := (RX5, TX5, 4)) rfl rfl rfl hl.1 (Nat.le_of_ble_eq_true rfl) dX9_paste_85 ⟨Nat.le_of_ble_eq_true rfl, Nat.le_of_ble_eq_true rfl⟩ (fun r_1017 w_1017 H locs hw_1017 hP hD hS => ?_)
              rcases hw_1017 with ⟨h_1018, rfl, rfl⟩ | ⟨h_1019, h_1020, h_1021, rfl, rfl⟩
              · skip
                obtain ⟨hP, hD⟩ : vPD G A H [(ce_X9 ob ob_tape ob_tapeSize ob_reader ob_state ob_images ob_slots ob_rounds ob_ways ob_otherDebts ob_otherKnows), (ce_q4 y ob_slots (va_up (va_up (va_up (va_up (fun _ => none) 0 (some ob_slots0)) 1 (some ob_slots1)) 2 (some ob_slots2)) 3 (some ob_slots3))), (ce_X5 ob_slots2 ob_slots2_filled ob_slots2_width ob_slots2_size ob_slots2_numbers), (ce_l60 y ob_slots2_numbers fob_slots2_numbers), (ce_X5 ob_slots3 ob_slots3_filled ob_slots3_width ob_slots3_size ob_slots3_numbers), (ce_l60 y ob_slots3_numbers fob_slots3_numbers)] := ⟨hP, hD⟩
                refine lv_if_ne (tgt := 94) hx hb dX9_paste_88 (by decide) (fun c9 => absurd (by decide) c9) (fun _ => ?_)
                refine lv_bipush (v := (-7)) hx hb dX9_paste_91 (by decide) ?_
                exact W.iret (v := (-7)) hx hb hr (fun t ht hW => ⟨⟨(-7), _, rfl, Or.inr (Or.inl (⟨nc_1009.1, nc_1010.1, by have h90 : Int32.toInt (-7) = -7 := (by decide); have h91 : Int32.toInt 2 = 2 := (by decide); have h92 : Int32.toInt 3 = 3 := (by decide); omega, rfl, rfl⟩)), by rw [ht]; exact hP, hD⟩, hS.F ht⟩) hS.2.2 dX9_paste_93
              · skip
                obtain ⟨hP, hD⟩ : vPD G A H [(ce_X9 ob ob_tape ob_tapeSize ob_reader ob_state ob_images ob_slots ob_rounds ob_ways ob_otherDebts ob_otherKnows), (ce_q4 y ob_slots (va_up (va_up (va_up (va_up (fun _ => none) 0 (some ob_slots0)) 1 (some ob_slots1)) 2 (some ob_slots2)) 3 (some ob_slots3))), (ce_X5 ob_slots2 ob_slots2_filled ob_slots2_width ob_slots2_size ob_slots2_numbers), (ce_l60 y ob_slots2_numbers fob_slots2_numbers), (ce_X5 ob_slots3 ob_slots3_filled ob_slots3_width ob_slots3_size ob_slots3_numbers), (ce_l60 y ob_slots3_numbers fob_slots3_numbers)] := ⟨hP, hD⟩
                refine lv_if_ne (tgt := 94) hx hb dX9_paste_88 (by decide) (fun _ => ?_) (fun c9 => absurd c9 (by decide))
                refine lv_aload hx hb dX9_paste_94 (lv_at hl 1 rfl) ?_
                refine va_get (D := G) (ci := 5) (v := .ref ob_slots2_numbers) (C := RX5) (T := TX5) (N := 4) hx hb hw0 inA_wsX50 hown hK.1 hP 2 rfl rfl 3 (by decide) (hw0 _ m_1293) (fun _ h9 => h9) rfl dX9_paste_96 ?_
                refine lv_iload_n hx hb dX9_paste_99 rfl (lv_at hl 4 rfl) ?_
                refine lv_aload hx hb dX9_paste_100 (lv_at hl 0 rfl) ?_
                refine va_get (D := G) (ci := 5) (v := .ref ob_slots3_numbers) (C := RX5) (T := TX5) (N := 4) hx hb hw0 inA_wsX50 hown hK.1 hP 4 rfl rfl 3 (by decide) (hw0 _ m_1293) (fun _ h9 => h9) rfl dX9_paste_102 ?_
                refine lv_iload hx hb dX9_paste_105 (lv_at hl 6 rfl) ?_
                refine lv_iload hx hb dX9_paste_107 (lv_at hl 7 rfl) ?_
                refine va_copyl (own := RX9) hx hb (by rw [hml]; exact hl.1.symm) hown (hw0 _ m_1294) (hw0 _ m_272) (hw0 _ m_273) (hw0 _ m_274) hK.1 hP hD hS 3 5 2 2 rfl rfl rfl rfl rfl (cy_n h_1014 (by decide)) (cy_n h_1019 (by decide)) (cy_n h_1015 (by decide)) (cy_g h_1014 h_1015 (by decide) (by decide) (by omega)) (cy_g h_1019 h_1015 (by decide) (by decide) (by omega)) (fun i hi => rfl) (Nat.le_of_ble_eq_true rfl) (by decide) dX9_paste_109 (fun H locs hP hD hS => ?_)
                generalize hf_1022 : (va_cpy fob_slots2_numbers fob_slots3_numbers (a2 : Int32).toNatClampNeg (a4 : Int32).toNatClampNeg (a5 : Int32).toNatClampNeg) = f_1022 at hP hD
                obtain ⟨hP, hD⟩ : vPD G A H [(ce_X9 ob ob_tape ob_tapeSize ob_reader ob_state ob_images ob_slots ob_rounds ob_ways ob_otherDebts ob_otherKnows), (ce_q4 y ob_slots (va_up (va_up (va_up (va_up (fun _ => none) 0 (some ob_slots0)) 1 (some ob_slots1)) 2 (some ob_slots2)) 3 (some ob_slots3))), (ce_X5 ob_slots2 ob_slots2_filled ob_slots2_width ob_slots2_size ob_slots2_numbers), (ce_l60 y ob_slots2_numbers fob_slots2_numbers), (ce_X5 ob_slots3 ob_slots3_filled ob_slots3_width ob_slots3_size ob_slots3_numbers), (ce_l60 y ob_slots3_numbers f_1022)] := ⟨hP, hD⟩
                refine lv_iconst (v := 0) hx hb dX9_paste_112 (by decide) ?_
                exact W.iret (v := 0) hx hb hr (fun t ht hW => ⟨⟨0, _, rfl, Or.inr (Or.inr (Or.inr (⟨f_1022, h_1014, h_1019, h_1015, nc_1009.1, nc_1010.1, by have h90 : Int32.toInt 0 = 0 := (by decide); have h91 : Int32.toInt 2 = 2 := (by decide); have h92 : Int32.toInt 3 = 3 := (by decide); omega, rfl, rfl⟩))), by rw [ht]; exact hP, hD⟩, hS.F ht⟩) hS.2.2 dX9_paste_113
          · skip
            have nc_1011 : ob_slots2_width.toInt ≠ ob_slots3_width.toInt := fun h9 => c_1011 (Int32.toInt_inj.mp h9)
            refine lv_bipush (v := (-8)) hx hb dX9_paste_65 (by decide) ?_
            exact W.iret (v := (-8)) hx hb hr (fun t ht hW => ⟨⟨(-8), _, rfl, Or.inr (Or.inr (Or.inl (⟨nc_1009.1, nc_1010.1, by have h90 : Int32.toInt (-8) = -8 := (by decide); have h91 : Int32.toInt 2 = 2 := (by decide); have h92 : Int32.toInt 3 = 3 := (by decide); omega, rfl, rfl⟩))), by rw [ht]; exact hP, hD⟩, hS.F ht⟩) hS.2.2 dX9_paste_67
        · skip
          have nc_1010 := nb_eq (0) (0) c_1010 p_ob_slots3_filled (bkc (x := 0) (c := 0) (by decide)) (by decide)
          refine lv_bipush (v := (-6)) hx hb dX9_paste_49 (by decide) ?_
          exact W.iret (v := (-6)) hx hb hr (fun t ht hW => ⟨⟨(-6), _, rfl, Or.inl (⟨by have h90 : Int32.toInt (-6) = -6 := (by decide); have h91 : Int32.toInt 2 = 2 := (by decide); have h92 : Int32.toInt 3 = 3 := (by decide); omega, rfl, rfl⟩), by rw [ht]; exact hP, hD⟩, hS.F ht⟩) hS.2.2 dX9_paste_51

set_option maxHeartbeats 4000000 in
set_option maxRecDepth 100000 in
theorem fpaste30 (l : Launch) (G : va_G) (y : Nat → ClassId) (sz : Nat) (ob : Nat) (a2 : Int32) (a4 : Int32) (a5 : Int32) (ob_tape : Nat) (ob_tapeSize : Int32) (ob_reader : Nat) (ob_state : Nat) (ob_images : Nat) (ob_slots : Nat) (ob_rounds : Nat) (ob_ways : Nat) (ob_otherDebts : Nat) (ob_otherKnows : Nat) (ob_slots0 : Nat) (ob_slots1 : Nat) (ob_slots2 : Nat) (ob_slots3 : Nat) (ob_slots0_filled : Int32) (ob_slots0_width : Int32) (ob_slots0_size : Int32) (ob_slots0_numbers : Nat) (fob_slots0_numbers : Nat → Int64) (ob_slots3_filled : Int32) (ob_slots3_width : Int32) (ob_slots3_size : Int32) (ob_slots3_numbers : Nat) (fob_slots3_numbers : Nat → Int64) (p_ob_tapeSize : (0 : Int) ≤ ob_tapeSize.toInt ∧ ob_tapeSize.toInt ≤ 1400) (p_ob_slots0_filled : (0 : Int) ≤ ob_slots0_filled.toInt ∧ ob_slots0_filled.toInt ≤ 1) (p_ob_slots0_size : (0 : Int) ≤ ob_slots0_size.toInt ∧ ob_slots0_size.toInt ≤ 60) (p_ob_slots3_filled : (0 : Int) ≤ ob_slots3_filled.toInt ∧ ob_slots3_filled.toInt ≤ 1) (p_ob_slots3_size : (0 : Int) ≤ ob_slots3_size.toInt ∧ ob_slots3_size.toInt ≤ 60) : Met l yX9_paste (Cond.code yX9_paste cX9_paste 8 (some .int) :: wAll) ({ frames := 1, cells := 0, slots := 0, locals := 72 }) (va_Pc [.ref ob, .int 3, .int a2, .int 0, .int a4, .int a5] (kp G y sz [(ce_X9 ob ob_tape ob_tapeSize ob_reader ob_state ob_images ob_slots ob_rounds ob_ways ob_otherDebts ob_otherKnows), (ce_q4 y ob_slots (va_up (va_up (va_up (va_up (fun _ => none) 0 (some ob_slots0)) 1 (some ob_slots1)) 2 (some ob_slots2)) 3 (some ob_slots3))), (ce_X5 ob_slots0 ob_slots0_filled ob_slots0_width ob_slots0_size ob_slots0_numbers), (ce_l60 y ob_slots0_numbers fob_slots0_numbers), (ce_X5 ob_slots3 ob_slots3_filled ob_slots3_width ob_slots3_size ob_slots3_numbers), (ce_l60 y ob_slots3_numbers fob_slots3_numbers)])) (va_Qi (fun (r : Int32) (w : va_W) => ((ob_slots3_filled.toInt = 0 ∨ ob_slots0_filled.toInt = 0) ∧ r = (-6) ∧ w = [(ce_X9 ob ob_tape ob_tapeSize ob_reader ob_state ob_images ob_slots ob_rounds ob_ways ob_otherDebts ob_otherKnows), (ce_q4 y ob_slots (va_up (va_up (va_up (va_up (fun _ => none) 0 (some ob_slots0)) 1 (some ob_slots1)) 2 (some ob_slots2)) 3 (some ob_slots3))), (ce_X5 ob_slots0 ob_slots0_filled ob_slots0_width ob_slots0_size ob_slots0_numbers), (ce_l60 y ob_slots0_numbers fob_slots0_numbers), (ce_X5 ob_slots3 ob_slots3_filled ob_slots3_width ob_slots3_size ob_slots3_numbers), (ce_l60 y ob_slots3_numbers fob_slots3_numbers)]) ∨ (((1 : Int) ≤ ob_slots0_filled.toInt ∧ ob_slots0_filled.toInt ≤ 1) ∧ ((1 : Int) ≤ ob_slots3_filled.toInt ∧ ob_slots3_filled.toInt ≤ 1) ∧ (ob_slots3_filled.toInt = 1 ∧ ob_slots0_filled.toInt = 1 ∧ ob_slots3_width.toInt = ob_slots0_width.toInt ∧ ¬ (0 ≤ a2.toInt ∧ 0 ≤ a4.toInt ∧ 0 ≤ a5.toInt ∧ a2.toInt + a5.toInt ≤ ob_slots3_size.toInt ∧ a4.toInt + a5.toInt ≤ ob_slots0_size.toInt)) ∧ r = (-7) ∧ w = [(ce_X9 ob ob_tape ob_tapeSize ob_reader ob_state ob_images ob_slots ob_rounds ob_ways ob_otherDebts ob_otherKnows), (ce_q4 y ob_slots (va_up (va_up (va_up (va_up (fun _ => none) 0 (some ob_slots0)) 1 (some ob_slots1)) 2 (some ob_slots2)) 3 (some ob_slots3))), (ce_X5 ob_slots0 ob_slots0_filled ob_slots0_width ob_slots0_size ob_slots0_numbers), (ce_l60 y ob_slots0_numbers fob_slots0_numbers), (ce_X5 ob_slots3 ob_slots3_filled ob_slots3_width ob_slots3_size ob_slots3_numbers), (ce_l60 y ob_slots3_numbers fob_slots3_numbers)]) ∨ (((1 : Int) ≤ ob_slots0_filled.toInt ∧ ob_slots0_filled.toInt ≤ 1) ∧ ((1 : Int) ≤ ob_slots3_filled.toInt ∧ ob_slots3_filled.toInt ≤ 1) ∧ (ob_slots3_filled.toInt = 1 ∧ ob_slots0_filled.toInt = 1 ∧ ¬ ob_slots3_width.toInt = ob_slots0_width.toInt) ∧ r = (-8) ∧ w = [(ce_X9 ob ob_tape ob_tapeSize ob_reader ob_state ob_images ob_slots ob_rounds ob_ways ob_otherDebts ob_otherKnows), (ce_q4 y ob_slots (va_up (va_up (va_up (va_up (fun _ => none) 0 (some ob_slots0)) 1 (some ob_slots1)) 2 (some ob_slots2)) 3 (some ob_slots3))), (ce_X5 ob_slots0 ob_slots0_filled ob_slots0_width ob_slots0_size ob_slots0_numbers), (ce_l60 y ob_slots0_numbers fob_slots0_numbers), (ce_X5 ob_slots3 ob_slots3_filled ob_slots3_width ob_slots3_size ob_slots3_numbers), (ce_l60 y ob_slots3_numbers fob_slots3_numbers)]) ∨ (∃ (f_45 : Nat → Int64), ((0 : Int) ≤ a2.toInt ∧ a2.toInt ≤ 60) ∧ ((0 : Int) ≤ a4.toInt ∧ a4.toInt ≤ 60) ∧ ((0 : Int) ≤ a5.toInt ∧ a5.toInt ≤ 60) ∧ ((1 : Int) ≤ ob_slots0_filled.toInt ∧ ob_slots0_filled.toInt ≤ 1) ∧ ((1 : Int) ≤ ob_slots3_filled.toInt ∧ ob_slots3_filled.toInt ≤ 1) ∧ (ob_slots3_filled.toInt = 1 ∧ ob_slots0_filled.toInt = 1 ∧ ob_slots3_width.toInt = ob_slots0_width.toInt ∧ 0 ≤ a2.toInt ∧ 0 ≤ a4.toInt ∧ 0 ≤ a5.toInt ∧ a2.toInt + a5.toInt ≤ ob_slots3_size.toInt ∧ a4.toInt + a5.toInt ≤ ob_slots0_size.toInt) ∧ r = 0 ∧ w = [(ce_X9 ob ob_tape ob_tapeSize ob_reader ob_state ob_images ob_slots ob_rounds ob_ways ob_otherDebts ob_otherKnows), (ce_q4 y ob_slots (va_up (va_up (va_up (va_up (fun _ => none) 0 (some ob_slots0)) 1 (some ob_slots1)) 2 (some ob_slots2)) 3 (some ob_slots3))), (ce_X5 ob_slots0 ob_slots0_filled ob_slots0_width ob_slots0_size ob_slots0_numbers), (ce_l60 y ob_slots0_numbers f_45), (ce_X5 ob_slots3 ob_slots3_filled ob_slots3_width ob_slots3_size ob_slots3_numbers), (ce_l60 y ob_slots3_numbers fob_slots3_numbers)])) (kq G (va_A [(ce_X9 ob ob_tape ob_tapeSize ob_reader ob_state ob_images ob_slots ob_rounds ob_ways ob_otherDebts ob_otherKnows), (ce_q4 y ob_slots (va_up (va_up (va_up (va_up (fun _ => none) 0 (some ob_slots0)) 1 (some ob_slots1)) 2 (some ob_slots2)) 3 (some ob_slots3))), (ce_X5 ob_slots0 ob_slots0_filled ob_slots0_width ob_slots0_size ob_slots0_numbers), (ce_l60 y ob_slots0_numbers fob_slots0_numbers), (ce_X5 ob_slots3 ob_slots3_filled ob_slots3_width ob_slots3_size ob_slots3_numbers), (ce_l60 y ob_slots3_numbers fob_slots3_numbers)] sz)) (va_A [(ce_X9 ob ob_tape ob_tapeSize ob_reader ob_state ob_images ob_slots ob_rounds ob_ways ob_otherDebts ob_otherKnows), (ce_q4 y ob_slots (va_up (va_up (va_up (va_up (fun _ => none) 0 (some ob_slots0)) 1 (some ob_slots1)) 2 (some ob_slots2)) 3 (some ob_slots3))), (ce_X5 ob_slots0 ob_slots0_filled ob_slots0_width ob_slots0_size ob_slots0_numbers), (ce_l60 y ob_slots0_numbers fob_slots0_numbers), (ce_X5 ob_slots3 ob_slots3_filled ob_slots3_width ob_slots3_size ob_slots3_numbers), (ce_l60 y ob_slots3_numbers fob_slots3_numbers)] sz)) 0 0 (va_A [(ce_X9 ob ob_tape ob_tapeSize ob_reader ob_state ob_images ob_slots ob_rounds ob_ways ob_otherDebts ob_otherKnows), (ce_q4 y ob_slots (va_up (va_up (va_up (va_up (fun _ => none) 0 (some ob_slots0)) 1 (some ob_slots1)) 2 (some ob_slots2)) 3 (some ob_slots3))), (ce_X5 ob_slots0 ob_slots0_filled ob_slots0_width ob_slots0_size ob_slots0_numbers), (ce_l60 y ob_slots0_numbers fob_slots0_numbers), (ce_X5 ob_slots3 ob_slots3_filled ob_slots3_width ob_slots3_size ob_slots3_numbers), (ce_l60 y ob_slots3_numbers fob_slots3_numbers)] sz) := by
  refine Met.ofW (cc := cX9_paste) (maxL := 8) (ret := (some .int)) (by decide) rfl ?_
  intro p e s m args below meth c s₁ B hml hv
  obtain ⟨rfl, hsz, hP, hK, hD0⟩ := hv
  have hx := B.exec
  have hb := B.bytes
  have hr := B.returns
  have hw0 : ∀ w ∈ wAll, w.before _ s = true := fun w h => atoms_spec (ws := Cond.code yX9_paste cX9_paste 8 (some .int) :: wAll) B.pre w (List.mem_cons_of_mem _ h)
  have hown : s.vm.findClass RX9 = some m.cls := findClass_of_methodNamed B.named
  subst hsz
  have hD := hD0.self (sz := s.heap.size)
  generalize hAe : va_A [(ce_X9 ob ob_tape ob_tapeSize ob_reader ob_state ob_images ob_slots ob_rounds ob_ways ob_otherDebts ob_otherKnows), (ce_q4 y ob_slots (va_up (va_up (va_up (va_up (fun _ => none) 0 (some ob_slots0)) 1 (some ob_slots1)) 2 (some ob_slots2)) 3 (some ob_slots3))), (ce_X5 ob_slots0 ob_slots0_filled ob_slots0_width ob_slots0_size ob_slots0_numbers), (ce_l60 y ob_slots0_numbers fob_slots0_numbers), (ce_X5 ob_slots3 ob_slots3_filled ob_slots3_width ob_slots3_size ob_slots3_numbers), (ce_l60 y ob_slots3_numbers fob_slots3_numbers)] s.heap.size = A at hD ⊢
  have hA : ∀ q : Nat, s.heap.size ≤ q → A q := fun q h => by rw [← hAe]; exact Or.inr h
  have hS : va_S A s.heap s.heap [] := va_S.rf
  have hP : va_P G vwCl [(ce_X9 ob ob_tape ob_tapeSize ob_reader ob_state ob_images ob_slots ob_rounds ob_ways ob_otherDebts ob_otherKnows), (ce_q4 y ob_slots (va_up (va_up (va_up (va_up (fun _ => none) 0 (some ob_slots0)) 1 (some ob_slots1)) 2 (some ob_slots2)) 3 (some ob_slots3))), (ce_X5 ob_slots0 ob_slots0_filled ob_slots0_width ob_slots0_size ob_slots0_numbers), (ce_l60 y ob_slots0_numbers fob_slots0_numbers), (ce_X5 ob_slots3 ob_slots3_filled ob_slots3_width ob_slots3_size ob_slots3_numbers), (ce_l60 y ob_slots3_numbers fob_slots3_numbers)] s.heap := hP
  have hl := lv_entry ([.ref ob, .int 3, .int a2, .int 0, .int a4, .int a5]) (n := 8) (Nat.le_of_ble_eq_true rfl)
  rw [lg_entry_eq]
  generalize (lg_sl ([.ref ob, .int 3, .int a2, .int 0, .int a4, .int a5]) ++ List.replicate (8 - (lg_sl ([.ref ob, .int 3, .int a2, .int 0, .int a4, .int a5])).length) Slot.unset).toArray = ls at hl ⊢
  have hl : lv_has ls 8 [(0, .ref ob), (1, .int 3), (2, .int a2), (3, .int 0), (4, .int a4), (5, .int a5)] := hl
  refine lv_iload_n hx hb dX9_paste_0 rfl (lv_at hl 1 rfl) ?_
  refine cSim (As := [.int 3]) (rest := []) ⟨hx, hb, hml, hown, hw0⟩ hA hK hP hD hS [] (fisSlot l G y _ 3 ) rfl ⟨(callB_of 1 hw0 (gA m_1260) rfl rfl rfl (hw0 _ m_36) (hw0 _ m_1189) cb_X9_isSlot ⟨Nat.le_of_ble_eq_true rfl, Nat.le_of_ble_eq_true rfl⟩), (hw0 _ m_1190)⟩ rfl hl.1 (Nat.le_of_ble_eq_true rfl) dX9_paste_1 ⟨Nat.le_of_ble_eq_true rfl, Nat.le_of_ble_eq_true rfl⟩ (fun r_1001 w_1001 H locs hw_1001 hP hD hS => ?_)
  rcases hw_1001 with ⟨h_1002, rfl, rfl⟩ | ⟨h_1003, h_1004, rfl, rfl⟩
  · skip
    exact False.elim (by have h9 : Int32.toInt 3 = 3 := (by decide); omega)
  · skip
    obtain ⟨hP, hD⟩ : vPD G A H [(ce_X9 ob ob_tape ob_tapeSize ob_reader ob_state ob_images ob_slots ob_rounds ob_ways ob_otherDebts ob_otherKnows), (ce_q4 y ob_slots (va_up (va_up (va_up (va_up (fun _ => none) 0 (some ob_slots0)) 1 (some ob_slots1)) 2 (some ob_slots2)) 3 (some ob_slots3))), (ce_X5 ob_slots0 ob_slots0_filled ob_slots0_width ob_slots0_size ob_slots0_numbers), (ce_l60 y ob_slots0_numbers fob_slots0_numbers), (ce_X5 ob_slots3 ob_slots3_filled ob_slots3_width ob_slots3_size ob_slots3_numbers), (ce_l60 y ob_slots3_numbers fob_slots3_numbers)] := ⟨hP, hD⟩
    refine lv_if_eq (tgt := 14) hx hb dX9_paste_4 (by decide) (fun c9 => absurd c9 (by decide)) (fun _ => ?_)
    refine lv_iload_n hx hb dX9_paste_7 rfl (lv_at hl 3 rfl) ?_
    refine cSim (As := [.int 0]) (rest := []) ⟨hx, hb, hml, hown, hw0⟩ hA hK hP hD hS [] (fisSlot l G y _ 0 ) rfl ⟨(callB_of 1 hw0 (gA m_1260) rfl rfl rfl (hw0 _ m_36) (hw0 _ m_1189) cb_X9_isSlot ⟨Nat.le_of_ble_eq_true rfl, Nat.le_of_ble_eq_true rfl⟩), (hw0 _ m_1190)⟩ rfl hl.1 (Nat.le_of_ble_eq_true rfl) dX9_paste_8 ⟨Nat.le_of_ble_eq_true rfl, Nat.le_of_ble_eq_true rfl⟩ (fun r_1005 w_1005 H locs hw_1005 hP hD hS => ?_)
    rcases hw_1005 with ⟨h_1006, rfl, rfl⟩ | ⟨h_1007, h_1008, rfl, rfl⟩
    · skip
      exact False.elim (by have h9 : Int32.toInt 0 = 0 := (by decide); omega)
    · skip
      obtain ⟨hP, hD⟩ : vPD G A H [(ce_X9 ob ob_tape ob_tapeSize ob_reader ob_state ob_images ob_slots ob_rounds ob_ways ob_otherDebts ob_otherKnows), (ce_q4 y ob_slots (va_up (va_up (va_up (va_up (fun _ => none) 0 (some ob_slots0)) 1 (some ob_slots1)) 2 (some ob_slots2)) 3 (some ob_slots3))), (ce_X5 ob_slots0 ob_slots0_filled ob_slots0_width ob_slots0_size ob_slots0_numbers), (ce_l60 y ob_slots0_numbers fob_slots0_numbers), (ce_X5 ob_slots3 ob_slots3_filled ob_slots3_width ob_slots3_size ob_slots3_numbers), (ce_l60 y ob_slots3_numbers fob_slots3_numbers)] := ⟨hP, hD⟩
      refine lv_if_ne (tgt := 17) hx hb dX9_paste_11 (by decide) (fun _ => ?_) (fun c9 => absurd c9 (by decide))
      refine lv_aload_n hx hb dX9_paste_17 rfl (lv_at hl 0 rfl) ?_
      refine va_get (D := G) (ci := 9) (v := .ref ob_slots) (C := RX9) (T := TX9) (N := 10) hx hb hw0 inA_wsX90 hown hK.1 hP 0 rfl rfl 5 (by decide) (hw0 _ m_1191) (fun _ h9 => h9) rfl dX9_paste_18 ?_
      refine lv_iload_n hx hb dX9_paste_21 rfl (lv_at hl 1 rfl) ?_
      refine va_aldq hx hb hK.1 hP 1 4 rfl rfl (vi (bkc (x := 3) (c := 3) (by decide)) (by decide)) dX9_paste_22 ?_
      refine W.eq (g2 := F0 m 23 ls [.ref ob_slots3]) rfl ?_
      refine lv_astore (lv' := [(6, .ref ob_slots3), (0, .ref ob), (1, .int 3), (2, .int a2), (3, .int 0), (4, .int a4), (5, .int a5)]) hx hb dX9_paste_23 hl (by decide) rfl (fun ls hl => ?_)
      refine lv_aload_n hx hb dX9_paste_25 rfl (lv_at hl 1 rfl) ?_
      refine va_get (D := G) (ci := 9) (v := .ref ob_slots) (C := RX9) (T := TX9) (N := 10) hx hb hw0 inA_wsX90 hown hK.1 hP 0 rfl rfl 5 (by decide) (hw0 _ m_1191) (fun _ h9 => h9) rfl dX9_paste_26 ?_
      refine lv_iload_n hx hb dX9_paste_29 rfl (lv_at hl 4 rfl) ?_
      refine va_aldq hx hb hK.1 hP 1 4 rfl rfl (vi (bkc (x := 0) (c := 0) (by decide)) (by decide)) dX9_paste_30 ?_
      refine W.eq (g2 := F0 m 31 ls [.ref ob_slots0]) rfl ?_
      refine lv_astore (lv' := [(7, .ref ob_slots0), (6, .ref ob_slots3), (0, .ref ob), (1, .int 3), (2, .int a2), (3, .int 0), (4, .int a4), (5, .int a5)]) hx hb dX9_paste_31 hl (by decide) rfl (fun ls hl => ?_)
      refine lv_aload hx hb dX9_paste_33 (lv_at hl 1 rfl) ?_
      refine va_get (D := G) (ci := 5) (v := .int ob_slots3_filled) (C := RX5) (T := TX5) (N := 4) hx hb hw0 inA_wsX50 hown hK.1 hP 4 rfl rfl 0 (by decide) (hw0 _ m_1192) (fun _ h9 => h9) rfl dX9_paste_35 ?_
      refine lv_if_eq (tgt := 49) hx hb dX9_paste_38 (by decide) (fun c_1009 => ?_) (fun c_1009 => ?_)
      · skip
        have nc_1009 := nb_eq (0) (0) c_1009 p_ob_slots3_filled (bkc (x := 0) (c := 0) (by decide)) (by decide)
        refine lv_bipush (v := (-6)) hx hb dX9_paste_49 (by decide) ?_
        exact W.iret (v := (-6)) hx hb hr (fun t ht hW => ⟨⟨(-6), _, rfl, Or.inl (⟨by have h90 : Int32.toInt (-6) = -6 := (by decide); have h91 : Int32.toInt 0 = 0 := (by decide); have h92 : Int32.toInt 3 = 3 := (by decide); omega, rfl, rfl⟩), by rw [ht]; exact hP, hD⟩, hS.F ht⟩) hS.2.2 dX9_paste_51
      · skip
        have nc_1009 := nb_ne (1) (1) c_1009 p_ob_slots3_filled (k := 0) (by decide) (by decide)
        refine lv_aload hx hb dX9_paste_41 (lv_at hl 0 rfl) ?_
        refine va_get (D := G) (ci := 5) (v := .int ob_slots0_filled) (C := RX5) (T := TX5) (N := 4) hx hb hw0 inA_wsX50 hown hK.1 hP 2 rfl rfl 0 (by decide) (hw0 _ m_1192) (fun _ h9 => h9) rfl dX9_paste_43 ?_
        refine lv_if_ne (tgt := 52) hx hb dX9_paste_46 (by decide) (fun c_1010 => ?_) (fun c_1010 => ?_)
        · skip
          have nc_1010 := nb_ne (1) (1) c_1010 p_ob_slots0_filled (k := 0) (by decide) (by decide)
          refine lv_aload hx hb dX9_paste_52 (lv_at hl 1 rfl) ?_
          refine va_get (D := G) (ci := 5) (v := .int ob_slots3_width) (C := RX5) (T := TX5) (N := 4) hx hb hw0 inA_wsX50 hown hK.1 hP 4 rfl rfl 1 (by decide) (hw0 _ m_1289) (fun _ h9 => h9) rfl dX9_paste_54 ?_
          refine lv_aload hx hb dX9_paste_57 (lv_at hl 0 rfl) ?_
          refine va_get (D := G) (ci := 5) (v := .int ob_slots0_width) (C := RX5) (T := TX5) (N := 4) hx hb hw0 inA_wsX50 hown hK.1 hP 2 rfl rfl 1 (by decide) (hw0 _ m_1289) (fun _ h9 => h9) rfl dX9_paste_59 ?_
          refine lv_icmp_eq (tgt := 68) hx hb dX9_paste_62 (by decide) (fun c_1011 => ?_) (fun c_1011 => ?_)
          · skip
            have nc_1011 := nb_eq (-2147483648) (2147483647) c_1011 (btop ob_slots3_width) (btop ob_slots0_width) (by decide)
            refine lv_aload hx hb dX9_paste_68 (lv_at hl 1 rfl) ?_
            refine lv_iload_n hx hb dX9_paste_70 rfl (lv_at hl 4 rfl) ?_
            refine lv_iload hx hb dX9_paste_71 (lv_at hl 7 rfl) ?_
            refine cVim (As := [.int a2, .int a5]) (rest := []) ⟨hx, hb, hml, hown, hw0⟩ hA hK hP hD hS [false, false, false, false, true] (sX5_hasRun l G y _ ob_slots3 a2 a5 ob_slots3_filled ob_slots3_width ob_slots3_size ob_slots3_numbers (bw (0) (1) nc_1009.1 (by decide)) p_ob_slots3_size) rfl ⟨(callB_of 2 hw0 (gA m_941) rfl rfl rfl (hw0 _ m_858) (hw0 _ m_1290) cb_X5_hasRun ⟨Nat.le_of_ble_eq_true rfl, Nat.le_of_ble_eq_true rfl⟩), (hw0 _ m_1291), (hw0 _ m_1292)⟩ (ci := 5) (q := (RX5, TX5, 4)) rfl rfl rfl hl.1 (Nat.le_of_ble_eq_true rfl) dX9_paste_73 ⟨Nat.le_of_ble_eq_true rfl, Nat.le_of_ble_eq_true rfl⟩ (fun r_1012 w_1012 H locs hw_1012 hP hD hS => ?_)
            rcases hw_1012 with ⟨h_1013, rfl, rfl⟩ | ⟨h_1014, h_1015, h_1016, rfl, rfl⟩
            · skip
              obtain ⟨hP, hD⟩ : vPD G A H [(ce_X9 ob ob_tape ob_tapeSize ob_reader ob_state ob_images ob_slots ob_rounds ob_ways ob_otherDebts ob_otherKnows), (ce_q4 y ob_slots (va_up (va_up (va_up (va_up (fun _ => none) 0 (some ob_slots0)) 1 (some ob_slots1)) 2 (some ob_slots2)) 3 (some ob_slots3))), (ce_X5 ob_slots0 ob_slots0_filled ob_slots0_width ob_slots0_size ob_slots0_numbers), (ce_l60 y ob_slots0_numbers fob_slots0_numbers), (ce_X5 ob_slots3 ob_slots3_filled ob_slots3_width ob_slots3_size ob_slots3_numbers), (ce_l60 y ob_slots3_numbers fob_slots3_numbers)] := ⟨hP, hD⟩
              refine lv_if_eq (tgt := 91) hx hb dX9_paste_76 (by decide) (fun _ => ?_) (fun c9 => absurd (by decide) c9)
              refine lv_bipush (v := (-7)) hx hb dX9_paste_91 (by decide) ?_
              exact W.iret (v := (-7)) hx hb hr (fun t ht hW => ⟨⟨(-7), _, rfl, Or.inr (Or.inl (⟨nc_1010.1, nc_1009.1, by have h90 : Int32.toInt (-7) = -7 := (by decide); have h91 : Int32.toInt 0 = 0 := (by decide); have h92 : Int32.toInt 3 = 3 := (by decide); omega, rfl, rfl⟩)), by rw [ht]; exact hP, hD⟩, hS.F ht⟩) hS.2.2 dX9_paste_93
            · skip
              obtain ⟨hP, hD⟩ : vPD G A H [(ce_X9 ob ob_tape ob_tapeSize ob_reader ob_state ob_images ob_slots ob_rounds ob_ways ob_otherDebts ob_otherKnows), (ce_q4 y ob_slots (va_up (va_up (va_up (va_up (fun _ => none) 0 (some ob_slots0)) 1 (some ob_slots1)) 2 (some ob_slots2)) 3 (some ob_slots3))), (ce_X5 ob_slots0 ob_slots0_filled ob_slots0_width ob_slots0_size ob_slots0_numbers), (ce_l60 y ob_slots0_numbers fob_slots0_numbers), (ce_X5 ob_slots3 ob_slots3_filled ob_slots3_width ob_slots3_size ob_slots3_numbers), (ce_l60 y ob_slots3_numbers fob_slots3_numbers)] := ⟨hP, hD⟩
              refine lv_if_eq (tgt := 91) hx hb dX9_paste_76 (by decide) (fun c9 => absurd c9 (by decide)) (fun _ => ?_)
              refine lv_aload hx hb dX9_paste_79 (lv_at hl 0 rfl) ?_
              refine lv_iload hx hb dX9_paste_81 (lv_at hl 6 rfl) ?_
              refine lv_iload hx hb dX9_paste_83 (lv_at hl 7 rfl) ?_
              refine cVim (As := [.int a4, .int a5]) (rest := []) ⟨hx, hb, hml, hown, hw0⟩ hA hK hP hD hS [false, false, true] (sX5_hasRun l G y _ ob_slots0 a4 a5 ob_slots0_filled ob_slots0_width ob_slots0_size ob_slots0_numbers (bw (0) (1) nc_1010.1 (by decide)) p_ob_slots0_size) rfl ⟨(callB_of 2 hw0 (gA m_941) rfl rfl rfl (hw0 _ m_858) (hw0 _ m_1290) cb_X5_hasRun ⟨Nat.le_of_ble_eq_true rfl, Nat.le_of_ble_eq_true rfl⟩), (hw0 _ m_1291), (hw0 _ m_1292)⟩ (ci := 5) (q := (RX5, TX5, 4)) rfl rfl rfl hl.1 (Nat.le_of_ble_eq_true rfl) dX9_paste_85 ⟨Nat.le_of_ble_eq_true rfl, Nat.le_of_ble_eq_true rfl⟩ (fun r_1017 w_1017 H locs hw_1017 hP hD hS => ?_)
              rcases hw_1017 with ⟨h_1018, rfl, rfl⟩ | ⟨h_1019, h_1020, h_1021, rfl, rfl⟩
              · skip
                obtain ⟨hP, hD⟩ : vPD G A H [(ce_X9 ob ob_tape ob_tapeSize ob_reader ob_state ob_images ob_slots ob_rounds ob_ways ob_otherDebts ob_otherKnows), (ce_q4 y ob_slots (va_up (va_up (va_up (va_up (fun _ => none) 0 (some ob_slots0)) 1 (some ob_slots1)) 2 (some ob_slots2)) 3 (some ob_slots3))), (ce_X5 ob_slots0 ob_slots0_filled ob_slots0_width ob_slots0_size ob_slots0_numbers), (ce_l60 y ob_slots0_numbers fob_slots0_numbers), (ce_X5 ob_slots3 ob_slots3_filled ob_slots3_width ob_slots3_size ob_slots3_numbers), (ce_l60 y ob_slots3_numbers fob_slots3_numbers)] := ⟨hP, hD⟩
                refine lv_if_ne (tgt := 94) hx hb dX9_paste_88 (by decide) (fun c9 => absurd (by decide) c9) (fun _ => ?_)
                refine lv_bipush (v := (-7)) hx hb dX9_paste_91 (by decide) ?_
                exact W.iret (v := (-7)) hx hb hr (fun t ht hW => ⟨⟨(-7), _, rfl, Or.inr (Or.inl (⟨nc_1010.1, nc_1009.1, by have h90 : Int32.toInt (-7) = -7 := (by decide); have h91 : Int32.toInt 0 = 0 := (by decide); have h92 : Int32.toInt 3 = 3 := (by decide); omega, rfl, rfl⟩)), by rw [ht]; exact hP, hD⟩, hS.F ht⟩) hS.2.2 dX9_paste_93
              · skip
                obtain ⟨hP, hD⟩ : vPD G A H [(ce_X9 ob ob_tape ob_tapeSize ob_reader ob_state ob_images ob_slots ob_rounds ob_ways ob_otherDebts ob_otherKnows), (ce_q4 y ob_slots (va_up (va_up (va_up (va_up (fun _ => none) 0 (some ob_slots0)) 1 (some ob_slots1)) 2 (some ob_slots2)) 3 (some ob_slots3))), (ce_X5 ob_slots0 ob_slots0_filled ob_slots0_width ob_slots0_size ob_slots0_numbers), (ce_l60 y ob_slots0_numbers fob_slots0_numbers), (ce_X5 ob_slots3 ob_slots3_filled ob_slots3_width ob_slots3_size ob_slots3_numbers), (ce_l60 y ob_slots3_numbers fob_slots3_numbers)] := ⟨hP, hD⟩
                refine lv_if_ne (tgt := 94) hx hb dX9_paste_88 (by decide) (fun _ => ?_) (fun c9 => absurd c9 (by decide))
                refine lv_aload hx hb dX9_paste_94 (lv_at hl 1 rfl) ?_
                refine va_get (D := G) (ci := 5) (v := .ref ob_slots3_numbers) (C := RX5) (T := TX5) (N := 4) hx hb hw0 inA_wsX50 hown hK.1 hP 4 rfl rfl 3 (by decide) (hw0 _ m_1293) (fun _ h9 => h9) rfl dX9_paste_96 ?_
                refine lv_iload_n hx hb dX9_paste_99 rfl (lv_at hl 4 rfl) ?_
                refine lv_aload hx hb dX9_paste_100 (lv_at hl 0 rfl) ?_
                refine va_get (D := G) (ci := 5) (v := .ref ob_slots0_numbers) (C := RX5) (T := TX5) (N := 4) hx hb hw0 inA_wsX50 hown hK.1 hP 2 rfl rfl 3 (by decide) (hw0 _ m_1293) (fun _ h9 => h9) rfl dX9_paste_102 ?_
                refine lv_iload hx hb dX9_paste_105 (lv_at hl 6 rfl) ?_
                refine lv_iload hx hb dX9_paste_107 (lv_at hl 7 rfl) ?_
                refine va_copyl (own := RX9) hx hb (by rw [hml]; exact hl.1.symm) hown (hw0 _ m_1294) (hw0 _ m_272) (hw0 _ m_273) (hw0 _ m_274) hK.1 hP hD hS 5 3 2 2 rfl rfl rfl rfl rfl (cy_n h_1014 (by decide)) (cy_n h_1019 (by decide)) (cy_n h_1015 (by decide)) (cy_g h_1014 h_1015 (by decide) (by decide) (by omega)) (cy_g h_1019 h_1015 (by decide) (by decide) (by omega)) (fun i hi => rfl) (Nat.le_of_ble_eq_true rfl) (by decide) dX9_paste_109 (fun H locs hP hD hS => ?_)
                generalize hf_1022 : (va_cpy fob_slots3_numbers fob_slots0_numbers (a2 : Int32).toNatClampNeg (a4 : Int32).toNatClampNeg (a5 : Int32).toNatClampNeg) = f_1022 at hP hD
                obtain ⟨hP, hD⟩ : vPD G A H [(ce_X9 ob ob_tape ob_tapeSize ob_reader ob_state ob_images ob_slots ob_rounds ob_ways ob_otherDebts ob_otherKnows), (ce_q4 y ob_slots (va_up (va_up (va_up (va_up (fun _ => none) 0 (some ob_slots0)) 1 (some ob_slots1)) 2 (some ob_slots2)) 3 (some ob_slots3))), (ce_X5 ob_slots0 ob_slots0_filled ob_slots0_width ob_slots0_size ob_slots0_numbers), (ce_l60 y ob_slots0_numbers f_1022), (ce_X5 ob_slots3 ob_slots3_filled ob_slots3_width ob_slots3_size ob_slots3_numbers), (ce_l60 y ob_slots3_numbers fob_slots3_numbers)] := ⟨hP, hD⟩
                refine lv_iconst (v := 0) hx hb dX9_paste_112 (by decide) ?_
                exact W.iret (v := 0) hx hb hr (fun t ht hW => ⟨⟨0, _, rfl, Or.inr (Or.inr (Or.inr (⟨f_1022, h_1014, h_1019, h_1015, nc_1010.1, nc_1009.1, by have h90 : Int32.toInt 0 = 0 := (by decide); have h91 : Int32.toInt 3 = 3 := (by decide); omega, rfl, rfl⟩))), by rw [ht]; exact hP, hD⟩, hS.F ht⟩) hS.2.2 dX9_paste_113
          · skip
            have nc_1011 : ob_slots3_width.toInt ≠ ob_slots0_width.toInt := fun h9 => c_1011 (Int32.toInt_inj.mp h9)
            refine lv_bipush (v := (-8)) hx hb dX9_paste_65 (by decide) ?_
            exact W.iret (v := (-8)) hx hb hr (fun t ht hW => ⟨⟨(-8), _, rfl, Or.inr (Or.inr (Or.inl (⟨nc_1010.1, nc_1009.1, by have h90 : Int32.toInt (-8) = -8 := (by decide); have h91 : Int32.toInt 0 = 0 := (by decide); have h92 : Int32.toInt 3 = 3 := (by decide); omega, rfl, rfl⟩))), by rw [ht]; exact hP, hD⟩, hS.F ht⟩) hS.2.2 dX9_paste_67
        · skip
          have nc_1010 := nb_eq (0) (0) c_1010 p_ob_slots0_filled (bkc (x := 0) (c := 0) (by decide)) (by decide)
          refine lv_bipush (v := (-6)) hx hb dX9_paste_49 (by decide) ?_
          exact W.iret (v := (-6)) hx hb hr (fun t ht hW => ⟨⟨(-6), _, rfl, Or.inl (⟨by have h90 : Int32.toInt (-6) = -6 := (by decide); have h91 : Int32.toInt 0 = 0 := (by decide); have h92 : Int32.toInt 3 = 3 := (by decide); omega, rfl, rfl⟩), by rw [ht]; exact hP, hD⟩, hS.F ht⟩) hS.2.2 dX9_paste_51

set_option maxHeartbeats 4000000 in
set_option maxRecDepth 100000 in
theorem fpaste31 (l : Launch) (G : va_G) (y : Nat → ClassId) (sz : Nat) (ob : Nat) (a2 : Int32) (a4 : Int32) (a5 : Int32) (ob_tape : Nat) (ob_tapeSize : Int32) (ob_reader : Nat) (ob_state : Nat) (ob_images : Nat) (ob_slots : Nat) (ob_rounds : Nat) (ob_ways : Nat) (ob_otherDebts : Nat) (ob_otherKnows : Nat) (ob_slots0 : Nat) (ob_slots1 : Nat) (ob_slots2 : Nat) (ob_slots3 : Nat) (ob_slots1_filled : Int32) (ob_slots1_width : Int32) (ob_slots1_size : Int32) (ob_slots1_numbers : Nat) (fob_slots1_numbers : Nat → Int64) (ob_slots3_filled : Int32) (ob_slots3_width : Int32) (ob_slots3_size : Int32) (ob_slots3_numbers : Nat) (fob_slots3_numbers : Nat → Int64) (p_ob_tapeSize : (0 : Int) ≤ ob_tapeSize.toInt ∧ ob_tapeSize.toInt ≤ 1400) (p_ob_slots1_filled : (0 : Int) ≤ ob_slots1_filled.toInt ∧ ob_slots1_filled.toInt ≤ 1) (p_ob_slots1_size : (0 : Int) ≤ ob_slots1_size.toInt ∧ ob_slots1_size.toInt ≤ 60) (p_ob_slots3_filled : (0 : Int) ≤ ob_slots3_filled.toInt ∧ ob_slots3_filled.toInt ≤ 1) (p_ob_slots3_size : (0 : Int) ≤ ob_slots3_size.toInt ∧ ob_slots3_size.toInt ≤ 60) : Met l yX9_paste (Cond.code yX9_paste cX9_paste 8 (some .int) :: wAll) ({ frames := 1, cells := 0, slots := 0, locals := 72 }) (va_Pc [.ref ob, .int 3, .int a2, .int 1, .int a4, .int a5] (kp G y sz [(ce_X9 ob ob_tape ob_tapeSize ob_reader ob_state ob_images ob_slots ob_rounds ob_ways ob_otherDebts ob_otherKnows), (ce_q4 y ob_slots (va_up (va_up (va_up (va_up (fun _ => none) 0 (some ob_slots0)) 1 (some ob_slots1)) 2 (some ob_slots2)) 3 (some ob_slots3))), (ce_X5 ob_slots1 ob_slots1_filled ob_slots1_width ob_slots1_size ob_slots1_numbers), (ce_l60 y ob_slots1_numbers fob_slots1_numbers), (ce_X5 ob_slots3 ob_slots3_filled ob_slots3_width ob_slots3_size ob_slots3_numbers), (ce_l60 y ob_slots3_numbers fob_slots3_numbers)])) (va_Qi (fun (r : Int32) (w : va_W) => ((ob_slots3_filled.toInt = 0 ∨ ob_slots1_filled.toInt = 0) ∧ r = (-6) ∧ w = [(ce_X9 ob ob_tape ob_tapeSize ob_reader ob_state ob_images ob_slots ob_rounds ob_ways ob_otherDebts ob_otherKnows), (ce_q4 y ob_slots (va_up (va_up (va_up (va_up (fun _ => none) 0 (some ob_slots0)) 1 (some ob_slots1)) 2 (some ob_slots2)) 3 (some ob_slots3))), (ce_X5 ob_slots1 ob_slots1_filled ob_slots1_width ob_slots1_size ob_slots1_numbers), (ce_l60 y ob_slots1_numbers fob_slots1_numbers), (ce_X5 ob_slots3 ob_slots3_filled ob_slots3_width ob_slots3_size ob_slots3_numbers), (ce_l60 y ob_slots3_numbers fob_slots3_numbers)]) ∨ (((1 : Int) ≤ ob_slots1_filled.toInt ∧ ob_slots1_filled.toInt ≤ 1) ∧ ((1 : Int) ≤ ob_slots3_filled.toInt ∧ ob_slots3_filled.toInt ≤ 1) ∧ (ob_slots3_filled.toInt = 1 ∧ ob_slots1_filled.toInt = 1 ∧ ob_slots3_width.toInt = ob_slots1_width.toInt ∧ ¬ (0 ≤ a2.toInt ∧ 0 ≤ a4.toInt ∧ 0 ≤ a5.toInt ∧ a2.toInt + a5.toInt ≤ ob_slots3_size.toInt ∧ a4.toInt + a5.toInt ≤ ob_slots1_size.toInt)) ∧ r = (-7) ∧ w = [(ce_X9 ob ob_tape ob_tapeSize ob_reader ob_state ob_images ob_slots ob_rounds ob_ways ob_otherDebts ob_otherKnows), (ce_q4 y ob_slots (va_up (va_up (va_up (va_up (fun _ => none) 0 (some ob_slots0)) 1 (some ob_slots1)) 2 (some ob_slots2)) 3 (some ob_slots3))), (ce_X5 ob_slots1 ob_slots1_filled ob_slots1_width ob_slots1_size ob_slots1_numbers), (ce_l60 y ob_slots1_numbers fob_slots1_numbers), (ce_X5 ob_slots3 ob_slots3_filled ob_slots3_width ob_slots3_size ob_slots3_numbers), (ce_l60 y ob_slots3_numbers fob_slots3_numbers)]) ∨ (((1 : Int) ≤ ob_slots1_filled.toInt ∧ ob_slots1_filled.toInt ≤ 1) ∧ ((1 : Int) ≤ ob_slots3_filled.toInt ∧ ob_slots3_filled.toInt ≤ 1) ∧ (ob_slots3_filled.toInt = 1 ∧ ob_slots1_filled.toInt = 1 ∧ ¬ ob_slots3_width.toInt = ob_slots1_width.toInt) ∧ r = (-8) ∧ w = [(ce_X9 ob ob_tape ob_tapeSize ob_reader ob_state ob_images ob_slots ob_rounds ob_ways ob_otherDebts ob_otherKnows), (ce_q4 y ob_slots (va_up (va_up (va_up (va_up (fun _ => none) 0 (some ob_slots0)) 1 (some ob_slots1)) 2 (some ob_slots2)) 3 (some ob_slots3))), (ce_X5 ob_slots1 ob_slots1_filled ob_slots1_width ob_slots1_size ob_slots1_numbers), (ce_l60 y ob_slots1_numbers fob_slots1_numbers), (ce_X5 ob_slots3 ob_slots3_filled ob_slots3_width ob_slots3_size ob_slots3_numbers), (ce_l60 y ob_slots3_numbers fob_slots3_numbers)]) ∨ (∃ (f_45 : Nat → Int64), ((0 : Int) ≤ a2.toInt ∧ a2.toInt ≤ 60) ∧ ((0 : Int) ≤ a4.toInt ∧ a4.toInt ≤ 60) ∧ ((0 : Int) ≤ a5.toInt ∧ a5.toInt ≤ 60) ∧ ((1 : Int) ≤ ob_slots1_filled.toInt ∧ ob_slots1_filled.toInt ≤ 1) ∧ ((1 : Int) ≤ ob_slots3_filled.toInt ∧ ob_slots3_filled.toInt ≤ 1) ∧ (ob_slots3_filled.toInt = 1 ∧ ob_slots1_filled.toInt = 1 ∧ ob_slots3_width.toInt = ob_slots1_width.toInt ∧ 0 ≤ a2.toInt ∧ 0 ≤ a4.toInt ∧ 0 ≤ a5.toInt ∧ a2.toInt + a5.toInt ≤ ob_slots3_size.toInt ∧ a4.toInt + a5.toInt ≤ ob_slots1_size.toInt) ∧ r = 0 ∧ w = [(ce_X9 ob ob_tape ob_tapeSize ob_reader ob_state ob_images ob_slots ob_rounds ob_ways ob_otherDebts ob_otherKnows), (ce_q4 y ob_slots (va_up (va_up (va_up (va_up (fun _ => none) 0 (some ob_slots0)) 1 (some ob_slots1)) 2 (some ob_slots2)) 3 (some ob_slots3))), (ce_X5 ob_slots1 ob_slots1_filled ob_slots1_width ob_slots1_size ob_slots1_numbers), (ce_l60 y ob_slots1_numbers f_45), (ce_X5 ob_slots3 ob_slots3_filled ob_slots3_width ob_slots3_size ob_slots3_numbers), (ce_l60 y ob_slots3_numbers fob_slots3_numbers)])) (kq G (va_A [(ce_X9 ob ob_tape ob_tapeSize ob_reader ob_state ob_images ob_slots ob_rounds ob_ways ob_otherDebts ob_otherKnows), (ce_q4 y ob_slots (va_up (va_up (va_up (va_up (fun _ => none) 0 (some ob_slots0)) 1 (some ob_slots1)) 2 (some ob_slots2)) 3 (some ob_slots3))), (ce_X5 ob_slots1 ob_slots1_filled ob_slots1_width ob_slots1_size ob_slots1_numbers), (ce_l60 y ob_slots1_numbers fob_slots1_numbers), (ce_X5 ob_slots3 ob_slots3_filled ob_slots3_width ob_slots3_size ob_slots3_numbers), (ce_l60 y ob_slots3_numbers fob_slots3_numbers)] sz)) (va_A [(ce_X9 ob ob_tape ob_tapeSize ob_reader ob_state ob_images ob_slots ob_rounds ob_ways ob_otherDebts ob_otherKnows), (ce_q4 y ob_slots (va_up (va_up (va_up (va_up (fun _ => none) 0 (some ob_slots0)) 1 (some ob_slots1)) 2 (some ob_slots2)) 3 (some ob_slots3))), (ce_X5 ob_slots1 ob_slots1_filled ob_slots1_width ob_slots1_size ob_slots1_numbers), (ce_l60 y ob_slots1_numbers fob_slots1_numbers), (ce_X5 ob_slots3 ob_slots3_filled ob_slots3_width ob_slots3_size ob_slots3_numbers), (ce_l60 y ob_slots3_numbers fob_slots3_numbers)] sz)) 0 0 (va_A [(ce_X9 ob ob_tape ob_tapeSize ob_reader ob_state ob_images ob_slots ob_rounds ob_ways ob_otherDebts ob_otherKnows), (ce_q4 y ob_slots (va_up (va_up (va_up (va_up (fun _ => none) 0 (some ob_slots0)) 1 (some ob_slots1)) 2 (some ob_slots2)) 3 (some ob_slots3))), (ce_X5 ob_slots1 ob_slots1_filled ob_slots1_width ob_slots1_size ob_slots1_numbers), (ce_l60 y ob_slots1_numbers fob_slots1_numbers), (ce_X5 ob_slots3 ob_slots3_filled ob_slots3_width ob_slots3_size ob_slots3_numbers), (ce_l60 y ob_slots3_numbers fob_slots3_numbers)] sz) := by
  refine Met.ofW (cc := cX9_paste) (maxL := 8) (ret := (some .int)) (by decide) rfl ?_
  intro p e s m args below meth c s₁ B hml hv
  obtain ⟨rfl, hsz, hP, hK, hD0⟩ := hv
  have hx := B.exec
  have hb := B.bytes
  have hr := B.returns
  have hw0 : ∀ w ∈ wAll, w.before _ s = true := fun w h => atoms_spec (ws := Cond.code yX9_paste cX9_paste 8 (some .int) :: wAll) B.pre w (List.mem_cons_of_mem _ h)
  have hown : s.vm.findClass RX9 = some m.cls := findClass_of_methodNamed B.named
  subst hsz
  have hD := hD0.self (sz := s.heap.size)
  generalize hAe : va_A [(ce_X9 ob ob_tape ob_tapeSize ob_reader ob_state ob_images ob_slots ob_rounds ob_ways ob_otherDebts ob_otherKnows), (ce_q4 y ob_slots (va_up (va_up (va_up (va_up (fun _ => none) 0 (some ob_slots0)) 1 (some ob_slots1)) 2 (some ob_slots2)) 3 (some ob_slots3))), (ce_X5 ob_slots1 ob_slots1_filled ob_slots1_width ob_slots1_size ob_slots1_numbers), (ce_l60 y ob_slots1_numbers fob_slots1_numbers), (ce_X5 ob_slots3 ob_slots3_filled ob_slots3_width ob_slots3_size ob_slots3_numbers), (ce_l60 y ob_slots3_numbers fob_slots3_numbers)] s.heap.size = A at hD ⊢
  have hA : ∀ q : Nat, s.heap.size ≤ q → A q := fun q h => by rw [← hAe]; exact Or.inr h
  have hS : va_S A s.heap s.heap [] := va_S.rf
  have hP : va_P G vwCl [(ce_X9 ob ob_tape ob_tapeSize ob_reader ob_state ob_images ob_slots ob_rounds ob_ways ob_otherDebts ob_otherKnows), (ce_q4 y ob_slots (va_up (va_up (va_up (va_up (fun _ => none) 0 (some ob_slots0)) 1 (some ob_slots1)) 2 (some ob_slots2)) 3 (some ob_slots3))), (ce_X5 ob_slots1 ob_slots1_filled ob_slots1_width ob_slots1_size ob_slots1_numbers), (ce_l60 y ob_slots1_numbers fob_slots1_numbers), (ce_X5 ob_slots3 ob_slots3_filled ob_slots3_width ob_slots3_size ob_slots3_numbers), (ce_l60 y ob_slots3_numbers fob_slots3_numbers)] s.heap := hP
  have hl := lv_entry ([.ref ob, .int 3, .int a2, .int 1, .int a4, .int a5]) (n := 8) (Nat.le_of_ble_eq_true rfl)
  rw [lg_entry_eq]
  generalize (lg_sl ([.ref ob, .int 3, .int a2, .int 1, .int a4, .int a5]) ++ List.replicate (8 - (lg_sl ([.ref ob, .int 3, .int a2, .int 1, .int a4, .int a5])).length) Slot.unset).toArray = ls at hl ⊢
  have hl : lv_has ls 8 [(0, .ref ob), (1, .int 3), (2, .int a2), (3, .int 1), (4, .int a4), (5, .int a5)] := hl
  refine lv_iload_n hx hb dX9_paste_0 rfl (lv_at hl 1 rfl) ?_
  refine cSim (As := [.int 3]) (rest := []) ⟨hx, hb, hml, hown, hw0⟩ hA hK hP hD hS [] (fisSlot l G y _ 3 ) rfl ⟨(callB_of 1 hw0 (gA m_1260) rfl rfl rfl (hw0 _ m_36) (hw0 _ m_1189) cb_X9_isSlot ⟨Nat.le_of_ble_eq_true rfl, Nat.le_of_ble_eq_true rfl⟩), (hw0 _ m_1190)⟩ rfl hl.1 (Nat.le_of_ble_eq_true rfl) dX9_paste_1 ⟨Nat.le_of_ble_eq_true rfl, Nat.le_of_ble_eq_true rfl⟩ (fun r_1001 w_1001 H locs hw_1001 hP hD hS => ?_)
  rcases hw_1001 with ⟨h_1002, rfl, rfl⟩ | ⟨h_1003, h_1004, rfl, rfl⟩
  · skip
    exact False.elim (by have h9 : Int32.toInt 3 = 3 := (by decide); omega)
  · skip
    obtain ⟨hP, hD⟩ : vPD G A H [(ce_X9 ob ob_tape ob_tapeSize ob_reader ob_state ob_images ob_slots ob_rounds ob_ways ob_otherDebts ob_otherKnows), (ce_q4 y ob_slots (va_up (va_up (va_up (va_up (fun _ => none) 0 (some ob_slots0)) 1 (some ob_slots1)) 2 (some ob_slots2)) 3 (some ob_slots3))), (ce_X5 ob_slots1 ob_slots1_filled ob_slots1_width ob_slots1_size ob_slots1_numbers), (ce_l60 y ob_slots1_numbers fob_slots1_numbers), (ce_X5 ob_slots3 ob_slots3_filled ob_slots3_width ob_slots3_size ob_slots3_numbers), (ce_l60 y ob_slots3_numbers fob_slots3_numbers)] := ⟨hP, hD⟩
    refine lv_if_eq (tgt := 14) hx hb dX9_paste_4 (by decide) (fun c9 => absurd c9 (by decide)) (fun _ => ?_)
    refine lv_iload_n hx hb dX9_paste_7 rfl (lv_at hl 3 rfl) ?_
    refine cSim (As := [.int 1]) (rest := []) ⟨hx, hb, hml, hown, hw0⟩ hA hK hP hD hS [] (fisSlot l G y _ 1 ) rfl ⟨(callB_of 1 hw0 (gA m_1260) rfl rfl rfl (hw0 _ m_36) (hw0 _ m_1189) cb_X9_isSlot ⟨Nat.le_of_ble_eq_true rfl, Nat.le_of_ble_eq_true rfl⟩), (hw0 _ m_1190)⟩ rfl hl.1 (Nat.le_of_ble_eq_true rfl) dX9_paste_8 ⟨Nat.le_of_ble_eq_true rfl, Nat.le_of_ble_eq_true rfl⟩ (fun r_1005 w_1005 H locs hw_1005 hP hD hS => ?_)
    rcases hw_1005 with ⟨h_1006, rfl, rfl⟩ | ⟨h_1007, h_1008, rfl, rfl⟩
    · skip
      exact False.elim (by have h9 : Int32.toInt 1 = 1 := (by decide); omega)
    · skip
      obtain ⟨hP, hD⟩ : vPD G A H [(ce_X9 ob ob_tape ob_tapeSize ob_reader ob_state ob_images ob_slots ob_rounds ob_ways ob_otherDebts ob_otherKnows), (ce_q4 y ob_slots (va_up (va_up (va_up (va_up (fun _ => none) 0 (some ob_slots0)) 1 (some ob_slots1)) 2 (some ob_slots2)) 3 (some ob_slots3))), (ce_X5 ob_slots1 ob_slots1_filled ob_slots1_width ob_slots1_size ob_slots1_numbers), (ce_l60 y ob_slots1_numbers fob_slots1_numbers), (ce_X5 ob_slots3 ob_slots3_filled ob_slots3_width ob_slots3_size ob_slots3_numbers), (ce_l60 y ob_slots3_numbers fob_slots3_numbers)] := ⟨hP, hD⟩
      refine lv_if_ne (tgt := 17) hx hb dX9_paste_11 (by decide) (fun _ => ?_) (fun c9 => absurd c9 (by decide))
      refine lv_aload_n hx hb dX9_paste_17 rfl (lv_at hl 0 rfl) ?_
      refine va_get (D := G) (ci := 9) (v := .ref ob_slots) (C := RX9) (T := TX9) (N := 10) hx hb hw0 inA_wsX90 hown hK.1 hP 0 rfl rfl 5 (by decide) (hw0 _ m_1191) (fun _ h9 => h9) rfl dX9_paste_18 ?_
      refine lv_iload_n hx hb dX9_paste_21 rfl (lv_at hl 1 rfl) ?_
      refine va_aldq hx hb hK.1 hP 1 4 rfl rfl (vi (bkc (x := 3) (c := 3) (by decide)) (by decide)) dX9_paste_22 ?_
      refine W.eq (g2 := F0 m 23 ls [.ref ob_slots3]) rfl ?_
      refine lv_astore (lv' := [(6, .ref ob_slots3), (0, .ref ob), (1, .int 3), (2, .int a2), (3, .int 1), (4, .int a4), (5, .int a5)]) hx hb dX9_paste_23 hl (by decide) rfl (fun ls hl => ?_)
      refine lv_aload_n hx hb dX9_paste_25 rfl (lv_at hl 1 rfl) ?_
      refine va_get (D := G) (ci := 9) (v := .ref ob_slots) (C := RX9) (T := TX9) (N := 10) hx hb hw0 inA_wsX90 hown hK.1 hP 0 rfl rfl 5 (by decide) (hw0 _ m_1191) (fun _ h9 => h9) rfl dX9_paste_26 ?_
      refine lv_iload_n hx hb dX9_paste_29 rfl (lv_at hl 4 rfl) ?_
      refine va_aldq hx hb hK.1 hP 1 4 rfl rfl (vi (bkc (x := 1) (c := 1) (by decide)) (by decide)) dX9_paste_30 ?_
      refine W.eq (g2 := F0 m 31 ls [.ref ob_slots1]) rfl ?_
      refine lv_astore (lv' := [(7, .ref ob_slots1), (6, .ref ob_slots3), (0, .ref ob), (1, .int 3), (2, .int a2), (3, .int 1), (4, .int a4), (5, .int a5)]) hx hb dX9_paste_31 hl (by decide) rfl (fun ls hl => ?_)
      refine lv_aload hx hb dX9_paste_33 (lv_at hl 1 rfl) ?_
      refine va_get (D := G) (ci := 5) (v := .int ob_slots3_filled) (C := RX5) (T := TX5) (N := 4) hx hb hw0 inA_wsX50 hown hK.1 hP 4 rfl rfl 0 (by decide) (hw0 _ m_1192) (fun _ h9 => h9) rfl dX9_paste_35 ?_
      refine lv_if_eq (tgt := 49) hx hb dX9_paste_38 (by decide) (fun c_1009 => ?_) (fun c_1009 => ?_)
      · skip
        have nc_1009 := nb_eq (0) (0) c_1009 p_ob_slots3_filled (bkc (x := 0) (c := 0) (by decide)) (by decide)
        refine lv_bipush (v := (-6)) hx hb dX9_paste_49 (by decide) ?_
        exact W.iret (v := (-6)) hx hb hr (fun t ht hW => ⟨⟨(-6), _, rfl, Or.inl (⟨by have h90 : Int32.toInt (-6) = -6 := (by decide); have h91 : Int32.toInt 1 = 1 := (by decide); have h92 : Int32.toInt 3 = 3 := (by decide); omega, rfl, rfl⟩), by rw [ht]; exact hP, hD⟩, hS.F ht⟩) hS.2.2 dX9_paste_51
      · skip
        have nc_1009 := nb_ne (1) (1) c_1009 p_ob_slots3_filled (k := 0) (by decide) (by decide)
        refine lv_aload hx hb dX9_paste_41 (lv_at hl 0 rfl) ?_
        refine va_get (D := G) (ci := 5) (v := .int ob_slots1_filled) (C := RX5) (T := TX5) (N := 4) hx hb hw0 inA_wsX50 hown hK.1 hP 2 rfl rfl 0 (by decide) (hw0 _ m_1192) (fun _ h9 => h9) rfl dX9_paste_43 ?_
        refine lv_if_ne (tgt := 52) hx hb dX9_paste_46 (by decide) (fun c_1010 => ?_) (fun c_1010 => ?_)
        · skip
          have nc_1010 := nb_ne (1) (1) c_1010 p_ob_slots1_filled (k := 0) (by decide) (by decide)
          refine lv_aload hx hb dX9_paste_52 (lv_at hl 1 rfl) ?_
          refine va_get (D := G) (ci := 5) (v := .int ob_slots3_width) (C := RX5) (T := TX5) (N := 4) hx hb hw0 inA_wsX50 hown hK.1 hP 4 rfl rfl 1 (by decide) (hw0 _ m_1289) (fun _ h9 => h9) rfl dX9_paste_54 ?_
          refine lv_aload hx hb dX9_paste_57 (lv_at hl 0 rfl) ?_
          refine va_get (D := G) (ci := 5) (v := .int ob_slots1_width) (C := RX5) (T := TX5) (N := 4) hx hb hw0 inA_wsX50 hown hK.1 hP 2 rfl rfl 1 (by decide) (hw0 _ m_1289) (fun _ h9 => h9) rfl dX9_paste_59 ?_
          refine lv_icmp_eq (tgt := 68) hx hb dX9_paste_62 (by decide) (fun c_1011 => ?_) (fun c_1011 => ?_)
          · skip
            have nc_1011 := nb_eq (-2147483648) (2147483647) c_1011 (btop ob_slots3_width) (btop ob_slots1_width) (by decide)
            refine lv_aload hx hb dX9_paste_68 (lv_at hl 1 rfl) ?_
            refine lv_iload_n hx hb dX9_paste_70 rfl (lv_at hl 4 rfl) ?_
            refine lv_iload hx hb dX9_paste_71 (lv_at hl 7 rfl) ?_
            refine cVim (As := [.int a2, .int a5]) (rest := []) ⟨hx, hb, hml, hown, hw0⟩ hA hK hP hD hS [false, false, false, false, true] (sX5_hasRun l G y _ ob_slots3 a2 a5 ob_slots3_filled ob_slots3_width ob_slots3_size ob_slots3_numbers (bw (0) (1) nc_1009.1 (by decide)) p_ob_slots3_size) rfl ⟨(callB_of 2 hw0 (gA m_941) rfl rfl rfl (hw0 _ m_858) (hw0 _ m_1290) cb_X5_hasRun ⟨Nat.le_of_ble_eq_true rfl, Nat.le_of_ble_eq_true rfl⟩), (hw0 _ m_1291), (hw0 _ m_1292)⟩ (ci := 5) (q := (RX5, TX5, 4)) rfl rfl rfl hl.1 (Nat.le_of_ble_eq_true rfl) dX9_paste_73 ⟨Nat.le_of_ble_eq_true rfl, Nat.le_of_ble_eq_true rfl⟩ (fun r_1012 w_1012 H locs hw_1012 hP hD hS => ?_)
            rcases hw_1012 with ⟨h_1013, rfl, rfl⟩ | ⟨h_1014, h_1015, h_1016, rfl, rfl⟩
            · skip
              obtain ⟨hP, hD⟩ : vPD G A H [(ce_X9 ob ob_tape ob_tapeSize ob_reader ob_state ob_images ob_slots ob_rounds ob_ways ob_otherDebts ob_otherKnows), (ce_q4 y ob_slots (va_up (va_up (va_up (va_up (fun _ => none) 0 (some ob_slots0)) 1 (some ob_slots1)) 2 (some ob_slots2)) 3 (some ob_slots3))), (ce_X5 ob_slots1 ob_slots1_filled ob_slots1_width ob_slots1_size ob_slots1_numbers), (ce_l60 y ob_slots1_numbers fob_slots1_numbers), (ce_X5 ob_slots3 ob_slots3_filled ob_slots3_width ob_slots3_size ob_slots3_numbers), (ce_l60 y ob_slots3_numbers fob_slots3_numbers)] := ⟨hP, hD⟩
              refine lv_if_eq (tgt := 91) hx hb dX9_paste_76 (by decide) (fun _ => ?_) (fun c9 => absurd (by decide) c9)
              refine lv_bipush (v := (-7)) hx hb dX9_paste_91 (by decide) ?_
              exact W.iret (v := (-7)) hx hb hr (fun t ht hW => ⟨⟨(-7), _, rfl, Or.inr (Or.inl (⟨nc_1010.1, nc_1009.1, by have h90 : Int32.toInt (-7) = -7 := (by decide); have h91 : Int32.toInt 1 = 1 := (by decide); have h92 : Int32.toInt 3 = 3 := (by decide); omega, rfl, rfl⟩)), by rw [ht]; exact hP, hD⟩, hS.F ht⟩) hS.2.2 dX9_paste_93
            · skip
              obtain ⟨hP, hD⟩ : vPD G A H [(ce_X9 ob ob_tape ob_tapeSize ob_reader ob_state ob_images ob_slots ob_rounds ob_ways ob_otherDebts ob_otherKnows), (ce_q4 y ob_slots (va_up (va_up (va_up (va_up (fun _ => none) 0 (some ob_slots0)) 1 (some ob_slots1)) 2 (some ob_slots2)) 3 (some ob_slots3))), (ce_X5 ob_slots1 ob_slots1_filled ob_slots1_width ob_slots1_size ob_slots1_numbers), (ce_l60 y ob_slots1_numbers fob_slots1_numbers), (ce_X5 ob_slots3 ob_slots3_filled ob_slots3_width ob_slots3_size ob_slots3_numbers), (ce_l60 y ob_slots3_numbers fob_slots3_numbers)] := ⟨hP, hD⟩
              refine lv_if_eq (tgt := 91) hx hb dX9_paste_76 (by decide) (fun c9 => absurd c9 (by decide)) (fun _ => ?_)
              refine lv_aload hx hb dX9_paste_79 (lv_at hl 0 rfl) ?_
              refine lv_iload hx hb dX9_paste_81 (lv_at hl 6 rfl) ?_
              refine lv_iload hx hb dX9_paste_83 (lv_at hl 7 rfl) ?_
              refine cVim (As := [.int a4, .int a5]) (rest := []) ⟨hx, hb, hml, hown, hw0⟩ hA hK hP hD hS [false, false, true] (sX5_hasRun l G y _ ob_slots1 a4 a5 ob_slots1_filled ob_slots1_width ob_slots1_size ob_slots1_numbers (bw (0) (1) nc_1010.1 (by decide)) p_ob_slots1_size) rfl ⟨(callB_of 2 hw0 (gA m_941) rfl rfl rfl (hw0 _ m_858) (hw0 _ m_1290) cb_X5_hasRun ⟨Nat.le_of_ble_eq_true rfl, Nat.le_of_ble_eq_true rfl⟩), (hw0 _ m_1291), (hw0 _ m_1292)⟩ (ci := 5) (q := (RX5, TX5, 4)) rfl rfl rfl hl.1 (Nat.le_of_ble_eq_true rfl) dX9_paste_85 ⟨Nat.le_of_ble_eq_true rfl, Nat.le_of_ble_eq_true rfl⟩ (fun r_1017 w_1017 H locs hw_1017 hP hD hS => ?_)
              rcases hw_1017 with ⟨h_1018, rfl, rfl⟩ | ⟨h_1019, h_1020, h_1021, rfl, rfl⟩
              · skip
                obtain ⟨hP, hD⟩ : vPD G A H [(ce_X9 ob ob_tape ob_tapeSize ob_reader ob_state ob_images ob_slots ob_rounds ob_ways ob_otherDebts ob_otherKnows), (ce_q4 y ob_slots (va_up (va_up (va_up (va_up (fun _ => none) 0 (some ob_slots0)) 1 (some ob_slots1)) 2 (some ob_slots2)) 3 (some ob_slots3))), (ce_X5 ob_slots1 ob_slots1_filled ob_slots1_width ob_slots1_size ob_slots1_numbers), (ce_l60 y ob_slots1_numbers fob_slots1_numbers), (ce_X5 ob_slots3 ob_slots3_filled ob_slots3_width ob_slots3_size ob_slots3_numbers), (ce_l60 y ob_slots3_numbers fob_slots3_numbers)] := ⟨hP, hD⟩
                refine lv_if_ne (tgt := 94) hx hb dX9_paste_88 (by decide) (fun c9 => absurd (by decide) c9) (fun _ => ?_)
                refine lv_bipush (v := (-7)) hx hb dX9_paste_91 (by decide) ?_
                exact W.iret (v := (-7)) hx hb hr (fun t ht hW => ⟨⟨(-7), _, rfl, Or.inr (Or.inl (⟨nc_1010.1, nc_1009.1, by have h90 : Int32.toInt (-7) = -7 := (by decide); have h91 : Int32.toInt 1 = 1 := (by decide); have h92 : Int32.toInt 3 = 3 := (by decide); omega, rfl, rfl⟩)), by rw [ht]; exact hP, hD⟩, hS.F ht⟩) hS.2.2 dX9_paste_93
              · skip
                obtain ⟨hP, hD⟩ : vPD G A H [(ce_X9 ob ob_tape ob_tapeSize ob_reader ob_state ob_images ob_slots ob_rounds ob_ways ob_otherDebts ob_otherKnows), (ce_q4 y ob_slots (va_up (va_up (va_up (va_up (fun _ => none) 0 (some ob_slots0)) 1 (some ob_slots1)) 2 (some ob_slots2)) 3 (some ob_slots3))), (ce_X5 ob_slots1 ob_slots1_filled ob_slots1_width ob_slots1_size ob_slots1_numbers), (ce_l60 y ob_slots1_numbers fob_slots1_numbers), (ce_X5 ob_slots3 ob_slots3_filled ob_slots3_width ob_slots3_size ob_slots3_numbers), (ce_l60 y ob_slots3_numbers fob_slots3_numbers)] := ⟨hP, hD⟩
                refine lv_if_ne (tgt := 94) hx hb dX9_paste_88 (by decide) (fun _ => ?_) (fun c9 => absurd c9 (by decide))
                refine lv_aload hx hb dX9_paste_94 (lv_at hl 1 rfl) ?_
                refine va_get (D := G) (ci := 5) (v := .ref ob_slots3_numbers) (C := RX5) (T := TX5) (N := 4) hx hb hw0 inA_wsX50 hown hK.1 hP 4 rfl rfl 3 (by decide) (hw0 _ m_1293) (fun _ h9 => h9) rfl dX9_paste_96 ?_
                refine lv_iload_n hx hb dX9_paste_99 rfl (lv_at hl 4 rfl) ?_
                refine lv_aload hx hb dX9_paste_100 (lv_at hl 0 rfl) ?_
                refine va_get (D := G) (ci := 5) (v := .ref ob_slots1_numbers) (C := RX5) (T := TX5) (N := 4) hx hb hw0 inA_wsX50 hown hK.1 hP 2 rfl rfl 3 (by decide) (hw0 _ m_1293) (fun _ h9 => h9) rfl dX9_paste_102 ?_
                refine lv_iload hx hb dX9_paste_105 (lv_at hl 6 rfl) ?_
                refine lv_iload hx hb dX9_paste_107 (lv_at hl 7 rfl) ?_
                refine va_copyl (own := RX9) hx hb (by rw [hml]; exact hl.1.symm) hown (hw0 _ m_1294) (hw0 _ m_272) (hw0 _ m_273) (hw0 _ m_274) hK.1 hP hD hS 5 3 2 2 rfl rfl rfl rfl rfl (cy_n h_1014 (by decide)) (cy_n h_1019 (by decide)) (cy_n h_1015 (by decide)) (cy_g h_1014 h_1015 (by decide) (by decide) (by omega)) (cy_g h_1019 h_1015 (by decide) (by decide) (by omega)) (fun i hi => rfl) (Nat.le_of_ble_eq_true rfl) (by decide) dX9_paste_109 (fun H locs hP hD hS => ?_)
                generalize hf_1022 : (va_cpy fob_slots3_numbers fob_slots1_numbers (a2 : Int32).toNatClampNeg (a4 : Int32).toNatClampNeg (a5 : Int32).toNatClampNeg) = f_1022 at hP hD
                obtain ⟨hP, hD⟩ : vPD G A H [(ce_X9 ob ob_tape ob_tapeSize ob_reader ob_state ob_images ob_slots ob_rounds ob_ways ob_otherDebts ob_otherKnows), (ce_q4 y ob_slots (va_up (va_up (va_up (va_up (fun _ => none) 0 (some ob_slots0)) 1 (some ob_slots1)) 2 (some ob_slots2)) 3 (some ob_slots3))), (ce_X5 ob_slots1 ob_slots1_filled ob_slots1_width ob_slots1_size ob_slots1_numbers), (ce_l60 y ob_slots1_numbers f_1022), (ce_X5 ob_slots3 ob_slots3_filled ob_slots3_width ob_slots3_size ob_slots3_numbers), (ce_l60 y ob_slots3_numbers fob_slots3_numbers)] := ⟨hP, hD⟩
                refine lv_iconst (v := 0) hx hb dX9_paste_112 (by decide) ?_
                exact W.iret (v := 0) hx hb hr (fun t ht hW => ⟨⟨0, _, rfl, Or.inr (Or.inr (Or.inr (⟨f_1022, h_1014, h_1019, h_1015, nc_1010.1, nc_1009.1, by have h90 : Int32.toInt 0 = 0 := (by decide); have h91 : Int32.toInt 1 = 1 := (by decide); have h92 : Int32.toInt 3 = 3 := (by decide); omega, rfl, rfl⟩))), by rw [ht]; exact hP, hD⟩, hS.F ht⟩) hS.2.2 dX9_paste_113
          · skip
            have nc_1011 : ob_slots3_width.toInt ≠ ob_slots1_width.toInt := fun h9 => c_1011 (Int32.toInt_inj.mp h9)
            refine lv_bipush (v := (-8)) hx hb dX9_paste_65 (by decide) ?_
            exact W.iret (v := (-8)) hx hb hr (fun t ht hW => ⟨⟨(-8), _, rfl, Or.inr (Or.inr (Or.inl (⟨nc_1010.1, nc_1009.1, by have h90 : Int32.toInt (-8) = -8 := (by decide); have h91 : Int32.toInt 1 = 1 := (by decide); have h92 : Int32.toInt 3 = 3 := (by decide); omega, rfl, rfl⟩))), by rw [ht]; exact hP, hD⟩, hS.F ht⟩) hS.2.2 dX9_paste_67
        · skip
          have nc_1010 := nb_eq (0) (0) c_1010 p_ob_slots1_filled (bkc (x := 0) (c := 0) (by decide)) (by decide)
          refine lv_bipush (v := (-6)) hx hb dX9_paste_49 (by decide) ?_
          exact W.iret (v := (-6)) hx hb hr (fun t ht hW => ⟨⟨(-6), _, rfl, Or.inl (⟨by have h90 : Int32.toInt (-6) = -6 := (by decide); have h91 : Int32.toInt 1 = 1 := (by decide); have h92 : Int32.toInt 3 = 3 := (by decide); omega, rfl, rfl⟩), by rw [ht]; exact hP, hD⟩, hS.F ht⟩) hS.2.2 dX9_paste_51

set_option maxHeartbeats 4000000 in
set_option maxRecDepth 100000 in
theorem fpaste32 (l : Launch) (G : va_G) (y : Nat → ClassId) (sz : Nat) (ob : Nat) (a2 : Int32) (a4 : Int32) (a5 : Int32) (ob_tape : Nat) (ob_tapeSize : Int32) (ob_reader : Nat) (ob_state : Nat) (ob_images : Nat) (ob_slots : Nat) (ob_rounds : Nat) (ob_ways : Nat) (ob_otherDebts : Nat) (ob_otherKnows : Nat) (ob_slots0 : Nat) (ob_slots1 : Nat) (ob_slots2 : Nat) (ob_slots3 : Nat) (ob_slots2_filled : Int32) (ob_slots2_width : Int32) (ob_slots2_size : Int32) (ob_slots2_numbers : Nat) (fob_slots2_numbers : Nat → Int64) (ob_slots3_filled : Int32) (ob_slots3_width : Int32) (ob_slots3_size : Int32) (ob_slots3_numbers : Nat) (fob_slots3_numbers : Nat → Int64) (p_ob_tapeSize : (0 : Int) ≤ ob_tapeSize.toInt ∧ ob_tapeSize.toInt ≤ 1400) (p_ob_slots2_filled : (0 : Int) ≤ ob_slots2_filled.toInt ∧ ob_slots2_filled.toInt ≤ 1) (p_ob_slots2_size : (0 : Int) ≤ ob_slots2_size.toInt ∧ ob_slots2_size.toInt ≤ 60) (p_ob_slots3_filled : (0 : Int) ≤ ob_slots3_filled.toInt ∧ ob_slots3_filled.toInt ≤ 1) (p_ob_slots3_size : (0 : Int) ≤ ob_slots3_size.toInt ∧ ob_slots3_size.toInt ≤ 60) : Met l yX9_paste (Cond.code yX9_paste cX9_paste 8 (some .int) :: wAll) ({ frames := 1, cells := 0, slots := 0, locals := 72 }) (va_Pc [.ref ob, .int 3, .int a2, .int 2, .int a4, .int a5] (kp G y sz [(ce_X9 ob ob_tape ob_tapeSize ob_reader ob_state ob_images ob_slots ob_rounds ob_ways ob_otherDebts ob_otherKnows), (ce_q4 y ob_slots (va_up (va_up (va_up (va_up (fun _ => none) 0 (some ob_slots0)) 1 (some ob_slots1)) 2 (some ob_slots2)) 3 (some ob_slots3))), (ce_X5 ob_slots2 ob_slots2_filled ob_slots2_width ob_slots2_size ob_slots2_numbers), (ce_l60 y ob_slots2_numbers fob_slots2_numbers), (ce_X5 ob_slots3 ob_slots3_filled ob_slots3_width ob_slots3_size ob_slots3_numbers), (ce_l60 y ob_slots3_numbers fob_slots3_numbers)])) (va_Qi (fun (r : Int32) (w : va_W) => ((ob_slots3_filled.toInt = 0 ∨ ob_slots2_filled.toInt = 0) ∧ r = (-6) ∧ w = [(ce_X9 ob ob_tape ob_tapeSize ob_reader ob_state ob_images ob_slots ob_rounds ob_ways ob_otherDebts ob_otherKnows), (ce_q4 y ob_slots (va_up (va_up (va_up (va_up (fun _ => none) 0 (some ob_slots0)) 1 (some ob_slots1)) 2 (some ob_slots2)) 3 (some ob_slots3))), (ce_X5 ob_slots2 ob_slots2_filled ob_slots2_width ob_slots2_size ob_slots2_numbers), (ce_l60 y ob_slots2_numbers fob_slots2_numbers), (ce_X5 ob_slots3 ob_slots3_filled ob_slots3_width ob_slots3_size ob_slots3_numbers), (ce_l60 y ob_slots3_numbers fob_slots3_numbers)]) ∨ (((1 : Int) ≤ ob_slots2_filled.toInt ∧ ob_slots2_filled.toInt ≤ 1) ∧ ((1 : Int) ≤ ob_slots3_filled.toInt ∧ ob_slots3_filled.toInt ≤ 1) ∧ (ob_slots3_filled.toInt = 1 ∧ ob_slots2_filled.toInt = 1 ∧ ob_slots3_width.toInt = ob_slots2_width.toInt ∧ ¬ (0 ≤ a2.toInt ∧ 0 ≤ a4.toInt ∧ 0 ≤ a5.toInt ∧ a2.toInt + a5.toInt ≤ ob_slots3_size.toInt ∧ a4.toInt + a5.toInt ≤ ob_slots2_size.toInt)) ∧ r = (-7) ∧ w = [(ce_X9 ob ob_tape ob_tapeSize ob_reader ob_state ob_images ob_slots ob_rounds ob_ways ob_otherDebts ob_otherKnows), (ce_q4 y ob_slots (va_up (va_up (va_up (va_up (fun _ => none) 0 (some ob_slots0)) 1 (some ob_slots1)) 2 (some ob_slots2)) 3 (some ob_slots3))), (ce_X5 ob_slots2 ob_slots2_filled ob_slots2_width ob_slots2_size ob_slots2_numbers), (ce_l60 y ob_slots2_numbers fob_slots2_numbers), (ce_X5 ob_slots3 ob_slots3_filled ob_slots3_width ob_slots3_size ob_slots3_numbers), (ce_l60 y ob_slots3_numbers fob_slots3_numbers)]) ∨ (((1 : Int) ≤ ob_slots2_filled.toInt ∧ ob_slots2_filled.toInt ≤ 1) ∧ ((1 : Int) ≤ ob_slots3_filled.toInt ∧ ob_slots3_filled.toInt ≤ 1) ∧ (ob_slots3_filled.toInt = 1 ∧ ob_slots2_filled.toInt = 1 ∧ ¬ ob_slots3_width.toInt = ob_slots2_width.toInt) ∧ r = (-8) ∧ w = [(ce_X9 ob ob_tape ob_tapeSize ob_reader ob_state ob_images ob_slots ob_rounds ob_ways ob_otherDebts ob_otherKnows), (ce_q4 y ob_slots (va_up (va_up (va_up (va_up (fun _ => none) 0 (some ob_slots0)) 1 (some ob_slots1)) 2 (some ob_slots2)) 3 (some ob_slots3))), (ce_X5 ob_slots2 ob_slots2_filled ob_slots2_width ob_slots2_size ob_slots2_numbers), (ce_l60 y ob_slots2_numbers fob_slots2_numbers), (ce_X5 ob_slots3 ob_slots3_filled ob_slots3_width ob_slots3_size ob_slots3_numbers), (ce_l60 y ob_slots3_numbers fob_slots3_numbers)]) ∨ (∃ (f_45 : Nat → Int64), ((0 : Int) ≤ a2.toInt ∧ a2.toInt ≤ 60) ∧ ((0 : Int) ≤ a4.toInt ∧ a4.toInt ≤ 60) ∧ ((0 : Int) ≤ a5.toInt ∧ a5.toInt ≤ 60) ∧ ((1 : Int) ≤ ob_slots2_filled.toInt ∧ ob_slots2_filled.toInt ≤ 1) ∧ ((1 : Int) ≤ ob_slots3_filled.toInt ∧ ob_slots3_filled.toInt ≤ 1) ∧ (ob_slots3_filled.toInt = 1 ∧ ob_slots2_filled.toInt = 1 ∧ ob_slots3_width.toInt = ob_slots2_width.toInt ∧ 0 ≤ a2.toInt ∧ 0 ≤ a4.toInt ∧ 0 ≤ a5.toInt ∧ a2.toInt + a5.toInt ≤ ob_slots3_size.toInt ∧ a4.toInt + a5.toInt ≤ ob_slots2_size.toInt) ∧ r = 0 ∧ w = [(ce_X9 ob ob_tape ob_tapeSize ob_reader ob_state ob_images ob_slots ob_rounds ob_ways ob_otherDebts ob_otherKnows), (ce_q4 y ob_slots (va_up (va_up (va_up (va_up (fun _ => none) 0 (some ob_slots0)) 1 (some ob_slots1)) 2 (some ob_slots2)) 3 (some ob_slots3))), (ce_X5 ob_slots2 ob_slots2_filled ob_slots2_width ob_slots2_size ob_slots2_numbers), (ce_l60 y ob_slots2_numbers f_45), (ce_X5 ob_slots3 ob_slots3_filled ob_slots3_width ob_slots3_size ob_slots3_numbers), (ce_l60 y ob_slots3_numbers fob_slots3_numbers)])) (kq G (va_A [(ce_X9 ob ob_tape ob_tapeSize ob_reader ob_state ob_images ob_slots ob_rounds ob_ways ob_otherDebts ob_otherKnows), (ce_q4 y ob_slots (va_up (va_up (va_up (va_up (fun _ => none) 0 (some ob_slots0)) 1 (some ob_slots1)) 2 (some ob_slots2)) 3 (some ob_slots3))), (ce_X5 ob_slots2 ob_slots2_filled ob_slots2_width ob_slots2_size ob_slots2_numbers), (ce_l60 y ob_slots2_numbers fob_slots2_numbers), (ce_X5 ob_slots3 ob_slots3_filled ob_slots3_width ob_slots3_size ob_slots3_numbers), (ce_l60 y ob_slots3_numbers fob_slots3_numbers)] sz)) (va_A [(ce_X9 ob ob_tape ob_tapeSize ob_reader ob_state ob_images ob_slots ob_rounds ob_ways ob_otherDebts ob_otherKnows), (ce_q4 y ob_slots (va_up (va_up (va_up (va_up (fun _ => none) 0 (some ob_slots0)) 1 (some ob_slots1)) 2 (some ob_slots2)) 3 (some ob_slots3))), (ce_X5 ob_slots2 ob_slots2_filled ob_slots2_width ob_slots2_size ob_slots2_numbers), (ce_l60 y ob_slots2_numbers fob_slots2_numbers), (ce_X5 ob_slots3 ob_slots3_filled ob_slots3_width ob_slots3_size ob_slots3_numbers), (ce_l60 y ob_slots3_numbers fob_slots3_numbers)] sz)) 0 0 (va_A [(ce_X9 ob ob_tape ob_tapeSize ob_reader ob_state ob_images ob_slots ob_rounds ob_ways ob_otherDebts ob_otherKnows), (ce_q4 y ob_slots (va_up (va_up (va_up (va_up (fun _ => none) 0 (some ob_slots0)) 1 (some ob_slots1)) 2 (some ob_slots2)) 3 (some ob_slots3))), (ce_X5 ob_slots2 ob_slots2_filled ob_slots2_width ob_slots2_size ob_slots2_numbers), (ce_l60 y ob_slots2_numbers fob_slots2_numbers), (ce_X5 ob_slots3 ob_slots3_filled ob_slots3_width ob_slots3_size ob_slots3_numbers), (ce_l60 y ob_slots3_numbers fob_slots3_numbers)] sz) := by
  refine Met.ofW (cc := cX9_paste) (maxL := 8) (ret := (some .int)) (by decide) rfl ?_
  intro p e s m args below meth c s₁ B hml hv
  obtain ⟨rfl, hsz, hP, hK, hD0⟩ := hv
  have hx := B.exec
  have hb := B.bytes
  have hr := B.returns
  have hw0 : ∀ w ∈ wAll, w.before _ s = true := fun w h => atoms_spec (ws := Cond.code yX9_paste cX9_paste 8 (some .int) :: wAll) B.pre w (List.mem_cons_of_mem _ h)
  have hown : s.vm.findClass RX9 = some m.cls := findClass_of_methodNamed B.named
  subst hsz
  have hD := hD0.self (sz := s.heap.size)
  generalize hAe : va_A [(ce_X9 ob ob_tape ob_tapeSize ob_reader ob_state ob_images ob_slots ob_rounds ob_ways ob_otherDebts ob_otherKnows), (ce_q4 y ob_slots (va_up (va_up (va_up (va_up (fun _ => none) 0 (some ob_slots0)) 1 (some ob_slots1)) 2 (some ob_slots2)) 3 (some ob_slots3))), (ce_X5 ob_slots2 ob_slots2_filled ob_slots2_width ob_slots2_size ob_slots2_numbers), (ce_l60 y ob_slots2_numbers fob_slots2_numbers), (ce_X5 ob_slots3 ob_slots3_filled ob_slots3_width ob_slots3_size ob_slots3_numbers), (ce_l60 y ob_slots3_numbers fob_slots3_numbers)] s.heap.size = A at hD ⊢
  have hA : ∀ q : Nat, s.heap.size ≤ q → A q := fun q h => by rw [← hAe]; exact Or.inr h
  have hS : va_S A s.heap s.heap [] := va_S.rf
  have hP : va_P G vwCl [(ce_X9 ob ob_tape ob_tapeSize ob_reader ob_state ob_images ob_slots ob_rounds ob_ways ob_otherDebts ob_otherKnows), (ce_q4 y ob_slots (va_up (va_up (va_up (va_up (fun _ => none) 0 (some ob_slots0)) 1 (some ob_slots1)) 2 (some ob_slots2)) 3 (some ob_slots3))), (ce_X5 ob_slots2 ob_slots2_filled ob_slots2_width ob_slots2_size ob_slots2_numbers), (ce_l60 y ob_slots2_numbers fob_slots2_numbers), (ce_X5 ob_slots3 ob_slots3_filled ob_slots3_width ob_slots3_size ob_slots3_numbers), (ce_l60 y ob_slots3_numbers fob_slots3_numbers)] s.heap := hP
  have hl := lv_entry ([.ref ob, .int 3, .int a2, .int 2, .int a4, .int a5]) (n := 8) (Nat.le_of_ble_eq_true rfl)
  rw [lg_entry_eq]
  generalize (lg_sl ([.ref ob, .int 3, .int a2, .int 2, .int a4, .int a5]) ++ List.replicate (8 - (lg_sl ([.ref ob, .int 3, .int a2, .int 2, .int a4, .int a5])).length) Slot.unset).toArray = ls at hl ⊢
  have hl : lv_has ls 8 [(0, .ref ob), (1, .int 3), (2, .int a2), (3, .int 2), (4, .int a4), (5, .int a5)] := hl
  refine lv_iload_n hx hb dX9_paste_0 rfl (lv_at hl 1 rfl) ?_
  refine cSim (As := [.int 3]) (rest := []) ⟨hx, hb, hml, hown, hw0⟩ hA hK hP hD hS [] (fisSlot l G y _ 3 ) rfl ⟨(callB_of 1 hw0 (gA m_1260) rfl rfl rfl (hw0 _ m_36) (hw0 _ m_1189) cb_X9_isSlot ⟨Nat.le_of_ble_eq_true rfl, Nat.le_of_ble_eq_true rfl⟩), (hw0 _ m_1190)⟩ rfl hl.1 (Nat.le_of_ble_eq_true rfl) dX9_paste_1 ⟨Nat.le_of_ble_eq_true rfl, Nat.le_of_ble_eq_true rfl⟩ (fun r_1001 w_1001 H locs hw_1001 hP hD hS => ?_)
  rcases hw_1001 with ⟨h_1002, rfl, rfl⟩ | ⟨h_1003, h_1004, rfl, rfl⟩
  · skip
    exact False.elim (by have h9 : Int32.toInt 3 = 3 := (by decide); omega)
  · skip
    obtain ⟨hP, hD⟩ : vPD G A H [(ce_X9 ob ob_tape ob_tapeSize ob_reader ob_state ob_images ob_slots ob_rounds ob_ways ob_otherDebts ob_otherKnows), (ce_q4 y ob_slots (va_up (va_up (va_up (va_up (fun _ => none) 0 (some ob_slots0)) 1 (some ob_slots1)) 2 (some ob_slots2)) 3 (some ob_slots3))), (ce_X5 ob_slots2 ob_slots2_filled ob_slots2_width ob_slots2_size ob_slots2_numbers), (ce_l60 y ob_slots2_numbers fob_slots2_numbers), (ce_X5 ob_slots3 ob_slots3_filled ob_slots3_width ob_slots3_size ob_slots3_numbers), (ce_l60 y ob_slots3_numbers fob_slots3_numbers)] := ⟨hP, hD⟩
    refine lv_if_eq (tgt := 14) hx hb dX9_paste_4 (by decide) (fun c9 => absurd c9 (by decide)) (fun _ => ?_)
    refine lv_iload_n hx hb dX9_paste_7 rfl (lv_at hl 3 rfl) ?_
    refine cSim (As := [.int 2]) (rest := []) ⟨hx, hb, hml, hown, hw0⟩ hA hK hP hD hS [] (fisSlot l G y _ 2 ) rfl ⟨(callB_of 1 hw0 (gA m_1260) rfl rfl rfl (hw0 _ m_36) (hw0 _ m_1189) cb_X9_isSlot ⟨Nat.le_of_ble_eq_true rfl, Nat.le_of_ble_eq_true rfl⟩), (hw0 _ m_1190)⟩ rfl hl.1 (Nat.le_of_ble_eq_true rfl) dX9_paste_8 ⟨Nat.le_of_ble_eq_true rfl, Nat.le_of_ble_eq_true rfl⟩ (fun r_1005 w_1005 H locs hw_1005 hP hD hS => ?_)
    rcases hw_1005 with ⟨h_1006, rfl, rfl⟩ | ⟨h_1007, h_1008, rfl, rfl⟩
    · skip
      exact False.elim (by have h9 : Int32.toInt 2 = 2 := (by decide); omega)
    · skip
      obtain ⟨hP, hD⟩ : vPD G A H [(ce_X9 ob ob_tape ob_tapeSize ob_reader ob_state ob_images ob_slots ob_rounds ob_ways ob_otherDebts ob_otherKnows), (ce_q4 y ob_slots (va_up (va_up (va_up (va_up (fun _ => none) 0 (some ob_slots0)) 1 (some ob_slots1)) 2 (some ob_slots2)) 3 (some ob_slots3))), (ce_X5 ob_slots2 ob_slots2_filled ob_slots2_width ob_slots2_size ob_slots2_numbers), (ce_l60 y ob_slots2_numbers fob_slots2_numbers), (ce_X5 ob_slots3 ob_slots3_filled ob_slots3_width ob_slots3_size ob_slots3_numbers), (ce_l60 y ob_slots3_numbers fob_slots3_numbers)] := ⟨hP, hD⟩
      refine lv_if_ne (tgt := 17) hx hb dX9_paste_11 (by decide) (fun _ => ?_) (fun c9 => absurd c9 (by decide))
      refine lv_aload_n hx hb dX9_paste_17 rfl (lv_at hl 0 rfl) ?_
      refine va_get (D := G) (ci := 9) (v := .ref ob_slots) (C := RX9) (T := TX9) (N := 10) hx hb hw0 inA_wsX90 hown hK.1 hP 0 rfl rfl 5 (by decide) (hw0 _ m_1191) (fun _ h9 => h9) rfl dX9_paste_18 ?_
      refine lv_iload_n hx hb dX9_paste_21 rfl (lv_at hl 1 rfl) ?_
      refine va_aldq hx hb hK.1 hP 1 4 rfl rfl (vi (bkc (x := 3) (c := 3) (by decide)) (by decide)) dX9_paste_22 ?_
      refine W.eq (g2 := F0 m 23 ls [.ref ob_slots3]) rfl ?_
      refine lv_astore (lv' := [(6, .ref ob_slots3), (0, .ref ob), (1, .int 3), (2, .int a2), (3, .int 2), (4, .int a4), (5, .int a5)]) hx hb dX9_paste_23 hl (by decide) rfl (fun ls hl => ?_)
      refine lv_aload_n hx hb dX9_paste_25 rfl (lv_at hl 1 rfl) ?_
      refine va_get (D := G) (ci := 9) (v := .ref ob_slots) (C := RX9) (T := TX9) (N := 10) hx hb hw0 inA_wsX90 hown hK.1 hP 0 rfl rfl 5 (by decide) (hw0 _ m_1191) (fun _ h9 => h9) rfl dX9_paste_26 ?_
      refine lv_iload_n hx hb dX9_paste_29 rfl (lv_at hl 4 rfl) ?_
      refine va_aldq hx hb hK.1 hP 1 4 rfl rfl (vi (bkc (x := 2) (c := 2) (by decide)) (by decide)) dX9_paste_30 ?_
      refine W.eq (g2 := F0 m 31 ls [.ref ob_slots2]) rfl ?_
      refine lv_astore (lv' := [(7, .ref ob_slots2), (6, .ref ob_slots3), (0, .ref ob), (1, .int 3), (2, .int a2), (3, .int 2), (4, .int a4), (5, .int a5)]) hx hb dX9_paste_31 hl (by decide) rfl (fun ls hl => ?_)
      refine lv_aload hx hb dX9_paste_33 (lv_at hl 1 rfl) ?_
      refine va_get (D := G) (ci := 5) (v := .int ob_slots3_filled) (C := RX5) (T := TX5) (N := 4) hx hb hw0 inA_wsX50 hown hK.1 hP 4 rfl rfl 0 (by decide) (hw0 _ m_1192) (fun _ h9 => h9) rfl dX9_paste_35 ?_
      refine lv_if_eq (tgt := 49) hx hb dX9_paste_38 (by decide) (fun c_1009 => ?_) (fun c_1009 => ?_)
      · skip
        have nc_1009 := nb_eq (0) (0) c_1009 p_ob_slots3_filled (bkc (x := 0) (c := 0) (by decide)) (by decide)
        refine lv_bipush (v := (-6)) hx hb dX9_paste_49 (by decide) ?_
        exact W.iret (v := (-6)) hx hb hr (fun t ht hW => ⟨⟨(-6), _, rfl, Or.inl (⟨by have h90 : Int32.toInt (-6) = -6 := (by decide); have h91 : Int32.toInt 2 = 2 := (by decide); have h92 : Int32.toInt 3 = 3 := (by decide); omega, rfl, rfl⟩), by rw [ht]; exact hP, hD⟩, hS.F ht⟩) hS.2.2 dX9_paste_51
      · skip
        have nc_1009 := nb_ne (1) (1) c_1009 p_ob_slots3_filled (k := 0) (by decide) (by decide)
        refine lv_aload hx hb dX9_paste_41 (lv_at hl 0 rfl) ?_
        refine va_get (D := G) (ci := 5) (v := .int ob_slots2_filled) (C := RX5) (T := TX5) (N := 4) hx hb hw0 inA_wsX50 hown hK.1 hP 2 rfl rfl 0 (by decide) (hw0 _ m_1192) (fun _ h9 => h9) rfl dX9_paste_43 ?_
        refine lv_if_ne (tgt := 52) hx hb dX9_paste_46 (by decide) (fun c_1010 => ?_) (fun c_1010 => ?_)
        · skip
          have nc_1010 := nb_ne (1) (1) c_1010 p_ob_slots2_filled (k := 0) (by decide) (by decide)
          refine lv_aload hx hb dX9_paste_52 (lv_at hl 1 rfl) ?_
          refine va_get (D := G) (ci := 5) (v := .int ob_slots3_width) (C := RX5) (T := TX5) (N := 4) hx hb hw0 inA_wsX50 hown hK.1 hP 4 rfl rfl 1 (by decide) (hw0 _ m_1289) (fun _ h9 => h9) rfl dX9_paste_54 ?_
          refine lv_aload hx hb dX9_paste_57 (lv_at hl 0 rfl) ?_
          refine va_get (D := G) (ci := 5) (v := .int ob_slots2_width) (C := RX5) (T := TX5) (N := 4) hx hb hw0 inA_wsX50 hown hK.1 hP 2 rfl rfl 1 (by decide) (hw0 _ m_1289) (fun _ h9 => h9) rfl dX9_paste_59 ?_
          refine lv_icmp_eq (tgt := 68) hx hb dX9_paste_62 (by decide) (fun c_1011 => ?_) (fun c_1011 => ?_)
          · skip
            have nc_1011 := nb_eq (-2147483648) (2147483647) c_1011 (btop ob_slots3_width) (btop ob_slots2_width) (by decide)
            refine lv_aload hx hb dX9_paste_68 (lv_at hl 1 rfl) ?_
            refine lv_iload_n hx hb dX9_paste_70 rfl (lv_at hl 4 rfl) ?_
            refine lv_iload hx hb dX9_paste_71 (lv_at hl 7 rfl) ?_
            refine cVim (As := [.int a2, .int a5]) (rest := []) ⟨hx, hb, hml, hown, hw0⟩ hA hK hP hD hS [false, false, false, false, true] (sX5_hasRun l G y _ ob_slots3 a2 a5 ob_slots3_filled ob_slots3_width ob_slots3_size ob_slots3_numbers (bw (0) (1) nc_1009.1 (by decide)) p_ob_slots3_size) rfl ⟨(callB_of 2 hw0 (gA m_941) rfl rfl rfl (hw0 _ m_858) (hw0 _ m_1290) cb_X5_hasRun ⟨Nat.le_of_ble_eq_true rfl, Nat.le_of_ble_eq_true rfl⟩), (hw0 _ m_1291), (hw0 _ m_1292)⟩ (ci := 5) (q := (RX5, TX5, 4)) rfl rfl rfl hl.1 (Nat.le_of_ble_eq_true rfl) dX9_paste_73 ⟨Nat.le_of_ble_eq_true rfl, Nat.le_of_ble_eq_true rfl⟩ (fun r_1012 w_1012 H locs hw_1012 hP hD hS => ?_)
            rcases hw_1012 with ⟨h_1013, rfl, rfl⟩ | ⟨h_1014, h_1015, h_1016, rfl, rfl⟩
            · skip
              obtain ⟨hP, hD⟩ : vPD G A H [(ce_X9 ob ob_tape ob_tapeSize ob_reader ob_state ob_images ob_slots ob_rounds ob_ways ob_otherDebts ob_otherKnows), (ce_q4 y ob_slots (va_up (va_up (va_up (va_up (fun _ => none) 0 (some ob_slots0)) 1 (some ob_slots1)) 2 (some ob_slots2)) 3 (some ob_slots3))), (ce_X5 ob_slots2 ob_slots2_filled ob_slots2_width ob_slots2_size ob_slots2_numbers), (ce_l60 y ob_slots2_numbers fob_slots2_numbers), (ce_X5 ob_slots3 ob_slots3_filled ob_slots3_width ob_slots3_size ob_slots3_numbers), (ce_l60 y ob_slots3_numbers fob_slots3_numbers)] := ⟨hP, hD⟩
              refine lv_if_eq (tgt := 91) hx hb dX9_paste_76 (by decide) (fun _ => ?_) (fun c9 => absurd (by decide) c9)
              refine lv_bipush (v := (-7)) hx hb dX9_paste_91 (by decide) ?_
              exact W.iret (v := (-7)) hx hb hr (fun t ht hW => ⟨⟨(-7), _, rfl, Or.inr (Or.inl (⟨nc_1010.1, nc_1009.1, by have h90 : Int32.toInt (-7) = -7 := (by decide); have h91 : Int32.toInt 2 = 2 := (by decide); have h92 : Int32.toInt 3 = 3 := (by decide); omega, rfl, rfl⟩)), by rw [ht]; exact hP, hD⟩, hS.F ht⟩) hS.2.2 dX9_paste_93
            · skip
              obtain ⟨hP, hD⟩ : vPD G A H [(ce_X9 ob ob_tape ob_tapeSize ob_reader ob_state ob_images ob_slots ob_rounds ob_ways ob_otherDebts ob_otherKnows), (ce_q4 y ob_slots (va_up (va_up (va_up (va_up (fun _ => none) 0 (some ob_slots0)) 1 (some ob_slots1)) 2 (some ob_slots2)) 3 (some ob_slots3))), (ce_X5 ob_slots2 ob_slots2_filled ob_slots2_width ob_slots2_size ob_slots2_numbers), (ce_l60 y ob_slots2_numbers fob_slots2_numbers), (ce_X5 ob_slots3 ob_slots3_filled ob_slots3_width ob_slots3_size ob_slots3_numbers), (ce_l60 y ob_slots3_numbers fob_slots3_numbers)] := ⟨hP, hD⟩
              refine lv_if_eq (tgt := 91) hx hb dX9_paste_76 (by decide) (fun c9 => absurd c9 (by decide)) (fun _ => ?_)
              refine lv_aload hx hb dX9_paste_79 (lv_at hl 0 rfl) ?_
              refine lv_iload hx hb dX9_paste_81 (lv_at hl 6 rfl) ?_
              refine lv_iload hx hb dX9_paste_83 (lv_at hl 7 rfl) ?_
              refine cVim (As := [.int a4, .int a5]) (rest := []) ⟨hx, hb, hml, hown, hw0⟩ hA hK hP hD hS [false, false, true] (sX5_hasRun l G y _ ob_slots2 a4 a5 ob_slots2_filled ob_slots2_width ob_slots2_size ob_slots2_numbers (bw (0) (1) nc_1010.1 (by decide)) p_ob_slots2_size) rfl ⟨(callB_of 2 hw0 (gA m_941) rfl rfl rfl (hw0 _ m_858) (hw0 _ m_1290) cb_X5_hasRun ⟨Nat.le_of_ble_eq_true rfl, Nat.le_of_ble_eq_true rfl⟩), (hw0 _ m_1291), (hw0 _ m_1292)⟩ (ci := 5) (q := (RX5, TX5, 4)) rfl rfl rfl hl.1 (Nat.le_of_ble_eq_true rfl) dX9_paste_85 ⟨Nat.le_of_ble_eq_true rfl, Nat.le_of_ble_eq_true rfl⟩ (fun r_1017 w_1017 H locs hw_1017 hP hD hS => ?_)
              rcases hw_1017 with ⟨h_1018, rfl, rfl⟩ | ⟨h_1019, h_1020, h_1021, rfl, rfl⟩
              · skip
                obtain ⟨hP, hD⟩ : vPD G A H [(ce_X9 ob ob_tape ob_tapeSize ob_reader ob_state ob_images ob_slots ob_rounds ob_ways ob_otherDebts ob_otherKnows), (ce_q4 y ob_slots (va_up (va_up (va_up (va_up (fun _ => none) 0 (some ob_slots0)) 1 (some ob_slots1)) 2 (some ob_slots2)) 3 (some ob_slots3))), (ce_X5 ob_slots2 ob_slots2_filled ob_slots2_width ob_slots2_size ob_slots2_numbers), (ce_l60 y ob_slots2_numbers fob_slots2_numbers), (ce_X5 ob_slots3 ob_slots3_filled ob_slots3_width ob_slots3_size ob_slots3_numbers), (ce_l60 y ob_slots3_numbers fob_slots3_numbers)] := ⟨hP, hD⟩
                refine lv_if_ne (tgt := 94) hx hb dX9_paste_88 (by decide) (fun c9 => absurd (by decide) c9) (fun _ => ?_)
                refine lv_bipush (v := (-7)) hx hb dX9_paste_91 (by decide) ?_
                exact W.iret (v := (-7)) hx hb hr (fun t ht hW => ⟨⟨(-7), _, rfl, Or.inr (Or.inl (⟨nc_1010.1, nc_1009.1, by have h90 : Int32.toInt (-7) = -7 := (by decide); have h91 : Int32.toInt 2 = 2 := (by decide); have h92 : Int32.toInt 3 = 3 := (by decide); omega, rfl, rfl⟩)), by rw [ht]; exact hP, hD⟩, hS.F ht⟩) hS.2.2 dX9_paste_93
              · skip
                obtain ⟨hP, hD⟩ : vPD G A H [(ce_X9 ob ob_tape ob_tapeSize ob_reader ob_state ob_images ob_slots ob_rounds ob_ways ob_otherDebts ob_otherKnows), (ce_q4 y ob_slots (va_up (va_up (va_up (va_up (fun _ => none) 0 (some ob_slots0)) 1 (some ob_slots1)) 2 (some ob_slots2)) 3 (some ob_slots3))), (ce_X5 ob_slots2 ob_slots2_filled ob_slots2_width ob_slots2_size ob_slots2_numbers), (ce_l60 y ob_slots2_numbers fob_slots2_numbers), (ce_X5 ob_slots3 ob_slots3_filled ob_slots3_width ob_slots3_size ob_slots3_numbers), (ce_l60 y ob_slots3_numbers fob_slots3_numbers)] := ⟨hP, hD⟩
                refine lv_if_ne (tgt := 94) hx hb dX9_paste_88 (by decide) (fun _ => ?_) (fun c9 => absurd c9 (by decide))
                refine lv_aload hx hb dX9_paste_94 (lv_at hl 1 rfl) ?_
                refine va_get (D := G) (ci := 5) (v := .ref ob_slots3_numbers) (C := RX5) (T := TX5) (N := 4) hx hb hw0 inA_wsX50 hown hK.1 hP 4 rfl rfl 3 (by decide) (hw0 _ m_1293) (fun _ h9 => h9) rfl dX9_paste_96 ?_
                refine lv_iload_n hx hb dX9_paste_99 rfl (lv_at hl 4 rfl) ?_
                refine lv_aload hx hb dX9_paste_100 (lv_at hl 0 rfl) ?_
                refine va_get (D := G) (ci := 5) (v := .ref ob_slots2_numbers) (C := RX5) (T := TX5) (N := 4) hx hb hw0 inA_wsX50 hown hK.1 hP 2 rfl rfl 3 (by decide) (hw0 _ m_1293) (fun _ h9 => h9) rfl dX9_paste_102 ?_
                refine lv_iload hx hb dX9_paste_105 (lv_at hl 6 rfl) ?_
                refine lv_iload hx hb dX9_paste_107 (lv_at hl 7 rfl) ?_
                refine va_copyl (own := RX9) hx hb (by rw [hml]; exact hl.1.symm) hown (hw0 _ m_1294) (hw0 _ m_272) (hw0 _ m_273) (hw0 _ m_274) hK.1 hP hD hS 5 3 2 2 rfl rfl rfl rfl rfl (cy_n h_1014 (by decide)) (cy_n h_1019 (by decide)) (cy_n h_1015 (by decide)) (cy_g h_1014 h_1015 (by decide) (by decide) (by omega)) (cy_g h_1019 h_1015 (by decide) (by decide) (by omega)) (fun i hi => rfl) (Nat.le_of_ble_eq_true rfl) (by decide) dX9_paste_109 (fun H locs hP hD hS => ?_)
                generalize hf_1022 : (va_cpy fob_slots3_numbers fob_slots2_numbers (a2 : Int32).toNatClampNeg (a4 : Int32).toNatClampNeg (a5 : Int32).toNatClampNeg) = f_1022 at hP hD
                obtain ⟨hP, hD⟩ : vPD G A H [(ce_X9 ob ob_tape ob_tapeSize ob_reader ob_state ob_images ob_slots ob_rounds ob_ways ob_otherDebts ob_otherKnows), (ce_q4 y ob_slots (va_up (va_up (va_up (va_up (fun _ => none) 0 (some ob_slots0)) 1 (some ob_slots1)) 2 (some ob_slots2)) 3 (some ob_slots3))), (ce_X5 ob_slots2 ob_slots2_filled ob_slots2_width ob_slots2_size ob_slots2_numbers), (ce_l60 y ob_slots2_numbers f_1022), (ce_X5 ob_slots3 ob_slots3_filled ob_slots3_width ob_slots3_size ob_slots3_numbers), (ce_l60 y ob_slots3_numbers fob_slots3_numbers)] := ⟨hP, hD⟩
                refine lv_iconst (v := 0) hx hb dX9_paste_112 (by decide) ?_
                exact W.iret (v := 0) hx hb hr (fun t ht hW => ⟨⟨0, _, rfl, Or.inr (Or.inr (Or.inr (⟨f_1022, h_1014, h_1019, h_1015, nc_1010.1, nc_1009.1, by have h90 : Int32.toInt 0 = 0 := (by decide); have h91 : Int32.toInt 2 = 2 := (by decide); have h92 : Int32.toInt 3 = 3 := (by decide); omega, rfl, rfl⟩))), by rw [ht]; exact hP, hD⟩, hS.F ht⟩) hS.2.2 dX9_paste_113
          · skip
            have nc_1011 : ob_slots3_width.toInt ≠ ob_slots2_width.toInt := fun h9 => c_1011 (Int32.toInt_inj.mp h9)
            refine lv_bipush (v := (-8)) hx hb dX9_paste_65 (by decide) ?_
            exact W.iret (v := (-8)) hx hb hr (fun t ht hW => ⟨⟨(-8), _, rfl, Or.inr (Or.inr (Or.inl (⟨nc_1010.1, nc_1009.1, by have h90 : Int32.toInt (-8) = -8 := (by decide); have h91 : Int32.toInt 2 = 2 := (by decide); have h92 : Int32.toInt 3 = 3 := (by decide); omega, rfl, rfl⟩))), by rw [ht]; exact hP, hD⟩, hS.F ht⟩) hS.2.2 dX9_paste_67
        · skip
          have nc_1010 := nb_eq (0) (0) c_1010 p_ob_slots2_filled (bkc (x := 0) (c := 0) (by decide)) (by decide)
          refine lv_bipush (v := (-6)) hx hb dX9_paste_49 (by decide) ?_
          exact W.iret (v := (-6)) hx hb hr (fun t ht hW => ⟨⟨(-6), _, rfl, Or.inl (⟨by have h90 : Int32.toInt (-6) = -6 := (by decide); have h91 : Int32.toInt 2 = 2 := (by decide); have h92 : Int32.toInt 3 = 3 := (by decide); omega, rfl, rfl⟩), by rw [ht]; exact hP, hD⟩, hS.F ht⟩) hS.2.2 dX9_paste_51

set_option maxHeartbeats 4000000 in
set_option maxRecDepth 100000 in
theorem fpaste33 (l : Launch) (G : va_G) (y : Nat → ClassId) (sz : Nat) (ob : Nat) (a2 : Int32) (a4 : Int32) (a5 : Int32) (ob_tape : Nat) (ob_tapeSize : Int32) (ob_reader : Nat) (ob_state : Nat) (ob_images : Nat) (ob_slots : Nat) (ob_rounds : Nat) (ob_ways : Nat) (ob_otherDebts : Nat) (ob_otherKnows : Nat) (ob_slots0 : Nat) (ob_slots1 : Nat) (ob_slots2 : Nat) (ob_slots3 : Nat) (ob_slots3_filled : Int32) (ob_slots3_width : Int32) (ob_slots3_size : Int32) (ob_slots3_numbers : Nat) (fob_slots3_numbers : Nat → Int64) (p_ob_tapeSize : (0 : Int) ≤ ob_tapeSize.toInt ∧ ob_tapeSize.toInt ≤ 1400) (p_ob_slots3_filled : (0 : Int) ≤ ob_slots3_filled.toInt ∧ ob_slots3_filled.toInt ≤ 1) (p_ob_slots3_size : (0 : Int) ≤ ob_slots3_size.toInt ∧ ob_slots3_size.toInt ≤ 60) : Met l yX9_paste (Cond.code yX9_paste cX9_paste 8 (some .int) :: wAll) ({ frames := 1, cells := 0, slots := 0, locals := 72 }) (va_Pc [.ref ob, .int 3, .int a2, .int 3, .int a4, .int a5] (kp G y sz [(ce_X9 ob ob_tape ob_tapeSize ob_reader ob_state ob_images ob_slots ob_rounds ob_ways ob_otherDebts ob_otherKnows), (ce_q4 y ob_slots (va_up (va_up (va_up (va_up (fun _ => none) 0 (some ob_slots0)) 1 (some ob_slots1)) 2 (some ob_slots2)) 3 (some ob_slots3))), (ce_X5 ob_slots3 ob_slots3_filled ob_slots3_width ob_slots3_size ob_slots3_numbers), (ce_l60 y ob_slots3_numbers fob_slots3_numbers)])) (va_Qi (fun (r : Int32) (w : va_W) => (((0 : Int) ≤ ob_slots3_filled.toInt ∧ ob_slots3_filled.toInt ≤ 0) ∧ (ob_slots3_filled.toInt = 0 ∨ ob_slots3_filled.toInt = 0) ∧ r = (-6) ∧ w = [(ce_X9 ob ob_tape ob_tapeSize ob_reader ob_state ob_images ob_slots ob_rounds ob_ways ob_otherDebts ob_otherKnows), (ce_q4 y ob_slots (va_up (va_up (va_up (va_up (fun _ => none) 0 (some ob_slots0)) 1 (some ob_slots1)) 2 (some ob_slots2)) 3 (some ob_slots3))), (ce_X5 ob_slots3 ob_slots3_filled ob_slots3_width ob_slots3_size ob_slots3_numbers), (ce_l60 y ob_slots3_numbers fob_slots3_numbers)]) ∨ (((1 : Int) ≤ ob_slots3_filled.toInt ∧ ob_slots3_filled.toInt ≤ 1) ∧ (ob_slots3_filled.toInt = 1 ∧ ob_slots3_filled.toInt = 1 ∧ ob_slots3_width.toInt = ob_slots3_width.toInt ∧ ¬ (0 ≤ a2.toInt ∧ 0 ≤ a4.toInt ∧ 0 ≤ a5.toInt ∧ a2.toInt + a5.toInt ≤ ob_slots3_size.toInt ∧ a4.toInt + a5.toInt ≤ ob_slots3_size.toInt)) ∧ r = (-7) ∧ w = [(ce_X9 ob ob_tape ob_tapeSize ob_reader ob_state ob_images ob_slots ob_rounds ob_ways ob_otherDebts ob_otherKnows), (ce_q4 y ob_slots (va_up (va_up (va_up (va_up (fun _ => none) 0 (some ob_slots0)) 1 (some ob_slots1)) 2 (some ob_slots2)) 3 (some ob_slots3))), (ce_X5 ob_slots3 ob_slots3_filled ob_slots3_width ob_slots3_size ob_slots3_numbers), (ce_l60 y ob_slots3_numbers fob_slots3_numbers)]) ∨ (∃ (f_41 : Nat → Int64), ((0 : Int) ≤ a2.toInt ∧ a2.toInt ≤ 60) ∧ ((0 : Int) ≤ a4.toInt ∧ a4.toInt ≤ 60) ∧ ((0 : Int) ≤ a5.toInt ∧ a5.toInt ≤ 60) ∧ ((1 : Int) ≤ ob_slots3_filled.toInt ∧ ob_slots3_filled.toInt ≤ 1) ∧ (ob_slots3_filled.toInt = 1 ∧ ob_slots3_filled.toInt = 1 ∧ ob_slots3_width.toInt = ob_slots3_width.toInt ∧ 0 ≤ a2.toInt ∧ 0 ≤ a4.toInt ∧ 0 ≤ a5.toInt ∧ a2.toInt + a5.toInt ≤ ob_slots3_size.toInt ∧ a4.toInt + a5.toInt ≤ ob_slots3_size.toInt) ∧ r = 0 ∧ w = [(ce_X9 ob ob_tape ob_tapeSize ob_reader ob_state ob_images ob_slots ob_rounds ob_ways ob_otherDebts ob_otherKnows), (ce_q4 y ob_slots (va_up (va_up (va_up (va_up (fun _ => none) 0 (some ob_slots0)) 1 (some ob_slots1)) 2 (some ob_slots2)) 3 (some ob_slots3))), (ce_X5 ob_slots3 ob_slots3_filled ob_slots3_width ob_slots3_size ob_slots3_numbers), (ce_l60 y ob_slots3_numbers f_41)])) (kq G (va_A [(ce_X9 ob ob_tape ob_tapeSize ob_reader ob_state ob_images ob_slots ob_rounds ob_ways ob_otherDebts ob_otherKnows), (ce_q4 y ob_slots (va_up (va_up (va_up (va_up (fun _ => none) 0 (some ob_slots0)) 1 (some ob_slots1)) 2 (some ob_slots2)) 3 (some ob_slots3))), (ce_X5 ob_slots3 ob_slots3_filled ob_slots3_width ob_slots3_size ob_slots3_numbers), (ce_l60 y ob_slots3_numbers fob_slots3_numbers)] sz)) (va_A [(ce_X9 ob ob_tape ob_tapeSize ob_reader ob_state ob_images ob_slots ob_rounds ob_ways ob_otherDebts ob_otherKnows), (ce_q4 y ob_slots (va_up (va_up (va_up (va_up (fun _ => none) 0 (some ob_slots0)) 1 (some ob_slots1)) 2 (some ob_slots2)) 3 (some ob_slots3))), (ce_X5 ob_slots3 ob_slots3_filled ob_slots3_width ob_slots3_size ob_slots3_numbers), (ce_l60 y ob_slots3_numbers fob_slots3_numbers)] sz)) 0 0 (va_A [(ce_X9 ob ob_tape ob_tapeSize ob_reader ob_state ob_images ob_slots ob_rounds ob_ways ob_otherDebts ob_otherKnows), (ce_q4 y ob_slots (va_up (va_up (va_up (va_up (fun _ => none) 0 (some ob_slots0)) 1 (some ob_slots1)) 2 (some ob_slots2)) 3 (some ob_slots3))), (ce_X5 ob_slots3 ob_slots3_filled ob_slots3_width ob_slots3_size ob_slots3_numbers), (ce_l60 y ob_slots3_numbers fob_slots3_numbers)] sz) := by
  refine Met.ofW (cc := cX9_paste) (maxL := 8) (ret := (some .int)) (by decide) rfl ?_
  intro p e s m args below meth c s₁ B hml hv
  obtain ⟨rfl, hsz, hP, hK, hD0⟩ := hv
  have hx := B.exec
  have hb := B.bytes
  have hr := B.returns
  have hw0 : ∀ w ∈ wAll, w.before _ s = true := fun w h => atoms_spec (ws := Cond.code yX9_paste cX9_paste 8 (some .int) :: wAll) B.pre w (List.mem_cons_of_mem _ h)
  have hown : s.vm.findClass RX9 = some m.cls := findClass_of_methodNamed B.named
  subst hsz
  have hD := hD0.self (sz := s.heap.size)
  generalize hAe : va_A [(ce_X9 ob ob_tape ob_tapeSize ob_reader ob_state ob_images ob_slots ob_rounds ob_ways ob_otherDebts ob_otherKnows), (ce_q4 y ob_slots (va_up (va_up (va_up (va_up (fun _ => none) 0 (some ob_slots0)) 1 (some ob_slots1)) 2 (some ob_slots2)) 3 (some ob_slots3))), (ce_X5 ob_slots3 ob_slots3_filled ob_slots3_width ob_slots3_size ob_slots3_numbers), (ce_l60 y ob_slots3_numbers fob_slots3_numbers)] s.heap.size = A at hD ⊢
  have hA : ∀ q : Nat, s.heap.size ≤ q → A q := fun q h => by rw [← hAe]; exact Or.inr h
  have hS : va_S A s.heap s.heap [] := va_S.rf
  have hP : va_P G vwCl [(ce_X9 ob ob_tape ob_tapeSize ob_reader ob_state ob_images ob_slots ob_rounds ob_ways ob_otherDebts ob_otherKnows), (ce_q4 y ob_slots (va_up (va_up (va_up (va_up (fun _ => none) 0 (some ob_slots0)) 1 (some ob_slots1)) 2 (some ob_slots2)) 3 (some ob_slots3))), (ce_X5 ob_slots3 ob_slots3_filled ob_slots3_width ob_slots3_size ob_slots3_numbers), (ce_l60 y ob_slots3_numbers fob_slots3_numbers)] s.heap := hP
  have hl := lv_entry ([.ref ob, .int 3, .int a2, .int 3, .int a4, .int a5]) (n := 8) (Nat.le_of_ble_eq_true rfl)
  rw [lg_entry_eq]
  generalize (lg_sl ([.ref ob, .int 3, .int a2, .int 3, .int a4, .int a5]) ++ List.replicate (8 - (lg_sl ([.ref ob, .int 3, .int a2, .int 3, .int a4, .int a5])).length) Slot.unset).toArray = ls at hl ⊢
  have hl : lv_has ls 8 [(0, .ref ob), (1, .int 3), (2, .int a2), (3, .int 3), (4, .int a4), (5, .int a5)] := hl
  refine lv_iload_n hx hb dX9_paste_0 rfl (lv_at hl 1 rfl) ?_
  refine cSim (As := [.int 3]) (rest := []) ⟨hx, hb, hml, hown, hw0⟩ hA hK hP hD hS [] (fisSlot l G y _ 3 ) rfl ⟨(callB_of 1 hw0 (gA m_1260) rfl rfl rfl (hw0 _ m_36) (hw0 _ m_1189) cb_X9_isSlot ⟨Nat.le_of_ble_eq_true rfl, Nat.le_of_ble_eq_true rfl⟩), (hw0 _ m_1190)⟩ rfl hl.1 (Nat.le_of_ble_eq_true rfl) dX9_paste_1 ⟨Nat.le_of_ble_eq_true rfl, Nat.le_of_ble_eq_true rfl⟩ (fun r_1001 w_1001 H locs hw_1001 hP hD hS => ?_)
  rcases hw_1001 with ⟨h_1002, rfl, rfl⟩ | ⟨h_1003, h_1004, rfl, rfl⟩
  · skip
    exact False.elim (by have h9 : Int32.toInt 3 = 3 := (by decide); omega)
  · skip
    obtain ⟨hP, hD⟩ : vPD G A H [(ce_X9 ob ob_tape ob_tapeSize ob_reader ob_state ob_images ob_slots ob_rounds ob_ways ob_otherDebts ob_otherKnows), (ce_q4 y ob_slots (va_up (va_up (va_up (va_up (fun _ => none) 0 (some ob_slots0)) 1 (some ob_slots1)) 2 (some ob_slots2)) 3 (some ob_slots3))), (ce_X5 ob_slots3 ob_slots3_filled ob_slots3_width ob_slots3_size ob_slots3_numbers), (ce_l60 y ob_slots3_numbers fob_slots3_numbers)] := ⟨hP, hD⟩
    refine lv_if_eq (tgt := 14) hx hb dX9_paste_4 (by decide) (fun c9 => absurd c9 (by decide)) (fun _ => ?_)
    refine lv_iload_n hx hb dX9_paste_7 rfl (lv_at hl 3 rfl) ?_
    refine cSim (As := [.int 3]) (rest := []) ⟨hx, hb, hml, hown, hw0⟩ hA hK hP hD hS [] (fisSlot l G y _ 3 ) rfl ⟨(callB_of 1 hw0 (gA m_1260) rfl rfl rfl (hw0 _ m_36) (hw0 _ m_1189) cb_X9_isSlot ⟨Nat.le_of_ble_eq_true rfl, Nat.le_of_ble_eq_true rfl⟩), (hw0 _ m_1190)⟩ rfl hl.1 (Nat.le_of_ble_eq_true rfl) dX9_paste_8 ⟨Nat.le_of_ble_eq_true rfl, Nat.le_of_ble_eq_true rfl⟩ (fun r_1005 w_1005 H locs hw_1005 hP hD hS => ?_)
    rcases hw_1005 with ⟨h_1006, rfl, rfl⟩ | ⟨h_1007, h_1008, rfl, rfl⟩
    · skip
      exact False.elim (by have h9 : Int32.toInt 3 = 3 := (by decide); omega)
    · skip
      obtain ⟨hP, hD⟩ : vPD G A H [(ce_X9 ob ob_tape ob_tapeSize ob_reader ob_state ob_images ob_slots ob_rounds ob_ways ob_otherDebts ob_otherKnows), (ce_q4 y ob_slots (va_up (va_up (va_up (va_up (fun _ => none) 0 (some ob_slots0)) 1 (some ob_slots1)) 2 (some ob_slots2)) 3 (some ob_slots3))), (ce_X5 ob_slots3 ob_slots3_filled ob_slots3_width ob_slots3_size ob_slots3_numbers), (ce_l60 y ob_slots3_numbers fob_slots3_numbers)] := ⟨hP, hD⟩
      refine lv_if_ne (tgt := 17) hx hb dX9_paste_11 (by decide) (fun _ => ?_) (fun c9 => absurd c9 (by decide))
      refine lv_aload_n hx hb dX9_paste_17 rfl (lv_at hl 0 rfl) ?_
      refine va_get (D := G) (ci := 9) (v := .ref ob_slots) (C := RX9) (T := TX9) (N := 10) hx hb hw0 inA_wsX90 hown hK.1 hP 0 rfl rfl 5 (by decide) (hw0 _ m_1191) (fun _ h9 => h9) rfl dX9_paste_18 ?_
      refine lv_iload_n hx hb dX9_paste_21 rfl (lv_at hl 1 rfl) ?_
      refine va_aldq hx hb hK.1 hP 1 4 rfl rfl (vi (bkc (x := 3) (c := 3) (by decide)) (by decide)) dX9_paste_22 ?_
      refine W.eq (g2 := F0 m 23 ls [.ref ob_slots3]) rfl ?_
      refine lv_astore (lv' := [(6, .ref ob_slots3), (0, .ref ob), (1, .int 3), (2, .int a2), (3, .int 3), (4, .int a4), (5, .int a5)]) hx hb dX9_paste_23 hl (by decide) rfl (fun ls hl => ?_)
      refine lv_aload_n hx hb dX9_paste_25 rfl (lv_at hl 1 rfl) ?_
      refine va_get (D := G) (ci := 9) (v := .ref ob_slots) (C := RX9) (T := TX9) (N := 10) hx hb hw0 inA_wsX90 hown hK.1 hP 0 rfl rfl 5 (by decide) (hw0 _ m_1191) (fun _ h9 => h9) rfl dX9_paste_26 ?_
      refine lv_iload_n hx hb dX9_paste_29 rfl (lv_at hl 4 rfl) ?_
      refine va_aldq hx hb hK.1 hP 1 4 rfl rfl (vi (bkc (x := 3) (c := 3) (by decide)) (by decide)) dX9_paste_30 ?_
      refine W.eq (g2 := F0 m 31 ls [.ref ob_slots3]) rfl ?_
      refine lv_astore (lv' := [(7, .ref ob_slots3), (6, .ref ob_slots3), (0, .ref ob), (1, .int 3), (2, .int a2), (3, .int 3), (4, .int a4), (5, .int a5)]) hx hb dX9_paste_31 hl (by decide) rfl (fun ls hl => ?_)
      refine lv_aload hx hb dX9_paste_33 (lv_at hl 1 rfl) ?_
      refine va_get (D := G) (ci := 5) (v := .int ob_slots3_filled) (C := RX5) (T := TX5) (N := 4) hx hb hw0 inA_wsX50 hown hK.1 hP 2 rfl rfl 0 (by decide) (hw0 _ m_1192) (fun _ h9 => h9) rfl dX9_paste_35 ?_
      refine lv_if_eq (tgt := 49) hx hb dX9_paste_38 (by decide) (fun c_1009 => ?_) (fun c_1009 => ?_)
      · skip
        have nc_1009 := nb_eq (0) (0) c_1009 p_ob_slots3_filled (bkc (x := 0) (c := 0) (by decide)) (by decide)
        refine lv_bipush (v := (-6)) hx hb dX9_paste_49 (by decide) ?_
        exact W.iret (v := (-6)) hx hb hr (fun t ht hW => ⟨⟨(-6), _, rfl, Or.inl (⟨nc_1009.1, by have h90 : Int32.toInt (-6) = -6 := (by decide); have h91 : Int32.toInt 3 = 3 := (by decide); omega, rfl, rfl⟩), by rw [ht]; exact hP, hD⟩, hS.F ht⟩) hS.2.2 dX9_paste_51
      · skip
        have nc_1009 := nb_ne (1) (1) c_1009 p_ob_slots3_filled (k := 0) (by decide) (by decide)
        refine lv_aload hx hb dX9_paste_41 (lv_at hl 0 rfl) ?_
        refine va_get (D := G) (ci := 5) (v := .int ob_slots3_filled) (C := RX5) (T := TX5) (N := 4) hx hb hw0 inA_wsX50 hown hK.1 hP 2 rfl rfl 0 (by decide) (hw0 _ m_1192) (fun _ h9 => h9) rfl dX9_paste_43 ?_
        refine lv_if_ne (tgt := 52) hx hb dX9_paste_46 (by decide) (fun _ => ?_) (fun c9 => absurd c9 (dc_neq nc_1009.1 (bkc (x := 0) (c := 0) (by decide)) (by decide)))
        refine lv_aload hx hb dX9_paste_52 (lv_at hl 1 rfl) ?_
        refine va_get (D := G) (ci := 5) (v := .int ob_slots3_width) (C := RX5) (T := TX5) (N := 4) hx hb hw0 inA_wsX50 hown hK.1 hP 2 rfl rfl 1 (by decide) (hw0 _ m_1289) (fun _ h9 => h9) rfl dX9_paste_54 ?_
        refine lv_aload hx hb dX9_paste_57 (lv_at hl 0 rfl) ?_
        refine va_get (D := G) (ci := 5) (v := .int ob_slots3_width) (C := RX5) (T := TX5) (N := 4) hx hb hw0 inA_wsX50 hown hK.1 hP 2 rfl rfl 1 (by decide) (hw0 _ m_1289) (fun _ h9 => h9) rfl dX9_paste_59 ?_
        refine lv_icmp_eq (tgt := 68) hx hb dX9_paste_62 (by decide) (fun _ => ?_) (fun c9 => absurd (rfl) c9)
        refine lv_aload hx hb dX9_paste_68 (lv_at hl 1 rfl) ?_
        refine lv_iload_n hx hb dX9_paste_70 rfl (lv_at hl 4 rfl) ?_
        refine lv_iload hx hb dX9_paste_71 (lv_at hl 7 rfl) ?_
        refine cVim (As := [.int a2, .int a5]) (rest := []) ⟨hx, hb, hml, hown, hw0⟩ hA hK hP hD hS [false, false, true] (sX5_hasRun l G y _ ob_slots3 a2 a5 ob_slots3_filled ob_slots3_width ob_slots3_size ob_slots3_numbers (bw (0) (1) nc_1009.1 (by decide)) p_ob_slots3_size) rfl ⟨(callB_of 2 hw0 (gA m_941) rfl rfl rfl (hw0 _ m_858) (hw0 _ m_1290) cb_X5_hasRun ⟨Nat.le_of_ble_eq_true rfl, Nat.le_of_ble_eq_true rfl⟩), (hw0 _ m_1291), (hw0 _ m_1292)⟩ (ci := 5) (q := (RX5, TX5, 4)) rfl rfl rfl hl.1 (Nat.le_of_ble_eq_true rfl) dX9_paste_73 ⟨Nat.le_of_ble_eq_true rfl, Nat.le_of_ble_eq_true rfl⟩ (fun r_1010 w_1010 H locs hw_1010 hP hD hS => ?_)
        rcases hw_1010 with ⟨h_1011, rfl, rfl⟩ | ⟨h_1012, h_1013, h_1014, rfl, rfl⟩
        · skip
          obtain ⟨hP, hD⟩ : vPD G A H [(ce_X9 ob ob_tape ob_tapeSize ob_reader ob_state ob_images ob_slots ob_rounds ob_ways ob_otherDebts ob_otherKnows), (ce_q4 y ob_slots (va_up (va_up (va_up (va_up (fun _ => none) 0 (some ob_slots0)) 1 (some ob_slots1)) 2 (some ob_slots2)) 3 (some ob_slots3))), (ce_X5 ob_slots3 ob_slots3_filled ob_slots3_width ob_slots3_size ob_slots3_numbers), (ce_l60 y ob_slots3_numbers fob_slots3_numbers)] := ⟨hP, hD⟩
          refine lv_if_eq (tgt := 91) hx hb dX9_paste_76 (by decide) (fun _ => ?_) (fun c9 => absurd (by decide) c9)
          refine lv_bipush (v := (-7)) hx hb dX9_paste_91 (by decide) ?_
          exact W.iret (v := (-7)) hx hb hr (fun t ht hW => ⟨⟨(-7), _, rfl, Or.inr (Or.inl (⟨nc_1009.1, by have h90 : Int32.toInt (-7) = -7 := (by decide); have h91 : Int32.toInt 3 = 3 := (by decide); omega, rfl, rfl⟩)), by rw [ht]; exact hP, hD⟩, hS.F ht⟩) hS.2.2 dX9_paste_93
        · skip
          obtain ⟨hP, hD⟩ : vPD G A H [(ce_X9 ob ob_tape ob_tapeSize ob_reader ob_state ob_images ob_slots ob_rounds ob_ways ob_otherDebts ob_otherKnows), (ce_q4 y ob_slots (va_up (va_up (va_up (va_up (fun _ => none) 0 (some ob_slots0)) 1 (some ob_slots1)) 2 (some ob_slots2)) 3 (some ob_slots3))), (ce_X5 ob_slots3 ob_slots3_filled ob_slots3_width ob_slots3_size ob_slots3_numbers), (ce_l60 y ob_slots3_numbers fob_slots3_numbers)] := ⟨hP, hD⟩
          refine lv_if_eq (tgt := 91) hx hb dX9_paste_76 (by decide) (fun c9 => absurd c9 (by decide)) (fun _ => ?_)
          refine lv_aload hx hb dX9_paste_79 (lv_at hl 0 rfl) ?_
          refine lv_iload hx hb dX9_paste_81 (lv_at hl 6 rfl) ?_
          refine lv_iload hx hb dX9_paste_83 (lv_at hl 7 rfl) ?_
          refine cVim (As := [.int a4, .int a5]) (rest := []) ⟨hx, hb, hml, hown, hw0⟩ hA hK hP hD hS [false, false, true] (sX5_hasRun l G y _ ob_slots3 a4 a5 ob_slots3_filled ob_slots3_width ob_slots3_size ob_slots3_numbers (bw (0) (1) nc_1009.1 (by decide)) p_ob_slots3_size) rfl ⟨(callB_of 2 hw0 (gA m_941) rfl rfl rfl (hw0 _ m_858) (hw0 _ m_1290) cb_X5_hasRun ⟨Nat.le_of_ble_eq_true rfl, Nat.le_of_ble_eq_true rfl⟩), (hw0 _ m_1291), (hw0 _ m_1292)⟩ (ci := 5) (q := (RX5, TX5, 4)) rfl rfl rfl hl.1 (Nat.le_of_ble_eq_true rfl) dX9_paste_85 ⟨Nat.le_of_ble_eq_true rfl, Nat.le_of_ble_eq_true rfl⟩ (fun r_1015 w_1015 H locs hw_1015 hP hD hS => ?_)
          rcases hw_1015 with ⟨h_1016, rfl, rfl⟩ | ⟨h_1017, h_1018, h_1019, rfl, rfl⟩
          · skip
            obtain ⟨hP, hD⟩ : vPD G A H [(ce_X9 ob ob_tape ob_tapeSize ob_reader ob_state ob_images ob_slots ob_rounds ob_ways ob_otherDebts ob_otherKnows), (ce_q4 y ob_slots (va_up (va_up (va_up (va_up (fun _ => none) 0 (some ob_slots0)) 1 (some ob_slots1)) 2 (some ob_slots2)) 3 (some ob_slots3))), (ce_X5 ob_slots3 ob_slots3_filled ob_slots3_width ob_slots3_size ob_slots3_numbers), (ce_l60 y ob_slots3_numbers fob_slots3_numbers)] := ⟨hP, hD⟩
            refine lv_if_ne (tgt := 94) hx hb dX9_paste_88 (by decide) (fun c9 => absurd (by decide) c9) (fun _ => ?_)
            refine lv_bipush (v := (-7)) hx hb dX9_paste_91 (by decide) ?_
            exact W.iret (v := (-7)) hx hb hr (fun t ht hW => ⟨⟨(-7), _, rfl, Or.inr (Or.inl (⟨nc_1009.1, by have h90 : Int32.toInt (-7) = -7 := (by decide); have h91 : Int32.toInt 3 = 3 := (by decide); omega, rfl, rfl⟩)), by rw [ht]; exact hP, hD⟩, hS.F ht⟩) hS.2.2 dX9_paste_93
          · skip
            obtain ⟨hP, hD⟩ : vPD G A H [(ce_X9 ob ob_tape ob_tapeSize ob_reader ob_state ob_images ob_slots ob_rounds ob_ways ob_otherDebts ob_otherKnows), (ce_q4 y ob_slots (va_up (va_up (va_up (va_up (fun _ => none) 0 (some ob_slots0)) 1 (some ob_slots1)) 2 (some ob_slots2)) 3 (some ob_slots3))), (ce_X5 ob_slots3 ob_slots3_filled ob_slots3_width ob_slots3_size ob_slots3_numbers), (ce_l60 y ob_slots3_numbers fob_slots3_numbers)] := ⟨hP, hD⟩
            refine lv_if_ne (tgt := 94) hx hb dX9_paste_88 (by decide) (fun _ => ?_) (fun c9 => absurd c9 (by decide))
            refine lv_aload hx hb dX9_paste_94 (lv_at hl 1 rfl) ?_
            refine va_get (D := G) (ci := 5) (v := .ref ob_slots3_numbers) (C := RX5) (T := TX5) (N := 4) hx hb hw0 inA_wsX50 hown hK.1 hP 2 rfl rfl 3 (by decide) (hw0 _ m_1293) (fun _ h9 => h9) rfl dX9_paste_96 ?_
            refine lv_iload_n hx hb dX9_paste_99 rfl (lv_at hl 4 rfl) ?_
            refine lv_aload hx hb dX9_paste_100 (lv_at hl 0 rfl) ?_
            refine va_get (D := G) (ci := 5) (v := .ref ob_slots3_numbers) (C := RX5) (T := TX5) (N := 4) hx hb hw0 inA_wsX50 hown hK.1 hP 2 rfl rfl 3 (by decide) (hw0 _ m_1293) (fun _ h9 => h9) rfl dX9_paste_102 ?_
            refine lv_iload hx hb dX9_paste_105 (lv_at hl 6 rfl) ?_
            refine lv_iload hx hb dX9_paste_107 (lv_at hl 7 rfl) ?_
            refine va_copyl (own := RX9) hx hb (by rw [hml]; exact hl.1.symm) hown (hw0 _ m_1294) (hw0 _ m_272) (hw0 _ m_273) (hw0 _ m_274) hK.1 hP hD hS 3 3 2 2 rfl rfl rfl rfl rfl (cy_n h_1012 (by decide)) (cy_n h_1017 (by decide)) (cy_n h_1013 (by decide)) (cy_g h_1012 h_1013 (by decide) (by decide) (by omega)) (cy_g h_1017 h_1013 (by decide) (by decide) (by omega)) (fun i hi => rfl) (Nat.le_of_ble_eq_true rfl) (by decide) dX9_paste_109 (fun H locs hP hD hS => ?_)
            generalize hf_1020 : (va_cpy fob_slots3_numbers fob_slots3_numbers (a2 : Int32).toNatClampNeg (a4 : Int32).toNatClampNeg (a5 : Int32).toNatClampNeg) = f_1020 at hP hD
            obtain ⟨hP, hD⟩ : vPD G A H [(ce_X9 ob ob_tape ob_tapeSize ob_reader ob_state ob_images ob_slots ob_rounds ob_ways ob_otherDebts ob_otherKnows), (ce_q4 y ob_slots (va_up (va_up (va_up (va_up (fun _ => none) 0 (some ob_slots0)) 1 (some ob_slots1)) 2 (some ob_slots2)) 3 (some ob_slots3))), (ce_X5 ob_slots3 ob_slots3_filled ob_slots3_width ob_slots3_size ob_slots3_numbers), (ce_l60 y ob_slots3_numbers f_1020)] := ⟨hP, hD⟩
            refine lv_iconst (v := 0) hx hb dX9_paste_112 (by decide) ?_
            exact W.iret (v := 0) hx hb hr (fun t ht hW => ⟨⟨0, _, rfl, Or.inr (Or.inr (⟨f_1020, h_1012, h_1017, h_1013, nc_1009.1, by have h90 : Int32.toInt 0 = 0 := (by decide); have h91 : Int32.toInt 3 = 3 := (by decide); omega, rfl, rfl⟩)), by rw [ht]; exact hP, hD⟩, hS.F ht⟩) hS.2.2 dX9_paste_113

set_option maxHeartbeats 4000000 in
set_option maxRecDepth 100000 in
theorem spastelo (l : Launch) (G : va_G) (y : Nat → ClassId) (sz : Nat) (ob : Nat) (a1 : Int32) (a2 : Int32) (a3 : Int32) (a4 : Int32) (a5 : Int32) (ob_tape : Nat) (ob_tapeSize : Int32) (ob_reader : Nat) (ob_state : Nat) (ob_images : Nat) (ob_slots : Nat) (ob_rounds : Nat) (ob_ways : Nat) (ob_otherDebts : Nat) (ob_otherKnows : Nat) (p_ob_tapeSize : (0 : Int) ≤ ob_tapeSize.toInt ∧ ob_tapeSize.toInt ≤ 1400) (p_a1 : (-2147483648 : Int) ≤ a1.toInt ∧ a1.toInt ≤ -1) : Met l yX9_paste (Cond.code yX9_paste cX9_paste 8 (some .int) :: wAll) ({ frames := 1, cells := 0, slots := 0, locals := 20 }) (va_Pc [.ref ob, .int a1, .int a2, .int a3, .int a4, .int a5] (kp G y sz [(ce_X9 ob ob_tape ob_tapeSize ob_reader ob_state ob_images ob_slots ob_rounds ob_ways ob_otherDebts ob_otherKnows)])) (va_Qi (fun (r : Int32) (w : va_W) => (r = (-2) ∧ w = [(ce_X9 ob ob_tape ob_tapeSize ob_reader ob_state ob_images ob_slots ob_rounds ob_ways ob_otherDebts ob_otherKnows)])) (kq G (va_A [(ce_X9 ob ob_tape ob_tapeSize ob_reader ob_state ob_images ob_slots ob_rounds ob_ways ob_otherDebts ob_otherKnows)] sz)) (va_A [(ce_X9 ob ob_tape ob_tapeSize ob_reader ob_state ob_images ob_slots ob_rounds ob_ways ob_otherDebts ob_otherKnows)] sz)) 0 0 (va_A [(ce_X9 ob ob_tape ob_tapeSize ob_reader ob_state ob_images ob_slots ob_rounds ob_ways ob_otherDebts ob_otherKnows)] sz) := by
  refine Met.ofW (cc := cX9_paste) (maxL := 8) (ret := (some .int)) (by decide) rfl ?_
  intro p e s m args below meth c s₁ B hml hv
  obtain ⟨rfl, hsz, hP, hK, hD0⟩ := hv
  have hx := B.exec
  have hb := B.bytes
  have hr := B.returns
  have hw0 : ∀ w ∈ wAll, w.before _ s = true := fun w h => atoms_spec (ws := Cond.code yX9_paste cX9_paste 8 (some .int) :: wAll) B.pre w (List.mem_cons_of_mem _ h)
  have hown : s.vm.findClass RX9 = some m.cls := findClass_of_methodNamed B.named
  subst hsz
  have hD := hD0.self (sz := s.heap.size)
  generalize hAe : va_A [(ce_X9 ob ob_tape ob_tapeSize ob_reader ob_state ob_images ob_slots ob_rounds ob_ways ob_otherDebts ob_otherKnows)] s.heap.size = A at hD ⊢
  have hA : ∀ q : Nat, s.heap.size ≤ q → A q := fun q h => by rw [← hAe]; exact Or.inr h
  have hS : va_S A s.heap s.heap [] := va_S.rf
  have hP : va_P G vwCl [(ce_X9 ob ob_tape ob_tapeSize ob_reader ob_state ob_images ob_slots ob_rounds ob_ways ob_otherDebts ob_otherKnows)] s.heap := hP
  have hl := lv_entry ([.ref ob, .int a1, .int a2, .int a3, .int a4, .int a5]) (n := 8) (Nat.le_of_ble_eq_true rfl)
  rw [lg_entry_eq]
  generalize (lg_sl ([.ref ob, .int a1, .int a2, .int a3, .int a4, .int a5]) ++ List.replicate (8 - (lg_sl ([.ref ob, .int a1, .int a2, .int a3, .int a4, .int a5])).length) Slot.unset).toArray = ls at hl ⊢
  have hl : lv_has ls 8 [(0, .ref ob), (1, .int a1), (2, .int a2), (3, .int a3), (4, .int a4), (5, .int a5)] := hl
  refine lv_iload_n hx hb dX9_paste_0 rfl (lv_at hl 1 rfl) ?_
  refine cutW 14 (fun H locs ls st => st = [] ∧ vPD G A H [(ce_X9 ob ob_tape ob_tapeSize ob_reader ob_state ob_images ob_slots ob_rounds ob_ways ob_otherDebts ob_otherKnows)] ∧ va_S A s.heap H locs ∧ lv_has ls 8 []) ?_ (fun J_14_1005 => ?_)
  · rintro H locs ls st ⟨rfl, ⟨hP, hD⟩, hS, hl⟩
    refine lv_bipush (v := (-2)) hx hb dX9_paste_14 (by decide) ?_
    exact W.iret (v := (-2)) hx hb hr (fun t ht hW => ⟨⟨(-2), _, rfl, ⟨rfl, rfl⟩, by rw [ht]; exact hP, hD⟩, hS.F ht⟩) hS.2.2 dX9_paste_16
  · skip
    refine cSim (As := [.int a1]) (rest := []) ⟨hx, hb, hml, hown, hw0⟩ hA hK hP hD hS [] (fisSlot l G y _ a1 ) rfl ⟨(callB_of 1 hw0 (gA m_1260) rfl rfl rfl (hw0 _ m_36) (hw0 _ m_1189) cb_X9_isSlot ⟨Nat.le_of_ble_eq_true rfl, Nat.le_of_ble_eq_true rfl⟩), (hw0 _ m_1190)⟩ rfl hl.1 (Nat.le_of_ble_eq_true rfl) dX9_paste_1 ⟨Nat.le_of_ble_eq_true rfl, Nat.le_of_ble_eq_true rfl⟩ (fun r_1006 w_1006 H locs hw_1006 hP hD hS => ?_)
    rcases hw_1006 with ⟨h_1007, rfl, rfl⟩ | ⟨h_1008, h_1009, rfl, rfl⟩
    · skip
      obtain ⟨hP, hD⟩ : vPD G A H [(ce_X9 ob ob_tape ob_tapeSize ob_reader ob_state ob_images ob_slots ob_rounds ob_ways ob_otherDebts ob_otherKnows)] := ⟨hP, hD⟩
      refine lv_if_eq (tgt := 14) hx hb dX9_paste_4 (by decide) (fun _ => ?_) (fun c9 => absurd (by decide) c9)
      exact J_14_1005 _ _ _ _ ⟨rfl, ⟨hP, hD⟩, hS, lv_sub hl [] rfl⟩
    · skip
      have h_1010 := b_in p_a1 h_1008
      exact absurd (Int.le_trans (h_1010).1 (h_1010).2) (by decide)

set_option maxHeartbeats 4000000 in
set_option maxRecDepth 100000 in
theorem spasteTlo (l : Launch) (G : va_G) (y : Nat → ClassId) (sz : Nat) (ob : Nat) (a1 : Int32) (a2 : Int32) (a3 : Int32) (a4 : Int32) (a5 : Int32) (ob_tape : Nat) (ob_tapeSize : Int32) (ob_reader : Nat) (ob_state : Nat) (ob_images : Nat) (ob_slots : Nat) (ob_rounds : Nat) (ob_ways : Nat) (ob_otherDebts : Nat) (ob_otherKnows : Nat) (p_ob_tapeSize : (0 : Int) ≤ ob_tapeSize.toInt ∧ ob_tapeSize.toInt ≤ 1400) (p_a1 : (0 : Int) ≤ a1.toInt ∧ a1.toInt ≤ 3) (p_a3 : (-2147483648 : Int) ≤ a3.toInt ∧ a3.toInt ≤ -1) : Met l yX9_paste (Cond.code yX9_paste cX9_paste 8 (some .int) :: wAll) ({ frames := 1, cells := 0, slots := 0, locals := 20 }) (va_Pc [.ref ob, .int a1, .int a2, .int a3, .int a4, .int a5] (kp G y sz [(ce_X9 ob ob_tape ob_tapeSize ob_reader ob_state ob_images ob_slots ob_rounds ob_ways ob_otherDebts ob_otherKnows)])) (va_Qi (fun (r : Int32) (w : va_W) => (r = (-2) ∧ w = [(ce_X9 ob ob_tape ob_tapeSize ob_reader ob_state ob_images ob_slots ob_rounds ob_ways ob_otherDebts ob_otherKnows)])) (kq G (va_A [(ce_X9 ob ob_tape ob_tapeSize ob_reader ob_state ob_images ob_slots ob_rounds ob_ways ob_otherDebts ob_otherKnows)] sz)) (va_A [(ce_X9 ob ob_tape ob_tapeSize ob_reader ob_state ob_images ob_slots ob_rounds ob_ways ob_otherDebts ob_otherKnows)] sz)) 0 0 (va_A [(ce_X9 ob ob_tape ob_tapeSize ob_reader ob_state ob_images ob_slots ob_rounds ob_ways ob_otherDebts ob_otherKnows)] sz) := by
  refine Met.ofW (cc := cX9_paste) (maxL := 8) (ret := (some .int)) (by decide) rfl ?_
  intro p e s m args below meth c s₁ B hml hv
  obtain ⟨rfl, hsz, hP, hK, hD0⟩ := hv
  have hx := B.exec
  have hb := B.bytes
  have hr := B.returns
  have hw0 : ∀ w ∈ wAll, w.before _ s = true := fun w h => atoms_spec (ws := Cond.code yX9_paste cX9_paste 8 (some .int) :: wAll) B.pre w (List.mem_cons_of_mem _ h)
  have hown : s.vm.findClass RX9 = some m.cls := findClass_of_methodNamed B.named
  subst hsz
  have hD := hD0.self (sz := s.heap.size)
  generalize hAe : va_A [(ce_X9 ob ob_tape ob_tapeSize ob_reader ob_state ob_images ob_slots ob_rounds ob_ways ob_otherDebts ob_otherKnows)] s.heap.size = A at hD ⊢
  have hA : ∀ q : Nat, s.heap.size ≤ q → A q := fun q h => by rw [← hAe]; exact Or.inr h
  have hS : va_S A s.heap s.heap [] := va_S.rf
  have hP : va_P G vwCl [(ce_X9 ob ob_tape ob_tapeSize ob_reader ob_state ob_images ob_slots ob_rounds ob_ways ob_otherDebts ob_otherKnows)] s.heap := hP
  have hl := lv_entry ([.ref ob, .int a1, .int a2, .int a3, .int a4, .int a5]) (n := 8) (Nat.le_of_ble_eq_true rfl)
  rw [lg_entry_eq]
  generalize (lg_sl ([.ref ob, .int a1, .int a2, .int a3, .int a4, .int a5]) ++ List.replicate (8 - (lg_sl ([.ref ob, .int a1, .int a2, .int a3, .int a4, .int a5])).length) Slot.unset).toArray = ls at hl ⊢
  have hl : lv_has ls 8 [(0, .ref ob), (1, .int a1), (2, .int a2), (3, .int a3), (4, .int a4), (5, .int a5)] := hl
  refine lv_iload_n hx hb dX9_paste_0 rfl (lv_at hl 1 rfl) ?_
  refine cutW 14 (fun H locs ls st => st = [] ∧ vPD G A H [(ce_X9 ob ob_tape ob_tapeSize ob_reader ob_state ob_images ob_slots ob_rounds ob_ways ob_otherDebts ob_otherKnows)] ∧ va_S A s.heap H locs ∧ lv_has ls 8 []) ?_ (fun J_14_1009 => ?_)
  · rintro H locs ls st ⟨rfl, ⟨hP, hD⟩, hS, hl⟩
    refine lv_bipush (v := (-2)) hx hb dX9_paste_14 (by decide) ?_
    exact W.iret (v := (-2)) hx hb hr (fun t ht hW => ⟨⟨(-2), _, rfl, ⟨rfl, rfl⟩, by rw [ht]; exact hP, hD⟩, hS.F ht⟩) hS.2.2 dX9_paste_16
  · skip
    refine cSim (As := [.int a1]) (rest := []) ⟨hx, hb, hml, hown, hw0⟩ hA hK hP hD hS [] (fisSlot l G y _ a1 ) rfl ⟨(callB_of 1 hw0 (gA m_1260) rfl rfl rfl (hw0 _ m_36) (hw0 _ m_1189) cb_X9_isSlot ⟨Nat.le_of_ble_eq_true rfl, Nat.le_of_ble_eq_true rfl⟩), (hw0 _ m_1190)⟩ rfl hl.1 (Nat.le_of_ble_eq_true rfl) dX9_paste_1 ⟨Nat.le_of_ble_eq_true rfl, Nat.le_of_ble_eq_true rfl⟩ (fun r_1010 w_1010 H locs hw_1010 hP hD hS => ?_)
    rcases hw_1010 with ⟨h_1011, rfl, rfl⟩ | ⟨h_1012, h_1013, rfl, rfl⟩
    · skip
      obtain ⟨hP, hD⟩ : vPD G A H [(ce_X9 ob ob_tape ob_tapeSize ob_reader ob_state ob_images ob_slots ob_rounds ob_ways ob_otherDebts ob_otherKnows)] := ⟨hP, hD⟩
      refine lv_if_eq (tgt := 14) hx hb dX9_paste_4 (by decide) (fun _ => ?_) (fun c9 => absurd (by decide) c9)
      exact J_14_1009 _ _ _ _ ⟨rfl, ⟨hP, hD⟩, hS, lv_sub hl [] rfl⟩
    · skip
      obtain ⟨hP, hD⟩ : vPD G A H [(ce_X9 ob ob_tape ob_tapeSize ob_reader ob_state ob_images ob_slots ob_rounds ob_ways ob_otherDebts ob_otherKnows)] := ⟨hP, hD⟩
      refine lv_if_eq (tgt := 14) hx hb dX9_paste_4 (by decide) (fun c9 => absurd c9 (by decide)) (fun _ => ?_)
      refine lv_iload_n hx hb dX9_paste_7 rfl (lv_at hl 3 rfl) ?_
      refine cSim (As := [.int a3]) (rest := []) ⟨hx, hb, hml, hown, hw0⟩ hA hK hP hD hS [] (fisSlot l G y _ a3 ) rfl ⟨(callB_of 1 hw0 (gA m_1260) rfl rfl rfl (hw0 _ m_36) (hw0 _ m_1189) cb_X9_isSlot ⟨Nat.le_of_ble_eq_true rfl, Nat.le_of_ble_eq_true rfl⟩), (hw0 _ m_1190)⟩ rfl hl.1 (Nat.le_of_ble_eq_true rfl) dX9_paste_8 ⟨Nat.le_of_ble_eq_true rfl, Nat.le_of_ble_eq_true rfl⟩ (fun r_1014 w_1014 H locs hw_1014 hP hD hS => ?_)
      rcases hw_1014 with ⟨h_1015, rfl, rfl⟩ | ⟨h_1016, h_1017, rfl, rfl⟩
      · skip
        obtain ⟨hP, hD⟩ : vPD G A H [(ce_X9 ob ob_tape ob_tapeSize ob_reader ob_state ob_images ob_slots ob_rounds ob_ways ob_otherDebts ob_otherKnows)] := ⟨hP, hD⟩
        refine lv_if_ne (tgt := 17) hx hb dX9_paste_11 (by decide) (fun c9 => absurd (by decide) c9) (fun _ => ?_)
        exact J_14_1009 _ _ _ _ ⟨rfl, ⟨hP, hD⟩, hS, lv_sub hl [] rfl⟩
      · skip
        have h_1018 := b_in p_a3 h_1016
        exact absurd (Int.le_trans (h_1018).1 (h_1018).2) (by decide)

set_option maxHeartbeats 4000000 in
set_option maxRecDepth 100000 in
theorem spastehi (l : Launch) (G : va_G) (y : Nat → ClassId) (sz : Nat) (ob : Nat) (a1 : Int32) (a2 : Int32) (a3 : Int32) (a4 : Int32) (a5 : Int32) (ob_tape : Nat) (ob_tapeSize : Int32) (ob_reader : Nat) (ob_state : Nat) (ob_images : Nat) (ob_slots : Nat) (ob_rounds : Nat) (ob_ways : Nat) (ob_otherDebts : Nat) (ob_otherKnows : Nat) (p_ob_tapeSize : (0 : Int) ≤ ob_tapeSize.toInt ∧ ob_tapeSize.toInt ≤ 1400) (p_a1 : (4 : Int) ≤ a1.toInt ∧ a1.toInt ≤ 2147483647) : Met l yX9_paste (Cond.code yX9_paste cX9_paste 8 (some .int) :: wAll) ({ frames := 1, cells := 0, slots := 0, locals := 20 }) (va_Pc [.ref ob, .int a1, .int a2, .int a3, .int a4, .int a5] (kp G y sz [(ce_X9 ob ob_tape ob_tapeSize ob_reader ob_state ob_images ob_slots ob_rounds ob_ways ob_otherDebts ob_otherKnows)])) (va_Qi (fun (r : Int32) (w : va_W) => (r = (-2) ∧ w = [(ce_X9 ob ob_tape ob_tapeSize ob_reader ob_state ob_images ob_slots ob_rounds ob_ways ob_otherDebts ob_otherKnows)])) (kq G (va_A [(ce_X9 ob ob_tape ob_tapeSize ob_reader ob_state ob_images ob_slots ob_rounds ob_ways ob_otherDebts ob_otherKnows)] sz)) (va_A [(ce_X9 ob ob_tape ob_tapeSize ob_reader ob_state ob_images ob_slots ob_rounds ob_ways ob_otherDebts ob_otherKnows)] sz)) 0 0 (va_A [(ce_X9 ob ob_tape ob_tapeSize ob_reader ob_state ob_images ob_slots ob_rounds ob_ways ob_otherDebts ob_otherKnows)] sz) := by
  refine Met.ofW (cc := cX9_paste) (maxL := 8) (ret := (some .int)) (by decide) rfl ?_
  intro p e s m args below meth c s₁ B hml hv
  obtain ⟨rfl, hsz, hP, hK, hD0⟩ := hv
  have hx := B.exec
  have hb := B.bytes
  have hr := B.returns
  have hw0 : ∀ w ∈ wAll, w.before _ s = true := fun w h => atoms_spec (ws := Cond.code yX9_paste cX9_paste 8 (some .int) :: wAll) B.pre w (List.mem_cons_of_mem _ h)
  have hown : s.vm.findClass RX9 = some m.cls := findClass_of_methodNamed B.named
  subst hsz
  have hD := hD0.self (sz := s.heap.size)
  generalize hAe : va_A [(ce_X9 ob ob_tape ob_tapeSize ob_reader ob_state ob_images ob_slots ob_rounds ob_ways ob_otherDebts ob_otherKnows)] s.heap.size = A at hD ⊢
  have hA : ∀ q : Nat, s.heap.size ≤ q → A q := fun q h => by rw [← hAe]; exact Or.inr h
  have hS : va_S A s.heap s.heap [] := va_S.rf
  have hP : va_P G vwCl [(ce_X9 ob ob_tape ob_tapeSize ob_reader ob_state ob_images ob_slots ob_rounds ob_ways ob_otherDebts ob_otherKnows)] s.heap := hP
  have hl := lv_entry ([.ref ob, .int a1, .int a2, .int a3, .int a4, .int a5]) (n := 8) (Nat.le_of_ble_eq_true rfl)
  rw [lg_entry_eq]
  generalize (lg_sl ([.ref ob, .int a1, .int a2, .int a3, .int a4, .int a5]) ++ List.replicate (8 - (lg_sl ([.ref ob, .int a1, .int a2, .int a3, .int a4, .int a5])).length) Slot.unset).toArray = ls at hl ⊢
  have hl : lv_has ls 8 [(0, .ref ob), (1, .int a1), (2, .int a2), (3, .int a3), (4, .int a4), (5, .int a5)] := hl
  refine lv_iload_n hx hb dX9_paste_0 rfl (lv_at hl 1 rfl) ?_
  refine cutW 14 (fun H locs ls st => st = [] ∧ vPD G A H [(ce_X9 ob ob_tape ob_tapeSize ob_reader ob_state ob_images ob_slots ob_rounds ob_ways ob_otherDebts ob_otherKnows)] ∧ va_S A s.heap H locs ∧ lv_has ls 8 []) ?_ (fun J_14_1005 => ?_)
  · rintro H locs ls st ⟨rfl, ⟨hP, hD⟩, hS, hl⟩
    refine lv_bipush (v := (-2)) hx hb dX9_paste_14 (by decide) ?_
    exact W.iret (v := (-2)) hx hb hr (fun t ht hW => ⟨⟨(-2), _, rfl, ⟨rfl, rfl⟩, by rw [ht]; exact hP, hD⟩, hS.F ht⟩) hS.2.2 dX9_paste_16
  · skip
    refine cSim (As := [.int a1]) (rest := []) ⟨hx, hb, hml, hown, hw0⟩ hA hK hP hD hS [] (fisSlot l G y _ a1 ) rfl ⟨(callB_of 1 hw0 (gA m_1260) rfl rfl rfl (hw0 _ m_36) (hw0 _ m_1189) cb_X9_isSlot ⟨Nat.le_of_ble_eq_true rfl, Nat.le_of_ble_eq_true rfl⟩), (hw0 _ m_1190)⟩ rfl hl.1 (Nat.le_of_ble_eq_true rfl) dX9_paste_1 ⟨Nat.le_of_ble_eq_true rfl, Nat.le_of_ble_eq_true rfl⟩ (fun r_1006 w_1006 H locs hw_1006 hP hD hS => ?_)
    rcases hw_1006 with ⟨h_1007, rfl, rfl⟩ | ⟨h_1008, h_1009, rfl, rfl⟩
    · skip
      obtain ⟨hP, hD⟩ : vPD G A H [(ce_X9 ob ob_tape ob_tapeSize ob_reader ob_state ob_images ob_slots ob_rounds ob_ways ob_otherDebts ob_otherKnows)] := ⟨hP, hD⟩
      refine lv_if_eq (tgt := 14) hx hb dX9_paste_4 (by decide) (fun _ => ?_) (fun c9 => absurd (by decide) c9)
      exact J_14_1005 _ _ _ _ ⟨rfl, ⟨hP, hD⟩, hS, lv_sub hl [] rfl⟩
    · skip
      have h_1010 := b_in p_a1 h_1008
      exact absurd (Int.le_trans (h_1010).1 (h_1010).2) (by decide)

set_option maxHeartbeats 4000000 in
set_option maxRecDepth 100000 in
theorem spasteThi (l : Launch) (G : va_G) (y : Nat → ClassId) (sz : Nat) (ob : Nat) (a1 : Int32) (a2 : Int32) (a3 : Int32) (a4 : Int32) (a5 : Int32) (ob_tape : Nat) (ob_tapeSize : Int32) (ob_reader : Nat) (ob_state : Nat) (ob_images : Nat) (ob_slots : Nat) (ob_rounds : Nat) (ob_ways : Nat) (ob_otherDebts : Nat) (ob_otherKnows : Nat) (p_ob_tapeSize : (0 : Int) ≤ ob_tapeSize.toInt ∧ ob_tapeSize.toInt ≤ 1400) (p_a1 : (0 : Int) ≤ a1.toInt ∧ a1.toInt ≤ 3) (p_a3 : (4 : Int) ≤ a3.toInt ∧ a3.toInt ≤ 2147483647) : Met l yX9_paste (Cond.code yX9_paste cX9_paste 8 (some .int) :: wAll) ({ frames := 1, cells := 0, slots := 0, locals := 20 }) (va_Pc [.ref ob, .int a1, .int a2, .int a3, .int a4, .int a5] (kp G y sz [(ce_X9 ob ob_tape ob_tapeSize ob_reader ob_state ob_images ob_slots ob_rounds ob_ways ob_otherDebts ob_otherKnows)])) (va_Qi (fun (r : Int32) (w : va_W) => (r = (-2) ∧ w = [(ce_X9 ob ob_tape ob_tapeSize ob_reader ob_state ob_images ob_slots ob_rounds ob_ways ob_otherDebts ob_otherKnows)])) (kq G (va_A [(ce_X9 ob ob_tape ob_tapeSize ob_reader ob_state ob_images ob_slots ob_rounds ob_ways ob_otherDebts ob_otherKnows)] sz)) (va_A [(ce_X9 ob ob_tape ob_tapeSize ob_reader ob_state ob_images ob_slots ob_rounds ob_ways ob_otherDebts ob_otherKnows)] sz)) 0 0 (va_A [(ce_X9 ob ob_tape ob_tapeSize ob_reader ob_state ob_images ob_slots ob_rounds ob_ways ob_otherDebts ob_otherKnows)] sz) := by
  refine Met.ofW (cc := cX9_paste) (maxL := 8) (ret := (some .int)) (by decide) rfl ?_
  intro p e s m args below meth c s₁ B hml hv
  obtain ⟨rfl, hsz, hP, hK, hD0⟩ := hv
  have hx := B.exec
  have hb := B.bytes
  have hr := B.returns
  have hw0 : ∀ w ∈ wAll, w.before _ s = true := fun w h => atoms_spec (ws := Cond.code yX9_paste cX9_paste 8 (some .int) :: wAll) B.pre w (List.mem_cons_of_mem _ h)
  have hown : s.vm.findClass RX9 = some m.cls := findClass_of_methodNamed B.named
  subst hsz
  have hD := hD0.self (sz := s.heap.size)
  generalize hAe : va_A [(ce_X9 ob ob_tape ob_tapeSize ob_reader ob_state ob_images ob_slots ob_rounds ob_ways ob_otherDebts ob_otherKnows)] s.heap.size = A at hD ⊢
  have hA : ∀ q : Nat, s.heap.size ≤ q → A q := fun q h => by rw [← hAe]; exact Or.inr h
  have hS : va_S A s.heap s.heap [] := va_S.rf
  have hP : va_P G vwCl [(ce_X9 ob ob_tape ob_tapeSize ob_reader ob_state ob_images ob_slots ob_rounds ob_ways ob_otherDebts ob_otherKnows)] s.heap := hP
  have hl := lv_entry ([.ref ob, .int a1, .int a2, .int a3, .int a4, .int a5]) (n := 8) (Nat.le_of_ble_eq_true rfl)
  rw [lg_entry_eq]
  generalize (lg_sl ([.ref ob, .int a1, .int a2, .int a3, .int a4, .int a5]) ++ List.replicate (8 - (lg_sl ([.ref ob, .int a1, .int a2, .int a3, .int a4, .int a5])).length) Slot.unset).toArray = ls at hl ⊢
  have hl : lv_has ls 8 [(0, .ref ob), (1, .int a1), (2, .int a2), (3, .int a3), (4, .int a4), (5, .int a5)] := hl
  refine lv_iload_n hx hb dX9_paste_0 rfl (lv_at hl 1 rfl) ?_
  refine cutW 14 (fun H locs ls st => st = [] ∧ vPD G A H [(ce_X9 ob ob_tape ob_tapeSize ob_reader ob_state ob_images ob_slots ob_rounds ob_ways ob_otherDebts ob_otherKnows)] ∧ va_S A s.heap H locs ∧ lv_has ls 8 []) ?_ (fun J_14_1009 => ?_)
  · rintro H locs ls st ⟨rfl, ⟨hP, hD⟩, hS, hl⟩
    refine lv_bipush (v := (-2)) hx hb dX9_paste_14 (by decide) ?_
    exact W.iret (v := (-2)) hx hb hr (fun t ht hW => ⟨⟨(-2), _, rfl, ⟨rfl, rfl⟩, by rw [ht]; exact hP, hD⟩, hS.F ht⟩) hS.2.2 dX9_paste_16
  · skip
    refine cSim (As := [.int a1]) (rest := []) ⟨hx, hb, hml, hown, hw0⟩ hA hK hP hD hS [] (fisSlot l G y _ a1 ) rfl ⟨(callB_of 1 hw0 (gA m_1260) rfl rfl rfl (hw0 _ m_36) (hw0 _ m_1189) cb_X9_isSlot ⟨Nat.le_of_ble_eq_true rfl, Nat.le_of_ble_eq_true rfl⟩), (hw0 _ m_1190)⟩ rfl hl.1 (Nat.le_of_ble_eq_true rfl) dX9_paste_1 ⟨Nat.le_of_ble_eq_true rfl, Nat.le_of_ble_eq_true rfl⟩ (fun r_1010 w_1010 H locs hw_1010 hP hD hS => ?_)
    rcases hw_1010 with ⟨h_1011, rfl, rfl⟩ | ⟨h_1012, h_1013, rfl, rfl⟩
    · skip
      obtain ⟨hP, hD⟩ : vPD G A H [(ce_X9 ob ob_tape ob_tapeSize ob_reader ob_state ob_images ob_slots ob_rounds ob_ways ob_otherDebts ob_otherKnows)] := ⟨hP, hD⟩
      refine lv_if_eq (tgt := 14) hx hb dX9_paste_4 (by decide) (fun _ => ?_) (fun c9 => absurd (by decide) c9)
      exact J_14_1009 _ _ _ _ ⟨rfl, ⟨hP, hD⟩, hS, lv_sub hl [] rfl⟩
    · skip
      obtain ⟨hP, hD⟩ : vPD G A H [(ce_X9 ob ob_tape ob_tapeSize ob_reader ob_state ob_images ob_slots ob_rounds ob_ways ob_otherDebts ob_otherKnows)] := ⟨hP, hD⟩
      refine lv_if_eq (tgt := 14) hx hb dX9_paste_4 (by decide) (fun c9 => absurd c9 (by decide)) (fun _ => ?_)
      refine lv_iload_n hx hb dX9_paste_7 rfl (lv_at hl 3 rfl) ?_
      refine cSim (As := [.int a3]) (rest := []) ⟨hx, hb, hml, hown, hw0⟩ hA hK hP hD hS [] (fisSlot l G y _ a3 ) rfl ⟨(callB_of 1 hw0 (gA m_1260) rfl rfl rfl (hw0 _ m_36) (hw0 _ m_1189) cb_X9_isSlot ⟨Nat.le_of_ble_eq_true rfl, Nat.le_of_ble_eq_true rfl⟩), (hw0 _ m_1190)⟩ rfl hl.1 (Nat.le_of_ble_eq_true rfl) dX9_paste_8 ⟨Nat.le_of_ble_eq_true rfl, Nat.le_of_ble_eq_true rfl⟩ (fun r_1014 w_1014 H locs hw_1014 hP hD hS => ?_)
      rcases hw_1014 with ⟨h_1015, rfl, rfl⟩ | ⟨h_1016, h_1017, rfl, rfl⟩
      · skip
        obtain ⟨hP, hD⟩ : vPD G A H [(ce_X9 ob ob_tape ob_tapeSize ob_reader ob_state ob_images ob_slots ob_rounds ob_ways ob_otherDebts ob_otherKnows)] := ⟨hP, hD⟩
        refine lv_if_ne (tgt := 17) hx hb dX9_paste_11 (by decide) (fun c9 => absurd (by decide) c9) (fun _ => ?_)
        exact J_14_1009 _ _ _ _ ⟨rfl, ⟨hP, hD⟩, hS, lv_sub hl [] rfl⟩
      · skip
        have h_1018 := b_in p_a3 h_1016
        exact absurd (Int.le_trans (h_1018).1 (h_1018).2) (by decide)
