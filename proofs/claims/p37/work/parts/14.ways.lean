set_option maxHeartbeats 4000000 in
set_option maxRecDepth 100000 in
theorem sX8_everyoneToKnow (l : Launch) (G : va_G) (y : Nat → ClassId) (sz : Nat) (o1 : Nat) (a2 : Int32) (o1_town : Nat) (o1_code : Nat) (o1_debts : Nat) (o1_deeds : Nat) (o1_knows : Nat) (o1_day : Int32) (o1_paid : Int32) (o1_follows : Nat) (o1_town_houses : Int32) (o1_town_fresh : Int32) (o1_town_introducers : Int32) (o1_town_x : Nat) (o1_town_y : Nat) (o1_town_rank : Nat) (o1_town_weekday : Nat) (o1_town_from : Nat) (o1_town_to : Nat) (o1_town_came : Nat) (o1_town_bride : Nat) (o1_town_told : Nat) (fo1_town_came : Nat → Int32) (fo1_knows : Nat → Int32) (p_o1_town_houses : (0 : Int) ≤ o1_town_houses.toInt ∧ o1_town_houses.toInt ≤ 16) (p_o1_day : (0 : Int) ≤ o1_day.toInt ∧ o1_day.toInt ≤ 399) (p_a2 : (0 : Int) ≤ a2.toInt ∧ a2.toInt ≤ 15) : Met l yX8_everyoneToKnow (Cond.code yX8_everyoneToKnow cX8_everyoneToKnow 7 (some .int) :: wAll) ({ frames := 1, cells := 0, slots := 0, locals := 22 }) (va_Pc [.ref o1, .int a2] (kp G y sz [(ce_X6 o1 o1_town o1_code o1_debts o1_deeds o1_knows o1_day o1_paid o1_follows), (ce_X7 o1_town o1_town_houses o1_town_fresh o1_town_introducers o1_town_x o1_town_y o1_town_rank o1_town_weekday o1_town_from o1_town_to o1_town_came o1_town_bride o1_town_told), (ce_i16 y o1_town_came fo1_town_came), (ce_i16 y o1_knows fo1_knows)])) (va_Qi (fun (r : Int32) (w : va_W) => (∃ (v_10665 : Int32), r = v_10665 ∧ w = [(ce_X6 o1 o1_town o1_code o1_debts o1_deeds o1_knows o1_day o1_paid o1_follows), (ce_X7 o1_town o1_town_houses o1_town_fresh o1_town_introducers o1_town_x o1_town_y o1_town_rank o1_town_weekday o1_town_from o1_town_to o1_town_came o1_town_bride o1_town_told), (ce_i16 y o1_town_came fo1_town_came), (ce_i16 y o1_knows fo1_knows)])) (kq G (va_A [(ce_X6 o1 o1_town o1_code o1_debts o1_deeds o1_knows o1_day o1_paid o1_follows), (ce_X7 o1_town o1_town_houses o1_town_fresh o1_town_introducers o1_town_x o1_town_y o1_town_rank o1_town_weekday o1_town_from o1_town_to o1_town_came o1_town_bride o1_town_told), (ce_i16 y o1_town_came fo1_town_came), (ce_i16 y o1_knows fo1_knows)] sz)) (va_A [(ce_X6 o1 o1_town o1_code o1_debts o1_deeds o1_knows o1_day o1_paid o1_follows), (ce_X7 o1_town o1_town_houses o1_town_fresh o1_town_introducers o1_town_x o1_town_y o1_town_rank o1_town_weekday o1_town_from o1_town_to o1_town_came o1_town_bride o1_town_told), (ce_i16 y o1_town_came fo1_town_came), (ce_i16 y o1_knows fo1_knows)] sz)) 0 0 (va_A [(ce_X6 o1 o1_town o1_code o1_debts o1_deeds o1_knows o1_day o1_paid o1_follows), (ce_X7 o1_town o1_town_houses o1_town_fresh o1_town_introducers o1_town_x o1_town_y o1_town_rank o1_town_weekday o1_town_from o1_town_to o1_town_came o1_town_bride o1_town_told), (ce_i16 y o1_town_came fo1_town_came), (ce_i16 y o1_knows fo1_knows)] sz) := by
  refine Met.ofW (cc := cX8_everyoneToKnow) (maxL := 7) (ret := (some .int)) (by decide) rfl ?_
  intro p e s m args below meth c s₁ B hml hv
  obtain ⟨rfl, hsz, hP, hK, hD0⟩ := hv
  have hx := B.exec
  have hb := B.bytes
  have hr := B.returns
  have hw0 : ∀ w ∈ wAll, w.before _ s = true := fun w h => atoms_spec (ws := Cond.code yX8_everyoneToKnow cX8_everyoneToKnow 7 (some .int) :: wAll) B.pre w (List.mem_cons_of_mem _ h)
  have hown : s.vm.findClass RX8 = some m.cls := findClass_of_methodNamed B.named
  subst hsz
  have hD := hD0.self (sz := s.heap.size)
  generalize hAe : va_A [(ce_X6 o1 o1_town o1_code o1_debts o1_deeds o1_knows o1_day o1_paid o1_follows), (ce_X7 o1_town o1_town_houses o1_town_fresh o1_town_introducers o1_town_x o1_town_y o1_town_rank o1_town_weekday o1_town_from o1_town_to o1_town_came o1_town_bride o1_town_told), (ce_i16 y o1_town_came fo1_town_came), (ce_i16 y o1_knows fo1_knows)] s.heap.size = A at hD ⊢
  have hA : ∀ q : Nat, s.heap.size ≤ q → A q := fun q h => by rw [← hAe]; exact Or.inr h
  have hS : va_S A s.heap s.heap [] := va_S.rf
  have hP : va_P G vwCl [(ce_X6 o1 o1_town o1_code o1_debts o1_deeds o1_knows o1_day o1_paid o1_follows), (ce_X7 o1_town o1_town_houses o1_town_fresh o1_town_introducers o1_town_x o1_town_y o1_town_rank o1_town_weekday o1_town_from o1_town_to o1_town_came o1_town_bride o1_town_told), (ce_i16 y o1_town_came fo1_town_came), (ce_i16 y o1_knows fo1_knows)] s.heap := hP
  have hl := lv_entry ([.ref o1, .int a2]) (n := 7) (Nat.le_of_ble_eq_true rfl)
  rw [lg_entry_eq]
  generalize (lg_sl ([.ref o1, .int a2]) ++ List.replicate (7 - (lg_sl ([.ref o1, .int a2])).length) Slot.unset).toArray = ls at hl ⊢
  have hl : lv_has ls 7 [(0, .ref o1), (1, .int a2)] := hl
  refine lv_aload_n hx hb dX8_everyoneToKnow_0 rfl (lv_at hl 0 rfl) ?_
  refine va_get (D := G) (ci := 6) (v := .ref o1_knows) (C := RX6) (T := TX6) (N := 8) hx hb hw0 inA_wsX60 hown hK.1 hP 0 rfl rfl 4 (by decide) (hw0 _ m_1086) (fun _ h9 => h9) rfl dX8_everyoneToKnow_1 ?_
  refine lv_iload_n hx hb dX8_everyoneToKnow_4 rfl (lv_at hl 1 rfl) ?_
  refine va_iald hx hb hK.1 hP 3 1 rfl rfl (vi p_a2 (by decide)) dX8_everyoneToKnow_5 ?_
  refine lv_topi (fun v_1001 ev_1001 => ?_)
  refine lv_istore_n (lv' := [(2, .int v_1001), (0, .ref o1), (1, .int a2)]) hx hb dX8_everyoneToKnow_6 rfl hl (by decide) rfl (fun ls hl => ?_)
  refine lv_iconst (v := 0) hx hb dX8_everyoneToKnow_7 (by decide) ?_
  refine lv_istore_n (lv' := [(3, .int 0), (2, .int v_1001), (0, .ref o1), (1, .int a2)]) hx hb dX8_everyoneToKnow_8 rfl hl (by decide) rfl (fun ls hl => ?_)
  refine loopX (fun n H locs ls st => ∃ (v_5511 : Int32) (v_5512 : Int32), (16 - v_5511.toInt).toNat = n ∧ ((0 : Int) ≤ v_5511.toInt ∧ v_5511.toInt ≤ 16) ∧ st = [] ∧ vPD G A H [(ce_X6 o1 o1_town o1_code o1_debts o1_deeds o1_knows o1_day o1_paid o1_follows), (ce_X7 o1_town o1_town_houses o1_town_fresh o1_town_introducers o1_town_x o1_town_y o1_town_rank o1_town_weekday o1_town_from o1_town_to o1_town_came o1_town_bride o1_town_told), (ce_i16 y o1_town_came fo1_town_came), (ce_i16 y o1_knows fo1_knows)] ∧ va_S A s.heap H locs ∧ lv_has ls 7 [(3, .int v_5511), (2, .int v_5512), (0, .ref o1), (1, .int a2)]) ?_ (n := (16 - (0 : Int32).toInt).toNat) ⟨0, v_1001, rfl, (bw (0) (16) (bkc (x := 0) (c := 0) (by decide)) (by decide)), rfl, ⟨hP, hD⟩, hS, lv_sub hl [0, 1, 2, 3] rfl⟩
  rintro n ih_5922 H locs ls st ⟨v_5511, v_5512, hn_5922, bv_5511, rfl, ⟨hP, hD⟩, hS, hl⟩
  refine lv_iload_n hx hb dX8_everyoneToKnow_9 rfl (lv_at hl 0 rfl) ?_
  refine lv_bipush (v := 16) hx hb dX8_everyoneToKnow_10 (by decide) ?_
  refine lv_icmp_ge (tgt := 122) hx hb dX8_everyoneToKnow_12 (by decide) (fun c_5923 => ?_) (fun c_5923 => ?_)
  · skip
    have nc_5923 := nb_le (16) (16) c_5923 (bkc (x := 16) (c := 16) (by decide)) bv_5511 (by decide)
    refine lv_iload_n hx hb dX8_everyoneToKnow_122 rfl (lv_at hl 1 rfl) ?_
    exact W.iret (v := v_5512) hx hb hr (fun t ht hW => ⟨⟨v_5512, _, rfl, ⟨v_5512, rfl, rfl⟩, by rw [ht]; exact hP, hD⟩, hS.F ht⟩) hS.2.2 dX8_everyoneToKnow_123
  · skip
    have nc_5923 := nb_nle (15) (16) c_5923 bv_5511 (bkc (x := 16) (c := 16) (by decide)) (by decide)
    refine lv_iload_n hx hb dX8_everyoneToKnow_15 rfl (lv_at hl 1 rfl) ?_
    refine lv_istore (lv' := [(4, .int v_5512), (3, .int v_5511), (2, .int v_5512), (0, .ref o1), (1, .int a2)]) hx hb dX8_everyoneToKnow_16 hl (by decide) rfl (fun ls hl => ?_)
    refine lv_iconst (v := 0) hx hb dX8_everyoneToKnow_18 (by decide) ?_
    refine lv_istore (lv' := [(5, .int 0), (4, .int v_5512), (3, .int v_5511), (2, .int v_5512), (0, .ref o1), (1, .int a2)]) hx hb dX8_everyoneToKnow_19 hl (by decide) rfl (fun ls hl => ?_)
    refine loopX (fun n H locs ls st => ∃ (v_6271 : Int32) (v_6272 : Int32), (16 - v_6271.toInt).toNat = n ∧ ((0 : Int) ≤ v_6271.toInt ∧ v_6271.toInt ≤ 16) ∧ st = [] ∧ vPD G A H [(ce_X6 o1 o1_town o1_code o1_debts o1_deeds o1_knows o1_day o1_paid o1_follows), (ce_X7 o1_town o1_town_houses o1_town_fresh o1_town_introducers o1_town_x o1_town_y o1_town_rank o1_town_weekday o1_town_from o1_town_to o1_town_came o1_town_bride o1_town_told), (ce_i16 y o1_town_came fo1_town_came), (ce_i16 y o1_knows fo1_knows)] ∧ va_S A s.heap H locs ∧ lv_has ls 7 [(5, .int v_6271), (4, .int v_6272), (3, .int v_5511), (2, .int v_5512), (0, .ref o1), (1, .int a2)]) ?_ (n := (16 - (0 : Int32).toInt).toNat) ⟨0, v_5512, rfl, (bw (0) (16) (bkc (x := 0) (c := 0) (by decide)) (by decide)), rfl, ⟨hP, hD⟩, hS, lv_sub hl [0, 1, 2, 3, 4, 5] rfl⟩
    rintro n ih_6302 H locs ls st ⟨v_6271, v_6272, hn_6302, bv_6271, rfl, ⟨hP, hD⟩, hS, hl⟩
    refine lv_iload hx hb dX8_everyoneToKnow_21 (lv_at hl 0 rfl) ?_
    refine lv_aload_n hx hb dX8_everyoneToKnow_23 rfl (lv_at hl 4 rfl) ?_
    refine va_get (D := G) (ci := 6) (v := .ref o1_town) (C := RX6) (T := TX6) (N := 8) hx hb hw0 inA_wsX60 hown hK.1 hP 0 rfl rfl 0 (by decide) (hw0 _ m_1087) (fun _ h9 => h9) rfl dX8_everyoneToKnow_24 ?_
    refine va_get (D := G) (ci := 7) (v := .int o1_town_houses) (C := RX7) (T := TX7) (N := 12) hx hb hw0 inA_wsX70 hown hK.1 hP 1 rfl rfl 0 (by decide) (hw0 _ m_1088) (fun _ h9 => h9) rfl dX8_everyoneToKnow_27 ?_
    refine lv_icmp_ge (tgt := 105) hx hb dX8_everyoneToKnow_30 (by decide) (fun c_6303 => ?_) (fun c_6303 => ?_)
    · skip
      have nc_6303 := nb_le (16) (0) c_6303 p_o1_town_houses bv_6271 (by decide)
      refine lv_iload hx hb dX8_everyoneToKnow_105 (lv_at hl 1 rfl) ?_
      refine lv_iload_n hx hb dX8_everyoneToKnow_107 rfl (lv_at hl 3 rfl) ?_
      refine lv_icmp_ne (tgt := 113) hx hb dX8_everyoneToKnow_108 (by decide) (fun c_6304 => ?_) (fun c_6304 => ?_)
      · skip
        refine lv_iload hx hb dX8_everyoneToKnow_113 (lv_at hl 1 rfl) ?_
        refine lv_istore_n (lv' := [(2, .int v_6272), (5, .int v_6271), (4, .int v_6272), (3, .int v_5511), (0, .ref o1), (1, .int a2)]) hx hb dX8_everyoneToKnow_115 rfl hl (by decide) rfl (fun ls hl => ?_)
        obtain ⟨v_6305, ev_6305⟩ : ∃ z : Int32, z = v_5511 + 1 := ⟨_, rfl⟩
        have qv_6305 := ba_add ev_6305 nc_5923.1 (bkc (x := 1) (c := 1) (by decide)) (by decide)
        have bv_6305 : (1 : Int) ≤ v_6305.toInt ∧ v_6305.toInt ≤ 16 := bq_add qv_6305 nc_5923.1 (bkc (x := 1) (c := 1) (by decide)) _ _ (by decide)
        have qv_6305 : v_6305.toInt = v_5511.toInt + (1) := qv_6305
        refine lv_iinc (v := v_6305) (lv' := [(3, .int v_6305), (2, .int v_6272), (5, .int v_6271), (4, .int v_6272), (0, .ref o1), (1, .int a2)]) hx hb dX8_everyoneToKnow_116 hl (k := 3) rfl (ev_6305.symm) (by decide) rfl (fun ls hl => ?_)
        refine lv_goto (tgt := 9) hx hb dX8_everyoneToKnow_119 (by decide) ?_
        exact ih_5922 _ (ml_inc (hi := 16) hn_5922 qv_6305 (by decide) ((bw (0) (16) bv_6305 (by decide))).2) _ _ _ _ ⟨v_6305, v_6272, rfl, (bw (0) (16) bv_6305 (by decide)), rfl, ⟨hP, hD⟩, hS, lv_sub hl [0, 1, 4, 5] rfl⟩
      · skip
        have nc_6304 := nb_eq (-2147483648) (2147483647) c_6304 (btop v_6272) (btop v_5512) (by decide)
        refine lv_iload_n hx hb dX8_everyoneToKnow_111 rfl (lv_at hl 3 rfl) ?_
        exact W.iret (v := v_5512) hx hb hr (fun t ht hW => ⟨⟨v_5512, _, rfl, ⟨v_5512, rfl, rfl⟩, by rw [ht]; exact hP, hD⟩, hS.F ht⟩) hS.2.2 dX8_everyoneToKnow_112
    · skip
      have nc_6303 := nb_nle (15) (1) c_6303 bv_6271 p_o1_town_houses (by decide)
      refine lv_iload hx hb dX8_everyoneToKnow_33 (lv_at hl 0 rfl) ?_
      refine lv_iload_n hx hb dX8_everyoneToKnow_35 rfl (lv_at hl 5 rfl) ?_
      refine cutW 60 (fun H locs ls st => ∃ (v_6310 : Int32), ((0 : Int) ≤ v_6310.toInt ∧ v_6310.toInt ≤ 1) ∧ st = [.int v_6310] ∧ vPD G A H [(ce_X6 o1 o1_town o1_code o1_debts o1_deeds o1_knows o1_day o1_paid o1_follows), (ce_X7 o1_town o1_town_houses o1_town_fresh o1_town_introducers o1_town_x o1_town_y o1_town_rank o1_town_weekday o1_town_from o1_town_to o1_town_came o1_town_bride o1_town_told), (ce_i16 y o1_town_came fo1_town_came), (ce_i16 y o1_knows fo1_knows)] ∧ va_S A s.heap H locs ∧ lv_has ls 7 [(5, .int v_6271), (4, .int v_6272), (3, .int v_5511), (2, .int v_5512), (0, .ref o1), (1, .int a2)]) ?_ (fun J_60_6310 => ?_)
      · rintro H locs ls st ⟨v_6310, bv_6310, rfl, ⟨hP, hD⟩, hS, hl⟩
        refine lv_istore (lv' := [(6, .int v_6310), (5, .int v_6271), (4, .int v_6272), (3, .int v_5511), (2, .int v_5512), (0, .ref o1), (1, .int a2)]) hx hb dX8_everyoneToKnow_60 hl (by decide) rfl (fun ls hl => ?_)
        refine lv_iload hx hb dX8_everyoneToKnow_62 (lv_at hl 0 rfl) ?_
        refine cutW 99 (fun H locs ls st => ∃ (v_6319 : Int32), st = [] ∧ vPD G A H [(ce_X6 o1 o1_town o1_code o1_debts o1_deeds o1_knows o1_day o1_paid o1_follows), (ce_X7 o1_town o1_town_houses o1_town_fresh o1_town_introducers o1_town_x o1_town_y o1_town_rank o1_town_weekday o1_town_from o1_town_to o1_town_came o1_town_bride o1_town_told), (ce_i16 y o1_town_came fo1_town_came), (ce_i16 y o1_knows fo1_knows)] ∧ va_S A s.heap H locs ∧ lv_has ls 7 [(5, .int v_6271), (4, .int v_6319), (3, .int v_5511), (2, .int v_5512), (0, .ref o1), (1, .int a2)]) ?_ (fun J_99_6319 => ?_)
        · rintro H locs ls st ⟨v_6319, rfl, ⟨hP, hD⟩, hS, hl⟩
          obtain ⟨v_6320, ev_6320⟩ : ∃ z : Int32, z = v_6271 + 1 := ⟨_, rfl⟩
          have qv_6320 := ba_add ev_6320 nc_6303.1 (bkc (x := 1) (c := 1) (by decide)) (by decide)
          have bv_6320 : (1 : Int) ≤ v_6320.toInt ∧ v_6320.toInt ≤ 16 := bq_add qv_6320 nc_6303.1 (bkc (x := 1) (c := 1) (by decide)) _ _ (by decide)
          have qv_6320 : v_6320.toInt = v_6271.toInt + (1) := qv_6320
          refine lv_iinc (v := v_6320) (lv' := [(5, .int v_6320), (4, .int v_6319), (3, .int v_5511), (2, .int v_5512), (0, .ref o1), (1, .int a2)]) hx hb dX8_everyoneToKnow_99 hl (k := 0) rfl (ev_6320.symm) (by decide) rfl (fun ls hl => ?_)
          refine lv_goto (tgt := 21) hx hb dX8_everyoneToKnow_102 (by decide) ?_
          exact ih_6302 _ (ml_inc (hi := 16) hn_6302 qv_6320 (by decide) ((bw (0) (16) bv_6320 (by decide))).2) _ _ _ _ ⟨v_6320, v_6319, rfl, (bw (0) (16) bv_6320 (by decide)), rfl, ⟨hP, hD⟩, hS, lv_sub hl [0, 1, 2, 3, 4, 5] rfl⟩
        · skip
          refine lv_if_eq (tgt := 99) hx hb dX8_everyoneToKnow_64 (by decide) (fun c_6321 => ?_) (fun c_6321 => ?_)
          · skip
            have nc_6321 := nb_eq (0) (0) c_6321 bv_6310 (bkc (x := 0) (c := 0) (by decide)) (by decide)
            exact J_99_6319 _ _ _ _ ⟨v_6272, rfl, ⟨hP, hD⟩, hS, lv_sub hl [1, 2, 3, 4, 5, 6] rfl⟩
          · skip
            have nc_6321 := nb_ne (1) (1) c_6321 bv_6310 (k := 0) (by decide) (by decide)
            refine lv_aload_n hx hb dX8_everyoneToKnow_67 rfl (lv_at hl 5 rfl) ?_
            refine va_get (D := G) (ci := 6) (v := .ref o1_knows) (C := RX6) (T := TX6) (N := 8) hx hb hw0 inA_wsX60 hown hK.1 hP 0 rfl rfl 4 (by decide) (hw0 _ m_1086) (fun _ h9 => h9) rfl dX8_everyoneToKnow_68 ?_
            refine lv_iload hx hb dX8_everyoneToKnow_71 (lv_at hl 1 rfl) ?_
            refine va_iald hx hb hK.1 hP 3 1 rfl rfl (vi nc_6303.1 (by decide)) dX8_everyoneToKnow_73 ?_
            refine lv_topi (fun v_6322 ev_6322 => ?_)
            refine lv_iload hx hb dX8_everyoneToKnow_74 (lv_at hl 2 rfl) ?_
            refine lv_iand hx hb dX8_everyoneToKnow_76 ?_
            refine lv_topi (fun v_6323 ev_6323 => ?_)
            refine cSim (As := [.int v_6323]) (rest := []) ⟨hx, hb, hml, hown, hw0⟩ hA hK hP hD hS [] (sJ6_bitCount_0f7a4 l G y _ v_6323 ) rfl ⟨(callB_of 1 hw0 (gA m_26) rfl rfl rfl (hw0 _ m_834) (hw0 _ m_1091) cb_J6_bitCount_0f7a4 ⟨Nat.le_of_ble_eq_true rfl, Nat.le_of_ble_eq_true rfl⟩), (hw0 _ m_1051)⟩ rfl hl.1 (Nat.le_of_ble_eq_true rfl) dX8_everyoneToKnow_77 ⟨Nat.le_of_ble_eq_true rfl, Nat.le_of_ble_eq_true rfl⟩ (fun r_6324 w_6324 H locs hw_6324 hP hD hS => ?_)
            obtain ⟨v_6325, bv_6325, er_6324, rfl⟩ := hw_6324
            subst r_6324
            obtain ⟨hP, hD⟩ : vPD G A H [(ce_X6 o1 o1_town o1_code o1_debts o1_deeds o1_knows o1_day o1_paid o1_follows), (ce_X7 o1_town o1_town_houses o1_town_fresh o1_town_introducers o1_town_x o1_town_y o1_town_rank o1_town_weekday o1_town_from o1_town_to o1_town_came o1_town_bride o1_town_told), (ce_i16 y o1_town_came fo1_town_came), (ce_i16 y o1_knows fo1_knows)] := ⟨hP, hD⟩
            refine lv_aload_n hx hb dX8_everyoneToKnow_80 rfl (lv_at hl 5 rfl) ?_
            refine va_get (D := G) (ci := 6) (v := .ref o1_town) (C := RX6) (T := TX6) (N := 8) hx hb hw0 inA_wsX60 hown hK.1 hP 0 rfl rfl 0 (by decide) (hw0 _ m_1087) (fun _ h9 => h9) rfl dX8_everyoneToKnow_81 ?_
            refine va_get (D := G) (ci := 7) (v := .int o1_town_introducers) (C := RX7) (T := TX7) (N := 12) hx hb hw0 inA_wsX70 hown hK.1 hP 1 rfl rfl 2 (by decide) (hw0 _ m_1092) (fun _ h9 => h9) rfl dX8_everyoneToKnow_84 ?_
            refine lv_icmp_lt (tgt := 99) hx hb dX8_everyoneToKnow_87 (by decide) (fun c_6326 => ?_) (fun c_6326 => ?_)
            · skip
              have nc_6326 := nb_lt (63) (1) c_6326 bv_6325 (btop o1_town_introducers) (by decide)
              exact J_99_6319 _ _ _ _ ⟨v_6272, rfl, ⟨hP, hD⟩, hS, lv_sub hl [1, 2, 3, 4, 5, 6] rfl⟩
            · skip
              have nc_6326 := nb_nlt (63) (0) c_6326 (btop o1_town_introducers) bv_6325 (by decide)
              refine lv_iload hx hb dX8_everyoneToKnow_90 (lv_at hl 2 rfl) ?_
              refine lv_iconst (v := 1) hx hb dX8_everyoneToKnow_92 (by decide) ?_
              refine lv_iload hx hb dX8_everyoneToKnow_93 (lv_at hl 1 rfl) ?_
              refine lv_ishl hx hb dX8_everyoneToKnow_95 ?_
              refine lv_topi (fun v_6327 ev_6327 => ?_)
              have bv_6327 : (1 : Int) ≤ v_6327.toInt ∧ v_6327.toInt ≤ 32768 := ba_shl 0 15 ev_6327 nc_6303.1 (by decide)
              refine lv_ior hx hb dX8_everyoneToKnow_96 ?_
              refine lv_topi (fun v_6328 ev_6328 => ?_)
              refine lv_istore (lv' := [(4, .int v_6328), (6, .int v_6310), (5, .int v_6271), (3, .int v_5511), (2, .int v_5512), (0, .ref o1), (1, .int a2)]) hx hb dX8_everyoneToKnow_97 hl (by decide) rfl (fun ls hl => ?_)
              exact J_99_6319 _ _ _ _ ⟨v_6328, rfl, ⟨hP, hD⟩, hS, lv_sub hl [2, 0, 3, 4, 5, 6] rfl⟩
      · skip
        refine cutW 59 (fun H locs ls st => st = [] ∧ vPD G A H [(ce_X6 o1 o1_town o1_code o1_debts o1_deeds o1_knows o1_day o1_paid o1_follows), (ce_X7 o1_town o1_town_houses o1_town_fresh o1_town_introducers o1_town_x o1_town_y o1_town_rank o1_town_weekday o1_town_from o1_town_to o1_town_came o1_town_bride o1_town_told), (ce_i16 y o1_town_came fo1_town_came), (ce_i16 y o1_knows fo1_knows)] ∧ va_S A s.heap H locs ∧ lv_has ls 7 [(5, .int v_6271), (4, .int v_6272), (3, .int v_5511), (2, .int v_5512), (0, .ref o1), (1, .int a2)]) ?_ (fun J_59_6330 => ?_)
        · rintro H locs ls st ⟨rfl, ⟨hP, hD⟩, hS, hl⟩
          refine lv_iconst (v := 0) hx hb dX8_everyoneToKnow_59 (by decide) ?_
          exact J_60_6310 _ _ _ _ ⟨0, (bw (0) (1) (bkc (x := 0) (c := 0) (by decide)) (by decide)), rfl, ⟨hP, hD⟩, hS, lv_sub hl [0, 1, 2, 3, 4, 5] rfl⟩
        · skip
          refine lv_icmp_eq (tgt := 59) hx hb dX8_everyoneToKnow_36 (by decide) (fun c_6331 => ?_) (fun c_6331 => ?_)
          · skip
            have nc_6331 := nb_eq (0) (15) c_6331 nc_6303.1 p_a2 (by decide)
            exact J_59_6330 _ _ _ _ ⟨rfl, ⟨hP, hD⟩, hS, lv_sub hl [0, 1, 2, 3, 4, 5] rfl⟩
          · skip
            refine lv_aload_n hx hb dX8_everyoneToKnow_39 rfl (lv_at hl 4 rfl) ?_
            refine va_get (D := G) (ci := 6) (v := .ref o1_town) (C := RX6) (T := TX6) (N := 8) hx hb hw0 inA_wsX60 hown hK.1 hP 0 rfl rfl 0 (by decide) (hw0 _ m_1087) (fun _ h9 => h9) rfl dX8_everyoneToKnow_40 ?_
            refine lv_iload hx hb dX8_everyoneToKnow_43 (lv_at hl 0 rfl) ?_
            refine lv_aload_n hx hb dX8_everyoneToKnow_45 rfl (lv_at hl 4 rfl) ?_
            refine va_get (D := G) (ci := 6) (v := .int o1_day) (C := RX6) (T := TX6) (N := 8) hx hb hw0 inA_wsX60 hown hK.1 hP 0 rfl rfl 5 (by decide) (hw0 _ m_1089) (fun _ h9 => h9) rfl dX8_everyoneToKnow_46 ?_
            refine cVim (As := [.int v_6271, .int o1_day]) (rest := []) ⟨hx, hb, hml, hown, hw0⟩ hA hK hP hD hS [false, true, true] (sX7_isThere l G y _ o1_town v_6271 o1_day o1_town_houses o1_town_fresh o1_town_introducers o1_town_x o1_town_y o1_town_rank o1_town_weekday o1_town_from o1_town_to o1_town_came o1_town_bride o1_town_told fo1_town_came (bw (0) (16) nc_6303.2.1 (by decide)) nc_6303.1) rfl ⟨(callB_of 2 hw0 (gA m_1081) rfl rfl rfl (hw0 _ m_746) (hw0 _ m_1090) cb_X7_isThere ⟨Nat.le_of_ble_eq_true rfl, Nat.le_of_ble_eq_true rfl⟩), (hw0 _ m_976), (hw0 _ m_977)⟩ (ci := 7) (q := (RX7, TX7, 12)) rfl rfl rfl hl.1 (Nat.le_of_ble_eq_true rfl) dX8_everyoneToKnow_49 ⟨Nat.le_of_ble_eq_true rfl, Nat.le_of_ble_eq_true rfl⟩ (fun r_6332 w_6332 H locs hw_6332 hP hD hS => ?_)
            rcases hw_6332 with ⟨rfl, rfl⟩ | ⟨rfl, rfl⟩
            · skip
              obtain ⟨hP, hD⟩ : vPD G A H [(ce_X6 o1 o1_town o1_code o1_debts o1_deeds o1_knows o1_day o1_paid o1_follows), (ce_X7 o1_town o1_town_houses o1_town_fresh o1_town_introducers o1_town_x o1_town_y o1_town_rank o1_town_weekday o1_town_from o1_town_to o1_town_came o1_town_bride o1_town_told), (ce_i16 y o1_town_came fo1_town_came), (ce_i16 y o1_knows fo1_knows)] := ⟨hP, hD⟩
              refine lv_if_eq (tgt := 59) hx hb dX8_everyoneToKnow_52 (by decide) (fun _ => ?_) (fun c9 => absurd (by decide) c9)
              exact J_59_6330 _ _ _ _ ⟨rfl, ⟨hP, hD⟩, hS, lv_sub hl [0, 1, 2, 3, 4, 5] rfl⟩
            · skip
              obtain ⟨hP, hD⟩ : vPD G A H [(ce_X6 o1 o1_town o1_code o1_debts o1_deeds o1_knows o1_day o1_paid o1_follows), (ce_X7 o1_town o1_town_houses o1_town_fresh o1_town_introducers o1_town_x o1_town_y o1_town_rank o1_town_weekday o1_town_from o1_town_to o1_town_came o1_town_bride o1_town_told), (ce_i16 y o1_town_came fo1_town_came), (ce_i16 y o1_knows fo1_knows)] := ⟨hP, hD⟩
              refine lv_if_eq (tgt := 59) hx hb dX8_everyoneToKnow_52 (by decide) (fun c9 => absurd c9 (by decide)) (fun _ => ?_)
              refine lv_iconst (v := 1) hx hb dX8_everyoneToKnow_55 (by decide) ?_
              refine lv_goto (tgt := 60) hx hb dX8_everyoneToKnow_56 (by decide) ?_
              exact J_60_6310 _ _ _ _ ⟨1, (bw (0) (1) (bkc (x := 1) (c := 1) (by decide)) (by decide)), rfl, ⟨hP, hD⟩, hS, lv_sub hl [0, 1, 2, 3, 4, 5] rfl⟩

set_option maxHeartbeats 4000000 in
set_option maxRecDepth 100000 in
theorem sX8_linksOf (l : Launch) (G : va_G) (y : Nat → ClassId) (sz : Nat) (ob : Nat) (o1 : Nat) (a2 : Int32) (ob_sought : Int32) (ob_length : Int32) (ob_calls : Nat) (ob_caller : Int32) (ob_goal : Int32) (ob_between : Int32) (ob_house : Nat) (ob_friends : Nat) (ob_links : Nat) (ob_queue : Nat) (ob_latest : Nat) (fob_house : Nat → Int32) (o1_town : Nat) (o1_code : Nat) (o1_debts : Nat) (o1_deeds : Nat) (o1_knows : Nat) (o1_day : Int32) (o1_paid : Int32) (o1_follows : Nat) (fo1_knows : Nat → Int32) (p_ob_sought : (0 : Int) ≤ ob_sought.toInt ∧ ob_sought.toInt ≤ 1) (p_ob_length : (-1 : Int) ≤ ob_length.toInt ∧ ob_length.toInt ≤ 16) (p_ob_between : (0 : Int) ≤ ob_between.toInt ∧ ob_between.toInt ≤ 13) (p_fob_house : ∀ i, (0 : Int) ≤ (fob_house i).toInt ∧ (fob_house i).toInt ≤ 15) (p_o1_day : (0 : Int) ≤ o1_day.toInt ∧ o1_day.toInt ≤ 399) (p_a2 : (0 : Int) ≤ a2.toInt ∧ a2.toInt ≤ 15) : Met l yX8_linksOf (Cond.code yX8_linksOf cX8_linksOf 5 (some .int) :: wAll) ({ frames := 1, cells := 0, slots := 0, locals := 22 }) (va_Pc [.ref ob, .ref o1, .int a2] (kp G y sz [(ce_X8 ob ob_sought ob_length ob_calls ob_caller ob_goal ob_between ob_house ob_friends ob_links ob_queue ob_latest), (ce_i13 y ob_house fob_house), (ce_X6 o1 o1_town o1_code o1_debts o1_deeds o1_knows o1_day o1_paid o1_follows), (ce_i16 y o1_knows fo1_knows)])) (va_Qi (fun (r : Int32) (w : va_W) => (∃ (v_299 : Int32), ((0 : Int) ≤ v_299.toInt ∧ v_299.toInt ≤ 8191) ∧ r = v_299 ∧ w = [(ce_X8 ob ob_sought ob_length ob_calls ob_caller ob_goal ob_between ob_house ob_friends ob_links ob_queue ob_latest), (ce_i13 y ob_house fob_house), (ce_X6 o1 o1_town o1_code o1_debts o1_deeds o1_knows o1_day o1_paid o1_follows), (ce_i16 y o1_knows fo1_knows)])) (kq G (va_A [(ce_X8 ob ob_sought ob_length ob_calls ob_caller ob_goal ob_between ob_house ob_friends ob_links ob_queue ob_latest), (ce_i13 y ob_house fob_house), (ce_X6 o1 o1_town o1_code o1_debts o1_deeds o1_knows o1_day o1_paid o1_follows), (ce_i16 y o1_knows fo1_knows)] sz)) (va_A [(ce_X8 ob ob_sought ob_length ob_calls ob_caller ob_goal ob_between ob_house ob_friends ob_links ob_queue ob_latest), (ce_i13 y ob_house fob_house), (ce_X6 o1 o1_town o1_code o1_debts o1_deeds o1_knows o1_day o1_paid o1_follows), (ce_i16 y o1_knows fo1_knows)] sz)) 0 0 (va_A [(ce_X8 ob ob_sought ob_length ob_calls ob_caller ob_goal ob_between ob_house ob_friends ob_links ob_queue ob_latest), (ce_i13 y ob_house fob_house), (ce_X6 o1 o1_town o1_code o1_debts o1_deeds o1_knows o1_day o1_paid o1_follows), (ce_i16 y o1_knows fo1_knows)] sz) := by
  refine Met.ofW (cc := cX8_linksOf) (maxL := 5) (ret := (some .int)) (by decide) rfl ?_
  intro p e s m args below meth c s₁ B hml hv
  obtain ⟨rfl, hsz, hP, hK, hD0⟩ := hv
  have hx := B.exec
  have hb := B.bytes
  have hr := B.returns
  have hw0 : ∀ w ∈ wAll, w.before _ s = true := fun w h => atoms_spec (ws := Cond.code yX8_linksOf cX8_linksOf 5 (some .int) :: wAll) B.pre w (List.mem_cons_of_mem _ h)
  have hown : s.vm.findClass RX8 = some m.cls := findClass_of_methodNamed B.named
  subst hsz
  have hD := hD0.self (sz := s.heap.size)
  generalize hAe : va_A [(ce_X8 ob ob_sought ob_length ob_calls ob_caller ob_goal ob_between ob_house ob_friends ob_links ob_queue ob_latest), (ce_i13 y ob_house fob_house), (ce_X6 o1 o1_town o1_code o1_debts o1_deeds o1_knows o1_day o1_paid o1_follows), (ce_i16 y o1_knows fo1_knows)] s.heap.size = A at hD ⊢
  have hA : ∀ q : Nat, s.heap.size ≤ q → A q := fun q h => by rw [← hAe]; exact Or.inr h
  have hS : va_S A s.heap s.heap [] := va_S.rf
  have hP : va_P G vwCl [(ce_X8 ob ob_sought ob_length ob_calls ob_caller ob_goal ob_between ob_house ob_friends ob_links ob_queue ob_latest), (ce_i13 y ob_house fob_house), (ce_X6 o1 o1_town o1_code o1_debts o1_deeds o1_knows o1_day o1_paid o1_follows), (ce_i16 y o1_knows fo1_knows)] s.heap := hP
  have hl := lv_entry ([.ref ob, .ref o1, .int a2]) (n := 5) (Nat.le_of_ble_eq_true rfl)
  rw [lg_entry_eq]
  generalize (lg_sl ([.ref ob, .ref o1, .int a2]) ++ List.replicate (5 - (lg_sl ([.ref ob, .ref o1, .int a2])).length) Slot.unset).toArray = ls at hl ⊢
  have hl : lv_has ls 5 [(0, .ref ob), (1, .ref o1), (2, .int a2)] := hl
  refine lv_iconst (v := 0) hx hb dX8_linksOf_0 (by decide) ?_
  refine lv_istore_n (lv' := [(3, .int 0), (0, .ref ob), (1, .ref o1), (2, .int a2)]) hx hb dX8_linksOf_1 rfl hl (by decide) rfl (fun ls hl => ?_)
  refine lv_iconst (v := 0) hx hb dX8_linksOf_2 (by decide) ?_
  refine lv_istore (lv' := [(4, .int 0), (3, .int 0), (0, .ref ob), (1, .ref o1), (2, .int a2)]) hx hb dX8_linksOf_3 hl (by decide) rfl (fun ls hl => ?_)
  refine loopX (fun n H locs ls st => ∃ (v_1124 : Int32) (v_1125 : Int32), (13 - v_1124.toInt).toNat = n ∧ ((0 : Int) ≤ v_1124.toInt ∧ v_1124.toInt ≤ 13) ∧ ((0 : Int) ≤ v_1125.toInt ∧ v_1125.toInt ≤ 8191) ∧ st = [] ∧ vPD G A H [(ce_X8 ob ob_sought ob_length ob_calls ob_caller ob_goal ob_between ob_house ob_friends ob_links ob_queue ob_latest), (ce_i13 y ob_house fob_house), (ce_X6 o1 o1_town o1_code o1_debts o1_deeds o1_knows o1_day o1_paid o1_follows), (ce_i16 y o1_knows fo1_knows)] ∧ va_S A s.heap H locs ∧ lv_has ls 5 [(4, .int v_1124), (3, .int v_1125), (0, .ref ob), (1, .ref o1), (2, .int a2)]) ?_ (n := (13 - (0 : Int32).toInt).toNat) ⟨0, 0, rfl, (bw (0) (13) (bkc (x := 0) (c := 0) (by decide)) (by decide)), (bw (0) (8191) (bkc (x := 0) (c := 0) (by decide)) (by decide)), rfl, ⟨hP, hD⟩, hS, lv_sub hl [0, 1, 2, 3, 4] rfl⟩
  rintro n ih_1137 H locs ls st ⟨v_1124, v_1125, hn_1137, bv_1124, bv_1125, rfl, ⟨hP, hD⟩, hS, hl⟩
  refine lv_iload hx hb dX8_linksOf_5 (lv_at hl 0 rfl) ?_
  refine lv_aload_n hx hb dX8_linksOf_7 rfl (lv_at hl 2 rfl) ?_
  refine va_get (D := G) (ci := 8) (v := .int ob_between) (C := RX8) (T := TX8) (N := 11) hx hb hw0 inA_wsX80 hown hK.1 hP 0 rfl rfl 5 (by decide) (hw0 _ m_1094) (fun _ h9 => h9) rfl dX8_linksOf_8 ?_
  refine lv_icmp_ge (tgt := 43) hx hb dX8_linksOf_11 (by decide) (fun c_1138 => ?_) (fun c_1138 => ?_)
  · skip
    have nc_1138 := nb_le (13) (0) c_1138 p_ob_between bv_1124 (by decide)
    refine lv_iload_n hx hb dX8_linksOf_43 rfl (lv_at hl 1 rfl) ?_
    exact W.iret (v := v_1125) hx hb hr (fun t ht hW => ⟨⟨v_1125, _, rfl, ⟨v_1125, bv_1125, rfl, rfl⟩, by rw [ht]; exact hP, hD⟩, hS.F ht⟩) hS.2.2 dX8_linksOf_44
  · skip
    have nc_1138 := nb_nle (12) (1) c_1138 bv_1124 p_ob_between (by decide)
    refine lv_aload_n hx hb dX8_linksOf_14 rfl (lv_at hl 3 rfl) ?_
    refine lv_aload_n hx hb dX8_linksOf_15 rfl (lv_at hl 2 rfl) ?_
    refine va_get (D := G) (ci := 8) (v := .ref ob_house) (C := RX8) (T := TX8) (N := 11) hx hb hw0 inA_wsX80 hown hK.1 hP 0 rfl rfl 6 (by decide) (hw0 _ m_1095) (fun _ h9 => h9) rfl dX8_linksOf_16 ?_
    refine lv_iload hx hb dX8_linksOf_19 (lv_at hl 0 rfl) ?_
    refine va_iald hx hb hK.1 hP 1 1 rfl rfl (vi nc_1138.1 (by decide)) dX8_linksOf_21 ?_
    refine lv_topi (fun v_1139 ev_1139 => ?_)
    have bv_1139 : (0 : Int) ≤ v_1139.toInt ∧ v_1139.toInt ≤ 15 := rd_b ev_1139 p_fob_house
    refine lv_iload_n hx hb dX8_linksOf_22 rfl (lv_at hl 4 rfl) ?_
    refine cVim (As := [.int v_1139, .int a2]) (rest := []) ⟨hx, hb, hml, hown, hw0⟩ hA hK hP hD hS [false, false, true, true] (sX6_knew l G y _ o1 v_1139 a2 o1_town o1_code o1_debts o1_deeds o1_knows o1_day o1_paid o1_follows fo1_knows p_o1_day bv_1139) rfl ⟨(callB_of 2 hw0 (gA m_1054) rfl rfl rfl (hw0 _ m_958) (hw0 _ m_1110) cb_X6_knew ⟨Nat.le_of_ble_eq_true rfl, Nat.le_of_ble_eq_true rfl⟩), (hw0 _ m_959), (hw0 _ m_960)⟩ (ci := 6) (q := (RX6, TX6, 8)) rfl rfl rfl hl.1 (Nat.le_of_ble_eq_true rfl) dX8_linksOf_23 ⟨Nat.le_of_ble_eq_true rfl, Nat.le_of_ble_eq_true rfl⟩ (fun r_1140 w_1140 H locs hw_1140 hP hD hS => ?_)
    obtain ⟨v_1141, bv_1141, er_1140, rfl⟩ := hw_1140
    subst r_1140
    obtain ⟨hP, hD⟩ : vPD G A H [(ce_X8 ob ob_sought ob_length ob_calls ob_caller ob_goal ob_between ob_house ob_friends ob_links ob_queue ob_latest), (ce_i13 y ob_house fob_house), (ce_X6 o1 o1_town o1_code o1_debts o1_deeds o1_knows o1_day o1_paid o1_follows), (ce_i16 y o1_knows fo1_knows)] := ⟨hP, hD⟩
    refine lv_iconst (v := 1) hx hb dX8_linksOf_26 (by decide) ?_
    refine cutW 37 (fun H locs ls st => ∃ (v_1145 : Int32), ((0 : Int) ≤ v_1145.toInt ∧ v_1145.toInt ≤ 8191) ∧ st = [] ∧ vPD G A H [(ce_X8 ob ob_sought ob_length ob_calls ob_caller ob_goal ob_between ob_house ob_friends ob_links ob_queue ob_latest), (ce_i13 y ob_house fob_house), (ce_X6 o1 o1_town o1_code o1_debts o1_deeds o1_knows o1_day o1_paid o1_follows), (ce_i16 y o1_knows fo1_knows)] ∧ va_S A s.heap H locs ∧ lv_has ls 5 [(4, .int v_1124), (3, .int v_1145), (0, .ref ob), (1, .ref o1), (2, .int a2)]) ?_ (fun J_37_1145 => ?_)
    · rintro H locs ls st ⟨v_1145, bv_1145, rfl, ⟨hP, hD⟩, hS, hl⟩
      obtain ⟨v_1146, ev_1146⟩ : ∃ z : Int32, z = v_1124 + 1 := ⟨_, rfl⟩
      have qv_1146 := ba_add ev_1146 nc_1138.1 (bkc (x := 1) (c := 1) (by decide)) (by decide)
      have bv_1146 : (1 : Int) ≤ v_1146.toInt ∧ v_1146.toInt ≤ 13 := bq_add qv_1146 nc_1138.1 (bkc (x := 1) (c := 1) (by decide)) _ _ (by decide)
      have qv_1146 : v_1146.toInt = v_1124.toInt + (1) := qv_1146
      refine lv_iinc (v := v_1146) (lv' := [(4, .int v_1146), (3, .int v_1145), (0, .ref ob), (1, .ref o1), (2, .int a2)]) hx hb dX8_linksOf_37 hl (k := 0) rfl (ev_1146.symm) (by decide) rfl (fun ls hl => ?_)
      refine lv_goto (tgt := 5) hx hb dX8_linksOf_40 (by decide) ?_
      exact ih_1137 _ (ml_inc (hi := 13) hn_1137 qv_1146 (by decide) ((bw (0) (13) bv_1146 (by decide))).2) _ _ _ _ ⟨v_1146, v_1145, rfl, (bw (0) (13) bv_1146 (by decide)), bv_1145, rfl, ⟨hP, hD⟩, hS, lv_sub hl [0, 1, 2, 3, 4] rfl⟩
    · skip
      refine lv_icmp_ne (tgt := 37) hx hb dX8_linksOf_27 (by decide) (fun c_1147 => ?_) (fun c_1147 => ?_)
      · skip
        have nc_1147 := nb_ne (0) (0) c_1147 bv_1141 (k := 1) (by decide) (by decide)
        exact J_37_1145 _ _ _ _ ⟨v_1125, bv_1125, rfl, ⟨hP, hD⟩, hS, lv_sub hl [0, 1, 2, 3, 4] rfl⟩
      · skip
        have nc_1147 := nb_eq (1) (1) c_1147 bv_1141 (bkc (x := 1) (c := 1) (by decide)) (by decide)
        refine lv_iload_n hx hb dX8_linksOf_30 rfl (lv_at hl 1 rfl) ?_
        refine lv_iconst (v := 1) hx hb dX8_linksOf_31 (by decide) ?_
        refine lv_iload hx hb dX8_linksOf_32 (lv_at hl 0 rfl) ?_
        refine lv_ishl hx hb dX8_linksOf_34 ?_
        refine lv_topi (fun v_1148 ev_1148 => ?_)
        have bv_1148 : (1 : Int) ≤ v_1148.toInt ∧ v_1148.toInt ≤ 4096 := ba_shl 0 12 ev_1148 nc_1138.1 (by decide)
        refine lv_ior hx hb dX8_linksOf_35 ?_
        refine lv_topi (fun v_1149 ev_1149 => ?_)
        have bv_1149 : (0 : Int) ≤ v_1149.toInt ∧ v_1149.toInt ≤ 8191 := ba_or 13 ev_1149 bv_1125 bv_1148 (by decide)
        refine lv_istore_n (lv' := [(3, .int v_1149), (4, .int v_1124), (0, .ref ob), (1, .ref o1), (2, .int a2)]) hx hb dX8_linksOf_36 rfl hl (by decide) rfl (fun ls hl => ?_)
        exact J_37_1145 _ _ _ _ ⟨v_1149, bv_1149, rfl, ⟨hP, hD⟩, hS, lv_sub hl [1, 0, 2, 3, 4] rfl⟩

set_option maxHeartbeats 4000000 in
set_option maxRecDepth 100000 in
theorem sX8_gather (l : Launch) (G : va_G) (y : Nat → ClassId) (sz : Nat) (ob : Nat) (o1 : Nat) (a2 : Int32) (a3 : Int32) (ob_sought : Int32) (ob_length : Int32) (ob_calls : Nat) (ob_caller : Int32) (ob_goal : Int32) (ob_between : Int32) (ob_house : Nat) (ob_friends : Nat) (ob_links : Nat) (ob_queue : Nat) (ob_latest : Nat) (fob_house : Nat → Int32) (fob_friends : Nat → Int32) (fob_links : Nat → Int32) (o1_town : Nat) (o1_code : Nat) (o1_debts : Nat) (o1_deeds : Nat) (o1_knows : Nat) (o1_day : Int32) (o1_paid : Int32) (o1_follows : Nat) (o1_town_houses : Int32) (o1_town_fresh : Int32) (o1_town_introducers : Int32) (o1_town_x : Nat) (o1_town_y : Nat) (o1_town_rank : Nat) (o1_town_weekday : Nat) (o1_town_from : Nat) (o1_town_to : Nat) (o1_town_came : Nat) (o1_town_bride : Nat) (o1_town_told : Nat) (fo1_knows : Nat → Int32) (p_ob_sought : (0 : Int) ≤ ob_sought.toInt ∧ ob_sought.toInt ≤ 1) (p_ob_length : (-1 : Int) ≤ ob_length.toInt ∧ ob_length.toInt ≤ 16) (p_ob_between : (0 : Int) ≤ ob_between.toInt ∧ ob_between.toInt ≤ 13) (p_fob_house : ∀ i, (0 : Int) ≤ (fob_house i).toInt ∧ (fob_house i).toInt ≤ 15) (p_o1_town_houses : (0 : Int) ≤ o1_town_houses.toInt ∧ o1_town_houses.toInt ≤ 16) (p_o1_day : (0 : Int) ≤ o1_day.toInt ∧ o1_day.toInt ≤ 399) (p_a2 : (0 : Int) ≤ a2.toInt ∧ a2.toInt ≤ 15) : Met l yX8_gather (Cond.code yX8_gather cX8_gather 5 none :: wAll) ({ frames := 2, cells := 0, slots := 0, locals := 46 }) (va_Pc [.ref ob, .ref o1, .int a2, .int a3] (kp G y sz [(ce_X8 ob ob_sought ob_length ob_calls ob_caller ob_goal ob_between ob_house ob_friends ob_links ob_queue ob_latest), (ce_i13 y ob_house fob_house), (ce_i13 y ob_friends fob_friends), (ce_i13 y ob_links fob_links), (ce_X6 o1 o1_town o1_code o1_debts o1_deeds o1_knows o1_day o1_paid o1_follows), (ce_X7 o1_town o1_town_houses o1_town_fresh o1_town_introducers o1_town_x o1_town_y o1_town_rank o1_town_weekday o1_town_from o1_town_to o1_town_came o1_town_bride o1_town_told), (ce_i16 y o1_knows fo1_knows)])) (va_Qv (fun (w : va_W) => (∃ (v_1579 : Int32) (f_1580 : Nat → Int32) (f_1581 : Nat → Int32) (f_1582 : Nat → Int32), ((0 : Int) ≤ v_1579.toInt ∧ v_1579.toInt ≤ 13) ∧ (∀ i, (0 : Int) ≤ (f_1580 i).toInt ∧ (f_1580 i).toInt ≤ 15) ∧ w = [(ce_X8 ob ob_sought ob_length ob_calls ob_caller ob_goal v_1579 ob_house ob_friends ob_links ob_queue ob_latest), (ce_i13 y ob_house f_1580), (ce_i13 y ob_friends f_1581), (ce_i13 y ob_links f_1582), (ce_X6 o1 o1_town o1_code o1_debts o1_deeds o1_knows o1_day o1_paid o1_follows), (ce_X7 o1_town o1_town_houses o1_town_fresh o1_town_introducers o1_town_x o1_town_y o1_town_rank o1_town_weekday o1_town_from o1_town_to o1_town_came o1_town_bride o1_town_told), (ce_i16 y o1_knows fo1_knows)])) (kq G (va_A [(ce_X8 ob ob_sought ob_length ob_calls ob_caller ob_goal ob_between ob_house ob_friends ob_links ob_queue ob_latest), (ce_i13 y ob_house fob_house), (ce_i13 y ob_friends fob_friends), (ce_i13 y ob_links fob_links), (ce_X6 o1 o1_town o1_code o1_debts o1_deeds o1_knows o1_day o1_paid o1_follows), (ce_X7 o1_town o1_town_houses o1_town_fresh o1_town_introducers o1_town_x o1_town_y o1_town_rank o1_town_weekday o1_town_from o1_town_to o1_town_came o1_town_bride o1_town_told), (ce_i16 y o1_knows fo1_knows)] sz)) (va_A [(ce_X8 ob ob_sought ob_length ob_calls ob_caller ob_goal ob_between ob_house ob_friends ob_links ob_queue ob_latest), (ce_i13 y ob_house fob_house), (ce_i13 y ob_friends fob_friends), (ce_i13 y ob_links fob_links), (ce_X6 o1 o1_town o1_code o1_debts o1_deeds o1_knows o1_day o1_paid o1_follows), (ce_X7 o1_town o1_town_houses o1_town_fresh o1_town_introducers o1_town_x o1_town_y o1_town_rank o1_town_weekday o1_town_from o1_town_to o1_town_came o1_town_bride o1_town_told), (ce_i16 y o1_knows fo1_knows)] sz)) 0 0 (va_A [(ce_X8 ob ob_sought ob_length ob_calls ob_caller ob_goal ob_between ob_house ob_friends ob_links ob_queue ob_latest), (ce_i13 y ob_house fob_house), (ce_i13 y ob_friends fob_friends), (ce_i13 y ob_links fob_links), (ce_X6 o1 o1_town o1_code o1_debts o1_deeds o1_knows o1_day o1_paid o1_follows), (ce_X7 o1_town o1_town_houses o1_town_fresh o1_town_introducers o1_town_x o1_town_y o1_town_rank o1_town_weekday o1_town_from o1_town_to o1_town_came o1_town_bride o1_town_told), (ce_i16 y o1_knows fo1_knows)] sz) := by
  refine Met.ofW (cc := cX8_gather) (maxL := 5) (ret := none) (by decide) rfl ?_
  intro p e s m args below meth c s₁ B hml hv
  obtain ⟨rfl, hsz, hP, hK, hD0⟩ := hv
  have hx := B.exec
  have hb := B.bytes
  have hr := B.returns
  have hw0 : ∀ w ∈ wAll, w.before _ s = true := fun w h => atoms_spec (ws := Cond.code yX8_gather cX8_gather 5 none :: wAll) B.pre w (List.mem_cons_of_mem _ h)
  have hown : s.vm.findClass RX8 = some m.cls := findClass_of_methodNamed B.named
  subst hsz
  have hD := hD0.self (sz := s.heap.size)
  generalize hAe : va_A [(ce_X8 ob ob_sought ob_length ob_calls ob_caller ob_goal ob_between ob_house ob_friends ob_links ob_queue ob_latest), (ce_i13 y ob_house fob_house), (ce_i13 y ob_friends fob_friends), (ce_i13 y ob_links fob_links), (ce_X6 o1 o1_town o1_code o1_debts o1_deeds o1_knows o1_day o1_paid o1_follows), (ce_X7 o1_town o1_town_houses o1_town_fresh o1_town_introducers o1_town_x o1_town_y o1_town_rank o1_town_weekday o1_town_from o1_town_to o1_town_came o1_town_bride o1_town_told), (ce_i16 y o1_knows fo1_knows)] s.heap.size = A at hD ⊢
  have hA : ∀ q : Nat, s.heap.size ≤ q → A q := fun q h => by rw [← hAe]; exact Or.inr h
  have hS : va_S A s.heap s.heap [] := va_S.rf
  have hP : va_P G vwCl [(ce_X8 ob ob_sought ob_length ob_calls ob_caller ob_goal ob_between ob_house ob_friends ob_links ob_queue ob_latest), (ce_i13 y ob_house fob_house), (ce_i13 y ob_friends fob_friends), (ce_i13 y ob_links fob_links), (ce_X6 o1 o1_town o1_code o1_debts o1_deeds o1_knows o1_day o1_paid o1_follows), (ce_X7 o1_town o1_town_houses o1_town_fresh o1_town_introducers o1_town_x o1_town_y o1_town_rank o1_town_weekday o1_town_from o1_town_to o1_town_came o1_town_bride o1_town_told), (ce_i16 y o1_knows fo1_knows)] s.heap := hP
  have hl := lv_entry ([.ref ob, .ref o1, .int a2, .int a3]) (n := 5) (Nat.le_of_ble_eq_true rfl)
  rw [lg_entry_eq]
  generalize (lg_sl ([.ref ob, .ref o1, .int a2, .int a3]) ++ List.replicate (5 - (lg_sl ([.ref ob, .ref o1, .int a2, .int a3])).length) Slot.unset).toArray = ls at hl ⊢
  have hl : lv_has ls 5 [(0, .ref ob), (1, .ref o1), (2, .int a2), (3, .int a3)] := hl
  refine lv_aload_n hx hb dX8_gather_0 rfl (lv_at hl 0 rfl) ?_
  refine lv_iconst (v := 0) hx hb dX8_gather_1 (by decide) ?_
  refine va_put (D := G) (ci := 8) (v := .int 0) (ty := .int) (C := RX8) (T := TX8) (N := 11) hx hb hw0 inA_wsX80 tyX8 tyX8_ok nmX8 hown hK.1 hP hD hS 0 rfl rfl 5 (by decide) (hw0 _ m_1094) (fun _ h9 => h9) rfl fd_X8_5 rfl rfl (Nat.le_of_ble_eq_true rfl) dX8_gather_2 (fun H locs hP hD hS => ?_)
  obtain ⟨hP, hD⟩ : vPD G A H [(ce_X8 ob ob_sought ob_length ob_calls ob_caller ob_goal 0 ob_house ob_friends ob_links ob_queue ob_latest), (ce_i13 y ob_house fob_house), (ce_i13 y ob_friends fob_friends), (ce_i13 y ob_links fob_links), (ce_X6 o1 o1_town o1_code o1_debts o1_deeds o1_knows o1_day o1_paid o1_follows), (ce_X7 o1_town o1_town_houses o1_town_fresh o1_town_introducers o1_town_x o1_town_y o1_town_rank o1_town_weekday o1_town_from o1_town_to o1_town_came o1_town_bride o1_town_told), (ce_i16 y o1_knows fo1_knows)] := ⟨hP, hD⟩
  refine lv_iconst (v := 0) hx hb dX8_gather_5 (by decide) ?_
  refine lv_istore (lv' := [(4, .int 0), (0, .ref ob), (1, .ref o1), (2, .int a2), (3, .int a3)]) hx hb dX8_gather_6 hl (by decide) rfl (fun ls hl => ?_)
  refine loopX (fun n H locs ls st => ∃ (v_1607 : Int32) (v_1608 : Int32) (f_1609 : Nat → Int32) (f_1610 : Nat → Int32), (16 - v_1607.toInt).toNat = n ∧ ((0 : Int) ≤ v_1607.toInt ∧ v_1607.toInt ≤ 16) ∧ ((0 : Int) ≤ v_1608.toInt ∧ v_1608.toInt ≤ 13) ∧ (∀ i, (0 : Int) ≤ (f_1609 i).toInt ∧ (f_1609 i).toInt ≤ 15) ∧ st = [] ∧ vPD G A H [(ce_X8 ob ob_sought ob_length ob_calls ob_caller ob_goal v_1608 ob_house ob_friends ob_links ob_queue ob_latest), (ce_i13 y ob_house f_1609), (ce_i13 y ob_friends f_1610), (ce_i13 y ob_links fob_links), (ce_X6 o1 o1_town o1_code o1_debts o1_deeds o1_knows o1_day o1_paid o1_follows), (ce_X7 o1_town o1_town_houses o1_town_fresh o1_town_introducers o1_town_x o1_town_y o1_town_rank o1_town_weekday o1_town_from o1_town_to o1_town_came o1_town_bride o1_town_told), (ce_i16 y o1_knows fo1_knows)] ∧ va_S A s.heap H locs ∧ lv_has ls 5 [(4, .int v_1607), (0, .ref ob), (1, .ref o1), (2, .int a2), (3, .int a3)]) ?_ (n := (16 - (0 : Int32).toInt).toNat) ⟨0, 0, fob_house, fob_friends, rfl, (bw (0) (16) (bkc (x := 0) (c := 0) (by decide)) (by decide)), (bw (0) (13) (bkc (x := 0) (c := 0) (by decide)) (by decide)), p_fob_house, rfl, ⟨hP, hD⟩, hS, lv_sub hl [0, 1, 2, 3, 4] rfl⟩
  rintro n ih_1662 H locs ls st ⟨v_1607, v_1608, f_1609, f_1610, hn_1662, bv_1607, bv_1608, bf_1609, rfl, ⟨hP, hD⟩, hS, hl⟩
  refine lv_iload hx hb dX8_gather_8 (lv_at hl 0 rfl) ?_
  refine lv_aload_n hx hb dX8_gather_10 rfl (lv_at hl 2 rfl) ?_
  refine va_get (D := G) (ci := 6) (v := .ref o1_town) (C := RX6) (T := TX6) (N := 8) hx hb hw0 inA_wsX60 hown hK.1 hP 4 rfl rfl 0 (by decide) (hw0 _ m_1087) (fun _ h9 => h9) rfl dX8_gather_11 ?_
  refine va_get (D := G) (ci := 7) (v := .int o1_town_houses) (C := RX7) (T := TX7) (N := 12) hx hb hw0 inA_wsX70 hown hK.1 hP 5 rfl rfl 0 (by decide) (hw0 _ m_1088) (fun _ h9 => h9) rfl dX8_gather_14 ?_
  refine cutW 92 (fun H locs ls st => st = [] ∧ vPD G A H [(ce_X8 ob ob_sought ob_length ob_calls ob_caller ob_goal v_1608 ob_house ob_friends ob_links ob_queue ob_latest), (ce_i13 y ob_house f_1609), (ce_i13 y ob_friends f_1610), (ce_i13 y ob_links fob_links), (ce_X6 o1 o1_town o1_code o1_debts o1_deeds o1_knows o1_day o1_paid o1_follows), (ce_X7 o1_town o1_town_houses o1_town_fresh o1_town_introducers o1_town_x o1_town_y o1_town_rank o1_town_weekday o1_town_from o1_town_to o1_town_came o1_town_bride o1_town_told), (ce_i16 y o1_knows fo1_knows)] ∧ va_S A s.heap H locs ∧ lv_has ls 5 [(0, .ref ob), (1, .ref o1)]) ?_ (fun J_92_1688 => ?_)
  · rintro H locs ls st ⟨rfl, ⟨hP, hD⟩, hS, hl⟩
    refine lv_iconst (v := 0) hx hb dX8_gather_92 (by decide) ?_
    refine lv_istore (lv' := [(4, .int 0), (0, .ref ob), (1, .ref o1)]) hx hb dX8_gather_93 hl (by decide) rfl (fun ls hl => ?_)
    refine loopX (fun n H locs ls st => ∃ (v_1750 : Int32) (f_1751 : Nat → Int32), (13 - v_1750.toInt).toNat = n ∧ ((0 : Int) ≤ v_1750.toInt ∧ v_1750.toInt ≤ 13) ∧ st = [] ∧ vPD G A H [(ce_X8 ob ob_sought ob_length ob_calls ob_caller ob_goal v_1608 ob_house ob_friends ob_links ob_queue ob_latest), (ce_i13 y ob_house f_1609), (ce_i13 y ob_friends f_1610), (ce_i13 y ob_links f_1751), (ce_X6 o1 o1_town o1_code o1_debts o1_deeds o1_knows o1_day o1_paid o1_follows), (ce_X7 o1_town o1_town_houses o1_town_fresh o1_town_introducers o1_town_x o1_town_y o1_town_rank o1_town_weekday o1_town_from o1_town_to o1_town_came o1_town_bride o1_town_told), (ce_i16 y o1_knows fo1_knows)] ∧ va_S A s.heap H locs ∧ lv_has ls 5 [(4, .int v_1750), (0, .ref ob), (1, .ref o1)]) ?_ (n := (13 - (0 : Int32).toInt).toNat) ⟨0, fob_links, rfl, (bw (0) (13) (bkc (x := 0) (c := 0) (by decide)) (by decide)), rfl, ⟨hP, hD⟩, hS, lv_sub hl [0, 1, 2] rfl⟩
    rintro n ih_1757 H locs ls st ⟨v_1750, f_1751, hn_1757, bv_1750, rfl, ⟨hP, hD⟩, hS, hl⟩
    refine lv_iload hx hb dX8_gather_95 (lv_at hl 0 rfl) ?_
    refine lv_aload_n hx hb dX8_gather_97 rfl (lv_at hl 1 rfl) ?_
    refine va_get (D := G) (ci := 8) (v := .int v_1608) (C := RX8) (T := TX8) (N := 11) hx hb hw0 inA_wsX80 hown hK.1 hP 0 rfl rfl 5 (by decide) (hw0 _ m_1094) (fun _ h9 => h9) rfl dX8_gather_98 ?_
    refine lv_icmp_ge (tgt := 129) hx hb dX8_gather_101 (by decide) (fun c_1758 => ?_) (fun c_1758 => ?_)
    · skip
      have nc_1758 := nb_le (13) (0) c_1758 bv_1608 bv_1750 (by decide)
      exact W.vret hx hb hr (fun t ht hW => ⟨⟨_, rfl, ⟨v_1608, f_1609, f_1610, f_1751, nc_1758.1, bf_1609, rfl⟩, by rw [ht]; exact hP, hD⟩, hS.F ht⟩) hS.2.2 dX8_gather_129
    · skip
      have nc_1758 := nb_nle (12) (1) c_1758 bv_1750 bv_1608 (by decide)
      refine lv_aload_n hx hb dX8_gather_104 rfl (lv_at hl 1 rfl) ?_
      refine va_get (D := G) (ci := 8) (v := .ref ob_links) (C := RX8) (T := TX8) (N := 11) hx hb hw0 inA_wsX80 hown hK.1 hP 0 rfl rfl 8 (by decide) (hw0 _ m_1097) (fun _ h9 => h9) rfl dX8_gather_105 ?_
      refine lv_iload hx hb dX8_gather_108 (lv_at hl 0 rfl) ?_
      refine lv_aload_n hx hb dX8_gather_110 rfl (lv_at hl 1 rfl) ?_
      refine lv_aload_n hx hb dX8_gather_111 rfl (lv_at hl 2 rfl) ?_
      refine lv_aload_n hx hb dX8_gather_112 rfl (lv_at hl 1 rfl) ?_
      refine va_get (D := G) (ci := 8) (v := .ref ob_house) (C := RX8) (T := TX8) (N := 11) hx hb hw0 inA_wsX80 hown hK.1 hP 0 rfl rfl 6 (by decide) (hw0 _ m_1095) (fun _ h9 => h9) rfl dX8_gather_113 ?_
      refine lv_iload hx hb dX8_gather_116 (lv_at hl 0 rfl) ?_
      refine va_iald hx hb hK.1 hP 1 1 rfl rfl (vi nc_1758.1 (by decide)) dX8_gather_118 ?_
      refine lv_topi (fun v_1759 ev_1759 => ?_)
      have bv_1759 : (0 : Int) ≤ v_1759.toInt ∧ v_1759.toInt ≤ 15 := rd_b ev_1759 bf_1609
      refine cVim (As := [.ref o1, .int v_1759]) (rest := [.int v_1750, .ref ob_links]) ⟨hx, hb, hml, hown, hw0⟩ hA hK hP hD hS [true, true, false, false, true, false, true] (sX8_linksOf l G y _ ob o1 v_1759 ob_sought ob_length ob_calls ob_caller ob_goal v_1608 ob_house ob_friends ob_links ob_queue ob_latest f_1609 o1_town o1_code o1_debts o1_deeds o1_knows o1_day o1_paid o1_follows fo1_knows p_ob_sought p_ob_length (bw (0) (13) nc_1758.2.1 (by decide)) bf_1609 p_o1_day bv_1759) rfl ⟨(callB_of 2 hw0 (gA m_1109) rfl rfl rfl (hw0 _ m_1099) (hw0 _ m_1098) cb_X8_linksOf ⟨Nat.le_of_ble_eq_true rfl, Nat.le_of_ble_eq_true rfl⟩), (hw0 _ m_1100), (hw0 _ m_1101)⟩ (ci := 8) (q := (RX8, TX8, 11)) rfl rfl rfl hl.1 (Nat.le_of_ble_eq_true rfl) dX8_gather_119 ⟨Nat.le_of_ble_eq_true rfl, Nat.le_of_ble_eq_true rfl⟩ (fun r_1760 w_1760 H locs hw_1760 hP hD hS => ?_)
      obtain ⟨v_1761, bv_1761, er_1760, rfl⟩ := hw_1760
      subst r_1760
      obtain ⟨hP, hD⟩ : vPD G A H [(ce_X8 ob ob_sought ob_length ob_calls ob_caller ob_goal v_1608 ob_house ob_friends ob_links ob_queue ob_latest), (ce_i13 y ob_house f_1609), (ce_i13 y ob_friends f_1610), (ce_i13 y ob_links f_1751), (ce_X6 o1 o1_town o1_code o1_debts o1_deeds o1_knows o1_day o1_paid o1_follows), (ce_X7 o1_town o1_town_houses o1_town_fresh o1_town_introducers o1_town_x o1_town_y o1_town_rank o1_town_weekday o1_town_from o1_town_to o1_town_came o1_town_bride o1_town_told), (ce_i16 y o1_knows fo1_knows)] := ⟨hP, hD⟩
      refine va_iast hx hb hK.1 hP hD hS 3 1 rfl rfl (vi nc_1758.1 (by decide)) dX8_gather_122 (fun H locs hP hD hS => ?_)
      generalize hf_1762 : (upd f_1751 (v_1750 : Int32).toNatClampNeg v_1761) = f_1762 at hP hD
      obtain ⟨hP, hD⟩ : vPD G A H [(ce_X8 ob ob_sought ob_length ob_calls ob_caller ob_goal v_1608 ob_house ob_friends ob_links ob_queue ob_latest), (ce_i13 y ob_house f_1609), (ce_i13 y ob_friends f_1610), (ce_i13 y ob_links f_1762), (ce_X6 o1 o1_town o1_code o1_debts o1_deeds o1_knows o1_day o1_paid o1_follows), (ce_X7 o1_town o1_town_houses o1_town_fresh o1_town_introducers o1_town_x o1_town_y o1_town_rank o1_town_weekday o1_town_from o1_town_to o1_town_came o1_town_bride o1_town_told), (ce_i16 y o1_knows fo1_knows)] := ⟨hP, hD⟩
      obtain ⟨v_1763, ev_1763⟩ : ∃ z : Int32, z = v_1750 + 1 := ⟨_, rfl⟩
      have qv_1763 := ba_add ev_1763 nc_1758.1 (bkc (x := 1) (c := 1) (by decide)) (by decide)
      have bv_1763 : (1 : Int) ≤ v_1763.toInt ∧ v_1763.toInt ≤ 13 := bq_add qv_1763 nc_1758.1 (bkc (x := 1) (c := 1) (by decide)) _ _ (by decide)
      have qv_1763 : v_1763.toInt = v_1750.toInt + (1) := qv_1763
      refine lv_iinc (v := v_1763) (lv' := [(4, .int v_1763), (0, .ref ob), (1, .ref o1)]) hx hb dX8_gather_123 hl (k := 0) rfl (ev_1763.symm) (by decide) rfl (fun ls hl => ?_)
      refine lv_goto (tgt := 95) hx hb dX8_gather_126 (by decide) ?_
      exact ih_1757 _ (ml_inc (hi := 13) hn_1757 qv_1763 (by decide) ((bw (0) (13) bv_1763 (by decide))).2) _ _ _ _ ⟨v_1763, f_1762, rfl, (bw (0) (13) bv_1763 (by decide)), rfl, ⟨hP, hD⟩, hS, lv_sub hl [0, 1, 2] rfl⟩
  · skip
    refine lv_icmp_ge (tgt := 92) hx hb dX8_gather_17 (by decide) (fun c_1764 => ?_) (fun c_1764 => ?_)
    · skip
      have nc_1764 := nb_le (16) (0) c_1764 p_o1_town_houses bv_1607 (by decide)
      exact J_92_1688 _ _ _ _ ⟨rfl, ⟨hP, hD⟩, hS, lv_sub hl [1, 2] rfl⟩
    · skip
      have nc_1764 := nb_nle (15) (1) c_1764 bv_1607 p_o1_town_houses (by decide)
      refine lv_aload_n hx hb dX8_gather_20 rfl (lv_at hl 1 rfl) ?_
      refine va_get (D := G) (ci := 8) (v := .int v_1608) (C := RX8) (T := TX8) (N := 11) hx hb hw0 inA_wsX80 hown hK.1 hP 0 rfl rfl 5 (by decide) (hw0 _ m_1094) (fun _ h9 => h9) rfl dX8_gather_21 ?_
      refine lv_bipush (v := 13) hx hb dX8_gather_24 (by decide) ?_
      refine lv_icmp_ge (tgt := 92) hx hb dX8_gather_26 (by decide) (fun c_1765 => ?_) (fun c_1765 => ?_)
      · skip
        have nc_1765 := nb_le (13) (13) c_1765 (bkc (x := 13) (c := 13) (by decide)) bv_1608 (by decide)
        exact J_92_1688 _ _ _ _ ⟨rfl, ⟨hP, hD⟩, hS, lv_sub hl [1, 2] rfl⟩
      · skip
        have nc_1765 := nb_nle (12) (13) c_1765 bv_1608 (bkc (x := 13) (c := 13) (by decide)) (by decide)
        refine lv_iload_n hx hb dX8_gather_29 rfl (lv_at hl 4 rfl) ?_
        refine lv_iload hx hb dX8_gather_30 (lv_at hl 0 rfl) ?_
        refine lv_ishr hx hb dX8_gather_32 ?_
        refine lv_topi (fun v_1766 ev_1766 => ?_)
        refine lv_iconst (v := 1) hx hb dX8_gather_33 (by decide) ?_
        refine lv_iand hx hb dX8_gather_34 ?_
        refine lv_topi (fun v_1767 ev_1767 => ?_)
        have bv_1767 : (0 : Int) ≤ v_1767.toInt ∧ v_1767.toInt ≤ 1 := ba_andr ev_1767 (bkc (x := 1) (c := 1) (by decide)) (by decide)
        refine lv_iconst (v := 1) hx hb dX8_gather_35 (by decide) ?_
        refine cutW 86 (fun H locs ls st => ∃ (v_1777 : Int32) (f_1778 : Nat → Int32) (f_1779 : Nat → Int32), ((0 : Int) ≤ v_1777.toInt ∧ v_1777.toInt ≤ 13) ∧ (∀ i, (0 : Int) ≤ (f_1778 i).toInt ∧ (f_1778 i).toInt ≤ 15) ∧ st = [] ∧ vPD G A H [(ce_X8 ob ob_sought ob_length ob_calls ob_caller ob_goal v_1777 ob_house ob_friends ob_links ob_queue ob_latest), (ce_i13 y ob_house f_1778), (ce_i13 y ob_friends f_1779), (ce_i13 y ob_links fob_links), (ce_X6 o1 o1_town o1_code o1_debts o1_deeds o1_knows o1_day o1_paid o1_follows), (ce_X7 o1_town o1_town_houses o1_town_fresh o1_town_introducers o1_town_x o1_town_y o1_town_rank o1_town_weekday o1_town_from o1_town_to o1_town_came o1_town_bride o1_town_told), (ce_i16 y o1_knows fo1_knows)] ∧ va_S A s.heap H locs ∧ lv_has ls 5 [(4, .int v_1607), (0, .ref ob), (1, .ref o1), (2, .int a2), (3, .int a3)]) ?_ (fun J_86_1779 => ?_)
        · rintro H locs ls st ⟨v_1777, f_1778, f_1779, bv_1777, bf_1778, rfl, ⟨hP, hD⟩, hS, hl⟩
          obtain ⟨v_1780, ev_1780⟩ : ∃ z : Int32, z = v_1607 + 1 := ⟨_, rfl⟩
          have qv_1780 := ba_add ev_1780 nc_1764.1 (bkc (x := 1) (c := 1) (by decide)) (by decide)
          have bv_1780 : (1 : Int) ≤ v_1780.toInt ∧ v_1780.toInt ≤ 16 := bq_add qv_1780 nc_1764.1 (bkc (x := 1) (c := 1) (by decide)) _ _ (by decide)
          have qv_1780 : v_1780.toInt = v_1607.toInt + (1) := qv_1780
          refine lv_iinc (v := v_1780) (lv' := [(4, .int v_1780), (0, .ref ob), (1, .ref o1), (2, .int a2), (3, .int a3)]) hx hb dX8_gather_86 hl (k := 0) rfl (ev_1780.symm) (by decide) rfl (fun ls hl => ?_)
          refine lv_goto (tgt := 8) hx hb dX8_gather_89 (by decide) ?_
          exact ih_1662 _ (ml_inc (hi := 16) hn_1662 qv_1780 (by decide) ((bw (0) (16) bv_1780 (by decide))).2) _ _ _ _ ⟨v_1780, v_1777, f_1778, f_1779, rfl, (bw (0) (16) bv_1780 (by decide)), bv_1777, bf_1778, rfl, ⟨hP, hD⟩, hS, lv_sub hl [0, 1, 2, 3, 4] rfl⟩
        · skip
          refine lv_icmp_ne (tgt := 86) hx hb dX8_gather_36 (by decide) (fun c_1781 => ?_) (fun c_1781 => ?_)
          · skip
            have nc_1781 := nb_ne (0) (0) c_1781 bv_1767 (k := 1) (by decide) (by decide)
            exact J_86_1779 _ _ _ _ ⟨v_1608, f_1609, f_1610, (bw (0) (13) nc_1765.1 (by decide)), bf_1609, rfl, ⟨hP, hD⟩, hS, lv_sub hl [0, 1, 2, 3, 4] rfl⟩
          · skip
            have nc_1781 := nb_eq (1) (1) c_1781 bv_1767 (bkc (x := 1) (c := 1) (by decide)) (by decide)
            refine lv_aload_n hx hb dX8_gather_39 rfl (lv_at hl 1 rfl) ?_
            refine va_get (D := G) (ci := 8) (v := .ref ob_house) (C := RX8) (T := TX8) (N := 11) hx hb hw0 inA_wsX80 hown hK.1 hP 0 rfl rfl 6 (by decide) (hw0 _ m_1095) (fun _ h9 => h9) rfl dX8_gather_40 ?_
            refine lv_aload_n hx hb dX8_gather_43 rfl (lv_at hl 1 rfl) ?_
            refine va_get (D := G) (ci := 8) (v := .int v_1608) (C := RX8) (T := TX8) (N := 11) hx hb hw0 inA_wsX80 hown hK.1 hP 0 rfl rfl 5 (by decide) (hw0 _ m_1094) (fun _ h9 => h9) rfl dX8_gather_44 ?_
            refine lv_iload hx hb dX8_gather_47 (lv_at hl 0 rfl) ?_
            refine va_iast hx hb hK.1 hP hD hS 1 1 rfl rfl (vi nc_1765.1 (by decide)) dX8_gather_49 (fun H locs hP hD hS => ?_)
            generalize hf_1782 : (upd f_1609 (v_1608 : Int32).toNatClampNeg v_1607) = f_1782 at hP hD
            have bf_1782 : ∀ i, (0 : Int) ≤ (f_1782 i).toInt ∧ (f_1782 i).toInt ≤ 15 := hf_1782 ▸ up_b bf_1609 nc_1764.1
            obtain ⟨hP, hD⟩ : vPD G A H [(ce_X8 ob ob_sought ob_length ob_calls ob_caller ob_goal v_1608 ob_house ob_friends ob_links ob_queue ob_latest), (ce_i13 y ob_house f_1782), (ce_i13 y ob_friends f_1610), (ce_i13 y ob_links fob_links), (ce_X6 o1 o1_town o1_code o1_debts o1_deeds o1_knows o1_day o1_paid o1_follows), (ce_X7 o1_town o1_town_houses o1_town_fresh o1_town_introducers o1_town_x o1_town_y o1_town_rank o1_town_weekday o1_town_from o1_town_to o1_town_came o1_town_bride o1_town_told), (ce_i16 y o1_knows fo1_knows)] := ⟨hP, hD⟩
            refine lv_aload_n hx hb dX8_gather_50 rfl (lv_at hl 1 rfl) ?_
            refine va_get (D := G) (ci := 8) (v := .ref ob_friends) (C := RX8) (T := TX8) (N := 11) hx hb hw0 inA_wsX80 hown hK.1 hP 0 rfl rfl 7 (by decide) (hw0 _ m_1096) (fun _ h9 => h9) rfl dX8_gather_51 ?_
            refine lv_aload_n hx hb dX8_gather_54 rfl (lv_at hl 1 rfl) ?_
            refine va_get (D := G) (ci := 8) (v := .int v_1608) (C := RX8) (T := TX8) (N := 11) hx hb hw0 inA_wsX80 hown hK.1 hP 0 rfl rfl 5 (by decide) (hw0 _ m_1094) (fun _ h9 => h9) rfl dX8_gather_55 ?_
            refine lv_aload_n hx hb dX8_gather_58 rfl (lv_at hl 2 rfl) ?_
            refine va_get (D := G) (ci := 6) (v := .ref o1_knows) (C := RX6) (T := TX6) (N := 8) hx hb hw0 inA_wsX60 hown hK.1 hP 4 rfl rfl 4 (by decide) (hw0 _ m_1086) (fun _ h9 => h9) rfl dX8_gather_59 ?_
            refine lv_iload hx hb dX8_gather_62 (lv_at hl 0 rfl) ?_
            refine va_iald hx hb hK.1 hP 6 1 rfl rfl (vi nc_1764.1 (by decide)) dX8_gather_64 ?_
            refine lv_topi (fun v_1783 ev_1783 => ?_)
            refine lv_aload_n hx hb dX8_gather_65 rfl (lv_at hl 2 rfl) ?_
            refine va_get (D := G) (ci := 6) (v := .ref o1_knows) (C := RX6) (T := TX6) (N := 8) hx hb hw0 inA_wsX60 hown hK.1 hP 4 rfl rfl 4 (by decide) (hw0 _ m_1086) (fun _ h9 => h9) rfl dX8_gather_66 ?_
            refine lv_iload_n hx hb dX8_gather_69 rfl (lv_at hl 3 rfl) ?_
            refine va_iald hx hb hK.1 hP 6 1 rfl rfl (vi p_a2 (by decide)) dX8_gather_70 ?_
            refine lv_topi (fun v_1784 ev_1784 => ?_)
            refine lv_iand hx hb dX8_gather_71 ?_
            refine lv_topi (fun v_1785 ev_1785 => ?_)
            refine cSim (As := [.int v_1785]) (rest := [.int v_1608, .ref ob_friends]) ⟨hx, hb, hml, hown, hw0⟩ hA hK hP hD hS [] (sJ6_bitCount_0f7a4 l G y _ v_1785 ) rfl ⟨(callB_of 1 hw0 (gA m_26) rfl rfl rfl (hw0 _ m_834) (hw0 _ m_1091) cb_J6_bitCount_0f7a4 ⟨Nat.le_of_ble_eq_true rfl, Nat.le_of_ble_eq_true rfl⟩), (hw0 _ m_1051)⟩ rfl hl.1 (Nat.le_of_ble_eq_true rfl) dX8_gather_72 ⟨Nat.le_of_ble_eq_true rfl, Nat.le_of_ble_eq_true rfl⟩ (fun r_1786 w_1786 H locs hw_1786 hP hD hS => ?_)
            obtain ⟨v_1787, bv_1787, er_1786, rfl⟩ := hw_1786
            subst r_1786
            obtain ⟨hP, hD⟩ : vPD G A H [(ce_X8 ob ob_sought ob_length ob_calls ob_caller ob_goal v_1608 ob_house ob_friends ob_links ob_queue ob_latest), (ce_i13 y ob_house f_1782), (ce_i13 y ob_friends f_1610), (ce_i13 y ob_links fob_links), (ce_X6 o1 o1_town o1_code o1_debts o1_deeds o1_knows o1_day o1_paid o1_follows), (ce_X7 o1_town o1_town_houses o1_town_fresh o1_town_introducers o1_town_x o1_town_y o1_town_rank o1_town_weekday o1_town_from o1_town_to o1_town_came o1_town_bride o1_town_told), (ce_i16 y o1_knows fo1_knows)] := ⟨hP, hD⟩
            refine va_iast hx hb hK.1 hP hD hS 2 1 rfl rfl (vi nc_1765.1 (by decide)) dX8_gather_75 (fun H locs hP hD hS => ?_)
            generalize hf_1788 : (upd f_1610 (v_1608 : Int32).toNatClampNeg v_1787) = f_1788 at hP hD
            obtain ⟨hP, hD⟩ : vPD G A H [(ce_X8 ob ob_sought ob_length ob_calls ob_caller ob_goal v_1608 ob_house ob_friends ob_links ob_queue ob_latest), (ce_i13 y ob_house f_1782), (ce_i13 y ob_friends f_1788), (ce_i13 y ob_links fob_links), (ce_X6 o1 o1_town o1_code o1_debts o1_deeds o1_knows o1_day o1_paid o1_follows), (ce_X7 o1_town o1_town_houses o1_town_fresh o1_town_introducers o1_town_x o1_town_y o1_town_rank o1_town_weekday o1_town_from o1_town_to o1_town_came o1_town_bride o1_town_told), (ce_i16 y o1_knows fo1_knows)] := ⟨hP, hD⟩
            refine lv_aload_n hx hb dX8_gather_76 rfl (lv_at hl 1 rfl) ?_
            refine lv_dup hx hb dX8_gather_77 rfl ?_
            refine va_get (D := G) (ci := 8) (v := .int v_1608) (C := RX8) (T := TX8) (N := 11) hx hb hw0 inA_wsX80 hown hK.1 hP 0 rfl rfl 5 (by decide) (hw0 _ m_1094) (fun _ h9 => h9) rfl dX8_gather_78 ?_
            refine lv_iconst (v := 1) hx hb dX8_gather_81 (by decide) ?_
            refine lv_iadd hx hb dX8_gather_82 ?_
            refine lv_topi (fun v_1789 ev_1789 => ?_)
            have qv_1789 := ba_add ev_1789 nc_1765.1 (bkc (x := 1) (c := 1) (by decide)) (by decide)
            have bv_1789 : (1 : Int) ≤ v_1789.toInt ∧ v_1789.toInt ≤ 13 := bq_add qv_1789 nc_1765.1 (bkc (x := 1) (c := 1) (by decide)) _ _ (by decide)
            have qv_1789 : v_1789.toInt = v_1608.toInt + (1) := qv_1789
            refine va_put (D := G) (ci := 8) (v := .int v_1789) (ty := .int) (C := RX8) (T := TX8) (N := 11) hx hb hw0 inA_wsX80 tyX8 tyX8_ok nmX8 hown hK.1 hP hD hS 0 rfl rfl 5 (by decide) (hw0 _ m_1094) (fun _ h9 => h9) rfl fd_X8_5 rfl rfl (Nat.le_of_ble_eq_true rfl) dX8_gather_83 (fun H locs hP hD hS => ?_)
            obtain ⟨hP, hD⟩ : vPD G A H [(ce_X8 ob ob_sought ob_length ob_calls ob_caller ob_goal v_1789 ob_house ob_friends ob_links ob_queue ob_latest), (ce_i13 y ob_house f_1782), (ce_i13 y ob_friends f_1788), (ce_i13 y ob_links fob_links), (ce_X6 o1 o1_town o1_code o1_debts o1_deeds o1_knows o1_day o1_paid o1_follows), (ce_X7 o1_town o1_town_houses o1_town_fresh o1_town_introducers o1_town_x o1_town_y o1_town_rank o1_town_weekday o1_town_from o1_town_to o1_town_came o1_town_bride o1_town_told), (ce_i16 y o1_knows fo1_knows)] := ⟨hP, hD⟩
            exact J_86_1779 _ _ _ _ ⟨v_1789, f_1782, f_1788, (bw (0) (13) bv_1789 (by decide)), bf_1782, rfl, ⟨hP, hD⟩, hS, lv_sub hl [0, 1, 2, 3, 4] rfl⟩

set_option maxHeartbeats 4000000 in
set_option maxRecDepth 100000 in
theorem sX8_tell (l : Launch) (G : va_G) (y : Nat → ClassId) (sz : Nat) (ob : Nat) (a1 : Int32) (a2 : Int32) (ob_sought : Int32) (ob_length : Int32) (ob_calls : Nat) (ob_caller : Int32) (ob_goal : Int32) (ob_between : Int32) (ob_house : Nat) (ob_friends : Nat) (ob_links : Nat) (ob_queue : Nat) (ob_latest : Nat) (fob_calls : Nat → Int32) (fob_house : Nat → Int32) (fob_latest : Nat → Int32) (p_ob_sought : (0 : Int) ≤ ob_sought.toInt ∧ ob_sought.toInt ≤ 1) (p_ob_length : (-1 : Int) ≤ ob_length.toInt ∧ ob_length.toInt ≤ 16) (p_ob_between : (0 : Int) ≤ ob_between.toInt ∧ ob_between.toInt ≤ 13) (p_fob_house : ∀ i, (0 : Int) ≤ (fob_house i).toInt ∧ (fob_house i).toInt ≤ 15) (p_fob_latest : ∀ i, (0 : Int) ≤ (fob_latest i).toInt ∧ (fob_latest i).toInt ≤ 13) (p_a1 : (0 : Int) ≤ a1.toInt ∧ a1.toInt ≤ 8191) (p_a2 : (0 : Int) ≤ a2.toInt ∧ a2.toInt ≤ 15) : Met l yX8_tell (Cond.code yX8_tell cX8_tell 6 none :: wAll) ({ frames := 1, cells := 0, slots := 0, locals := 20 }) (va_Pc [.ref ob, .int a1, .int a2] (kp G y sz [(ce_X8 ob ob_sought ob_length ob_calls ob_caller ob_goal ob_between ob_house ob_friends ob_links ob_queue ob_latest), (ce_i16 y ob_calls fob_calls), (ce_i13 y ob_house fob_house), (ce_i8192 y ob_latest fob_latest)])) (va_Qv (fun (w : va_W) => (∃ (v_131 : Int32) (f_132 : Nat → Int32), ((1 : Int) ≤ v_131.toInt ∧ v_131.toInt ≤ 14) ∧ w = [(ce_X8 ob ob_sought v_131 ob_calls ob_caller ob_goal ob_between ob_house ob_friends ob_links ob_queue ob_latest), (ce_i16 y ob_calls f_132), (ce_i13 y ob_house fob_house), (ce_i8192 y ob_latest fob_latest)])) (kq G (va_A [(ce_X8 ob ob_sought ob_length ob_calls ob_caller ob_goal ob_between ob_house ob_friends ob_links ob_queue ob_latest), (ce_i16 y ob_calls fob_calls), (ce_i13 y ob_house fob_house), (ce_i8192 y ob_latest fob_latest)] sz)) (va_A [(ce_X8 ob ob_sought ob_length ob_calls ob_caller ob_goal ob_between ob_house ob_friends ob_links ob_queue ob_latest), (ce_i16 y ob_calls fob_calls), (ce_i13 y ob_house fob_house), (ce_i8192 y ob_latest fob_latest)] sz)) 0 0 (va_A [(ce_X8 ob ob_sought ob_length ob_calls ob_caller ob_goal ob_between ob_house ob_friends ob_links ob_queue ob_latest), (ce_i16 y ob_calls fob_calls), (ce_i13 y ob_house fob_house), (ce_i8192 y ob_latest fob_latest)] sz) := by
  refine Met.ofW (cc := cX8_tell) (maxL := 6) (ret := none) (by decide) rfl ?_
  intro p e s m args below meth c s₁ B hml hv
  obtain ⟨rfl, hsz, hP, hK, hD0⟩ := hv
  have hx := B.exec
  have hb := B.bytes
  have hr := B.returns
  have hw0 : ∀ w ∈ wAll, w.before _ s = true := fun w h => atoms_spec (ws := Cond.code yX8_tell cX8_tell 6 none :: wAll) B.pre w (List.mem_cons_of_mem _ h)
  have hown : s.vm.findClass RX8 = some m.cls := findClass_of_methodNamed B.named
  subst hsz
  have hD := hD0.self (sz := s.heap.size)
  generalize hAe : va_A [(ce_X8 ob ob_sought ob_length ob_calls ob_caller ob_goal ob_between ob_house ob_friends ob_links ob_queue ob_latest), (ce_i16 y ob_calls fob_calls), (ce_i13 y ob_house fob_house), (ce_i8192 y ob_latest fob_latest)] s.heap.size = A at hD ⊢
  have hA : ∀ q : Nat, s.heap.size ≤ q → A q := fun q h => by rw [← hAe]; exact Or.inr h
  have hS : va_S A s.heap s.heap [] := va_S.rf
  have hP : va_P G vwCl [(ce_X8 ob ob_sought ob_length ob_calls ob_caller ob_goal ob_between ob_house ob_friends ob_links ob_queue ob_latest), (ce_i16 y ob_calls fob_calls), (ce_i13 y ob_house fob_house), (ce_i8192 y ob_latest fob_latest)] s.heap := hP
  have hl := lv_entry ([.ref ob, .int a1, .int a2]) (n := 6) (Nat.le_of_ble_eq_true rfl)
  rw [lg_entry_eq]
  generalize (lg_sl ([.ref ob, .int a1, .int a2]) ++ List.replicate (6 - (lg_sl ([.ref ob, .int a1, .int a2])).length) Slot.unset).toArray = ls at hl ⊢
  have hl : lv_has ls 6 [(0, .ref ob), (1, .int a1), (2, .int a2)] := hl
  refine lv_aload_n hx hb dX8_tell_0 rfl (lv_at hl 0 rfl) ?_
  refine lv_iload_n hx hb dX8_tell_1 rfl (lv_at hl 1 rfl) ?_
  refine cSim (As := [.int a1]) (rest := [.ref ob]) ⟨hx, hb, hml, hown, hw0⟩ hA hK hP hD hS [] (sbit13 l G y _ a1 p_a1) rfl ⟨(callB_of 1 hw0 (gA m_26) rfl rfl rfl (hw0 _ m_834) (hw0 _ m_1091) cb_J6_bitCount_0f7a4 ⟨Nat.le_of_ble_eq_true rfl, Nat.le_of_ble_eq_true rfl⟩), (hw0 _ m_1051)⟩ rfl hl.1 (Nat.le_of_ble_eq_true rfl) dX8_tell_2 ⟨Nat.le_of_ble_eq_true rfl, Nat.le_of_ble_eq_true rfl⟩ (fun r_1001 w_1001 H locs hw_1001 hP hD hS => ?_)
  obtain ⟨v_1002, bv_1002, er_1001, rfl⟩ := hw_1001
  subst r_1001
  obtain ⟨hP, hD⟩ : vPD G A H [(ce_X8 ob ob_sought ob_length ob_calls ob_caller ob_goal ob_between ob_house ob_friends ob_links ob_queue ob_latest), (ce_i16 y ob_calls fob_calls), (ce_i13 y ob_house fob_house), (ce_i8192 y ob_latest fob_latest)] := ⟨hP, hD⟩
  refine lv_iconst (v := 1) hx hb dX8_tell_5 (by decide) ?_
  refine lv_iadd hx hb dX8_tell_6 ?_
  refine lv_topi (fun v_1003 ev_1003 => ?_)
  have qv_1003 := ba_add ev_1003 bv_1002 (bkc (x := 1) (c := 1) (by decide)) (by decide)
  have bv_1003 : (1 : Int) ≤ v_1003.toInt ∧ v_1003.toInt ≤ 14 := bq_add qv_1003 bv_1002 (bkc (x := 1) (c := 1) (by decide)) _ _ (by decide)
  have qv_1003 : v_1003.toInt = v_1002.toInt + (1) := qv_1003
  refine va_put (D := G) (ci := 8) (v := .int v_1003) (ty := .int) (C := RX8) (T := TX8) (N := 11) hx hb hw0 inA_wsX80 tyX8 tyX8_ok nmX8 hown hK.1 hP hD hS 0 rfl rfl 1 (by decide) (hw0 _ m_1117) (fun _ h9 => h9) rfl fd_X8_1 rfl rfl (Nat.le_of_ble_eq_true rfl) dX8_tell_7 (fun H locs hP hD hS => ?_)
  obtain ⟨hP, hD⟩ : vPD G A H [(ce_X8 ob ob_sought v_1003 ob_calls ob_caller ob_goal ob_between ob_house ob_friends ob_links ob_queue ob_latest), (ce_i16 y ob_calls fob_calls), (ce_i13 y ob_house fob_house), (ce_i8192 y ob_latest fob_latest)] := ⟨hP, hD⟩
  refine lv_aload_n hx hb dX8_tell_10 rfl (lv_at hl 0 rfl) ?_
  refine va_get (D := G) (ci := 8) (v := .ref ob_calls) (C := RX8) (T := TX8) (N := 11) hx hb hw0 inA_wsX80 hown hK.1 hP 0 rfl rfl 2 (by decide) (hw0 _ m_1104) (fun _ h9 => h9) rfl dX8_tell_11 ?_
  refine lv_aload_n hx hb dX8_tell_14 rfl (lv_at hl 0 rfl) ?_
  refine va_get (D := G) (ci := 8) (v := .int v_1003) (C := RX8) (T := TX8) (N := 11) hx hb hw0 inA_wsX80 hown hK.1 hP 0 rfl rfl 1 (by decide) (hw0 _ m_1117) (fun _ h9 => h9) rfl dX8_tell_15 ?_
  refine lv_iconst (v := 1) hx hb dX8_tell_18 (by decide) ?_
  refine lv_isub hx hb dX8_tell_19 ?_
  refine lv_topi (fun v_1004 ev_1004 => ?_)
  have qv_1004 := ba_sub ev_1004 bv_1003 (bkc (x := 1) (c := 1) (by decide)) (by decide)
  have bv_1004 : (0 : Int) ≤ v_1004.toInt ∧ v_1004.toInt ≤ 13 := bq_sub qv_1004 bv_1003 (bkc (x := 1) (c := 1) (by decide)) _ _ (by decide)
  have qv_1004 : v_1004.toInt = v_1003.toInt - (1) := qv_1004
  refine lv_iload_n hx hb dX8_tell_20 rfl (lv_at hl 2 rfl) ?_
  refine va_iast hx hb hK.1 hP hD hS 1 1 rfl rfl (vi bv_1004 (by decide)) dX8_tell_21 (fun H locs hP hD hS => ?_)
  generalize hf_1005 : (upd fob_calls (v_1004 : Int32).toNatClampNeg a2) = f_1005 at hP hD
  obtain ⟨hP, hD⟩ : vPD G A H [(ce_X8 ob ob_sought v_1003 ob_calls ob_caller ob_goal ob_between ob_house ob_friends ob_links ob_queue ob_latest), (ce_i16 y ob_calls f_1005), (ce_i13 y ob_house fob_house), (ce_i8192 y ob_latest fob_latest)] := ⟨hP, hD⟩
  refine lv_iload_n hx hb dX8_tell_22 rfl (lv_at hl 1 rfl) ?_
  refine lv_istore_n (lv' := [(3, .int a1), (0, .ref ob), (1, .int a1), (2, .int a2)]) hx hb dX8_tell_23 rfl hl (by decide) rfl (fun ls hl => ?_)
  refine lv_aload_n hx hb dX8_tell_24 rfl (lv_at hl 1 rfl) ?_
  refine va_get (D := G) (ci := 8) (v := .int v_1003) (C := RX8) (T := TX8) (N := 11) hx hb hw0 inA_wsX80 hown hK.1 hP 0 rfl rfl 1 (by decide) (hw0 _ m_1117) (fun _ h9 => h9) rfl dX8_tell_25 ?_
  refine lv_iconst (v := 2) hx hb dX8_tell_28 (by decide) ?_
  refine lv_isub hx hb dX8_tell_29 ?_
  refine lv_topi (fun v_1006 ev_1006 => ?_)
  have qv_1006 := ba_sub ev_1006 bv_1003 (bkc (x := 2) (c := 2) (by decide)) (by decide)
  have bv_1006 : (-1 : Int) ≤ v_1006.toInt ∧ v_1006.toInt ≤ 12 := bq_sub qv_1006 bv_1003 (bkc (x := 2) (c := 2) (by decide)) _ _ (by decide)
  have qv_1006 : v_1006.toInt = v_1003.toInt - (2) := qv_1006
  refine lv_istore (lv' := [(4, .int v_1006), (3, .int a1), (0, .ref ob), (1, .int a1), (2, .int a2)]) hx hb dX8_tell_30 hl (by decide) rfl (fun ls hl => ?_)
  refine loopX (fun n H locs ls st => ∃ (v_1043 : Int32) (v_1044 : Int32) (f_1045 : Nat → Int32), (v_1043.toInt - (-1)).toNat = n ∧ ((-1 : Int) ≤ v_1043.toInt ∧ v_1043.toInt ≤ 12) ∧ ((0 : Int) ≤ v_1044.toInt ∧ v_1044.toInt ≤ 8191) ∧ st = [] ∧ vPD G A H [(ce_X8 ob ob_sought v_1003 ob_calls ob_caller ob_goal ob_between ob_house ob_friends ob_links ob_queue ob_latest), (ce_i16 y ob_calls f_1045), (ce_i13 y ob_house fob_house), (ce_i8192 y ob_latest fob_latest)] ∧ va_S A s.heap H locs ∧ lv_has ls 6 [(4, .int v_1043), (3, .int v_1044), (0, .ref ob)]) ?_ (n := (v_1006.toInt - (-1)).toNat) ⟨v_1006, a1, f_1005, rfl, bv_1006, p_a1, rfl, ⟨hP, hD⟩, hS, lv_sub hl [0, 1, 2] rfl⟩
  rintro n ih_1055 H locs ls st ⟨v_1043, v_1044, f_1045, hn_1055, bv_1043, bv_1044, rfl, ⟨hP, hD⟩, hS, hl⟩
  refine lv_iload hx hb dX8_tell_32 (lv_at hl 0 rfl) ?_
  refine lv_if_lt (tgt := 84) hx hb dX8_tell_34 (by decide) (fun c_1056 => ?_) (fun c_1056 => ?_)
  · skip
    have nc_1056 := nb_lt (-1) (0) c_1056 bv_1043 (bkc (x := 0) (c := 0) (by decide)) (by decide)
    exact W.vret hx hb hr (fun t ht hW => ⟨⟨_, rfl, ⟨v_1003, f_1045, bv_1003, rfl⟩, by rw [ht]; exact hP, hD⟩, hS.F ht⟩) hS.2.2 dX8_tell_84
  · skip
    have nc_1056 := nb_nlt (0) (0) c_1056 (bkc (x := 0) (c := 0) (by decide)) bv_1043 (by decide)
    refine lv_iload_n hx hb dX8_tell_37 rfl (lv_at hl 1 rfl) ?_
    refine lv_if_eq (tgt := 84) hx hb dX8_tell_38 (by decide) (fun c_1057 => ?_) (fun c_1057 => ?_)
    · skip
      have nc_1057 := nb_eq (0) (0) c_1057 bv_1044 (bkc (x := 0) (c := 0) (by decide)) (by decide)
      exact W.vret hx hb hr (fun t ht hW => ⟨⟨_, rfl, ⟨v_1003, f_1045, bv_1003, rfl⟩, by rw [ht]; exact hP, hD⟩, hS.F ht⟩) hS.2.2 dX8_tell_84
    · skip
      have nc_1057 := nb_ne (1) (8191) c_1057 bv_1044 (k := 0) (by decide) (by decide)
      refine lv_aload_n hx hb dX8_tell_41 rfl (lv_at hl 2 rfl) ?_
      refine va_get (D := G) (ci := 8) (v := .ref ob_latest) (C := RX8) (T := TX8) (N := 11) hx hb hw0 inA_wsX80 hown hK.1 hP 0 rfl rfl 10 (by decide) (hw0 _ m_1108) (fun _ h9 => h9) rfl dX8_tell_42 ?_
      refine lv_iload_n hx hb dX8_tell_45 rfl (lv_at hl 1 rfl) ?_
      refine va_iald hx hb hK.1 hP 3 1 rfl rfl (vi nc_1057.1 (by decide)) dX8_tell_46 ?_
      refine lv_topi (fun v_1058 ev_1058 => ?_)
      have bv_1058 : (0 : Int) ≤ v_1058.toInt ∧ v_1058.toInt ≤ 13 := rd_b ev_1058 p_fob_latest
      refine lv_iconst (v := 1) hx hb dX8_tell_47 (by decide) ?_
      refine lv_isub hx hb dX8_tell_48 ?_
      refine lv_topi (fun v_1059 ev_1059 => ?_)
      have qv_1059 := ba_sub ev_1059 bv_1058 (bkc (x := 1) (c := 1) (by decide)) (by decide)
      have bv_1059 : (-1 : Int) ≤ v_1059.toInt ∧ v_1059.toInt ≤ 12 := bq_sub qv_1059 bv_1058 (bkc (x := 1) (c := 1) (by decide)) _ _ (by decide)
      have qv_1059 : v_1059.toInt = v_1058.toInt - (1) := qv_1059
      refine lv_istore (lv' := [(5, .int v_1059), (4, .int v_1043), (3, .int v_1044), (0, .ref ob)]) hx hb dX8_tell_49 hl (by decide) rfl (fun ls hl => ?_)
      refine lv_iload hx hb dX8_tell_51 (lv_at hl 0 rfl) ?_
      refine lv_if_ge (tgt := 57) hx hb dX8_tell_53 (by decide) (fun c_1060 => ?_) (fun c_1060 => ?_)
      · skip
        have nc_1060 := nb_le (0) (0) c_1060 (bkc (x := 0) (c := 0) (by decide)) bv_1059 (by decide)
        refine lv_aload_n hx hb dX8_tell_57 rfl (lv_at hl 3 rfl) ?_
        refine va_get (D := G) (ci := 8) (v := .ref ob_calls) (C := RX8) (T := TX8) (N := 11) hx hb hw0 inA_wsX80 hown hK.1 hP 0 rfl rfl 2 (by decide) (hw0 _ m_1104) (fun _ h9 => h9) rfl dX8_tell_58 ?_
        refine lv_iload hx hb dX8_tell_61 (lv_at hl 1 rfl) ?_
        refine lv_aload_n hx hb dX8_tell_63 rfl (lv_at hl 3 rfl) ?_
        refine va_get (D := G) (ci := 8) (v := .ref ob_house) (C := RX8) (T := TX8) (N := 11) hx hb hw0 inA_wsX80 hown hK.1 hP 0 rfl rfl 6 (by decide) (hw0 _ m_1095) (fun _ h9 => h9) rfl dX8_tell_64 ?_
        refine lv_iload hx hb dX8_tell_67 (lv_at hl 0 rfl) ?_
        refine va_iald hx hb hK.1 hP 2 1 rfl rfl (vi nc_1060.2.1 (by decide)) dX8_tell_69 ?_
        refine lv_topi (fun v_1061 ev_1061 => ?_)
        have bv_1061 : (0 : Int) ≤ v_1061.toInt ∧ v_1061.toInt ≤ 15 := rd_b ev_1061 p_fob_house
        refine va_iast hx hb hK.1 hP hD hS 1 1 rfl rfl (vi nc_1056.2.1 (by decide)) dX8_tell_70 (fun H locs hP hD hS => ?_)
        generalize hf_1062 : (upd f_1045 (v_1043 : Int32).toNatClampNeg v_1061) = f_1062 at hP hD
        obtain ⟨hP, hD⟩ : vPD G A H [(ce_X8 ob ob_sought v_1003 ob_calls ob_caller ob_goal ob_between ob_house ob_friends ob_links ob_queue ob_latest), (ce_i16 y ob_calls f_1062), (ce_i13 y ob_house fob_house), (ce_i8192 y ob_latest fob_latest)] := ⟨hP, hD⟩
        refine lv_iload_n hx hb dX8_tell_71 rfl (lv_at hl 2 rfl) ?_
        refine lv_iconst (v := 1) hx hb dX8_tell_72 (by decide) ?_
        refine lv_iload hx hb dX8_tell_73 (lv_at hl 0 rfl) ?_
        refine lv_ishl hx hb dX8_tell_75 ?_
        refine lv_topi (fun v_1063 ev_1063 => ?_)
        have bv_1063 : (1 : Int) ≤ v_1063.toInt ∧ v_1063.toInt ≤ 4096 := ba_shl 0 12 ev_1063 nc_1060.2.1 (by decide)
        refine lv_ixor hx hb dX8_tell_76 ?_
        refine lv_topi (fun v_1064 ev_1064 => ?_)
        have bv_1064 : (0 : Int) ≤ v_1064.toInt ∧ v_1064.toInt ≤ 8191 := ba_xor 13 ev_1064 nc_1057.1 bv_1063 (by decide)
        refine lv_istore_n (lv' := [(3, .int v_1064), (5, .int v_1059), (4, .int v_1043), (0, .ref ob)]) hx hb dX8_tell_77 rfl hl (by decide) rfl (fun ls hl => ?_)
        obtain ⟨v_1065, ev_1065⟩ : ∃ z : Int32, z = v_1043 + (-1) := ⟨_, rfl⟩
        have qv_1065 := ba_add ev_1065 nc_1056.2.1 (bkc (x := (-1)) (c := -1) (by decide)) (by decide)
        have bv_1065 : (-1 : Int) ≤ v_1065.toInt ∧ v_1065.toInt ≤ 11 := bq_add qv_1065 nc_1056.2.1 (bkc (x := (-1)) (c := -1) (by decide)) _ _ (by decide)
        have qv_1065 : v_1065.toInt = v_1043.toInt + (-1) := qv_1065
        refine lv_iinc (v := v_1065) (lv' := [(4, .int v_1065), (3, .int v_1064), (5, .int v_1059), (0, .ref ob)]) hx hb dX8_tell_78 hl (k := 2) rfl (ev_1065.symm) (by decide) rfl (fun ls hl => ?_)
        refine lv_goto (tgt := 32) hx hb dX8_tell_81 (by decide) ?_
        exact ih_1055 _ (ml_dec (lo := -1) hn_1055 qv_1065 (by decide) ((bw (-1) (12) bv_1065 (by decide))).1) _ _ _ _ ⟨v_1065, v_1064, f_1062, rfl, (bw (-1) (12) bv_1065 (by decide)), bv_1064, rfl, ⟨hP, hD⟩, hS, lv_sub hl [0, 1, 3] rfl⟩
      · skip
        have nc_1060 := nb_nle (-1) (0) c_1060 bv_1059 (bkc (x := 0) (c := 0) (by decide)) (by decide)
        exact W.vret hx hb hr (fun t ht hW => ⟨⟨_, rfl, ⟨v_1003, f_1045, bv_1003, rfl⟩, by rw [ht]; exact hP, hD⟩, hS.F ht⟩) hS.2.2 dX8_tell_56

set_option maxHeartbeats 4000000 in
set_option maxRecDepth 100000 in
theorem sX8_search (l : Launch) (G : va_G) (y : Nat → ClassId) (sz : Nat) (ob : Nat) (o1 : Nat) (a2 : Int32) (a3 : Int32) (ob_sought : Int32) (ob_length : Int32) (ob_calls : Nat) (ob_caller : Int32) (ob_goal : Int32) (ob_between : Int32) (ob_house : Nat) (ob_friends : Nat) (ob_links : Nat) (ob_queue : Nat) (ob_latest : Nat) (fob_calls : Nat → Int32) (fob_house : Nat → Int32) (fob_friends : Nat → Int32) (fob_links : Nat → Int32) (fob_queue : Nat → Int32) (fob_latest : Nat → Int32) (o1_town : Nat) (o1_code : Nat) (o1_debts : Nat) (o1_deeds : Nat) (o1_knows : Nat) (o1_day : Int32) (o1_paid : Int32) (o1_follows : Nat) (o1_town_houses : Int32) (o1_town_fresh : Int32) (o1_town_introducers : Int32) (o1_town_x : Nat) (o1_town_y : Nat) (o1_town_rank : Nat) (o1_town_weekday : Nat) (o1_town_from : Nat) (o1_town_to : Nat) (o1_town_came : Nat) (o1_town_bride : Nat) (o1_town_told : Nat) (fo1_knows : Nat → Int32) (p_ob_sought : (0 : Int) ≤ ob_sought.toInt ∧ ob_sought.toInt ≤ 1) (p_ob_length : (-1 : Int) ≤ ob_length.toInt ∧ ob_length.toInt ≤ 16) (p_ob_between : (0 : Int) ≤ ob_between.toInt ∧ ob_between.toInt ≤ 13) (p_fob_house : ∀ i, (0 : Int) ≤ (fob_house i).toInt ∧ (fob_house i).toInt ≤ 15) (p_fob_queue : ∀ i, (0 : Int) ≤ (fob_queue i).toInt ∧ (fob_queue i).toInt ≤ 8191) (p_fob_latest : ∀ i, (0 : Int) ≤ (fob_latest i).toInt ∧ (fob_latest i).toInt ≤ 13) (p_o1_town_houses : (0 : Int) ≤ o1_town_houses.toInt ∧ o1_town_houses.toInt ≤ 16) (p_o1_day : (0 : Int) ≤ o1_day.toInt ∧ o1_day.toInt ≤ 399) (p_a2 : (0 : Int) ≤ a2.toInt ∧ a2.toInt ≤ 15) (p_a3 : (0 : Int) ≤ a3.toInt ∧ a3.toInt ≤ 15) : Met l yX8_search (Cond.code yX8_search cX8_search 13 none :: wAll) ({ frames := 2, cells := 0, slots := 0, locals := 46 }) (va_Pc [.ref ob, .ref o1, .int a2, .int a3] (kp G y sz [(ce_X8 ob ob_sought ob_length ob_calls ob_caller ob_goal ob_between ob_house ob_friends ob_links ob_queue ob_latest), (ce_i16 y ob_calls fob_calls), (ce_i13 y ob_house fob_house), (ce_i13 y ob_friends fob_friends), (ce_i13 y ob_links fob_links), (ce_i8192 y ob_queue fob_queue), (ce_i8192 y ob_latest fob_latest), (ce_X6 o1 o1_town o1_code o1_debts o1_deeds o1_knows o1_day o1_paid o1_follows), (ce_X7 o1_town o1_town_houses o1_town_fresh o1_town_introducers o1_town_x o1_town_y o1_town_rank o1_town_weekday o1_town_from o1_town_to o1_town_came o1_town_bride o1_town_told), (ce_i16 y o1_knows fo1_knows)])) (va_Qv (fun (w : va_W) => (∃ (v_20145 : Int32) (f_20146 : Nat → Int32) (f_20147 : Nat → Int32) (f_20148 : Nat → Int32), ((-1 : Int) ≤ v_20145.toInt ∧ v_20145.toInt ≤ 16) ∧ (∀ i, (0 : Int) ≤ (f_20147 i).toInt ∧ (f_20147 i).toInt ≤ 8191) ∧ (∀ i, (0 : Int) ≤ (f_20148 i).toInt ∧ (f_20148 i).toInt ≤ 13) ∧ w = [(ce_X8 ob ob_sought v_20145 ob_calls ob_caller ob_goal ob_between ob_house ob_friends ob_links ob_queue ob_latest), (ce_i16 y ob_calls f_20146), (ce_i13 y ob_house fob_house), (ce_i13 y ob_friends fob_friends), (ce_i13 y ob_links fob_links), (ce_i8192 y ob_queue f_20147), (ce_i8192 y ob_latest f_20148), (ce_X6 o1 o1_town o1_code o1_debts o1_deeds o1_knows o1_day o1_paid o1_follows), (ce_X7 o1_town o1_town_houses o1_town_fresh o1_town_introducers o1_town_x o1_town_y o1_town_rank o1_town_weekday o1_town_from o1_town_to o1_town_came o1_town_bride o1_town_told), (ce_i16 y o1_knows fo1_knows)])) (kq G (va_A [(ce_X8 ob ob_sought ob_length ob_calls ob_caller ob_goal ob_between ob_house ob_friends ob_links ob_queue ob_latest), (ce_i16 y ob_calls fob_calls), (ce_i13 y ob_house fob_house), (ce_i13 y ob_friends fob_friends), (ce_i13 y ob_links fob_links), (ce_i8192 y ob_queue fob_queue), (ce_i8192 y ob_latest fob_latest), (ce_X6 o1 o1_town o1_code o1_debts o1_deeds o1_knows o1_day o1_paid o1_follows), (ce_X7 o1_town o1_town_houses o1_town_fresh o1_town_introducers o1_town_x o1_town_y o1_town_rank o1_town_weekday o1_town_from o1_town_to o1_town_came o1_town_bride o1_town_told), (ce_i16 y o1_knows fo1_knows)] sz)) (va_A [(ce_X8 ob ob_sought ob_length ob_calls ob_caller ob_goal ob_between ob_house ob_friends ob_links ob_queue ob_latest), (ce_i16 y ob_calls fob_calls), (ce_i13 y ob_house fob_house), (ce_i13 y ob_friends fob_friends), (ce_i13 y ob_links fob_links), (ce_i8192 y ob_queue fob_queue), (ce_i8192 y ob_latest fob_latest), (ce_X6 o1 o1_town o1_code o1_debts o1_deeds o1_knows o1_day o1_paid o1_follows), (ce_X7 o1_town o1_town_houses o1_town_fresh o1_town_introducers o1_town_x o1_town_y o1_town_rank o1_town_weekday o1_town_from o1_town_to o1_town_came o1_town_bride o1_town_told), (ce_i16 y o1_knows fo1_knows)] sz)) 0 0 (va_A [(ce_X8 ob ob_sought ob_length ob_calls ob_caller ob_goal ob_between ob_house ob_friends ob_links ob_queue ob_latest), (ce_i16 y ob_calls fob_calls), (ce_i13 y ob_house fob_house), (ce_i13 y ob_friends fob_friends), (ce_i13 y ob_links fob_links), (ce_i8192 y ob_queue fob_queue), (ce_i8192 y ob_latest fob_latest), (ce_X6 o1 o1_town o1_code o1_debts o1_deeds o1_knows o1_day o1_paid o1_follows), (ce_X7 o1_town o1_town_houses o1_town_fresh o1_town_introducers o1_town_x o1_town_y o1_town_rank o1_town_weekday o1_town_from o1_town_to o1_town_came o1_town_bride o1_town_told), (ce_i16 y o1_knows fo1_knows)] sz) := by
  refine Met.ofW (cc := cX8_search) (maxL := 13) (ret := none) (by decide) rfl ?_
  intro p e s m args below meth c s₁ B hml hv
  obtain ⟨rfl, hsz, hP, hK, hD0⟩ := hv
  have hx := B.exec
  have hb := B.bytes
  have hr := B.returns
  have hw0 : ∀ w ∈ wAll, w.before _ s = true := fun w h => atoms_spec (ws := Cond.code yX8_search cX8_search 13 none :: wAll) B.pre w (List.mem_cons_of_mem _ h)
  have hown : s.vm.findClass RX8 = some m.cls := findClass_of_methodNamed B.named
  subst hsz
  have hD := hD0.self (sz := s.heap.size)
  generalize hAe : va_A [(ce_X8 ob ob_sought ob_length ob_calls ob_caller ob_goal ob_between ob_house ob_friends ob_links ob_queue ob_latest), (ce_i16 y ob_calls fob_calls), (ce_i13 y ob_house fob_house), (ce_i13 y ob_friends fob_friends), (ce_i13 y ob_links fob_links), (ce_i8192 y ob_queue fob_queue), (ce_i8192 y ob_latest fob_latest), (ce_X6 o1 o1_town o1_code o1_debts o1_deeds o1_knows o1_day o1_paid o1_follows), (ce_X7 o1_town o1_town_houses o1_town_fresh o1_town_introducers o1_town_x o1_town_y o1_town_rank o1_town_weekday o1_town_from o1_town_to o1_town_came o1_town_bride o1_town_told), (ce_i16 y o1_knows fo1_knows)] s.heap.size = A at hD ⊢
  have hA : ∀ q : Nat, s.heap.size ≤ q → A q := fun q h => by rw [← hAe]; exact Or.inr h
  have hS : va_S A s.heap s.heap [] := va_S.rf
  have hP : va_P G vwCl [(ce_X8 ob ob_sought ob_length ob_calls ob_caller ob_goal ob_between ob_house ob_friends ob_links ob_queue ob_latest), (ce_i16 y ob_calls fob_calls), (ce_i13 y ob_house fob_house), (ce_i13 y ob_friends fob_friends), (ce_i13 y ob_links fob_links), (ce_i8192 y ob_queue fob_queue), (ce_i8192 y ob_latest fob_latest), (ce_X6 o1 o1_town o1_code o1_debts o1_deeds o1_knows o1_day o1_paid o1_follows), (ce_X7 o1_town o1_town_houses o1_town_fresh o1_town_introducers o1_town_x o1_town_y o1_town_rank o1_town_weekday o1_town_from o1_town_to o1_town_came o1_town_bride o1_town_told), (ce_i16 y o1_knows fo1_knows)] s.heap := hP
  have hl := lv_entry ([.ref ob, .ref o1, .int a2, .int a3]) (n := 13) (Nat.le_of_ble_eq_true rfl)
  rw [lg_entry_eq]
  generalize (lg_sl ([.ref ob, .ref o1, .int a2, .int a3]) ++ List.replicate (13 - (lg_sl ([.ref ob, .ref o1, .int a2, .int a3])).length) Slot.unset).toArray = ls at hl ⊢
  have hl : lv_has ls 13 [(0, .ref ob), (1, .ref o1), (2, .int a2), (3, .int a3)] := hl
  refine lv_aload_n hx hb dX8_search_0 rfl (lv_at hl 1 rfl) ?_
  refine va_get (D := G) (ci := 6) (v := .ref o1_town) (C := RX6) (T := TX6) (N := 8) hx hb hw0 inA_wsX60 hown hK.1 hP 7 rfl rfl 0 (by decide) (hw0 _ m_1087) (fun _ h9 => h9) rfl dX8_search_1 ?_
  refine va_get (D := G) (ci := 7) (v := .int o1_town_introducers) (C := RX7) (T := TX7) (N := 12) hx hb hw0 inA_wsX70 hown hK.1 hP 8 rfl rfl 2 (by decide) (hw0 _ m_1092) (fun _ h9 => h9) rfl dX8_search_4 ?_
  refine lv_istore (lv' := [(4, .int o1_town_introducers), (0, .ref ob), (1, .ref o1), (2, .int a2), (3, .int a3)]) hx hb dX8_search_7 hl (by decide) rfl (fun ls hl => ?_)
  refine lv_aload_n hx hb dX8_search_9 rfl (lv_at hl 2 rfl) ?_
  refine va_get (D := G) (ci := 6) (v := .ref o1_knows) (C := RX6) (T := TX6) (N := 8) hx hb hw0 inA_wsX60 hown hK.1 hP 7 rfl rfl 4 (by decide) (hw0 _ m_1086) (fun _ h9 => h9) rfl dX8_search_10 ?_
  refine lv_iload_n hx hb dX8_search_13 rfl (lv_at hl 4 rfl) ?_
  refine va_iald hx hb hK.1 hP 9 1 rfl rfl (vi p_a3 (by decide)) dX8_search_14 ?_
  refine lv_topi (fun v_1001 ev_1001 => ?_)
  refine lv_aload_n hx hb dX8_search_15 rfl (lv_at hl 2 rfl) ?_
  refine va_get (D := G) (ci := 6) (v := .ref o1_knows) (C := RX6) (T := TX6) (N := 8) hx hb hw0 inA_wsX60 hown hK.1 hP 7 rfl rfl 4 (by decide) (hw0 _ m_1086) (fun _ h9 => h9) rfl dX8_search_16 ?_
  refine lv_iload_n hx hb dX8_search_19 rfl (lv_at hl 3 rfl) ?_
  refine va_iald hx hb hK.1 hP 9 1 rfl rfl (vi p_a2 (by decide)) dX8_search_20 ?_
  refine lv_topi (fun v_1002 ev_1002 => ?_)
  refine lv_iand hx hb dX8_search_21 ?_
  refine lv_topi (fun v_1003 ev_1003 => ?_)
  refine cSim (As := [.int v_1003]) (rest := []) ⟨hx, hb, hml, hown, hw0⟩ hA hK hP hD hS [] (sJ6_bitCount_0f7a4 l G y _ v_1003 ) rfl ⟨(callB_of 1 hw0 (gA m_26) rfl rfl rfl (hw0 _ m_834) (hw0 _ m_1091) cb_J6_bitCount_0f7a4 ⟨Nat.le_of_ble_eq_true rfl, Nat.le_of_ble_eq_true rfl⟩), (hw0 _ m_1051)⟩ rfl hl.1 (Nat.le_of_ble_eq_true rfl) dX8_search_22 ⟨Nat.le_of_ble_eq_true rfl, Nat.le_of_ble_eq_true rfl⟩ (fun r_1004 w_1004 H locs hw_1004 hP hD hS => ?_)
  obtain ⟨v_1005, bv_1005, er_1004, rfl⟩ := hw_1004
  subst r_1004
  obtain ⟨hP, hD⟩ : vPD G A H [(ce_X8 ob ob_sought ob_length ob_calls ob_caller ob_goal ob_between ob_house ob_friends ob_links ob_queue ob_latest), (ce_i16 y ob_calls fob_calls), (ce_i13 y ob_house fob_house), (ce_i13 y ob_friends fob_friends), (ce_i13 y ob_links fob_links), (ce_i8192 y ob_queue fob_queue), (ce_i8192 y ob_latest fob_latest), (ce_X6 o1 o1_town o1_code o1_debts o1_deeds o1_knows o1_day o1_paid o1_follows), (ce_X7 o1_town o1_town_houses o1_town_fresh o1_town_introducers o1_town_x o1_town_y o1_town_rank o1_town_weekday o1_town_from o1_town_to o1_town_came o1_town_bride o1_town_told), (ce_i16 y o1_knows fo1_knows)] := ⟨hP, hD⟩
  refine lv_istore (lv' := [(5, .int v_1005), (4, .int o1_town_introducers), (0, .ref ob), (1, .ref o1), (2, .int a2), (3, .int a3)]) hx hb dX8_search_25 hl (by decide) rfl (fun ls hl => ?_)
  refine lv_aload_n hx hb dX8_search_27 rfl (lv_at hl 2 rfl) ?_
  refine lv_aload_n hx hb dX8_search_28 rfl (lv_at hl 3 rfl) ?_
  refine lv_iload_n hx hb dX8_search_29 rfl (lv_at hl 5 rfl) ?_
  refine cVim (As := [.ref o1, .int a3]) (rest := []) ⟨hx, hb, hml, hown, hw0⟩ hA hK hP hD hS [true, false, true, false, false, false, false, true, false, true] (sX8_linksOf l G y _ ob o1 a3 ob_sought ob_length ob_calls ob_caller ob_goal ob_between ob_house ob_friends ob_links ob_queue ob_latest fob_house o1_town o1_code o1_debts o1_deeds o1_knows o1_day o1_paid o1_follows fo1_knows p_ob_sought p_ob_length p_ob_between p_fob_house p_o1_day p_a3) rfl ⟨(callB_of 2 hw0 (gA m_1109) rfl rfl rfl (hw0 _ m_1099) (hw0 _ m_1098) cb_X8_linksOf ⟨Nat.le_of_ble_eq_true rfl, Nat.le_of_ble_eq_true rfl⟩), (hw0 _ m_1100), (hw0 _ m_1101)⟩ (ci := 8) (q := (RX8, TX8, 11)) rfl rfl rfl hl.1 (Nat.le_of_ble_eq_true rfl) dX8_search_30 ⟨Nat.le_of_ble_eq_true rfl, Nat.le_of_ble_eq_true rfl⟩ (fun r_1006 w_1006 H locs hw_1006 hP hD hS => ?_)
  obtain ⟨v_1007, bv_1007, er_1006, rfl⟩ := hw_1006
  subst r_1006
  obtain ⟨hP, hD⟩ : vPD G A H [(ce_X8 ob ob_sought ob_length ob_calls ob_caller ob_goal ob_between ob_house ob_friends ob_links ob_queue ob_latest), (ce_i16 y ob_calls fob_calls), (ce_i13 y ob_house fob_house), (ce_i13 y ob_friends fob_friends), (ce_i13 y ob_links fob_links), (ce_i8192 y ob_queue fob_queue), (ce_i8192 y ob_latest fob_latest), (ce_X6 o1 o1_town o1_code o1_debts o1_deeds o1_knows o1_day o1_paid o1_follows), (ce_X7 o1_town o1_town_houses o1_town_fresh o1_town_introducers o1_town_x o1_town_y o1_town_rank o1_town_weekday o1_town_from o1_town_to o1_town_came o1_town_bride o1_town_told), (ce_i16 y o1_knows fo1_knows)] := ⟨hP, hD⟩
  refine lv_istore (lv' := [(6, .int v_1007), (5, .int v_1005), (4, .int o1_town_introducers), (0, .ref ob), (1, .ref o1), (2, .int a2), (3, .int a3)]) hx hb dX8_search_33 hl (by decide) rfl (fun ls hl => ?_)
  refine lv_iconst (v := 0) hx hb dX8_search_35 (by decide) ?_
  refine lv_istore (lv' := [(7, .int 0), (6, .int v_1007), (5, .int v_1005), (4, .int o1_town_introducers), (0, .ref ob), (1, .ref o1), (2, .int a2), (3, .int a3)]) hx hb dX8_search_36 hl (by decide) rfl (fun ls hl => ?_)
  refine loopX (fun n H locs ls st => ∃ (v_1076 : Int32) (f_1077 : Nat → Int32), (8192 - v_1076.toInt).toNat = n ∧ ((0 : Int) ≤ v_1076.toInt ∧ v_1076.toInt ≤ 8192) ∧ (∀ i, (0 : Int) ≤ (f_1077 i).toInt ∧ (f_1077 i).toInt ≤ 13) ∧ st = [] ∧ vPD G A H [(ce_X8 ob ob_sought ob_length ob_calls ob_caller ob_goal ob_between ob_house ob_friends ob_links ob_queue ob_latest), (ce_i16 y ob_calls fob_calls), (ce_i13 y ob_house fob_house), (ce_i13 y ob_friends fob_friends), (ce_i13 y ob_links fob_links), (ce_i8192 y ob_queue fob_queue), (ce_i8192 y ob_latest f_1077), (ce_X6 o1 o1_town o1_code o1_debts o1_deeds o1_knows o1_day o1_paid o1_follows), (ce_X7 o1_town o1_town_houses o1_town_fresh o1_town_introducers o1_town_x o1_town_y o1_town_rank o1_town_weekday o1_town_from o1_town_to o1_town_came o1_town_bride o1_town_told), (ce_i16 y o1_knows fo1_knows)] ∧ va_S A s.heap H locs ∧ lv_has ls 13 [(7, .int v_1076), (6, .int v_1007), (5, .int v_1005), (4, .int o1_town_introducers), (0, .ref ob), (3, .int a3)]) ?_ (n := (8192 - (0 : Int32).toInt).toNat) ⟨0, fob_latest, rfl, (bw (0) (8192) (bkc (x := 0) (c := 0) (by decide)) (by decide)), p_fob_latest, rfl, ⟨hP, hD⟩, hS, lv_sub hl [0, 1, 2, 3, 4, 7] rfl⟩
  rintro n ih_1081 H locs ls st ⟨v_1076, f_1077, hn_1081, bv_1076, bf_1077, rfl, ⟨hP, hD⟩, hS, hl⟩
  refine lv_iload hx hb dX8_search_38 (lv_at hl 0 rfl) ?_
  refine lv_iconst (v := 1) hx hb dX8_search_40 (by decide) ?_
  refine lv_aload_n hx hb dX8_search_41 rfl (lv_at hl 4 rfl) ?_
  refine va_get (D := G) (ci := 8) (v := .int ob_between) (C := RX8) (T := TX8) (N := 11) hx hb hw0 inA_wsX80 hown hK.1 hP 0 rfl rfl 5 (by decide) (hw0 _ m_1094) (fun _ h9 => h9) rfl dX8_search_42 ?_
  refine lv_ishl hx hb dX8_search_45 ?_
  refine lv_topi (fun v_1082 ev_1082 => ?_)
  have bv_1082 : (1 : Int) ≤ v_1082.toInt ∧ v_1082.toInt ≤ 8192 := ba_shl 0 13 ev_1082 p_ob_between (by decide)
  refine lv_icmp_ge (tgt := 63) hx hb dX8_search_46 (by decide) (fun c_1083 => ?_) (fun c_1083 => ?_)
  · skip
    have nc_1083 := nb_le (8192) (1) c_1083 bv_1082 bv_1076 (by decide)
    refine lv_aload_n hx hb dX8_search_63 rfl (lv_at hl 4 rfl) ?_
    refine va_get (D := G) (ci := 8) (v := .ref ob_queue) (C := RX8) (T := TX8) (N := 11) hx hb hw0 inA_wsX80 hown hK.1 hP 0 rfl rfl 9 (by decide) (hw0 _ m_1107) (fun _ h9 => h9) rfl dX8_search_64 ?_
    refine lv_iconst (v := 0) hx hb dX8_search_67 (by decide) ?_
    refine lv_iconst (v := 0) hx hb dX8_search_68 (by decide) ?_
    refine va_iast hx hb hK.1 hP hD hS 5 1 rfl rfl (vi (bkc (x := 0) (c := 0) (by decide)) (by decide)) dX8_search_69 (fun H locs hP hD hS => ?_)
    generalize hf_1084 : (upd fob_queue (0 : Int32).toNatClampNeg 0) = f_1084 at hP hD
    have bf_1084 : ∀ i, (0 : Int) ≤ (f_1084 i).toInt ∧ (f_1084 i).toInt ≤ 8191 := hf_1084 ▸ up_b p_fob_queue (bw (0) (8191) (bkc (x := 0) (c := 0) (by decide)) (by decide))
    obtain ⟨hP, hD⟩ : vPD G A H [(ce_X8 ob ob_sought ob_length ob_calls ob_caller ob_goal ob_between ob_house ob_friends ob_links ob_queue ob_latest), (ce_i16 y ob_calls fob_calls), (ce_i13 y ob_house fob_house), (ce_i13 y ob_friends fob_friends), (ce_i13 y ob_links fob_links), (ce_i8192 y ob_queue f_1084), (ce_i8192 y ob_latest f_1077), (ce_X6 o1 o1_town o1_code o1_debts o1_deeds o1_knows o1_day o1_paid o1_follows), (ce_X7 o1_town o1_town_houses o1_town_fresh o1_town_introducers o1_town_x o1_town_y o1_town_rank o1_town_weekday o1_town_from o1_town_to o1_town_came o1_town_bride o1_town_told), (ce_i16 y o1_knows fo1_knows)] := ⟨hP, hD⟩
    refine lv_iconst (v := 1) hx hb dX8_search_70 (by decide) ?_
    refine lv_istore (lv' := [(7, .int 1), (6, .int v_1007), (5, .int v_1005), (4, .int o1_town_introducers), (0, .ref ob), (3, .int a3)]) hx hb dX8_search_71 hl (by decide) rfl (fun ls hl => ?_)
    refine lv_iconst (v := 0) hx hb dX8_search_73 (by decide) ?_
    refine lv_istore (lv' := [(8, .int 0), (7, .int 1), (6, .int v_1007), (5, .int v_1005), (4, .int o1_town_introducers), (0, .ref ob), (3, .int a3)]) hx hb dX8_search_74 hl (by decide) rfl (fun ls hl => ?_)
    refine loopX (fun n H locs ls st => ∃ (v_9638 : Int32) (v_9639 : Int32) (f_9640 : Nat → Int32) (f_9641 : Nat → Int32), (8192 - v_9638.toInt).toNat = n ∧ ((0 : Int) ≤ v_9638.toInt ∧ v_9638.toInt ≤ 8192) ∧ ((1 : Int) ≤ v_9639.toInt ∧ v_9639.toInt ≤ 2147483647) ∧ (∀ i, (0 : Int) ≤ (f_9640 i).toInt ∧ (f_9640 i).toInt ≤ 8191) ∧ (∀ i, (0 : Int) ≤ (f_9641 i).toInt ∧ (f_9641 i).toInt ≤ 13) ∧ st = [] ∧ vPD G A H [(ce_X8 ob ob_sought ob_length ob_calls ob_caller ob_goal ob_between ob_house ob_friends ob_links ob_queue ob_latest), (ce_i16 y ob_calls fob_calls), (ce_i13 y ob_house fob_house), (ce_i13 y ob_friends fob_friends), (ce_i13 y ob_links fob_links), (ce_i8192 y ob_queue f_9640), (ce_i8192 y ob_latest f_9641), (ce_X6 o1 o1_town o1_code o1_debts o1_deeds o1_knows o1_day o1_paid o1_follows), (ce_X7 o1_town o1_town_houses o1_town_fresh o1_town_introducers o1_town_x o1_town_y o1_town_rank o1_town_weekday o1_town_from o1_town_to o1_town_came o1_town_bride o1_town_told), (ce_i16 y o1_knows fo1_knows)] ∧ va_S A s.heap H locs ∧ lv_has ls 13 [(8, .int v_9638), (7, .int v_9639), (6, .int v_1007), (5, .int v_1005), (4, .int o1_town_introducers), (0, .ref ob), (3, .int a3)]) ?_ (n := (8192 - (0 : Int32).toInt).toNat) ⟨0, 1, f_1084, f_1077, rfl, (bw (0) (8192) (bkc (x := 0) (c := 0) (by decide)) (by decide)), (bw (1) (2147483647) (bkc (x := 1) (c := 1) (by decide)) (by decide)), bf_1084, bf_1077, rfl, ⟨hP, hD⟩, hS, lv_sub hl [0, 1, 2, 3, 4, 5, 6] rfl⟩
    rintro n ih_10354 H locs ls st ⟨v_9638, v_9639, f_9640, f_9641, hn_10354, bv_9638, bv_9639, bf_9640, bf_9641, rfl, ⟨hP, hD⟩, hS, hl⟩
    refine lv_iload hx hb dX8_search_76 (lv_at hl 0 rfl) ?_
    refine lv_iload hx hb dX8_search_78 (lv_at hl 1 rfl) ?_
    refine lv_icmp_ge (tgt := 243) hx hb dX8_search_80 (by decide) (fun c_10355 => ?_) (fun c_10355 => ?_)
    · skip
      have nc_10355 := nb_le (8192) (1) c_10355 bv_9639 bv_9638 (by decide)
      exact W.vret hx hb hr (fun t ht hW => ⟨⟨_, rfl, ⟨ob_length, fob_calls, f_9640, f_9641, p_ob_length, bf_9640, bf_9641, rfl⟩, by rw [ht]; exact hP, hD⟩, hS.F ht⟩) hS.2.2 dX8_search_243
    · skip
      have nc_10355 := nb_nle (8192) (1) c_10355 bv_9638 bv_9639 (by decide)
      refine lv_iload hx hb dX8_search_83 (lv_at hl 0 rfl) ?_
      refine lv_sipush (v := 8192) hx hb dX8_search_85 (by decide) ?_
      refine lv_icmp_ge (tgt := 243) hx hb dX8_search_88 (by decide) (fun c_10356 => ?_) (fun c_10356 => ?_)
      · skip
        have nc_10356 := nb_le (8192) (8192) c_10356 (bkc (x := 8192) (c := 8192) (by decide)) nc_10355.1 (by decide)
        exact W.vret hx hb hr (fun t ht hW => ⟨⟨_, rfl, ⟨ob_length, fob_calls, f_9640, f_9641, p_ob_length, bf_9640, bf_9641, rfl⟩, by rw [ht]; exact hP, hD⟩, hS.F ht⟩) hS.2.2 dX8_search_243
      · skip
        have nc_10356 := nb_nle (8191) (8192) c_10356 nc_10355.1 (bkc (x := 8192) (c := 8192) (by decide)) (by decide)
        refine lv_aload_n hx hb dX8_search_91 rfl (lv_at hl 5 rfl) ?_
        refine va_get (D := G) (ci := 8) (v := .ref ob_queue) (C := RX8) (T := TX8) (N := 11) hx hb hw0 inA_wsX80 hown hK.1 hP 0 rfl rfl 9 (by decide) (hw0 _ m_1107) (fun _ h9 => h9) rfl dX8_search_92 ?_
        refine lv_iload hx hb dX8_search_95 (lv_at hl 0 rfl) ?_
        refine va_iald hx hb hK.1 hP 5 1 rfl rfl (vi nc_10356.1 (by decide)) dX8_search_97 ?_
        refine lv_topi (fun v_10357 ev_10357 => ?_)
        have bv_10357 : (0 : Int) ≤ v_10357.toInt ∧ v_10357.toInt ≤ 8191 := rd_b ev_10357 bf_9640
        refine lv_istore (lv' := [(9, .int v_10357), (8, .int v_9638), (7, .int v_9639), (6, .int v_1007), (5, .int v_1005), (4, .int o1_town_introducers), (0, .ref ob), (3, .int a3)]) hx hb dX8_search_98 hl (by decide) rfl (fun ls hl => ?_)
        refine lv_iload hx hb dX8_search_100 (lv_at hl 4 rfl) ?_
        refine lv_iload hx hb dX8_search_102 (lv_at hl 3 rfl) ?_
        refine lv_iload hx hb dX8_search_104 (lv_at hl 0 rfl) ?_
        refine lv_iand hx hb dX8_search_106 ?_
        refine lv_topi (fun v_10358 ev_10358 => ?_)
        have bv_10358 : (0 : Int) ≤ v_10358.toInt ∧ v_10358.toInt ≤ 8191 := ba_andl ev_10358 bv_1007 (by decide)
        refine cSim (As := [.int v_10358]) (rest := [.int v_1005]) ⟨hx, hb, hml, hown, hw0⟩ hA hK hP hD hS [] (sbit13 l G y _ v_10358 bv_10358) rfl ⟨(callB_of 1 hw0 (gA m_26) rfl rfl rfl (hw0 _ m_834) (hw0 _ m_1091) cb_J6_bitCount_0f7a4 ⟨Nat.le_of_ble_eq_true rfl, Nat.le_of_ble_eq_true rfl⟩), (hw0 _ m_1051)⟩ rfl hl.1 (Nat.le_of_ble_eq_true rfl) dX8_search_107 ⟨Nat.le_of_ble_eq_true rfl, Nat.le_of_ble_eq_true rfl⟩ (fun r_10359 w_10359 H locs hw_10359 hP hD hS => ?_)
        obtain ⟨v_10360, bv_10360, er_10359, rfl⟩ := hw_10359
        subst r_10359
        obtain ⟨hP, hD⟩ : vPD G A H [(ce_X8 ob ob_sought ob_length ob_calls ob_caller ob_goal ob_between ob_house ob_friends ob_links ob_queue ob_latest), (ce_i16 y ob_calls fob_calls), (ce_i13 y ob_house fob_house), (ce_i13 y ob_friends fob_friends), (ce_i13 y ob_links fob_links), (ce_i8192 y ob_queue f_9640), (ce_i8192 y ob_latest f_9641), (ce_X6 o1 o1_town o1_code o1_debts o1_deeds o1_knows o1_day o1_paid o1_follows), (ce_X7 o1_town o1_town_houses o1_town_fresh o1_town_introducers o1_town_x o1_town_y o1_town_rank o1_town_weekday o1_town_from o1_town_to o1_town_came o1_town_bride o1_town_told), (ce_i16 y o1_knows fo1_knows)] := ⟨hP, hD⟩
        refine lv_iadd hx hb dX8_search_110 ?_
        refine lv_topi (fun v_10361 ev_10361 => ?_)
        have qv_10361 := ba_add ev_10361 bv_1005 bv_10360 (by decide)
        have bv_10361 : (0 : Int) ≤ v_10361.toInt ∧ v_10361.toInt ≤ 76 := bq_add qv_10361 bv_1005 bv_10360 _ _ (by decide)
        refine lv_iload hx hb dX8_search_111 (lv_at hl 5 rfl) ?_
        refine lv_icmp_lt (tgt := 124) hx hb dX8_search_113 (by decide) (fun c_10362 => ?_) (fun c_10362 => ?_)
        · skip
          have nc_10362 := nb_lt (76) (1) c_10362 bv_10361 (btop o1_town_introducers) (by decide)
          refine lv_iconst (v := 0) hx hb dX8_search_124 (by decide) ?_
          refine lv_istore (lv' := [(10, .int 0), (9, .int v_10357), (8, .int v_9638), (7, .int v_9639), (6, .int v_1007), (5, .int v_1005), (4, .int o1_town_introducers), (0, .ref ob), (3, .int a3)]) hx hb dX8_search_125 hl (by decide) rfl (fun ls hl => ?_)
          refine loopX (fun n H locs ls st => ∃ (v_10970 : Int32) (v_10971 : Int32) (f_10972 : Nat → Int32) (f_10973 : Nat → Int32), (13 - v_10970.toInt).toNat = n ∧ ((0 : Int) ≤ v_10970.toInt ∧ v_10970.toInt ≤ 13) ∧ ((1 : Int) ≤ v_10971.toInt ∧ v_10971.toInt ≤ 2147483647) ∧ (∀ i, (0 : Int) ≤ (f_10972 i).toInt ∧ (f_10972 i).toInt ≤ 8191) ∧ (∀ i, (0 : Int) ≤ (f_10973 i).toInt ∧ (f_10973 i).toInt ≤ 13) ∧ st = [] ∧ vPD G A H [(ce_X8 ob ob_sought ob_length ob_calls ob_caller ob_goal ob_between ob_house ob_friends ob_links ob_queue ob_latest), (ce_i16 y ob_calls fob_calls), (ce_i13 y ob_house fob_house), (ce_i13 y ob_friends fob_friends), (ce_i13 y ob_links fob_links), (ce_i8192 y ob_queue f_10972), (ce_i8192 y ob_latest f_10973), (ce_X6 o1 o1_town o1_code o1_debts o1_deeds o1_knows o1_day o1_paid o1_follows), (ce_X7 o1_town o1_town_houses o1_town_fresh o1_town_introducers o1_town_x o1_town_y o1_town_rank o1_town_weekday o1_town_from o1_town_to o1_town_came o1_town_bride o1_town_told), (ce_i16 y o1_knows fo1_knows)] ∧ va_S A s.heap H locs ∧ lv_has ls 13 [(10, .int v_10970), (9, .int v_10357), (8, .int v_9638), (7, .int v_10971), (6, .int v_1007), (5, .int v_1005), (4, .int o1_town_introducers), (0, .ref ob), (3, .int a3)]) ?_ (n := (13 - (0 : Int32).toInt).toNat) ⟨0, v_9639, f_9640, f_9641, rfl, (bw (0) (13) (bkc (x := 0) (c := 0) (by decide)) (by decide)), nc_10355.2.1, bf_9640, bf_9641, rfl, ⟨hP, hD⟩, hS, lv_sub hl [0, 1, 2, 3, 4, 5, 6, 7, 8] rfl⟩
          rintro n ih_11020 H locs ls st ⟨v_10970, v_10971, f_10972, f_10973, hn_11020, bv_10970, bv_10971, bf_10972, bf_10973, rfl, ⟨hP, hD⟩, hS, hl⟩
          refine lv_iload hx hb dX8_search_127 (lv_at hl 0 rfl) ?_
          refine lv_aload_n hx hb dX8_search_129 rfl (lv_at hl 7 rfl) ?_
          refine va_get (D := G) (ci := 8) (v := .int ob_between) (C := RX8) (T := TX8) (N := 11) hx hb hw0 inA_wsX80 hown hK.1 hP 0 rfl rfl 5 (by decide) (hw0 _ m_1094) (fun _ h9 => h9) rfl dX8_search_130 ?_
          refine lv_icmp_ge (tgt := 237) hx hb dX8_search_133 (by decide) (fun c_11021 => ?_) (fun c_11021 => ?_)
          · skip
            have nc_11021 := nb_le (13) (0) c_11021 p_ob_between bv_10970 (by decide)
            obtain ⟨v_11022, ev_11022⟩ : ∃ z : Int32, z = v_9638 + 1 := ⟨_, rfl⟩
            have qv_11022 := ba_add ev_11022 nc_10356.1 (bkc (x := 1) (c := 1) (by decide)) (by decide)
            have bv_11022 : (1 : Int) ≤ v_11022.toInt ∧ v_11022.toInt ≤ 8192 := bq_add qv_11022 nc_10356.1 (bkc (x := 1) (c := 1) (by decide)) _ _ (by decide)
            have qv_11022 : v_11022.toInt = v_9638.toInt + (1) := qv_11022
            refine lv_iinc (v := v_11022) (lv' := [(8, .int v_11022), (10, .int v_10970), (9, .int v_10357), (7, .int v_10971), (6, .int v_1007), (5, .int v_1005), (4, .int o1_town_introducers), (0, .ref ob), (3, .int a3)]) hx hb dX8_search_237 hl (k := 2) rfl (ev_11022.symm) (by decide) rfl (fun ls hl => ?_)
            refine lv_goto (tgt := 76) hx hb dX8_search_240 (by decide) ?_
            exact ih_10354 _ (ml_inc (hi := 8192) hn_10354 qv_11022 (by decide) ((bw (0) (8192) bv_11022 (by decide))).2) _ _ _ _ ⟨v_11022, v_10971, f_10972, f_10973, rfl, (bw (0) (8192) bv_11022 (by decide)), bv_10971, bf_10972, bf_10973, rfl, ⟨hP, hD⟩, hS, lv_sub hl [0, 3, 4, 5, 6, 7, 8] rfl⟩
          · skip
            have nc_11021 := nb_nle (12) (1) c_11021 bv_10970 p_ob_between (by decide)
            refine lv_iload hx hb dX8_search_136 (lv_at hl 1 rfl) ?_
            refine lv_iconst (v := 1) hx hb dX8_search_138 (by decide) ?_
            refine lv_iload hx hb dX8_search_139 (lv_at hl 0 rfl) ?_
            refine lv_ishl hx hb dX8_search_141 ?_
            refine lv_topi (fun v_11023 ev_11023 => ?_)
            have bv_11023 : (1 : Int) ≤ v_11023.toInt ∧ v_11023.toInt ≤ 4096 := ba_shl 0 12 ev_11023 nc_11021.1 (by decide)
            refine lv_ior hx hb dX8_search_142 ?_
            refine lv_topi (fun v_11024 ev_11024 => ?_)
            have bv_11024 : (0 : Int) ≤ v_11024.toInt ∧ v_11024.toInt ≤ 8191 := ba_or 13 ev_11024 bv_10357 bv_11023 (by decide)
            refine lv_istore (lv' := [(11, .int v_11024), (10, .int v_10970), (9, .int v_10357), (8, .int v_9638), (7, .int v_10971), (6, .int v_1007), (5, .int v_1005), (4, .int o1_town_introducers), (0, .ref ob), (3, .int a3)]) hx hb dX8_search_143 hl (by decide) rfl (fun ls hl => ?_)
            refine lv_iload hx hb dX8_search_145 (lv_at hl 0 rfl) ?_
            refine lv_iload hx hb dX8_search_147 (lv_at hl 2 rfl) ?_
            refine cutW 167 (fun H locs ls st => ∃ (v_11031 : Int32), ((0 : Int) ≤ v_11031.toInt ∧ v_11031.toInt ≤ 1) ∧ st = [.int v_11031] ∧ vPD G A H [(ce_X8 ob ob_sought ob_length ob_calls ob_caller ob_goal ob_between ob_house ob_friends ob_links ob_queue ob_latest), (ce_i16 y ob_calls fob_calls), (ce_i13 y ob_house fob_house), (ce_i13 y ob_friends fob_friends), (ce_i13 y ob_links fob_links), (ce_i8192 y ob_queue f_10972), (ce_i8192 y ob_latest f_10973), (ce_X6 o1 o1_town o1_code o1_debts o1_deeds o1_knows o1_day o1_paid o1_follows), (ce_X7 o1_town o1_town_houses o1_town_fresh o1_town_introducers o1_town_x o1_town_y o1_town_rank o1_town_weekday o1_town_from o1_town_to o1_town_came o1_town_bride o1_town_told), (ce_i16 y o1_knows fo1_knows)] ∧ va_S A s.heap H locs ∧ lv_has ls 13 [(11, .int v_11024), (10, .int v_10970), (9, .int v_10357), (8, .int v_9638), (7, .int v_10971), (6, .int v_1007), (5, .int v_1005), (4, .int o1_town_introducers), (0, .ref ob), (3, .int a3)]) ?_ (fun J_167_11031 => ?_)
            · rintro H locs ls st ⟨v_11031, bv_11031, rfl, ⟨hP, hD⟩, hS, hl⟩
              refine lv_istore (lv' := [(12, .int v_11031), (11, .int v_11024), (10, .int v_10970), (9, .int v_10357), (8, .int v_9638), (7, .int v_10971), (6, .int v_1007), (5, .int v_1005), (4, .int o1_town_introducers), (0, .ref ob), (3, .int a3)]) hx hb dX8_search_167 hl (by decide) rfl (fun ls hl => ?_)
              refine lv_iload hx hb dX8_search_169 (lv_at hl 0 rfl) ?_
              refine cutW 231 (fun H locs ls st => ∃ (v_11045 : Int32) (f_11046 : Nat → Int32) (f_11047 : Nat → Int32), ((1 : Int) ≤ v_11045.toInt ∧ v_11045.toInt ≤ 2147483647) ∧ (∀ i, (0 : Int) ≤ (f_11046 i).toInt ∧ (f_11046 i).toInt ≤ 8191) ∧ (∀ i, (0 : Int) ≤ (f_11047 i).toInt ∧ (f_11047 i).toInt ≤ 13) ∧ st = [] ∧ vPD G A H [(ce_X8 ob ob_sought ob_length ob_calls ob_caller ob_goal ob_between ob_house ob_friends ob_links ob_queue ob_latest), (ce_i16 y ob_calls fob_calls), (ce_i13 y ob_house fob_house), (ce_i13 y ob_friends fob_friends), (ce_i13 y ob_links fob_links), (ce_i8192 y ob_queue f_11046), (ce_i8192 y ob_latest f_11047), (ce_X6 o1 o1_town o1_code o1_debts o1_deeds o1_knows o1_day o1_paid o1_follows), (ce_X7 o1_town o1_town_houses o1_town_fresh o1_town_introducers o1_town_x o1_town_y o1_town_rank o1_town_weekday o1_town_from o1_town_to o1_town_came o1_town_bride o1_town_told), (ce_i16 y o1_knows fo1_knows)] ∧ va_S A s.heap H locs ∧ lv_has ls 13 [(10, .int v_10970), (9, .int v_10357), (8, .int v_9638), (7, .int v_11045), (6, .int v_1007), (5, .int v_1005), (4, .int o1_town_introducers), (0, .ref ob), (3, .int a3)]) ?_ (fun J_231_11047 => ?_)
              · rintro H locs ls st ⟨v_11045, f_11046, f_11047, bv_11045, bf_11046, bf_11047, rfl, ⟨hP, hD⟩, hS, hl⟩
                obtain ⟨v_11048, ev_11048⟩ : ∃ z : Int32, z = v_10970 + 1 := ⟨_, rfl⟩
                have qv_11048 := ba_add ev_11048 nc_11021.1 (bkc (x := 1) (c := 1) (by decide)) (by decide)
                have bv_11048 : (1 : Int) ≤ v_11048.toInt ∧ v_11048.toInt ≤ 13 := bq_add qv_11048 nc_11021.1 (bkc (x := 1) (c := 1) (by decide)) _ _ (by decide)
                have qv_11048 : v_11048.toInt = v_10970.toInt + (1) := qv_11048
                refine lv_iinc (v := v_11048) (lv' := [(10, .int v_11048), (9, .int v_10357), (8, .int v_9638), (7, .int v_11045), (6, .int v_1007), (5, .int v_1005), (4, .int o1_town_introducers), (0, .ref ob), (3, .int a3)]) hx hb dX8_search_231 hl (k := 0) rfl (ev_11048.symm) (by decide) rfl (fun ls hl => ?_)
                refine lv_goto (tgt := 127) hx hb dX8_search_234 (by decide) ?_
                exact ih_11020 _ (ml_inc (hi := 13) hn_11020 qv_11048 (by decide) ((bw (0) (13) bv_11048 (by decide))).2) _ _ _ _ ⟨v_11048, v_11045, f_11046, f_11047, rfl, (bw (0) (13) bv_11048 (by decide)), bv_11045, bf_11046, bf_11047, rfl, ⟨hP, hD⟩, hS, lv_sub hl [0, 1, 2, 3, 4, 5, 6, 7, 8] rfl⟩
              · skip
                refine lv_if_eq (tgt := 231) hx hb dX8_search_171 (by decide) (fun c_11049 => ?_) (fun c_11049 => ?_)
                · skip
                  have nc_11049 := nb_eq (0) (0) c_11049 bv_11031 (bkc (x := 0) (c := 0) (by decide)) (by decide)
                  exact J_231_11047 _ _ _ _ ⟨v_10971, f_10972, f_10973, bv_10971, bf_10972, bf_10973, rfl, ⟨hP, hD⟩, hS, lv_sub hl [2, 3, 4, 5, 6, 7, 8, 9, 10] rfl⟩
                · skip
                  have nc_11049 := nb_ne (1) (1) c_11049 bv_11031 (k := 0) (by decide) (by decide)
                  refine lv_iload hx hb dX8_search_174 (lv_at hl 5 rfl) ?_
                  refine lv_sipush (v := 8192) hx hb dX8_search_176 (by decide) ?_
                  refine lv_icmp_ge (tgt := 231) hx hb dX8_search_179 (by decide) (fun c_11050 => ?_) (fun c_11050 => ?_)
                  · skip
                    have nc_11050 := nb_le (8192) (8192) c_11050 (bkc (x := 8192) (c := 8192) (by decide)) bv_10971 (by decide)
                    exact J_231_11047 _ _ _ _ ⟨v_10971, f_10972, f_10973, (bw (1) (2147483647) nc_11050.2.1 (by decide)), bf_10972, bf_10973, rfl, ⟨hP, hD⟩, hS, lv_sub hl [2, 3, 4, 5, 6, 7, 8, 9, 10] rfl⟩
                  · skip
                    have nc_11050 := nb_nle (8191) (8192) c_11050 bv_10971 (bkc (x := 8192) (c := 8192) (by decide)) (by decide)
                    refine lv_aload_n hx hb dX8_search_182 rfl (lv_at hl 9 rfl) ?_
                    refine va_get (D := G) (ci := 8) (v := .ref ob_friends) (C := RX8) (T := TX8) (N := 11) hx hb hw0 inA_wsX80 hown hK.1 hP 0 rfl rfl 7 (by decide) (hw0 _ m_1096) (fun _ h9 => h9) rfl dX8_search_183 ?_
                    refine lv_iload hx hb dX8_search_186 (lv_at hl 2 rfl) ?_
                    refine va_iald hx hb hK.1 hP 3 1 rfl rfl (vi nc_11021.1 (by decide)) dX8_search_188 ?_
                    refine lv_topi (fun v_11051 ev_11051 => ?_)
                    refine lv_aload_n hx hb dX8_search_189 rfl (lv_at hl 9 rfl) ?_
                    refine va_get (D := G) (ci := 8) (v := .ref ob_links) (C := RX8) (T := TX8) (N := 11) hx hb hw0 inA_wsX80 hown hK.1 hP 0 rfl rfl 8 (by decide) (hw0 _ m_1097) (fun _ h9 => h9) rfl dX8_search_190 ?_
                    refine lv_iload hx hb dX8_search_193 (lv_at hl 2 rfl) ?_
                    refine va_iald hx hb hK.1 hP 4 1 rfl rfl (vi nc_11021.1 (by decide)) dX8_search_195 ?_
                    refine lv_topi (fun v_11052 ev_11052 => ?_)
                    refine lv_iload hx hb dX8_search_196 (lv_at hl 3 rfl) ?_
                    refine lv_iand hx hb dX8_search_198 ?_
                    refine lv_topi (fun v_11053 ev_11053 => ?_)
                    have bv_11053 : (0 : Int) ≤ v_11053.toInt ∧ v_11053.toInt ≤ 8191 := ba_andr ev_11053 bv_10357 (by decide)
                    refine cSim (As := [.int v_11053]) (rest := [.int v_11051]) ⟨hx, hb, hml, hown, hw0⟩ hA hK hP hD hS [] (sbit13 l G y _ v_11053 bv_11053) rfl ⟨(callB_of 1 hw0 (gA m_26) rfl rfl rfl (hw0 _ m_834) (hw0 _ m_1091) cb_J6_bitCount_0f7a4 ⟨Nat.le_of_ble_eq_true rfl, Nat.le_of_ble_eq_true rfl⟩), (hw0 _ m_1051)⟩ rfl hl.1 (Nat.le_of_ble_eq_true rfl) dX8_search_199 ⟨Nat.le_of_ble_eq_true rfl, Nat.le_of_ble_eq_true rfl⟩ (fun r_11054 w_11054 H locs hw_11054 hP hD hS => ?_)
                    obtain ⟨v_11055, bv_11055, er_11054, rfl⟩ := hw_11054
                    subst r_11054
                    obtain ⟨hP, hD⟩ : vPD G A H [(ce_X8 ob ob_sought ob_length ob_calls ob_caller ob_goal ob_between ob_house ob_friends ob_links ob_queue ob_latest), (ce_i16 y ob_calls fob_calls), (ce_i13 y ob_house fob_house), (ce_i13 y ob_friends fob_friends), (ce_i13 y ob_links fob_links), (ce_i8192 y ob_queue f_10972), (ce_i8192 y ob_latest f_10973), (ce_X6 o1 o1_town o1_code o1_debts o1_deeds o1_knows o1_day o1_paid o1_follows), (ce_X7 o1_town o1_town_houses o1_town_fresh o1_town_introducers o1_town_x o1_town_y o1_town_rank o1_town_weekday o1_town_from o1_town_to o1_town_came o1_town_bride o1_town_told), (ce_i16 y o1_knows fo1_knows)] := ⟨hP, hD⟩
                    refine lv_iadd hx hb dX8_search_202 ?_
                    refine lv_topi (fun v_11056 ev_11056 => ?_)
                    refine lv_iload hx hb dX8_search_203 (lv_at hl 8 rfl) ?_
                    refine lv_icmp_lt (tgt := 231) hx hb dX8_search_205 (by decide) (fun c_11057 => ?_) (fun c_11057 => ?_)
                    · skip
                      have nc_11057 := nb_lt (2147483646) (1) c_11057 (btop v_11056) nc_10362.2.1 (by decide)
                      exact J_231_11047 _ _ _ _ ⟨v_10971, f_10972, f_10973, (bw (1) (2147483647) nc_11050.1 (by decide)), bf_10972, bf_10973, rfl, ⟨hP, hD⟩, hS, lv_sub hl [2, 3, 4, 5, 6, 7, 8, 9, 10] rfl⟩
                    · skip
                      have nc_11057 := nb_nlt (2147483647) (1) c_11057 nc_10362.2.1 (btop v_11056) (by decide)
                      refine lv_aload_n hx hb dX8_search_208 rfl (lv_at hl 9 rfl) ?_
                      refine va_get (D := G) (ci := 8) (v := .ref ob_latest) (C := RX8) (T := TX8) (N := 11) hx hb hw0 inA_wsX80 hown hK.1 hP 0 rfl rfl 10 (by decide) (hw0 _ m_1108) (fun _ h9 => h9) rfl dX8_search_209 ?_
                      refine lv_iload hx hb dX8_search_212 (lv_at hl 1 rfl) ?_
                      refine lv_iload hx hb dX8_search_214 (lv_at hl 2 rfl) ?_
                      refine lv_iconst (v := 1) hx hb dX8_search_216 (by decide) ?_
                      refine lv_iadd hx hb dX8_search_217 ?_
                      refine lv_topi (fun v_11058 ev_11058 => ?_)
                      have qv_11058 := ba_add ev_11058 nc_11021.1 (bkc (x := 1) (c := 1) (by decide)) (by decide)
                      have bv_11058 : (1 : Int) ≤ v_11058.toInt ∧ v_11058.toInt ≤ 13 := bq_add qv_11058 nc_11021.1 (bkc (x := 1) (c := 1) (by decide)) _ _ (by decide)
                      have qv_11058 : v_11058.toInt = v_10970.toInt + (1) := qv_11058
                      refine va_iast hx hb hK.1 hP hD hS 6 1 rfl rfl (vi bv_11024 (by decide)) dX8_search_218 (fun H locs hP hD hS => ?_)
                      generalize hf_11059 : (upd f_10973 (v_11024 : Int32).toNatClampNeg v_11058) = f_11059 at hP hD
                      have bf_11059 : ∀ i, (0 : Int) ≤ (f_11059 i).toInt ∧ (f_11059 i).toInt ≤ 13 := hf_11059 ▸ up_b bf_10973 (bw (0) (13) bv_11058 (by decide))
                      obtain ⟨hP, hD⟩ : vPD G A H [(ce_X8 ob ob_sought ob_length ob_calls ob_caller ob_goal ob_between ob_house ob_friends ob_links ob_queue ob_latest), (ce_i16 y ob_calls fob_calls), (ce_i13 y ob_house fob_house), (ce_i13 y ob_friends fob_friends), (ce_i13 y ob_links fob_links), (ce_i8192 y ob_queue f_10972), (ce_i8192 y ob_latest f_11059), (ce_X6 o1 o1_town o1_code o1_debts o1_deeds o1_knows o1_day o1_paid o1_follows), (ce_X7 o1_town o1_town_houses o1_town_fresh o1_town_introducers o1_town_x o1_town_y o1_town_rank o1_town_weekday o1_town_from o1_town_to o1_town_came o1_town_bride o1_town_told), (ce_i16 y o1_knows fo1_knows)] := ⟨hP, hD⟩
                      refine lv_aload_n hx hb dX8_search_219 rfl (lv_at hl 9 rfl) ?_
                      refine va_get (D := G) (ci := 8) (v := .ref ob_queue) (C := RX8) (T := TX8) (N := 11) hx hb hw0 inA_wsX80 hown hK.1 hP 0 rfl rfl 9 (by decide) (hw0 _ m_1107) (fun _ h9 => h9) rfl dX8_search_220 ?_
                      refine lv_iload hx hb dX8_search_223 (lv_at hl 5 rfl) ?_
                      refine lv_iload hx hb dX8_search_225 (lv_at hl 1 rfl) ?_
                      refine va_iast hx hb hK.1 hP hD hS 5 1 rfl rfl (vi nc_11050.1 (by decide)) dX8_search_227 (fun H locs hP hD hS => ?_)
                      generalize hf_11060 : (upd f_10972 (v_10971 : Int32).toNatClampNeg v_11024) = f_11060 at hP hD
                      have bf_11060 : ∀ i, (0 : Int) ≤ (f_11060 i).toInt ∧ (f_11060 i).toInt ≤ 8191 := hf_11060 ▸ up_b bf_10972 bv_11024
                      obtain ⟨hP, hD⟩ : vPD G A H [(ce_X8 ob ob_sought ob_length ob_calls ob_caller ob_goal ob_between ob_house ob_friends ob_links ob_queue ob_latest), (ce_i16 y ob_calls fob_calls), (ce_i13 y ob_house fob_house), (ce_i13 y ob_friends fob_friends), (ce_i13 y ob_links fob_links), (ce_i8192 y ob_queue f_11060), (ce_i8192 y ob_latest f_11059), (ce_X6 o1 o1_town o1_code o1_debts o1_deeds o1_knows o1_day o1_paid o1_follows), (ce_X7 o1_town o1_town_houses o1_town_fresh o1_town_introducers o1_town_x o1_town_y o1_town_rank o1_town_weekday o1_town_from o1_town_to o1_town_came o1_town_bride o1_town_told), (ce_i16 y o1_knows fo1_knows)] := ⟨hP, hD⟩
                      obtain ⟨v_11061, ev_11061⟩ : ∃ z : Int32, z = v_10971 + 1 := ⟨_, rfl⟩
                      have qv_11061 := ba_add ev_11061 nc_11050.1 (bkc (x := 1) (c := 1) (by decide)) (by decide)
                      have bv_11061 : (2 : Int) ≤ v_11061.toInt ∧ v_11061.toInt ≤ 8192 := bq_add qv_11061 nc_11050.1 (bkc (x := 1) (c := 1) (by decide)) _ _ (by decide)
                      have qv_11061 : v_11061.toInt = v_10971.toInt + (1) := qv_11061
                      refine lv_iinc (v := v_11061) (lv' := [(7, .int v_11061), (12, .int v_11031), (11, .int v_11024), (10, .int v_10970), (9, .int v_10357), (8, .int v_9638), (6, .int v_1007), (5, .int v_1005), (4, .int o1_town_introducers), (0, .ref ob), (3, .int a3)]) hx hb dX8_search_228 hl (k := 5) rfl (ev_11061.symm) (by decide) rfl (fun ls hl => ?_)
                      exact J_231_11047 _ _ _ _ ⟨v_11061, f_11060, f_11059, (bw (1) (2147483647) bv_11061 (by decide)), bf_11060, bf_11059, rfl, ⟨hP, hD⟩, hS, lv_sub hl [3, 4, 5, 0, 6, 7, 8, 9, 10] rfl⟩
            · skip
              refine cutW 166 (fun H locs ls st => st = [] ∧ vPD G A H [(ce_X8 ob ob_sought ob_length ob_calls ob_caller ob_goal ob_between ob_house ob_friends ob_links ob_queue ob_latest), (ce_i16 y ob_calls fob_calls), (ce_i13 y ob_house fob_house), (ce_i13 y ob_friends fob_friends), (ce_i13 y ob_links fob_links), (ce_i8192 y ob_queue f_10972), (ce_i8192 y ob_latest f_10973), (ce_X6 o1 o1_town o1_code o1_debts o1_deeds o1_knows o1_day o1_paid o1_follows), (ce_X7 o1_town o1_town_houses o1_town_fresh o1_town_introducers o1_town_x o1_town_y o1_town_rank o1_town_weekday o1_town_from o1_town_to o1_town_came o1_town_bride o1_town_told), (ce_i16 y o1_knows fo1_knows)] ∧ va_S A s.heap H locs ∧ lv_has ls 13 [(11, .int v_11024), (10, .int v_10970), (9, .int v_10357), (8, .int v_9638), (7, .int v_10971), (6, .int v_1007), (5, .int v_1005), (4, .int o1_town_introducers), (0, .ref ob), (3, .int a3)]) ?_ (fun J_166_11064 => ?_)
              · rintro H locs ls st ⟨rfl, ⟨hP, hD⟩, hS, hl⟩
                refine lv_iconst (v := 0) hx hb dX8_search_166 (by decide) ?_
                exact J_167_11031 _ _ _ _ ⟨0, (bw (0) (1) (bkc (x := 0) (c := 0) (by decide)) (by decide)), rfl, ⟨hP, hD⟩, hS, lv_sub hl [0, 1, 2, 3, 4, 5, 6, 7, 8, 9] rfl⟩
              · skip
                refine lv_icmp_eq (tgt := 166) hx hb dX8_search_149 (by decide) (fun c_11065 => ?_) (fun c_11065 => ?_)
                · skip
                  have nc_11065 := nb_eq (0) (8191) c_11065 bv_11024 bv_10357 (by decide)
                  exact J_166_11064 _ _ _ _ ⟨rfl, ⟨hP, hD⟩, hS, lv_sub hl [0, 1, 2, 3, 4, 5, 6, 7, 8, 9] rfl⟩
                · skip
                  refine lv_aload_n hx hb dX8_search_152 rfl (lv_at hl 8 rfl) ?_
                  refine va_get (D := G) (ci := 8) (v := .ref ob_latest) (C := RX8) (T := TX8) (N := 11) hx hb hw0 inA_wsX80 hown hK.1 hP 0 rfl rfl 10 (by decide) (hw0 _ m_1108) (fun _ h9 => h9) rfl dX8_search_153 ?_
                  refine lv_iload hx hb dX8_search_156 (lv_at hl 0 rfl) ?_
                  refine va_iald hx hb hK.1 hP 6 1 rfl rfl (vi bv_11024 (by decide)) dX8_search_158 ?_
                  refine lv_topi (fun v_11066 ev_11066 => ?_)
                  have bv_11066 : (0 : Int) ≤ v_11066.toInt ∧ v_11066.toInt ≤ 13 := rd_b ev_11066 bf_10973
                  refine lv_if_ne (tgt := 166) hx hb dX8_search_159 (by decide) (fun c_11067 => ?_) (fun c_11067 => ?_)
                  · skip
                    have nc_11067 := nb_ne (1) (13) c_11067 bv_11066 (k := 0) (by decide) (by decide)
                    exact J_166_11064 _ _ _ _ ⟨rfl, ⟨hP, hD⟩, hS, lv_sub hl [0, 1, 2, 3, 4, 5, 6, 7, 8, 9] rfl⟩
                  · skip
                    have nc_11067 := nb_eq (0) (0) c_11067 bv_11066 (bkc (x := 0) (c := 0) (by decide)) (by decide)
                    refine lv_iconst (v := 1) hx hb dX8_search_162 (by decide) ?_
                    refine lv_goto (tgt := 167) hx hb dX8_search_163 (by decide) ?_
                    exact J_167_11031 _ _ _ _ ⟨1, (bw (0) (1) (bkc (x := 1) (c := 1) (by decide)) (by decide)), rfl, ⟨hP, hD⟩, hS, lv_sub hl [0, 1, 2, 3, 4, 5, 6, 7, 8, 9] rfl⟩
        · skip
          have nc_10362 := nb_nlt (76) (0) c_10362 (btop o1_town_introducers) bv_10361 (by decide)
          refine lv_aload_n hx hb dX8_search_116 rfl (lv_at hl 6 rfl) ?_
          refine lv_iload hx hb dX8_search_117 (lv_at hl 0 rfl) ?_
          refine lv_iload_n hx hb dX8_search_119 rfl (lv_at hl 7 rfl) ?_
          refine cVvm (As := [.int v_10357, .int a3]) (rest := []) ⟨hx, hb, hml, hown, hw0⟩ hA hK hP hD hS [true, true, true, false, false, false, true] (sX8_tell l G y _ ob v_10357 a3 ob_sought ob_length ob_calls ob_caller ob_goal ob_between ob_house ob_friends ob_links ob_queue ob_latest fob_calls fob_house f_9641 p_ob_sought p_ob_length p_ob_between p_fob_house bf_9641 bv_10357 p_a3) rfl ⟨(callB_of 2 hw0 (gA m_1126) rfl rfl rfl (hw0 _ m_1099) (hw0 _ m_1112) cb_X8_tell ⟨Nat.le_of_ble_eq_true rfl, Nat.le_of_ble_eq_true rfl⟩), (hw0 _ m_1113), (hw0 _ m_1114)⟩ (ci := 8) (q := (RX8, TX8, 11)) rfl rfl rfl hl.1 (Nat.le_of_ble_eq_true rfl) dX8_search_120 ⟨Nat.le_of_ble_eq_true rfl, Nat.le_of_ble_eq_true rfl⟩ (fun w_11068 H locs hw_11068 hP hD hS => ?_)
          obtain ⟨v_11069, f_11070, bv_11069, rfl⟩ := hw_11068
          obtain ⟨hP, hD⟩ : vPD G A H [(ce_X8 ob ob_sought v_11069 ob_calls ob_caller ob_goal ob_between ob_house ob_friends ob_links ob_queue ob_latest), (ce_i16 y ob_calls f_11070), (ce_i13 y ob_house fob_house), (ce_i13 y ob_friends fob_friends), (ce_i13 y ob_links fob_links), (ce_i8192 y ob_queue f_9640), (ce_i8192 y ob_latest f_9641), (ce_X6 o1 o1_town o1_code o1_debts o1_deeds o1_knows o1_day o1_paid o1_follows), (ce_X7 o1_town o1_town_houses o1_town_fresh o1_town_introducers o1_town_x o1_town_y o1_town_rank o1_town_weekday o1_town_from o1_town_to o1_town_came o1_town_bride o1_town_told), (ce_i16 y o1_knows fo1_knows)] := ⟨hP, hD⟩
          exact W.vret hx hb hr (fun t ht hW => ⟨⟨_, rfl, ⟨v_11069, f_11070, f_9640, f_9641, (bw (-1) (16) bv_11069 (by decide)), bf_9640, bf_9641, rfl⟩, by rw [ht]; exact hP, hD⟩, hS.F ht⟩) hS.2.2 dX8_search_123
  · skip
    have nc_1083 := nb_nle (8191) (1) c_1083 bv_1076 bv_1082 (by decide)
    refine lv_aload_n hx hb dX8_search_49 rfl (lv_at hl 4 rfl) ?_
    refine va_get (D := G) (ci := 8) (v := .ref ob_latest) (C := RX8) (T := TX8) (N := 11) hx hb hw0 inA_wsX80 hown hK.1 hP 0 rfl rfl 10 (by decide) (hw0 _ m_1108) (fun _ h9 => h9) rfl dX8_search_50 ?_
    refine lv_iload hx hb dX8_search_53 (lv_at hl 0 rfl) ?_
    refine lv_iconst (v := 0) hx hb dX8_search_55 (by decide) ?_
    refine va_iast hx hb hK.1 hP hD hS 6 1 rfl rfl (vi nc_1083.1 (by decide)) dX8_search_56 (fun H locs hP hD hS => ?_)
    generalize hf_11071 : (upd f_1077 (v_1076 : Int32).toNatClampNeg 0) = f_11071 at hP hD
    have bf_11071 : ∀ i, (0 : Int) ≤ (f_11071 i).toInt ∧ (f_11071 i).toInt ≤ 13 := hf_11071 ▸ up_b bf_1077 (bw (0) (13) (bkc (x := 0) (c := 0) (by decide)) (by decide))
    obtain ⟨hP, hD⟩ : vPD G A H [(ce_X8 ob ob_sought ob_length ob_calls ob_caller ob_goal ob_between ob_house ob_friends ob_links ob_queue ob_latest), (ce_i16 y ob_calls fob_calls), (ce_i13 y ob_house fob_house), (ce_i13 y ob_friends fob_friends), (ce_i13 y ob_links fob_links), (ce_i8192 y ob_queue fob_queue), (ce_i8192 y ob_latest f_11071), (ce_X6 o1 o1_town o1_code o1_debts o1_deeds o1_knows o1_day o1_paid o1_follows), (ce_X7 o1_town o1_town_houses o1_town_fresh o1_town_introducers o1_town_x o1_town_y o1_town_rank o1_town_weekday o1_town_from o1_town_to o1_town_came o1_town_bride o1_town_told), (ce_i16 y o1_knows fo1_knows)] := ⟨hP, hD⟩
    obtain ⟨v_11072, ev_11072⟩ : ∃ z : Int32, z = v_1076 + 1 := ⟨_, rfl⟩
    have qv_11072 := ba_add ev_11072 nc_1083.1 (bkc (x := 1) (c := 1) (by decide)) (by decide)
    have bv_11072 : (1 : Int) ≤ v_11072.toInt ∧ v_11072.toInt ≤ 8192 := bq_add qv_11072 nc_1083.1 (bkc (x := 1) (c := 1) (by decide)) _ _ (by decide)
    have qv_11072 : v_11072.toInt = v_1076.toInt + (1) := qv_11072
    refine lv_iinc (v := v_11072) (lv' := [(7, .int v_11072), (6, .int v_1007), (5, .int v_1005), (4, .int o1_town_introducers), (0, .ref ob), (3, .int a3)]) hx hb dX8_search_57 hl (k := 0) rfl (ev_11072.symm) (by decide) rfl (fun ls hl => ?_)
    refine lv_goto (tgt := 38) hx hb dX8_search_60 (by decide) ?_
    exact ih_1081 _ (ml_inc (hi := 8192) hn_1081 qv_11072 (by decide) ((bw (0) (8192) bv_11072 (by decide))).2) _ _ _ _ ⟨v_11072, f_11071, rfl, (bw (0) (8192) bv_11072 (by decide)), bf_11071, rfl, ⟨hP, hD⟩, hS, lv_sub hl [0, 1, 2, 3, 4, 5] rfl⟩

set_option maxHeartbeats 4000000 in
set_option maxRecDepth 100000 in
theorem sX8_seek (l : Launch) (G : va_G) (y : Nat → ClassId) (sz : Nat) (ob : Nat) (o1 : Nat) (a2 : Int32) (a3 : Int32) (ob_sought : Int32) (ob_length : Int32) (ob_calls : Nat) (ob_caller : Int32) (ob_goal : Int32) (ob_between : Int32) (ob_house : Nat) (ob_friends : Nat) (ob_links : Nat) (ob_queue : Nat) (ob_latest : Nat) (fob_calls : Nat → Int32) (fob_house : Nat → Int32) (fob_friends : Nat → Int32) (fob_links : Nat → Int32) (fob_queue : Nat → Int32) (fob_latest : Nat → Int32) (o1_town : Nat) (o1_code : Nat) (o1_debts : Nat) (o1_deeds : Nat) (o1_knows : Nat) (o1_day : Int32) (o1_paid : Int32) (o1_follows : Nat) (o1_town_houses : Int32) (o1_town_fresh : Int32) (o1_town_introducers : Int32) (o1_town_x : Nat) (o1_town_y : Nat) (o1_town_rank : Nat) (o1_town_weekday : Nat) (o1_town_from : Nat) (o1_town_to : Nat) (o1_town_came : Nat) (o1_town_bride : Nat) (o1_town_told : Nat) (fo1_town_came : Nat → Int32) (fo1_knows : Nat → Int32) (p_ob_sought : (0 : Int) ≤ ob_sought.toInt ∧ ob_sought.toInt ≤ 1) (p_ob_length : (-1 : Int) ≤ ob_length.toInt ∧ ob_length.toInt ≤ 16) (p_ob_between : (0 : Int) ≤ ob_between.toInt ∧ ob_between.toInt ≤ 13) (p_fob_house : ∀ i, (0 : Int) ≤ (fob_house i).toInt ∧ (fob_house i).toInt ≤ 15) (p_fob_queue : ∀ i, (0 : Int) ≤ (fob_queue i).toInt ∧ (fob_queue i).toInt ≤ 8191) (p_fob_latest : ∀ i, (0 : Int) ≤ (fob_latest i).toInt ∧ (fob_latest i).toInt ≤ 13) (p_o1_town_houses : (0 : Int) ≤ o1_town_houses.toInt ∧ o1_town_houses.toInt ≤ 16) (p_o1_day : (0 : Int) ≤ o1_day.toInt ∧ o1_day.toInt ≤ 399) (p_a2 : (0 : Int) ≤ a2.toInt ∧ a2.toInt ≤ 15) (p_a3 : (0 : Int) ≤ a3.toInt ∧ a3.toInt ≤ 15) : Met l yX8_seek (Cond.code yX8_seek cX8_seek 5 none :: wAll) ({ frames := 3, cells := 0, slots := 0, locals := 78 }) (va_Pc [.ref ob, .ref o1, .int a2, .int a3] (kp G y sz [(ce_X8 ob ob_sought ob_length ob_calls ob_caller ob_goal ob_between ob_house ob_friends ob_links ob_queue ob_latest), (ce_i16 y ob_calls fob_calls), (ce_i13 y ob_house fob_house), (ce_i13 y ob_friends fob_friends), (ce_i13 y ob_links fob_links), (ce_i8192 y ob_queue fob_queue), (ce_i8192 y ob_latest fob_latest), (ce_X6 o1 o1_town o1_code o1_debts o1_deeds o1_knows o1_day o1_paid o1_follows), (ce_X7 o1_town o1_town_houses o1_town_fresh o1_town_introducers o1_town_x o1_town_y o1_town_rank o1_town_weekday o1_town_from o1_town_to o1_town_came o1_town_bride o1_town_told), (ce_i16 y o1_town_came fo1_town_came), (ce_i16 y o1_knows fo1_knows)])) (va_Qv (fun (w : va_W) => (∃ (v_61 : Int32) (v_62 : Int32) (v_63 : Int32) (v_64 : Int32) (v_65 : Int32) (f_66 : Nat → Int32) (f_67 : Nat → Int32) (f_68 : Nat → Int32) (f_69 : Nat → Int32) (f_70 : Nat → Int32) (f_71 : Nat → Int32), ((1 : Int) ≤ v_61.toInt ∧ v_61.toInt ≤ 1) ∧ ((-1 : Int) ≤ v_62.toInt ∧ v_62.toInt ≤ 16) ∧ ((0 : Int) ≤ v_63.toInt ∧ v_63.toInt ≤ 15) ∧ ((0 : Int) ≤ v_64.toInt ∧ v_64.toInt ≤ 15) ∧ ((0 : Int) ≤ v_65.toInt ∧ v_65.toInt ≤ 13) ∧ (∀ i, (0 : Int) ≤ (f_67 i).toInt ∧ (f_67 i).toInt ≤ 15) ∧ (∀ i, (0 : Int) ≤ (f_70 i).toInt ∧ (f_70 i).toInt ≤ 8191) ∧ (∀ i, (0 : Int) ≤ (f_71 i).toInt ∧ (f_71 i).toInt ≤ 13) ∧ w = [(ce_X8 ob v_61 v_62 ob_calls v_63 v_64 v_65 ob_house ob_friends ob_links ob_queue ob_latest), (ce_i16 y ob_calls f_66), (ce_i13 y ob_house f_67), (ce_i13 y ob_friends f_68), (ce_i13 y ob_links f_69), (ce_i8192 y ob_queue f_70), (ce_i8192 y ob_latest f_71), (ce_X6 o1 o1_town o1_code o1_debts o1_deeds o1_knows o1_day o1_paid o1_follows), (ce_X7 o1_town o1_town_houses o1_town_fresh o1_town_introducers o1_town_x o1_town_y o1_town_rank o1_town_weekday o1_town_from o1_town_to o1_town_came o1_town_bride o1_town_told), (ce_i16 y o1_town_came fo1_town_came), (ce_i16 y o1_knows fo1_knows)])) (kq G (va_A [(ce_X8 ob ob_sought ob_length ob_calls ob_caller ob_goal ob_between ob_house ob_friends ob_links ob_queue ob_latest), (ce_i16 y ob_calls fob_calls), (ce_i13 y ob_house fob_house), (ce_i13 y ob_friends fob_friends), (ce_i13 y ob_links fob_links), (ce_i8192 y ob_queue fob_queue), (ce_i8192 y ob_latest fob_latest), (ce_X6 o1 o1_town o1_code o1_debts o1_deeds o1_knows o1_day o1_paid o1_follows), (ce_X7 o1_town o1_town_houses o1_town_fresh o1_town_introducers o1_town_x o1_town_y o1_town_rank o1_town_weekday o1_town_from o1_town_to o1_town_came o1_town_bride o1_town_told), (ce_i16 y o1_town_came fo1_town_came), (ce_i16 y o1_knows fo1_knows)] sz)) (va_A [(ce_X8 ob ob_sought ob_length ob_calls ob_caller ob_goal ob_between ob_house ob_friends ob_links ob_queue ob_latest), (ce_i16 y ob_calls fob_calls), (ce_i13 y ob_house fob_house), (ce_i13 y ob_friends fob_friends), (ce_i13 y ob_links fob_links), (ce_i8192 y ob_queue fob_queue), (ce_i8192 y ob_latest fob_latest), (ce_X6 o1 o1_town o1_code o1_debts o1_deeds o1_knows o1_day o1_paid o1_follows), (ce_X7 o1_town o1_town_houses o1_town_fresh o1_town_introducers o1_town_x o1_town_y o1_town_rank o1_town_weekday o1_town_from o1_town_to o1_town_came o1_town_bride o1_town_told), (ce_i16 y o1_town_came fo1_town_came), (ce_i16 y o1_knows fo1_knows)] sz)) 0 0 (va_A [(ce_X8 ob ob_sought ob_length ob_calls ob_caller ob_goal ob_between ob_house ob_friends ob_links ob_queue ob_latest), (ce_i16 y ob_calls fob_calls), (ce_i13 y ob_house fob_house), (ce_i13 y ob_friends fob_friends), (ce_i13 y ob_links fob_links), (ce_i8192 y ob_queue fob_queue), (ce_i8192 y ob_latest fob_latest), (ce_X6 o1 o1_town o1_code o1_debts o1_deeds o1_knows o1_day o1_paid o1_follows), (ce_X7 o1_town o1_town_houses o1_town_fresh o1_town_introducers o1_town_x o1_town_y o1_town_rank o1_town_weekday o1_town_from o1_town_to o1_town_came o1_town_bride o1_town_told), (ce_i16 y o1_town_came fo1_town_came), (ce_i16 y o1_knows fo1_knows)] sz) := by
  refine Met.ofW (cc := cX8_seek) (maxL := 5) (ret := none) (by decide) rfl ?_
  intro p e s m args below meth c s₁ B hml hv
  obtain ⟨rfl, hsz, hP, hK, hD0⟩ := hv
  have hx := B.exec
  have hb := B.bytes
  have hr := B.returns
  have hw0 : ∀ w ∈ wAll, w.before _ s = true := fun w h => atoms_spec (ws := Cond.code yX8_seek cX8_seek 5 none :: wAll) B.pre w (List.mem_cons_of_mem _ h)
  have hown : s.vm.findClass RX8 = some m.cls := findClass_of_methodNamed B.named
  subst hsz
  have hD := hD0.self (sz := s.heap.size)
  generalize hAe : va_A [(ce_X8 ob ob_sought ob_length ob_calls ob_caller ob_goal ob_between ob_house ob_friends ob_links ob_queue ob_latest), (ce_i16 y ob_calls fob_calls), (ce_i13 y ob_house fob_house), (ce_i13 y ob_friends fob_friends), (ce_i13 y ob_links fob_links), (ce_i8192 y ob_queue fob_queue), (ce_i8192 y ob_latest fob_latest), (ce_X6 o1 o1_town o1_code o1_debts o1_deeds o1_knows o1_day o1_paid o1_follows), (ce_X7 o1_town o1_town_houses o1_town_fresh o1_town_introducers o1_town_x o1_town_y o1_town_rank o1_town_weekday o1_town_from o1_town_to o1_town_came o1_town_bride o1_town_told), (ce_i16 y o1_town_came fo1_town_came), (ce_i16 y o1_knows fo1_knows)] s.heap.size = A at hD ⊢
  have hA : ∀ q : Nat, s.heap.size ≤ q → A q := fun q h => by rw [← hAe]; exact Or.inr h
  have hS : va_S A s.heap s.heap [] := va_S.rf
  have hP : va_P G vwCl [(ce_X8 ob ob_sought ob_length ob_calls ob_caller ob_goal ob_between ob_house ob_friends ob_links ob_queue ob_latest), (ce_i16 y ob_calls fob_calls), (ce_i13 y ob_house fob_house), (ce_i13 y ob_friends fob_friends), (ce_i13 y ob_links fob_links), (ce_i8192 y ob_queue fob_queue), (ce_i8192 y ob_latest fob_latest), (ce_X6 o1 o1_town o1_code o1_debts o1_deeds o1_knows o1_day o1_paid o1_follows), (ce_X7 o1_town o1_town_houses o1_town_fresh o1_town_introducers o1_town_x o1_town_y o1_town_rank o1_town_weekday o1_town_from o1_town_to o1_town_came o1_town_bride o1_town_told), (ce_i16 y o1_town_came fo1_town_came), (ce_i16 y o1_knows fo1_knows)] s.heap := hP
  have hl := lv_entry ([.ref ob, .ref o1, .int a2, .int a3]) (n := 5) (Nat.le_of_ble_eq_true rfl)
  rw [lg_entry_eq]
  generalize (lg_sl ([.ref ob, .ref o1, .int a2, .int a3]) ++ List.replicate (5 - (lg_sl ([.ref ob, .ref o1, .int a2, .int a3])).length) Slot.unset).toArray = ls at hl ⊢
  have hl : lv_has ls 5 [(0, .ref ob), (1, .ref o1), (2, .int a2), (3, .int a3)] := hl
  refine lv_aload_n hx hb dX8_seek_0 rfl (lv_at hl 0 rfl) ?_
  refine va_get (D := G) (ci := 8) (v := .int ob_sought) (C := RX8) (T := TX8) (N := 11) hx hb hw0 inA_wsX80 hown hK.1 hP 0 rfl rfl 0 (by decide) (hw0 _ m_1116) (fun _ h9 => h9) rfl dX8_seek_1 ?_
  refine cutW 24 (fun H locs ls st => st = [] ∧ vPD G A H [(ce_X8 ob ob_sought ob_length ob_calls ob_caller ob_goal ob_between ob_house ob_friends ob_links ob_queue ob_latest), (ce_i16 y ob_calls fob_calls), (ce_i13 y ob_house fob_house), (ce_i13 y ob_friends fob_friends), (ce_i13 y ob_links fob_links), (ce_i8192 y ob_queue fob_queue), (ce_i8192 y ob_latest fob_latest), (ce_X6 o1 o1_town o1_code o1_debts o1_deeds o1_knows o1_day o1_paid o1_follows), (ce_X7 o1_town o1_town_houses o1_town_fresh o1_town_introducers o1_town_x o1_town_y o1_town_rank o1_town_weekday o1_town_from o1_town_to o1_town_came o1_town_bride o1_town_told), (ce_i16 y o1_town_came fo1_town_came), (ce_i16 y o1_knows fo1_knows)] ∧ va_S A s.heap H locs ∧ lv_has ls 5 [(0, .ref ob), (1, .ref o1), (2, .int a2), (3, .int a3)]) ?_ (fun J_24_1003 => ?_)
  · rintro H locs ls st ⟨rfl, ⟨hP, hD⟩, hS, hl⟩
    refine lv_aload_n hx hb dX8_seek_24 rfl (lv_at hl 0 rfl) ?_
    refine lv_iconst (v := 1) hx hb dX8_seek_25 (by decide) ?_
    refine va_put (D := G) (ci := 8) (v := .int 1) (ty := .boolean) (C := RX8) (T := TX8) (N := 11) hx hb hw0 inA_wsX80 tyX8 tyX8_ok nmX8 hown hK.1 hP hD hS 0 rfl rfl 0 (by decide) (hw0 _ m_1116) (fun _ h9 => h9) rfl fd_X8_0 rfl rfl (Nat.le_of_ble_eq_true rfl) dX8_seek_26 (fun H locs hP hD hS => ?_)
    obtain ⟨hP, hD⟩ : vPD G A H [(ce_X8 ob 1 ob_length ob_calls ob_caller ob_goal ob_between ob_house ob_friends ob_links ob_queue ob_latest), (ce_i16 y ob_calls fob_calls), (ce_i13 y ob_house fob_house), (ce_i13 y ob_friends fob_friends), (ce_i13 y ob_links fob_links), (ce_i8192 y ob_queue fob_queue), (ce_i8192 y ob_latest fob_latest), (ce_X6 o1 o1_town o1_code o1_debts o1_deeds o1_knows o1_day o1_paid o1_follows), (ce_X7 o1_town o1_town_houses o1_town_fresh o1_town_introducers o1_town_x o1_town_y o1_town_rank o1_town_weekday o1_town_from o1_town_to o1_town_came o1_town_bride o1_town_told), (ce_i16 y o1_town_came fo1_town_came), (ce_i16 y o1_knows fo1_knows)] := ⟨hP, hD⟩
    refine lv_aload_n hx hb dX8_seek_29 rfl (lv_at hl 0 rfl) ?_
    refine lv_iload_n hx hb dX8_seek_30 rfl (lv_at hl 2 rfl) ?_
    refine va_put (D := G) (ci := 8) (v := .int a2) (ty := .int) (C := RX8) (T := TX8) (N := 11) hx hb hw0 inA_wsX80 tyX8 tyX8_ok nmX8 hown hK.1 hP hD hS 0 rfl rfl 3 (by decide) (hw0 _ m_1105) (fun _ h9 => h9) rfl fd_X8_3 rfl rfl (Nat.le_of_ble_eq_true rfl) dX8_seek_31 (fun H locs hP hD hS => ?_)
    obtain ⟨hP, hD⟩ : vPD G A H [(ce_X8 ob 1 ob_length ob_calls a2 ob_goal ob_between ob_house ob_friends ob_links ob_queue ob_latest), (ce_i16 y ob_calls fob_calls), (ce_i13 y ob_house fob_house), (ce_i13 y ob_friends fob_friends), (ce_i13 y ob_links fob_links), (ce_i8192 y ob_queue fob_queue), (ce_i8192 y ob_latest fob_latest), (ce_X6 o1 o1_town o1_code o1_debts o1_deeds o1_knows o1_day o1_paid o1_follows), (ce_X7 o1_town o1_town_houses o1_town_fresh o1_town_introducers o1_town_x o1_town_y o1_town_rank o1_town_weekday o1_town_from o1_town_to o1_town_came o1_town_bride o1_town_told), (ce_i16 y o1_town_came fo1_town_came), (ce_i16 y o1_knows fo1_knows)] := ⟨hP, hD⟩
    refine lv_aload_n hx hb dX8_seek_34 rfl (lv_at hl 0 rfl) ?_
    refine lv_iload_n hx hb dX8_seek_35 rfl (lv_at hl 3 rfl) ?_
    refine va_put (D := G) (ci := 8) (v := .int a3) (ty := .int) (C := RX8) (T := TX8) (N := 11) hx hb hw0 inA_wsX80 tyX8 tyX8_ok nmX8 hown hK.1 hP hD hS 0 rfl rfl 4 (by decide) (hw0 _ m_1106) (fun _ h9 => h9) rfl fd_X8_4 rfl rfl (Nat.le_of_ble_eq_true rfl) dX8_seek_36 (fun H locs hP hD hS => ?_)
    obtain ⟨hP, hD⟩ : vPD G A H [(ce_X8 ob 1 ob_length ob_calls a2 a3 ob_between ob_house ob_friends ob_links ob_queue ob_latest), (ce_i16 y ob_calls fob_calls), (ce_i13 y ob_house fob_house), (ce_i13 y ob_friends fob_friends), (ce_i13 y ob_links fob_links), (ce_i8192 y ob_queue fob_queue), (ce_i8192 y ob_latest fob_latest), (ce_X6 o1 o1_town o1_code o1_debts o1_deeds o1_knows o1_day o1_paid o1_follows), (ce_X7 o1_town o1_town_houses o1_town_fresh o1_town_introducers o1_town_x o1_town_y o1_town_rank o1_town_weekday o1_town_from o1_town_to o1_town_came o1_town_bride o1_town_told), (ce_i16 y o1_town_came fo1_town_came), (ce_i16 y o1_knows fo1_knows)] := ⟨hP, hD⟩
    refine lv_aload_n hx hb dX8_seek_39 rfl (lv_at hl 0 rfl) ?_
    refine lv_iconst (v := (-1)) hx hb dX8_seek_40 (by decide) ?_
    refine va_put (D := G) (ci := 8) (v := .int (-1)) (ty := .int) (C := RX8) (T := TX8) (N := 11) hx hb hw0 inA_wsX80 tyX8 tyX8_ok nmX8 hown hK.1 hP hD hS 0 rfl rfl 1 (by decide) (hw0 _ m_1117) (fun _ h9 => h9) rfl fd_X8_1 rfl rfl (Nat.le_of_ble_eq_true rfl) dX8_seek_41 (fun H locs hP hD hS => ?_)
    obtain ⟨hP, hD⟩ : vPD G A H [(ce_X8 ob 1 (-1) ob_calls a2 a3 ob_between ob_house ob_friends ob_links ob_queue ob_latest), (ce_i16 y ob_calls fob_calls), (ce_i13 y ob_house fob_house), (ce_i13 y ob_friends fob_friends), (ce_i13 y ob_links fob_links), (ce_i8192 y ob_queue fob_queue), (ce_i8192 y ob_latest fob_latest), (ce_X6 o1 o1_town o1_code o1_debts o1_deeds o1_knows o1_day o1_paid o1_follows), (ce_X7 o1_town o1_town_houses o1_town_fresh o1_town_introducers o1_town_x o1_town_y o1_town_rank o1_town_weekday o1_town_from o1_town_to o1_town_came o1_town_bride o1_town_told), (ce_i16 y o1_town_came fo1_town_came), (ce_i16 y o1_knows fo1_knows)] := ⟨hP, hD⟩
    refine lv_aload_n hx hb dX8_seek_44 rfl (lv_at hl 1 rfl) ?_
    refine lv_iload_n hx hb dX8_seek_45 rfl (lv_at hl 2 rfl) ?_
    refine lv_iload_n hx hb dX8_seek_46 rfl (lv_at hl 3 rfl) ?_
    refine cVim (As := [.int a2, .int a3]) (rest := []) ⟨hx, hb, hml, hown, hw0⟩ hA hK hP hD hS [false, false, false, false, false, false, false, true, false, false, true] (sX6_knew l G y _ o1 a2 a3 o1_town o1_code o1_debts o1_deeds o1_knows o1_day o1_paid o1_follows fo1_knows p_o1_day p_a2) rfl ⟨(callB_of 2 hw0 (gA m_1054) rfl rfl rfl (hw0 _ m_958) (hw0 _ m_1110) cb_X6_knew ⟨Nat.le_of_ble_eq_true rfl, Nat.le_of_ble_eq_true rfl⟩), (hw0 _ m_959), (hw0 _ m_960)⟩ (ci := 6) (q := (RX6, TX6, 8)) rfl rfl rfl hl.1 (Nat.le_of_ble_eq_true rfl) dX8_seek_47 ⟨Nat.le_of_ble_eq_true rfl, Nat.le_of_ble_eq_true rfl⟩ (fun r_1004 w_1004 H locs hw_1004 hP hD hS => ?_)
    obtain ⟨v_1005, bv_1005, er_1004, rfl⟩ := hw_1004
    subst r_1004
    obtain ⟨hP, hD⟩ : vPD G A H [(ce_X8 ob 1 (-1) ob_calls a2 a3 ob_between ob_house ob_friends ob_links ob_queue ob_latest), (ce_i16 y ob_calls fob_calls), (ce_i13 y ob_house fob_house), (ce_i13 y ob_friends fob_friends), (ce_i13 y ob_links fob_links), (ce_i8192 y ob_queue fob_queue), (ce_i8192 y ob_latest fob_latest), (ce_X6 o1 o1_town o1_code o1_debts o1_deeds o1_knows o1_day o1_paid o1_follows), (ce_X7 o1_town o1_town_houses o1_town_fresh o1_town_introducers o1_town_x o1_town_y o1_town_rank o1_town_weekday o1_town_from o1_town_to o1_town_came o1_town_bride o1_town_told), (ce_i16 y o1_town_came fo1_town_came), (ce_i16 y o1_knows fo1_knows)] := ⟨hP, hD⟩
    refine lv_iconst (v := 1) hx hb dX8_seek_50 (by decide) ?_
    refine lv_icmp_ne (tgt := 60) hx hb dX8_seek_51 (by decide) (fun c_1006 => ?_) (fun c_1006 => ?_)
    · skip
      have nc_1006 := nb_ne (0) (0) c_1006 bv_1005 (k := 1) (by decide) (by decide)
      refine lv_aload_n hx hb dX8_seek_60 rfl (lv_at hl 1 rfl) ?_
      refine lv_iload_n hx hb dX8_seek_61 rfl (lv_at hl 2 rfl) ?_
      refine cSim (As := [.ref o1, .int a2]) (rest := []) ⟨hx, hb, hml, hown, hw0⟩ hA hK hP hD hS [false, false, false, false, false, false, false, true, true, true, true] (sX8_everyoneToKnow l G y _ o1 a2 o1_town o1_code o1_debts o1_deeds o1_knows o1_day o1_paid o1_follows o1_town_houses o1_town_fresh o1_town_introducers o1_town_x o1_town_y o1_town_rank o1_town_weekday o1_town_from o1_town_to o1_town_came o1_town_bride o1_town_told fo1_town_came fo1_knows p_o1_town_houses p_o1_day p_a2) rfl ⟨(callB_of 2 hw0 (gA m_1085) rfl rfl rfl (hw0 _ m_1099) (hw0 _ m_1118) cb_X8_everyoneToKnow ⟨Nat.le_of_ble_eq_true rfl, Nat.le_of_ble_eq_true rfl⟩), (hw0 _ m_1119)⟩ rfl hl.1 (Nat.le_of_ble_eq_true rfl) dX8_seek_62 ⟨Nat.le_of_ble_eq_true rfl, Nat.le_of_ble_eq_true rfl⟩ (fun r_1007 w_1007 H locs hw_1007 hP hD hS => ?_)
      obtain ⟨v_1008, er_1007, rfl⟩ := hw_1007
      subst r_1007
      obtain ⟨hP, hD⟩ : vPD G A H [(ce_X8 ob 1 (-1) ob_calls a2 a3 ob_between ob_house ob_friends ob_links ob_queue ob_latest), (ce_i16 y ob_calls fob_calls), (ce_i13 y ob_house fob_house), (ce_i13 y ob_friends fob_friends), (ce_i13 y ob_links fob_links), (ce_i8192 y ob_queue fob_queue), (ce_i8192 y ob_latest fob_latest), (ce_X6 o1 o1_town o1_code o1_debts o1_deeds o1_knows o1_day o1_paid o1_follows), (ce_X7 o1_town o1_town_houses o1_town_fresh o1_town_introducers o1_town_x o1_town_y o1_town_rank o1_town_weekday o1_town_from o1_town_to o1_town_came o1_town_bride o1_town_told), (ce_i16 y o1_town_came fo1_town_came), (ce_i16 y o1_knows fo1_knows)] := ⟨hP, hD⟩
      refine lv_istore (lv' := [(4, .int v_1008), (0, .ref ob), (1, .ref o1), (2, .int a2), (3, .int a3)]) hx hb dX8_seek_65 hl (by decide) rfl (fun ls hl => ?_)
      refine lv_iload hx hb dX8_seek_67 (lv_at hl 0 rfl) ?_
      refine lv_iload_n hx hb dX8_seek_69 rfl (lv_at hl 4 rfl) ?_
      refine lv_ishr hx hb dX8_seek_70 ?_
      refine lv_topi (fun v_1009 ev_1009 => ?_)
      refine lv_iconst (v := 1) hx hb dX8_seek_71 (by decide) ?_
      refine lv_iand hx hb dX8_seek_72 ?_
      refine lv_topi (fun v_1010 ev_1010 => ?_)
      have bv_1010 : (0 : Int) ≤ v_1010.toInt ∧ v_1010.toInt ≤ 1 := ba_andr ev_1010 (bkc (x := 1) (c := 1) (by decide)) (by decide)
      refine lv_if_ne (tgt := 77) hx hb dX8_seek_73 (by decide) (fun c_1011 => ?_) (fun c_1011 => ?_)
      · skip
        have nc_1011 := nb_ne (1) (1) c_1011 bv_1010 (k := 0) (by decide) (by decide)
        refine lv_aload_n hx hb dX8_seek_77 rfl (lv_at hl 1 rfl) ?_
        refine lv_aload_n hx hb dX8_seek_78 rfl (lv_at hl 2 rfl) ?_
        refine lv_iload_n hx hb dX8_seek_79 rfl (lv_at hl 3 rfl) ?_
        refine lv_iload hx hb dX8_seek_80 (lv_at hl 0 rfl) ?_
        refine lv_iconst (v := 1) hx hb dX8_seek_82 (by decide) ?_
        refine lv_iload_n hx hb dX8_seek_83 rfl (lv_at hl 4 rfl) ?_
        refine lv_ishl hx hb dX8_seek_84 ?_
        refine lv_topi (fun v_1012 ev_1012 => ?_)
        have bv_1012 : (1 : Int) ≤ v_1012.toInt ∧ v_1012.toInt ≤ 32768 := ba_shl 0 15 ev_1012 p_a3 (by decide)
        refine lv_iconst (v := (-1)) hx hb dX8_seek_85 (by decide) ?_
        refine lv_ixor hx hb dX8_seek_86 ?_
        refine lv_topi (fun v_1013 ev_1013 => ?_)
        refine lv_iand hx hb dX8_seek_87 ?_
        refine lv_topi (fun v_1014 ev_1014 => ?_)
        refine lv_aload_n hx hb dX8_seek_88 rfl (lv_at hl 2 rfl) ?_
        refine va_get (D := G) (ci := 6) (v := .ref o1_knows) (C := RX6) (T := TX6) (N := 8) hx hb hw0 inA_wsX60 hown hK.1 hP 7 rfl rfl 4 (by decide) (hw0 _ m_1086) (fun _ h9 => h9) rfl dX8_seek_89 ?_
        refine lv_iload_n hx hb dX8_seek_92 rfl (lv_at hl 3 rfl) ?_
        refine va_iald hx hb hK.1 hP 10 1 rfl rfl (vi p_a2 (by decide)) dX8_seek_93 ?_
        refine lv_topi (fun v_1015 ev_1015 => ?_)
        refine lv_iconst (v := (-1)) hx hb dX8_seek_94 (by decide) ?_
        refine lv_ixor hx hb dX8_seek_95 ?_
        refine lv_topi (fun v_1016 ev_1016 => ?_)
        refine lv_iand hx hb dX8_seek_96 ?_
        refine lv_topi (fun v_1017 ev_1017 => ?_)
        refine cVvm (As := [.ref o1, .int a2, .int v_1017]) (rest := []) ⟨hx, hb, hml, hown, hw0⟩ hA hK hP hD hS [true, false, true, true, true, false, false, true, true, false, true] (sX8_gather l G y _ ob o1 a2 v_1017 1 (-1) ob_calls a2 a3 ob_between ob_house ob_friends ob_links ob_queue ob_latest fob_house fob_friends fob_links o1_town o1_code o1_debts o1_deeds o1_knows o1_day o1_paid o1_follows o1_town_houses o1_town_fresh o1_town_introducers o1_town_x o1_town_y o1_town_rank o1_town_weekday o1_town_from o1_town_to o1_town_came o1_town_bride o1_town_told fo1_knows (bw (0) (1) (bkc (x := 1) (c := 1) (by decide)) (by decide)) (bw (-1) (16) (bkc (x := (-1)) (c := -1) (by decide)) (by decide)) p_ob_between p_fob_house p_o1_town_houses p_o1_day p_a2) rfl ⟨(callB_of 3 hw0 (gA m_1093) rfl rfl rfl (hw0 _ m_1099) (hw0 _ m_1120) cb_X8_gather ⟨Nat.le_of_ble_eq_true rfl, Nat.le_of_ble_eq_true rfl⟩), (hw0 _ m_1121), (hw0 _ m_1122)⟩ (ci := 8) (q := (RX8, TX8, 11)) rfl rfl rfl hl.1 (Nat.le_of_ble_eq_true rfl) dX8_seek_97 ⟨Nat.le_of_ble_eq_true rfl, Nat.le_of_ble_eq_true rfl⟩ (fun w_1018 H locs hw_1018 hP hD hS => ?_)
        obtain ⟨v_1019, f_1020, f_1021, f_1022, bv_1019, bf_1020, rfl⟩ := hw_1018
        obtain ⟨hP, hD⟩ : vPD G A H [(ce_X8 ob 1 (-1) ob_calls a2 a3 v_1019 ob_house ob_friends ob_links ob_queue ob_latest), (ce_i16 y ob_calls fob_calls), (ce_i13 y ob_house f_1020), (ce_i13 y ob_friends f_1021), (ce_i13 y ob_links f_1022), (ce_i8192 y ob_queue fob_queue), (ce_i8192 y ob_latest fob_latest), (ce_X6 o1 o1_town o1_code o1_debts o1_deeds o1_knows o1_day o1_paid o1_follows), (ce_X7 o1_town o1_town_houses o1_town_fresh o1_town_introducers o1_town_x o1_town_y o1_town_rank o1_town_weekday o1_town_from o1_town_to o1_town_came o1_town_bride o1_town_told), (ce_i16 y o1_town_came fo1_town_came), (ce_i16 y o1_knows fo1_knows)] := ⟨hP, hD⟩
        refine lv_aload_n hx hb dX8_seek_100 rfl (lv_at hl 1 rfl) ?_
        refine lv_aload_n hx hb dX8_seek_101 rfl (lv_at hl 2 rfl) ?_
        refine lv_iload_n hx hb dX8_seek_102 rfl (lv_at hl 3 rfl) ?_
        refine lv_iload_n hx hb dX8_seek_103 rfl (lv_at hl 4 rfl) ?_
        refine cVvm (As := [.ref o1, .int a2, .int a3]) (rest := []) ⟨hx, hb, hml, hown, hw0⟩ hA hK hP hD hS [true, true, true, true, true, true, true, true, true, false, true] (sX8_search l G y _ ob o1 a2 a3 1 (-1) ob_calls a2 a3 v_1019 ob_house ob_friends ob_links ob_queue ob_latest fob_calls f_1020 f_1021 f_1022 fob_queue fob_latest o1_town o1_code o1_debts o1_deeds o1_knows o1_day o1_paid o1_follows o1_town_houses o1_town_fresh o1_town_introducers o1_town_x o1_town_y o1_town_rank o1_town_weekday o1_town_from o1_town_to o1_town_came o1_town_bride o1_town_told fo1_knows (bw (0) (1) (bkc (x := 1) (c := 1) (by decide)) (by decide)) (bw (-1) (16) (bkc (x := (-1)) (c := -1) (by decide)) (by decide)) bv_1019 bf_1020 p_fob_queue p_fob_latest p_o1_town_houses p_o1_day p_a2 p_a3) rfl ⟨(callB_of 3 hw0 (gA m_1111) rfl rfl rfl (hw0 _ m_1099) (hw0 _ m_1123) cb_X8_search ⟨Nat.le_of_ble_eq_true rfl, Nat.le_of_ble_eq_true rfl⟩), (hw0 _ m_1124), (hw0 _ m_1125)⟩ (ci := 8) (q := (RX8, TX8, 11)) rfl rfl rfl hl.1 (Nat.le_of_ble_eq_true rfl) dX8_seek_104 ⟨Nat.le_of_ble_eq_true rfl, Nat.le_of_ble_eq_true rfl⟩ (fun w_1023 H locs hw_1023 hP hD hS => ?_)
        obtain ⟨v_1024, f_1025, f_1026, f_1027, bv_1024, bf_1026, bf_1027, rfl⟩ := hw_1023
        obtain ⟨hP, hD⟩ : vPD G A H [(ce_X8 ob 1 v_1024 ob_calls a2 a3 v_1019 ob_house ob_friends ob_links ob_queue ob_latest), (ce_i16 y ob_calls f_1025), (ce_i13 y ob_house f_1020), (ce_i13 y ob_friends f_1021), (ce_i13 y ob_links f_1022), (ce_i8192 y ob_queue f_1026), (ce_i8192 y ob_latest f_1027), (ce_X6 o1 o1_town o1_code o1_debts o1_deeds o1_knows o1_day o1_paid o1_follows), (ce_X7 o1_town o1_town_houses o1_town_fresh o1_town_introducers o1_town_x o1_town_y o1_town_rank o1_town_weekday o1_town_from o1_town_to o1_town_came o1_town_bride o1_town_told), (ce_i16 y o1_town_came fo1_town_came), (ce_i16 y o1_knows fo1_knows)] := ⟨hP, hD⟩
        exact W.vret hx hb hr (fun t ht hW => ⟨⟨_, rfl, ⟨1, v_1024, a2, a3, v_1019, f_1025, f_1020, f_1021, f_1022, f_1026, f_1027, (bkc (x := 1) (c := 1) (by decide)), bv_1024, p_a2, p_a3, bv_1019, bf_1020, bf_1026, bf_1027, rfl⟩, by rw [ht]; exact hP, hD⟩, hS.F ht⟩) hS.2.2 dX8_seek_107
      · skip
        have nc_1011 := nb_eq (0) (0) c_1011 bv_1010 (bkc (x := 0) (c := 0) (by decide)) (by decide)
        exact W.vret hx hb hr (fun t ht hW => ⟨⟨_, rfl, ⟨1, (-1), a2, a3, ob_between, fob_calls, fob_house, fob_friends, fob_links, fob_queue, fob_latest, (bkc (x := 1) (c := 1) (by decide)), (bw (-1) (16) (bkc (x := (-1)) (c := -1) (by decide)) (by decide)), p_a2, p_a3, p_ob_between, p_fob_house, p_fob_queue, p_fob_latest, rfl⟩, by rw [ht]; exact hP, hD⟩, hS.F ht⟩) hS.2.2 dX8_seek_76
    · skip
      have nc_1006 := nb_eq (1) (1) c_1006 bv_1005 (bkc (x := 1) (c := 1) (by decide)) (by decide)
      refine lv_aload_n hx hb dX8_seek_54 rfl (lv_at hl 0 rfl) ?_
      refine lv_iconst (v := 0) hx hb dX8_seek_55 (by decide) ?_
      refine va_put (D := G) (ci := 8) (v := .int 0) (ty := .int) (C := RX8) (T := TX8) (N := 11) hx hb hw0 inA_wsX80 tyX8 tyX8_ok nmX8 hown hK.1 hP hD hS 0 rfl rfl 1 (by decide) (hw0 _ m_1117) (fun _ h9 => h9) rfl fd_X8_1 rfl rfl (Nat.le_of_ble_eq_true rfl) dX8_seek_56 (fun H locs hP hD hS => ?_)
      obtain ⟨hP, hD⟩ : vPD G A H [(ce_X8 ob 1 0 ob_calls a2 a3 ob_between ob_house ob_friends ob_links ob_queue ob_latest), (ce_i16 y ob_calls fob_calls), (ce_i13 y ob_house fob_house), (ce_i13 y ob_friends fob_friends), (ce_i13 y ob_links fob_links), (ce_i8192 y ob_queue fob_queue), (ce_i8192 y ob_latest fob_latest), (ce_X6 o1 o1_town o1_code o1_debts o1_deeds o1_knows o1_day o1_paid o1_follows), (ce_X7 o1_town o1_town_houses o1_town_fresh o1_town_introducers o1_town_x o1_town_y o1_town_rank o1_town_weekday o1_town_from o1_town_to o1_town_came o1_town_bride o1_town_told), (ce_i16 y o1_town_came fo1_town_came), (ce_i16 y o1_knows fo1_knows)] := ⟨hP, hD⟩
      exact W.vret hx hb hr (fun t ht hW => ⟨⟨_, rfl, ⟨1, 0, a2, a3, ob_between, fob_calls, fob_house, fob_friends, fob_links, fob_queue, fob_latest, (bkc (x := 1) (c := 1) (by decide)), (bw (-1) (16) (bkc (x := 0) (c := 0) (by decide)) (by decide)), p_a2, p_a3, p_ob_between, p_fob_house, p_fob_queue, p_fob_latest, rfl⟩, by rw [ht]; exact hP, hD⟩, hS.F ht⟩) hS.2.2 dX8_seek_59
  · skip
    refine lv_if_eq (tgt := 24) hx hb dX8_seek_4 (by decide) (fun c_1028 => ?_) (fun c_1028 => ?_)
    · skip
      have nc_1028 := nb_eq (0) (0) c_1028 p_ob_sought (bkc (x := 0) (c := 0) (by decide)) (by decide)
      exact J_24_1003 _ _ _ _ ⟨rfl, ⟨hP, hD⟩, hS, lv_sub hl [0, 1, 2, 3] rfl⟩
    · skip
      have nc_1028 := nb_ne (1) (1) c_1028 p_ob_sought (k := 0) (by decide) (by decide)
      refine lv_aload_n hx hb dX8_seek_7 rfl (lv_at hl 0 rfl) ?_
      refine va_get (D := G) (ci := 8) (v := .int ob_caller) (C := RX8) (T := TX8) (N := 11) hx hb hw0 inA_wsX80 hown hK.1 hP 0 rfl rfl 3 (by decide) (hw0 _ m_1105) (fun _ h9 => h9) rfl dX8_seek_8 ?_
      refine lv_iload_n hx hb dX8_seek_11 rfl (lv_at hl 2 rfl) ?_
      refine lv_icmp_ne (tgt := 24) hx hb dX8_seek_12 (by decide) (fun c_1029 => ?_) (fun c_1029 => ?_)
      · skip
        exact J_24_1003 _ _ _ _ ⟨rfl, ⟨hP, hD⟩, hS, lv_sub hl [0, 1, 2, 3] rfl⟩
      · skip
        have nc_1029 := nb_eq (0) (15) c_1029 (btop ob_caller) p_a2 (by decide)
        refine lv_aload_n hx hb dX8_seek_15 rfl (lv_at hl 0 rfl) ?_
        refine va_get (D := G) (ci := 8) (v := .int ob_goal) (C := RX8) (T := TX8) (N := 11) hx hb hw0 inA_wsX80 hown hK.1 hP 0 rfl rfl 4 (by decide) (hw0 _ m_1106) (fun _ h9 => h9) rfl dX8_seek_16 ?_
        refine lv_iload_n hx hb dX8_seek_19 rfl (lv_at hl 3 rfl) ?_
        refine lv_icmp_ne (tgt := 24) hx hb dX8_seek_20 (by decide) (fun c_1030 => ?_) (fun c_1030 => ?_)
        · skip
          exact J_24_1003 _ _ _ _ ⟨rfl, ⟨hP, hD⟩, hS, lv_sub hl [0, 1, 2, 3] rfl⟩
        · skip
          have nc_1030 := nb_eq (0) (15) c_1030 (btop ob_goal) p_a3 (by decide)
          exact W.vret hx hb hr (fun t ht hW => ⟨⟨_, rfl, ⟨ob_sought, ob_length, ob_caller, ob_goal, ob_between, fob_calls, fob_house, fob_friends, fob_links, fob_queue, fob_latest, nc_1028.1, p_ob_length, nc_1029.1, nc_1030.1, p_ob_between, p_fob_house, p_fob_queue, p_fob_latest, rfl⟩, by rw [ht]; exact hP, hD⟩, hS.F ht⟩) hS.2.2 dX8_seek_23
