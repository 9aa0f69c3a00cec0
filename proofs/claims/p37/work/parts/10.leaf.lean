set_option maxHeartbeats 4000000 in
set_option maxRecDepth 100000 in
theorem sX7_has (l : Launch) (G : va_G) (y : Nat → ClassId) (sz : Nat) (ob : Nat) (a1 : Int32) (ob_houses : Int32) (ob_fresh : Int32) (ob_introducers : Int32) (ob_x : Nat) (ob_y : Nat) (ob_rank : Nat) (ob_weekday : Nat) (ob_from : Nat) (ob_to : Nat) (ob_came : Nat) (ob_bride : Nat) (ob_told : Nat) (p_ob_houses : (0 : Int) ≤ ob_houses.toInt ∧ ob_houses.toInt ≤ 16) : Met l yX7_has (Cond.code yX7_has cX7_has 2 (some .boolean) :: wAll) ({ frames := 0, cells := 0, slots := 0, locals := 0 }) (va_Pc [.ref ob, .int a1] (kp G y sz [(ce_X7 ob ob_houses ob_fresh ob_introducers ob_x ob_y ob_rank ob_weekday ob_from ob_to ob_came ob_bride ob_told)])) (va_Qi (fun (r : Int32) (w : va_W) => (r = 0 ∧ w = [(ce_X7 ob ob_houses ob_fresh ob_introducers ob_x ob_y ob_rank ob_weekday ob_from ob_to ob_came ob_bride ob_told)]) ∨ (((0 : Int) ≤ a1.toInt ∧ a1.toInt ≤ 15) ∧ ((1 : Int) ≤ ob_houses.toInt ∧ ob_houses.toInt ≤ 16) ∧ r = 1 ∧ w = [(ce_X7 ob ob_houses ob_fresh ob_introducers ob_x ob_y ob_rank ob_weekday ob_from ob_to ob_came ob_bride ob_told)])) (kq G (va_A [(ce_X7 ob ob_houses ob_fresh ob_introducers ob_x ob_y ob_rank ob_weekday ob_from ob_to ob_came ob_bride ob_told)] sz)) (va_A [(ce_X7 ob ob_houses ob_fresh ob_introducers ob_x ob_y ob_rank ob_weekday ob_from ob_to ob_came ob_bride ob_told)] sz)) 0 0 (va_A [(ce_X7 ob ob_houses ob_fresh ob_introducers ob_x ob_y ob_rank ob_weekday ob_from ob_to ob_came ob_bride ob_told)] sz) := by
  refine Met.ofW (cc := cX7_has) (maxL := 2) (ret := (some .boolean)) (by decide) rfl ?_
  intro p e s m args below meth c s₁ B hml hv
  obtain ⟨rfl, hsz, hP, hK, hD0⟩ := hv
  have hx := B.exec
  have hb := B.bytes
  have hr := B.returns
  have hw0 : ∀ w ∈ wAll, w.before _ s = true := fun w h => atoms_spec (ws := Cond.code yX7_has cX7_has 2 (some .boolean) :: wAll) B.pre w (List.mem_cons_of_mem _ h)
  have hown : s.vm.findClass RX7 = some m.cls := findClass_of_methodNamed B.named
  subst hsz
  have hD := hD0.self (sz := s.heap.size)
  generalize hAe : va_A [(ce_X7 ob ob_houses ob_fresh ob_introducers ob_x ob_y ob_rank ob_weekday ob_from ob_to ob_came ob_bride ob_told)] s.heap.size = A at hD ⊢
  have hA : ∀ q : Nat, s.heap.size ≤ q → A q := fun q h => by rw [← hAe]; exact Or.inr h
  have hS : va_S A s.heap s.heap [] := va_S.rf
  have hP : va_P G vwCl [(ce_X7 ob ob_houses ob_fresh ob_introducers ob_x ob_y ob_rank ob_weekday ob_from ob_to ob_came ob_bride ob_told)] s.heap := hP
  have hl := lv_entry ([.ref ob, .int a1]) (n := 2) (Nat.le_of_ble_eq_true rfl)
  rw [lg_entry_eq]
  generalize (lg_sl ([.ref ob, .int a1]) ++ List.replicate (2 - (lg_sl ([.ref ob, .int a1])).length) Slot.unset).toArray = ls at hl ⊢
  have hl : lv_has ls 2 [(0, .ref ob), (1, .int a1)] := hl
  refine lv_iload_n hx hb dX7_has_0 rfl (lv_at hl 1 rfl) ?_
  refine cutW 16 (fun H locs ls st => st = [] ∧ vPD G A H [(ce_X7 ob ob_houses ob_fresh ob_introducers ob_x ob_y ob_rank ob_weekday ob_from ob_to ob_came ob_bride ob_told)] ∧ va_S A s.heap H locs ∧ lv_has ls 2 []) ?_ (fun J_16_1002 => ?_)
  · rintro H locs ls st ⟨rfl, ⟨hP, hD⟩, hS, hl⟩
    refine lv_iconst (v := 0) hx hb dX7_has_16 (by decide) ?_
    exact W.zret (v := 0) hx hb hr rfl (fun t ht hW => ⟨⟨0, _, rfl, Or.inl (⟨rfl, rfl⟩), by rw [ht]; exact hP, hD⟩, hS.F ht⟩) hS.2.2 dX7_has_17
  · skip
    refine lv_if_lt (tgt := 16) hx hb dX7_has_1 (by decide) (fun c_1003 => ?_) (fun c_1003 => ?_)
    · skip
      have nc_1003 := nb_lt (-1) (0) c_1003 (btop a1) (bkc (x := 0) (c := 0) (by decide)) (by decide)
      exact J_16_1002 _ _ _ _ ⟨rfl, ⟨hP, hD⟩, hS, lv_sub hl [] rfl⟩
    · skip
      have nc_1003 := nb_nlt (0) (0) c_1003 (bkc (x := 0) (c := 0) (by decide)) (btop a1) (by decide)
      refine lv_iload_n hx hb dX7_has_4 rfl (lv_at hl 1 rfl) ?_
      refine lv_aload_n hx hb dX7_has_5 rfl (lv_at hl 0 rfl) ?_
      refine va_get (D := G) (ci := 7) (v := .int ob_houses) (C := RX7) (T := TX7) (N := 12) hx hb hw0 inA_wsX70 hown hK.1 hP 0 rfl rfl 0 (by decide) (hw0 _ m_1060) (fun _ h9 => h9) rfl dX7_has_6 ?_
      refine lv_icmp_ge (tgt := 16) hx hb dX7_has_9 (by decide) (fun c_1004 => ?_) (fun c_1004 => ?_)
      · skip
        have nc_1004 := nb_le (16) (0) c_1004 p_ob_houses nc_1003.2.1 (by decide)
        exact J_16_1002 _ _ _ _ ⟨rfl, ⟨hP, hD⟩, hS, lv_sub hl [] rfl⟩
      · skip
        have nc_1004 := nb_nle (15) (1) c_1004 nc_1003.2.1 p_ob_houses (by decide)
        refine lv_iconst (v := 1) hx hb dX7_has_12 (by decide) ?_
        refine lv_goto (tgt := 17) hx hb dX7_has_13 (by decide) ?_
        exact W.zret (v := 1) hx hb hr rfl (fun t ht hW => ⟨⟨1, _, rfl, Or.inr (⟨nc_1004.1, nc_1004.2.1, rfl, rfl⟩), by rw [ht]; exact hP, hD⟩, hS.F ht⟩) hS.2.2 dX7_has_17

set_option maxHeartbeats 4000000 in
set_option maxRecDepth 100000 in
theorem sX7_hasPair (l : Launch) (G : va_G) (y : Nat → ClassId) (sz : Nat) (ob : Nat) (a1 : Int32) (a2 : Int32) (ob_houses : Int32) (ob_fresh : Int32) (ob_introducers : Int32) (ob_x : Nat) (ob_y : Nat) (ob_rank : Nat) (ob_weekday : Nat) (ob_from : Nat) (ob_to : Nat) (ob_came : Nat) (ob_bride : Nat) (ob_told : Nat) (p_ob_houses : (0 : Int) ≤ ob_houses.toInt ∧ ob_houses.toInt ≤ 16) : Met l yX7_hasPair (Cond.code yX7_hasPair cX7_hasPair 3 (some .boolean) :: wAll) ({ frames := 1, cells := 0, slots := 0, locals := 21 }) (va_Pc [.ref ob, .int a1, .int a2] (kp G y sz [(ce_X7 ob ob_houses ob_fresh ob_introducers ob_x ob_y ob_rank ob_weekday ob_from ob_to ob_came ob_bride ob_told)])) (va_Qi (fun (r : Int32) (w : va_W) => (r = 0 ∧ w = [(ce_X7 ob ob_houses ob_fresh ob_introducers ob_x ob_y ob_rank ob_weekday ob_from ob_to ob_came ob_bride ob_told)]) ∨ (((0 : Int) ≤ a1.toInt ∧ a1.toInt ≤ 15) ∧ ((0 : Int) ≤ a2.toInt ∧ a2.toInt ≤ 15) ∧ ((1 : Int) ≤ ob_houses.toInt ∧ ob_houses.toInt ≤ 16) ∧ r = 1 ∧ w = [(ce_X7 ob ob_houses ob_fresh ob_introducers ob_x ob_y ob_rank ob_weekday ob_from ob_to ob_came ob_bride ob_told)])) (kq G (va_A [(ce_X7 ob ob_houses ob_fresh ob_introducers ob_x ob_y ob_rank ob_weekday ob_from ob_to ob_came ob_bride ob_told)] sz)) (va_A [(ce_X7 ob ob_houses ob_fresh ob_introducers ob_x ob_y ob_rank ob_weekday ob_from ob_to ob_came ob_bride ob_told)] sz)) 0 0 (va_A [(ce_X7 ob ob_houses ob_fresh ob_introducers ob_x ob_y ob_rank ob_weekday ob_from ob_to ob_came ob_bride ob_told)] sz) := by
  refine Met.ofW (cc := cX7_hasPair) (maxL := 3) (ret := (some .boolean)) (by decide) rfl ?_
  intro p e s m args below meth c s₁ B hml hv
  obtain ⟨rfl, hsz, hP, hK, hD0⟩ := hv
  have hx := B.exec
  have hb := B.bytes
  have hr := B.returns
  have hw0 : ∀ w ∈ wAll, w.before _ s = true := fun w h => atoms_spec (ws := Cond.code yX7_hasPair cX7_hasPair 3 (some .boolean) :: wAll) B.pre w (List.mem_cons_of_mem _ h)
  have hown : s.vm.findClass RX7 = some m.cls := findClass_of_methodNamed B.named
  subst hsz
  have hD := hD0.self (sz := s.heap.size)
  generalize hAe : va_A [(ce_X7 ob ob_houses ob_fresh ob_introducers ob_x ob_y ob_rank ob_weekday ob_from ob_to ob_came ob_bride ob_told)] s.heap.size = A at hD ⊢
  have hA : ∀ q : Nat, s.heap.size ≤ q → A q := fun q h => by rw [← hAe]; exact Or.inr h
  have hS : va_S A s.heap s.heap [] := va_S.rf
  have hP : va_P G vwCl [(ce_X7 ob ob_houses ob_fresh ob_introducers ob_x ob_y ob_rank ob_weekday ob_from ob_to ob_came ob_bride ob_told)] s.heap := hP
  have hl := lv_entry ([.ref ob, .int a1, .int a2]) (n := 3) (Nat.le_of_ble_eq_true rfl)
  rw [lg_entry_eq]
  generalize (lg_sl ([.ref ob, .int a1, .int a2]) ++ List.replicate (3 - (lg_sl ([.ref ob, .int a1, .int a2])).length) Slot.unset).toArray = ls at hl ⊢
  have hl : lv_has ls 3 [(0, .ref ob), (1, .int a1), (2, .int a2)] := hl
  refine lv_aload_n hx hb dX7_hasPair_0 rfl (lv_at hl 0 rfl) ?_
  refine lv_iload_n hx hb dX7_hasPair_1 rfl (lv_at hl 1 rfl) ?_
  refine cutW 25 (fun H locs ls st => st = [] ∧ vPD G A H [(ce_X7 ob ob_houses ob_fresh ob_introducers ob_x ob_y ob_rank ob_weekday ob_from ob_to ob_came ob_bride ob_told)] ∧ va_S A s.heap H locs ∧ lv_has ls 3 []) ?_ (fun J_25_1007 => ?_)
  · rintro H locs ls st ⟨rfl, ⟨hP, hD⟩, hS, hl⟩
    refine lv_iconst (v := 0) hx hb dX7_hasPair_25 (by decide) ?_
    exact W.zret (v := 0) hx hb hr rfl (fun t ht hW => ⟨⟨0, _, rfl, Or.inl (⟨rfl, rfl⟩), by rw [ht]; exact hP, hD⟩, hS.F ht⟩) hS.2.2 dX7_hasPair_26
  · skip
    refine cVim (As := [.int a1]) (rest := []) ⟨hx, hb, hml, hown, hw0⟩ hA hK hP hD hS [true] (sX7_has l G y _ ob a1 ob_houses ob_fresh ob_introducers ob_x ob_y ob_rank ob_weekday ob_from ob_to ob_came ob_bride ob_told p_ob_houses) rfl ⟨(callB_of 1 hw0 (gA m_1075) rfl rfl rfl (hw0 _ m_746) (hw0 _ m_1077) cb_X7_has ⟨Nat.le_of_ble_eq_true rfl, Nat.le_of_ble_eq_true rfl⟩), (hw0 _ m_862), (hw0 _ m_863)⟩ (ci := 7) (q := (RX7, TX7, 12)) rfl rfl rfl hl.1 (Nat.le_of_ble_eq_true rfl) dX7_hasPair_2 ⟨Nat.le_of_ble_eq_true rfl, Nat.le_of_ble_eq_true rfl⟩ (fun r_1008 w_1008 H locs hw_1008 hP hD hS => ?_)
    rcases hw_1008 with ⟨rfl, rfl⟩ | ⟨h_1009, h_1010, rfl, rfl⟩
    · skip
      obtain ⟨hP, hD⟩ : vPD G A H [(ce_X7 ob ob_houses ob_fresh ob_introducers ob_x ob_y ob_rank ob_weekday ob_from ob_to ob_came ob_bride ob_told)] := ⟨hP, hD⟩
      refine lv_if_eq (tgt := 25) hx hb dX7_hasPair_5 (by decide) (fun _ => ?_) (fun c9 => absurd (by decide) c9)
      exact J_25_1007 _ _ _ _ ⟨rfl, ⟨hP, hD⟩, hS, lv_sub hl [] rfl⟩
    · skip
      obtain ⟨hP, hD⟩ : vPD G A H [(ce_X7 ob ob_houses ob_fresh ob_introducers ob_x ob_y ob_rank ob_weekday ob_from ob_to ob_came ob_bride ob_told)] := ⟨hP, hD⟩
      refine lv_if_eq (tgt := 25) hx hb dX7_hasPair_5 (by decide) (fun c9 => absurd c9 (by decide)) (fun _ => ?_)
      refine lv_aload_n hx hb dX7_hasPair_8 rfl (lv_at hl 0 rfl) ?_
      refine lv_iload_n hx hb dX7_hasPair_9 rfl (lv_at hl 2 rfl) ?_
      refine cVim (As := [.int a2]) (rest := []) ⟨hx, hb, hml, hown, hw0⟩ hA hK hP hD hS [true] (sX7_has l G y _ ob a2 ob_houses ob_fresh ob_introducers ob_x ob_y ob_rank ob_weekday ob_from ob_to ob_came ob_bride ob_told (bw (0) (16) h_1010 (by decide))) rfl ⟨(callB_of 1 hw0 (gA m_1075) rfl rfl rfl (hw0 _ m_746) (hw0 _ m_1077) cb_X7_has ⟨Nat.le_of_ble_eq_true rfl, Nat.le_of_ble_eq_true rfl⟩), (hw0 _ m_862), (hw0 _ m_863)⟩ (ci := 7) (q := (RX7, TX7, 12)) rfl rfl rfl hl.1 (Nat.le_of_ble_eq_true rfl) dX7_hasPair_10 ⟨Nat.le_of_ble_eq_true rfl, Nat.le_of_ble_eq_true rfl⟩ (fun r_1011 w_1011 H locs hw_1011 hP hD hS => ?_)
      rcases hw_1011 with ⟨rfl, rfl⟩ | ⟨h_1012, h_1013, rfl, rfl⟩
      · skip
        obtain ⟨hP, hD⟩ : vPD G A H [(ce_X7 ob ob_houses ob_fresh ob_introducers ob_x ob_y ob_rank ob_weekday ob_from ob_to ob_came ob_bride ob_told)] := ⟨hP, hD⟩
        refine lv_if_eq (tgt := 25) hx hb dX7_hasPair_13 (by decide) (fun _ => ?_) (fun c9 => absurd (by decide) c9)
        exact J_25_1007 _ _ _ _ ⟨rfl, ⟨hP, hD⟩, hS, lv_sub hl [] rfl⟩
      · skip
        obtain ⟨hP, hD⟩ : vPD G A H [(ce_X7 ob ob_houses ob_fresh ob_introducers ob_x ob_y ob_rank ob_weekday ob_from ob_to ob_came ob_bride ob_told)] := ⟨hP, hD⟩
        refine lv_if_eq (tgt := 25) hx hb dX7_hasPair_13 (by decide) (fun c9 => absurd c9 (by decide)) (fun _ => ?_)
        refine lv_iload_n hx hb dX7_hasPair_16 rfl (lv_at hl 1 rfl) ?_
        refine lv_iload_n hx hb dX7_hasPair_17 rfl (lv_at hl 2 rfl) ?_
        refine lv_icmp_eq (tgt := 25) hx hb dX7_hasPair_18 (by decide) (fun c_1014 => ?_) (fun c_1014 => ?_)
        · skip
          have nc_1014 := nb_eq (0) (15) c_1014 h_1009 h_1012 (by decide)
          exact J_25_1007 _ _ _ _ ⟨rfl, ⟨hP, hD⟩, hS, lv_sub hl [] rfl⟩
        · skip
          refine lv_iconst (v := 1) hx hb dX7_hasPair_21 (by decide) ?_
          refine lv_goto (tgt := 26) hx hb dX7_hasPair_22 (by decide) ?_
          exact W.zret (v := 1) hx hb hr rfl (fun t ht hW => ⟨⟨1, _, rfl, Or.inr (⟨h_1009, h_1012, h_1010, rfl, rfl⟩), by rw [ht]; exact hP, hD⟩, hS.F ht⟩) hS.2.2 dX7_hasPair_26

set_option maxHeartbeats 4000000 in
set_option maxRecDepth 100000 in
theorem sX7_isThere (l : Launch) (G : va_G) (y : Nat → ClassId) (sz : Nat) (ob : Nat) (a1 : Int32) (a2 : Int32) (ob_houses : Int32) (ob_fresh : Int32) (ob_introducers : Int32) (ob_x : Nat) (ob_y : Nat) (ob_rank : Nat) (ob_weekday : Nat) (ob_from : Nat) (ob_to : Nat) (ob_came : Nat) (ob_bride : Nat) (ob_told : Nat) (fob_came : Nat → Int32) (p_ob_houses : (0 : Int) ≤ ob_houses.toInt ∧ ob_houses.toInt ≤ 16) (p_a1 : (0 : Int) ≤ a1.toInt ∧ a1.toInt ≤ 15) : Met l yX7_isThere (Cond.code yX7_isThere cX7_isThere 3 (some .boolean) :: wAll) ({ frames := 0, cells := 0, slots := 0, locals := 0 }) (va_Pc [.ref ob, .int a1, .int a2] (kp G y sz [(ce_X7 ob ob_houses ob_fresh ob_introducers ob_x ob_y ob_rank ob_weekday ob_from ob_to ob_came ob_bride ob_told), (ce_i16 y ob_came fob_came)])) (va_Qi (fun (r : Int32) (w : va_W) => (r = 0 ∧ w = [(ce_X7 ob ob_houses ob_fresh ob_introducers ob_x ob_y ob_rank ob_weekday ob_from ob_to ob_came ob_bride ob_told), (ce_i16 y ob_came fob_came)]) ∨ (r = 1 ∧ w = [(ce_X7 ob ob_houses ob_fresh ob_introducers ob_x ob_y ob_rank ob_weekday ob_from ob_to ob_came ob_bride ob_told), (ce_i16 y ob_came fob_came)])) (kq G (va_A [(ce_X7 ob ob_houses ob_fresh ob_introducers ob_x ob_y ob_rank ob_weekday ob_from ob_to ob_came ob_bride ob_told), (ce_i16 y ob_came fob_came)] sz)) (va_A [(ce_X7 ob ob_houses ob_fresh ob_introducers ob_x ob_y ob_rank ob_weekday ob_from ob_to ob_came ob_bride ob_told), (ce_i16 y ob_came fob_came)] sz)) 0 0 (va_A [(ce_X7 ob ob_houses ob_fresh ob_introducers ob_x ob_y ob_rank ob_weekday ob_from ob_to ob_came ob_bride ob_told), (ce_i16 y ob_came fob_came)] sz) := by
  refine Met.ofW (cc := cX7_isThere) (maxL := 3) (ret := (some .boolean)) (by decide) rfl ?_
  intro p e s m args below meth c s₁ B hml hv
  obtain ⟨rfl, hsz, hP, hK, hD0⟩ := hv
  have hx := B.exec
  have hb := B.bytes
  have hr := B.returns
  have hw0 : ∀ w ∈ wAll, w.before _ s = true := fun w h => atoms_spec (ws := Cond.code yX7_isThere cX7_isThere 3 (some .boolean) :: wAll) B.pre w (List.mem_cons_of_mem _ h)
  have hown : s.vm.findClass RX7 = some m.cls := findClass_of_methodNamed B.named
  subst hsz
  have hD := hD0.self (sz := s.heap.size)
  generalize hAe : va_A [(ce_X7 ob ob_houses ob_fresh ob_introducers ob_x ob_y ob_rank ob_weekday ob_from ob_to ob_came ob_bride ob_told), (ce_i16 y ob_came fob_came)] s.heap.size = A at hD ⊢
  have hA : ∀ q : Nat, s.heap.size ≤ q → A q := fun q h => by rw [← hAe]; exact Or.inr h
  have hS : va_S A s.heap s.heap [] := va_S.rf
  have hP : va_P G vwCl [(ce_X7 ob ob_houses ob_fresh ob_introducers ob_x ob_y ob_rank ob_weekday ob_from ob_to ob_came ob_bride ob_told), (ce_i16 y ob_came fob_came)] s.heap := hP
  have hl := lv_entry ([.ref ob, .int a1, .int a2]) (n := 3) (Nat.le_of_ble_eq_true rfl)
  rw [lg_entry_eq]
  generalize (lg_sl ([.ref ob, .int a1, .int a2]) ++ List.replicate (3 - (lg_sl ([.ref ob, .int a1, .int a2])).length) Slot.unset).toArray = ls at hl ⊢
  have hl : lv_has ls 3 [(0, .ref ob), (1, .int a1), (2, .int a2)] := hl
  refine lv_iload_n hx hb dX7_isThere_0 rfl (lv_at hl 2 rfl) ?_
  refine lv_aload_n hx hb dX7_isThere_1 rfl (lv_at hl 0 rfl) ?_
  refine va_get (D := G) (ci := 7) (v := .ref ob_came) (C := RX7) (T := TX7) (N := 12) hx hb hw0 inA_wsX70 hown hK.1 hP 0 rfl rfl 9 (by decide) (hw0 _ m_1073) (fun _ h9 => h9) rfl dX7_isThere_2 ?_
  refine lv_iload_n hx hb dX7_isThere_5 rfl (lv_at hl 1 rfl) ?_
  refine va_iald hx hb hK.1 hP 1 1 rfl rfl (vi p_a1 (by decide)) dX7_isThere_6 ?_
  refine lv_topi (fun v_1001 ev_1001 => ?_)
  refine lv_icmp_lt (tgt := 14) hx hb dX7_isThere_7 (by decide) (fun c_1002 => ?_) (fun c_1002 => ?_)
  · skip
    have nc_1002 := nb_lt (2147483646) (-2147483647) c_1002 (btop a2) (btop v_1001) (by decide)
    refine lv_iconst (v := 0) hx hb dX7_isThere_14 (by decide) ?_
    exact W.zret (v := 0) hx hb hr rfl (fun t ht hW => ⟨⟨0, _, rfl, Or.inl (⟨rfl, rfl⟩), by rw [ht]; exact hP, hD⟩, hS.F ht⟩) hS.2.2 dX7_isThere_15
  · skip
    have nc_1002 := nb_nlt (2147483647) (-2147483648) c_1002 (btop v_1001) (btop a2) (by decide)
    refine lv_iconst (v := 1) hx hb dX7_isThere_10 (by decide) ?_
    refine lv_goto (tgt := 15) hx hb dX7_isThere_11 (by decide) ?_
    exact W.zret (v := 1) hx hb hr rfl (fun t ht hW => ⟨⟨1, _, rfl, Or.inr (⟨rfl, rfl⟩), by rw [ht]; exact hP, hD⟩, hS.F ht⟩) hS.2.2 dX7_isThere_15

set_option maxHeartbeats 4000000 in
set_option maxRecDepth 100000 in
theorem sX7_isNew (l : Launch) (G : va_G) (y : Nat → ClassId) (sz : Nat) (ob : Nat) (a1 : Int32) (a2 : Int32) (ob_houses : Int32) (ob_fresh : Int32) (ob_introducers : Int32) (ob_x : Nat) (ob_y : Nat) (ob_rank : Nat) (ob_weekday : Nat) (ob_from : Nat) (ob_to : Nat) (ob_came : Nat) (ob_bride : Nat) (ob_told : Nat) (fob_came : Nat → Int32) (p_ob_houses : (0 : Int) ≤ ob_houses.toInt ∧ ob_houses.toInt ≤ 16) (p_a1 : (0 : Int) ≤ a1.toInt ∧ a1.toInt ≤ 15) : Met l yX7_isNew (Cond.code yX7_isNew cX7_isNew 3 (some .boolean) :: wAll) ({ frames := 0, cells := 0, slots := 0, locals := 0 }) (va_Pc [.ref ob, .int a1, .int a2] (kp G y sz [(ce_X7 ob ob_houses ob_fresh ob_introducers ob_x ob_y ob_rank ob_weekday ob_from ob_to ob_came ob_bride ob_told), (ce_i16 y ob_came fob_came)])) (va_Qi (fun (r : Int32) (w : va_W) => (r = 0 ∧ w = [(ce_X7 ob ob_houses ob_fresh ob_introducers ob_x ob_y ob_rank ob_weekday ob_from ob_to ob_came ob_bride ob_told), (ce_i16 y ob_came fob_came)]) ∨ (r = 1 ∧ w = [(ce_X7 ob ob_houses ob_fresh ob_introducers ob_x ob_y ob_rank ob_weekday ob_from ob_to ob_came ob_bride ob_told), (ce_i16 y ob_came fob_came)])) (kq G (va_A [(ce_X7 ob ob_houses ob_fresh ob_introducers ob_x ob_y ob_rank ob_weekday ob_from ob_to ob_came ob_bride ob_told), (ce_i16 y ob_came fob_came)] sz)) (va_A [(ce_X7 ob ob_houses ob_fresh ob_introducers ob_x ob_y ob_rank ob_weekday ob_from ob_to ob_came ob_bride ob_told), (ce_i16 y ob_came fob_came)] sz)) 0 0 (va_A [(ce_X7 ob ob_houses ob_fresh ob_introducers ob_x ob_y ob_rank ob_weekday ob_from ob_to ob_came ob_bride ob_told), (ce_i16 y ob_came fob_came)] sz) := by
  refine Met.ofW (cc := cX7_isNew) (maxL := 3) (ret := (some .boolean)) (by decide) rfl ?_
  intro p e s m args below meth c s₁ B hml hv
  obtain ⟨rfl, hsz, hP, hK, hD0⟩ := hv
  have hx := B.exec
  have hb := B.bytes
  have hr := B.returns
  have hw0 : ∀ w ∈ wAll, w.before _ s = true := fun w h => atoms_spec (ws := Cond.code yX7_isNew cX7_isNew 3 (some .boolean) :: wAll) B.pre w (List.mem_cons_of_mem _ h)
  have hown : s.vm.findClass RX7 = some m.cls := findClass_of_methodNamed B.named
  subst hsz
  have hD := hD0.self (sz := s.heap.size)
  generalize hAe : va_A [(ce_X7 ob ob_houses ob_fresh ob_introducers ob_x ob_y ob_rank ob_weekday ob_from ob_to ob_came ob_bride ob_told), (ce_i16 y ob_came fob_came)] s.heap.size = A at hD ⊢
  have hA : ∀ q : Nat, s.heap.size ≤ q → A q := fun q h => by rw [← hAe]; exact Or.inr h
  have hS : va_S A s.heap s.heap [] := va_S.rf
  have hP : va_P G vwCl [(ce_X7 ob ob_houses ob_fresh ob_introducers ob_x ob_y ob_rank ob_weekday ob_from ob_to ob_came ob_bride ob_told), (ce_i16 y ob_came fob_came)] s.heap := hP
  have hl := lv_entry ([.ref ob, .int a1, .int a2]) (n := 3) (Nat.le_of_ble_eq_true rfl)
  rw [lg_entry_eq]
  generalize (lg_sl ([.ref ob, .int a1, .int a2]) ++ List.replicate (3 - (lg_sl ([.ref ob, .int a1, .int a2])).length) Slot.unset).toArray = ls at hl ⊢
  have hl : lv_has ls 3 [(0, .ref ob), (1, .int a1), (2, .int a2)] := hl
  refine lv_iload_n hx hb dX7_isNew_0 rfl (lv_at hl 2 rfl) ?_
  refine lv_aload_n hx hb dX7_isNew_1 rfl (lv_at hl 0 rfl) ?_
  refine va_get (D := G) (ci := 7) (v := .ref ob_came) (C := RX7) (T := TX7) (N := 12) hx hb hw0 inA_wsX70 hown hK.1 hP 0 rfl rfl 9 (by decide) (hw0 _ m_1073) (fun _ h9 => h9) rfl dX7_isNew_2 ?_
  refine lv_iload_n hx hb dX7_isNew_5 rfl (lv_at hl 1 rfl) ?_
  refine va_iald hx hb hK.1 hP 1 1 rfl rfl (vi p_a1 (by decide)) dX7_isNew_6 ?_
  refine lv_topi (fun v_1001 ev_1001 => ?_)
  refine cutW 29 (fun H locs ls st => st = [] ∧ vPD G A H [(ce_X7 ob ob_houses ob_fresh ob_introducers ob_x ob_y ob_rank ob_weekday ob_from ob_to ob_came ob_bride ob_told), (ce_i16 y ob_came fob_came)] ∧ va_S A s.heap H locs ∧ lv_has ls 3 []) ?_ (fun J_29_1005 => ?_)
  · rintro H locs ls st ⟨rfl, ⟨hP, hD⟩, hS, hl⟩
    refine lv_iconst (v := 0) hx hb dX7_isNew_29 (by decide) ?_
    exact W.zret (v := 0) hx hb hr rfl (fun t ht hW => ⟨⟨0, _, rfl, Or.inl (⟨rfl, rfl⟩), by rw [ht]; exact hP, hD⟩, hS.F ht⟩) hS.2.2 dX7_isNew_30
  · skip
    refine lv_icmp_lt (tgt := 29) hx hb dX7_isNew_7 (by decide) (fun c_1006 => ?_) (fun c_1006 => ?_)
    · skip
      have nc_1006 := nb_lt (2147483646) (-2147483647) c_1006 (btop a2) (btop v_1001) (by decide)
      exact J_29_1005 _ _ _ _ ⟨rfl, ⟨hP, hD⟩, hS, lv_sub hl [] rfl⟩
    · skip
      have nc_1006 := nb_nlt (2147483647) (-2147483648) c_1006 (btop v_1001) (btop a2) (by decide)
      refine lv_iload_n hx hb dX7_isNew_10 rfl (lv_at hl 2 rfl) ?_
      refine lv_aload_n hx hb dX7_isNew_11 rfl (lv_at hl 0 rfl) ?_
      refine va_get (D := G) (ci := 7) (v := .ref ob_came) (C := RX7) (T := TX7) (N := 12) hx hb hw0 inA_wsX70 hown hK.1 hP 0 rfl rfl 9 (by decide) (hw0 _ m_1073) (fun _ h9 => h9) rfl dX7_isNew_12 ?_
      refine lv_iload_n hx hb dX7_isNew_15 rfl (lv_at hl 1 rfl) ?_
      refine va_iald hx hb hK.1 hP 1 1 rfl rfl (vi p_a1 (by decide)) dX7_isNew_16 ?_
      refine lv_topi (fun v_1007 ev_1007 => ?_)
      obtain rfl : v_1001 = v_1007 := (ev_1007.trans (ev_1001.symm)).symm
      refine lv_isub hx hb dX7_isNew_17 ?_
      refine lv_topi (fun v_1008 ev_1008 => ?_)
      refine lv_aload_n hx hb dX7_isNew_18 rfl (lv_at hl 0 rfl) ?_
      refine va_get (D := G) (ci := 7) (v := .int ob_fresh) (C := RX7) (T := TX7) (N := 12) hx hb hw0 inA_wsX70 hown hK.1 hP 0 rfl rfl 1 (by decide) (hw0 _ m_1061) (fun _ h9 => h9) rfl dX7_isNew_19 ?_
      refine lv_icmp_gt (tgt := 29) hx hb dX7_isNew_22 (by decide) (fun c_1009 => ?_) (fun c_1009 => ?_)
      · skip
        have nc_1009 := nb_lt (2147483646) (-2147483647) c_1009 (btop ob_fresh) (btop v_1008) (by decide)
        exact J_29_1005 _ _ _ _ ⟨rfl, ⟨hP, hD⟩, hS, lv_sub hl [] rfl⟩
      · skip
        have nc_1009 := nb_nlt (2147483647) (-2147483648) c_1009 (btop v_1008) (btop ob_fresh) (by decide)
        refine lv_iconst (v := 1) hx hb dX7_isNew_25 (by decide) ?_
        refine lv_goto (tgt := 30) hx hb dX7_isNew_26 (by decide) ?_
        exact W.zret (v := 1) hx hb hr rfl (fun t ht hW => ⟨⟨1, _, rfl, Or.inr (⟨rfl, rfl⟩), by rw [ht]; exact hP, hD⟩, hS.F ht⟩) hS.2.2 dX7_isNew_30

set_option maxHeartbeats 4000000 in
set_option maxRecDepth 100000 in
theorem sX7_waits (l : Launch) (G : va_G) (y : Nat → ClassId) (sz : Nat) (ob : Nat) (a1 : Int32) (a2 : Int32) (ob_houses : Int32) (ob_fresh : Int32) (ob_introducers : Int32) (ob_x : Nat) (ob_y : Nat) (ob_rank : Nat) (ob_weekday : Nat) (ob_from : Nat) (ob_to : Nat) (ob_came : Nat) (ob_bride : Nat) (ob_told : Nat) (fob_came : Nat → Int32) (fob_bride : Nat → Int32) (p_ob_houses : (0 : Int) ≤ ob_houses.toInt ∧ ob_houses.toInt ≤ 16) (p_a1 : (0 : Int) ≤ a1.toInt ∧ a1.toInt ≤ 15) : Met l yX7_waits (Cond.code yX7_waits cX7_waits 3 (some .boolean) :: wAll) ({ frames := 0, cells := 0, slots := 0, locals := 0 }) (va_Pc [.ref ob, .int a1, .int a2] (kp G y sz [(ce_X7 ob ob_houses ob_fresh ob_introducers ob_x ob_y ob_rank ob_weekday ob_from ob_to ob_came ob_bride ob_told), (ce_i16 y ob_came fob_came), (ce_i16 y ob_bride fob_bride)])) (va_Qi (fun (r : Int32) (w : va_W) => (r = 0 ∧ w = [(ce_X7 ob ob_houses ob_fresh ob_introducers ob_x ob_y ob_rank ob_weekday ob_from ob_to ob_came ob_bride ob_told), (ce_i16 y ob_came fob_came), (ce_i16 y ob_bride fob_bride)]) ∨ (r = 1 ∧ w = [(ce_X7 ob ob_houses ob_fresh ob_introducers ob_x ob_y ob_rank ob_weekday ob_from ob_to ob_came ob_bride ob_told), (ce_i16 y ob_came fob_came), (ce_i16 y ob_bride fob_bride)])) (kq G (va_A [(ce_X7 ob ob_houses ob_fresh ob_introducers ob_x ob_y ob_rank ob_weekday ob_from ob_to ob_came ob_bride ob_told), (ce_i16 y ob_came fob_came), (ce_i16 y ob_bride fob_bride)] sz)) (va_A [(ce_X7 ob ob_houses ob_fresh ob_introducers ob_x ob_y ob_rank ob_weekday ob_from ob_to ob_came ob_bride ob_told), (ce_i16 y ob_came fob_came), (ce_i16 y ob_bride fob_bride)] sz)) 0 0 (va_A [(ce_X7 ob ob_houses ob_fresh ob_introducers ob_x ob_y ob_rank ob_weekday ob_from ob_to ob_came ob_bride ob_told), (ce_i16 y ob_came fob_came), (ce_i16 y ob_bride fob_bride)] sz) := by
  refine Met.ofW (cc := cX7_waits) (maxL := 3) (ret := (some .boolean)) (by decide) rfl ?_
  intro p e s m args below meth c s₁ B hml hv
  obtain ⟨rfl, hsz, hP, hK, hD0⟩ := hv
  have hx := B.exec
  have hb := B.bytes
  have hr := B.returns
  have hw0 : ∀ w ∈ wAll, w.before _ s = true := fun w h => atoms_spec (ws := Cond.code yX7_waits cX7_waits 3 (some .boolean) :: wAll) B.pre w (List.mem_cons_of_mem _ h)
  have hown : s.vm.findClass RX7 = some m.cls := findClass_of_methodNamed B.named
  subst hsz
  have hD := hD0.self (sz := s.heap.size)
  generalize hAe : va_A [(ce_X7 ob ob_houses ob_fresh ob_introducers ob_x ob_y ob_rank ob_weekday ob_from ob_to ob_came ob_bride ob_told), (ce_i16 y ob_came fob_came), (ce_i16 y ob_bride fob_bride)] s.heap.size = A at hD ⊢
  have hA : ∀ q : Nat, s.heap.size ≤ q → A q := fun q h => by rw [← hAe]; exact Or.inr h
  have hS : va_S A s.heap s.heap [] := va_S.rf
  have hP : va_P G vwCl [(ce_X7 ob ob_houses ob_fresh ob_introducers ob_x ob_y ob_rank ob_weekday ob_from ob_to ob_came ob_bride ob_told), (ce_i16 y ob_came fob_came), (ce_i16 y ob_bride fob_bride)] s.heap := hP
  have hl := lv_entry ([.ref ob, .int a1, .int a2]) (n := 3) (Nat.le_of_ble_eq_true rfl)
  rw [lg_entry_eq]
  generalize (lg_sl ([.ref ob, .int a1, .int a2]) ++ List.replicate (3 - (lg_sl ([.ref ob, .int a1, .int a2])).length) Slot.unset).toArray = ls at hl ⊢
  have hl : lv_has ls 3 [(0, .ref ob), (1, .int a1), (2, .int a2)] := hl
  refine lv_aload_n hx hb dX7_waits_0 rfl (lv_at hl 0 rfl) ?_
  refine va_get (D := G) (ci := 7) (v := .ref ob_bride) (C := RX7) (T := TX7) (N := 12) hx hb hw0 inA_wsX70 hown hK.1 hP 0 rfl rfl 10 (by decide) (hw0 _ m_1074) (fun _ h9 => h9) rfl dX7_waits_1 ?_
  refine lv_iload_n hx hb dX7_waits_4 rfl (lv_at hl 1 rfl) ?_
  refine va_iald hx hb hK.1 hP 2 1 rfl rfl (vi p_a1 (by decide)) dX7_waits_5 ?_
  refine lv_topi (fun v_1001 ev_1001 => ?_)
  refine cutW 30 (fun H locs ls st => st = [] ∧ vPD G A H [(ce_X7 ob ob_houses ob_fresh ob_introducers ob_x ob_y ob_rank ob_weekday ob_from ob_to ob_came ob_bride ob_told), (ce_i16 y ob_came fob_came), (ce_i16 y ob_bride fob_bride)] ∧ va_S A s.heap H locs ∧ lv_has ls 3 []) ?_ (fun J_30_1006 => ?_)
  · rintro H locs ls st ⟨rfl, ⟨hP, hD⟩, hS, hl⟩
    refine lv_iconst (v := 0) hx hb dX7_waits_30 (by decide) ?_
    exact W.zret (v := 0) hx hb hr rfl (fun t ht hW => ⟨⟨0, _, rfl, Or.inl (⟨rfl, rfl⟩), by rw [ht]; exact hP, hD⟩, hS.F ht⟩) hS.2.2 dX7_waits_31
  · skip
    refine lv_if_le (tgt := 30) hx hb dX7_waits_6 (by decide) (fun c_1007 => ?_) (fun c_1007 => ?_)
    · skip
      have nc_1007 := nb_le (0) (0) c_1007 (btop v_1001) (bkc (x := 0) (c := 0) (by decide)) (by decide)
      exact J_30_1006 _ _ _ _ ⟨rfl, ⟨hP, hD⟩, hS, lv_sub hl [] rfl⟩
    · skip
      have nc_1007 := nb_nle (0) (1) c_1007 (bkc (x := 0) (c := 0) (by decide)) (btop v_1001) (by decide)
      refine lv_iload_n hx hb dX7_waits_9 rfl (lv_at hl 2 rfl) ?_
      refine lv_aload_n hx hb dX7_waits_10 rfl (lv_at hl 0 rfl) ?_
      refine va_get (D := G) (ci := 7) (v := .ref ob_came) (C := RX7) (T := TX7) (N := 12) hx hb hw0 inA_wsX70 hown hK.1 hP 0 rfl rfl 9 (by decide) (hw0 _ m_1073) (fun _ h9 => h9) rfl dX7_waits_11 ?_
      refine lv_iload_n hx hb dX7_waits_14 rfl (lv_at hl 1 rfl) ?_
      refine va_iald hx hb hK.1 hP 1 1 rfl rfl (vi p_a1 (by decide)) dX7_waits_15 ?_
      refine lv_topi (fun v_1008 ev_1008 => ?_)
      refine lv_isub hx hb dX7_waits_16 ?_
      refine lv_topi (fun v_1009 ev_1009 => ?_)
      refine lv_aload_n hx hb dX7_waits_17 rfl (lv_at hl 0 rfl) ?_
      refine va_get (D := G) (ci := 7) (v := .ref ob_bride) (C := RX7) (T := TX7) (N := 12) hx hb hw0 inA_wsX70 hown hK.1 hP 0 rfl rfl 10 (by decide) (hw0 _ m_1074) (fun _ h9 => h9) rfl dX7_waits_18 ?_
      refine lv_iload_n hx hb dX7_waits_21 rfl (lv_at hl 1 rfl) ?_
      refine va_iald hx hb hK.1 hP 2 1 rfl rfl (vi p_a1 (by decide)) dX7_waits_22 ?_
      refine lv_topi (fun v_1010 ev_1010 => ?_)
      obtain rfl : v_1001 = v_1010 := (ev_1010.trans (ev_1001.symm)).symm
      refine lv_icmp_gt (tgt := 30) hx hb dX7_waits_23 (by decide) (fun c_1011 => ?_) (fun c_1011 => ?_)
      · skip
        have nc_1011 := nb_lt (2147483646) (2) c_1011 nc_1007.2.1 (btop v_1009) (by decide)
        exact J_30_1006 _ _ _ _ ⟨rfl, ⟨hP, hD⟩, hS, lv_sub hl [] rfl⟩
      · skip
        have nc_1011 := nb_nlt (2147483647) (1) c_1011 (btop v_1009) nc_1007.2.1 (by decide)
        refine lv_iconst (v := 1) hx hb dX7_waits_26 (by decide) ?_
        refine lv_goto (tgt := 31) hx hb dX7_waits_27 (by decide) ?_
        exact W.zret (v := 1) hx hb hr rfl (fun t ht hW => ⟨⟨1, _, rfl, Or.inr (⟨rfl, rfl⟩), by rw [ht]; exact hP, hD⟩, hS.F ht⟩) hS.2.2 dX7_waits_31

set_option maxHeartbeats 4000000 in
set_option maxRecDepth 100000 in
theorem sX7_minutes (l : Launch) (G : va_G) (y : Nat → ClassId) (sz : Nat) (ob : Nat) (a1 : Int32) (a2 : Int32) (ob_houses : Int32) (ob_fresh : Int32) (ob_introducers : Int32) (ob_x : Nat) (ob_y : Nat) (ob_rank : Nat) (ob_weekday : Nat) (ob_from : Nat) (ob_to : Nat) (ob_came : Nat) (ob_bride : Nat) (ob_told : Nat) (fob_x : Nat → Int32) (fob_y : Nat → Int32) (p_ob_houses : (0 : Int) ≤ ob_houses.toInt ∧ ob_houses.toInt ≤ 16) (p_a1 : (0 : Int) ≤ a1.toInt ∧ a1.toInt ≤ 15) (p_a2 : (0 : Int) ≤ a2.toInt ∧ a2.toInt ≤ 15) : Met l yX7_minutes (Cond.code yX7_minutes cX7_minutes 3 (some .int) :: wAll) ({ frames := 1, cells := 0, slots := 0, locals := 20 }) (va_Pc [.ref ob, .int a1, .int a2] (kp G y sz [(ce_X7 ob ob_houses ob_fresh ob_introducers ob_x ob_y ob_rank ob_weekday ob_from ob_to ob_came ob_bride ob_told), (ce_i16 y ob_x fob_x), (ce_i16 y ob_y fob_y)])) (va_Qi (fun (r : Int32) (w : va_W) => (∃ (v_19 : Int32), r = v_19 ∧ w = [(ce_X7 ob ob_houses ob_fresh ob_introducers ob_x ob_y ob_rank ob_weekday ob_from ob_to ob_came ob_bride ob_told), (ce_i16 y ob_x fob_x), (ce_i16 y ob_y fob_y)])) (kq G (va_A [(ce_X7 ob ob_houses ob_fresh ob_introducers ob_x ob_y ob_rank ob_weekday ob_from ob_to ob_came ob_bride ob_told), (ce_i16 y ob_x fob_x), (ce_i16 y ob_y fob_y)] sz)) (va_A [(ce_X7 ob ob_houses ob_fresh ob_introducers ob_x ob_y ob_rank ob_weekday ob_from ob_to ob_came ob_bride ob_told), (ce_i16 y ob_x fob_x), (ce_i16 y ob_y fob_y)] sz)) 0 0 (va_A [(ce_X7 ob ob_houses ob_fresh ob_introducers ob_x ob_y ob_rank ob_weekday ob_from ob_to ob_came ob_bride ob_told), (ce_i16 y ob_x fob_x), (ce_i16 y ob_y fob_y)] sz) := by
  refine Met.ofW (cc := cX7_minutes) (maxL := 3) (ret := (some .int)) (by decide) rfl ?_
  intro p e s m args below meth c s₁ B hml hv
  obtain ⟨rfl, hsz, hP, hK, hD0⟩ := hv
  have hx := B.exec
  have hb := B.bytes
  have hr := B.returns
  have hw0 : ∀ w ∈ wAll, w.before _ s = true := fun w h => atoms_spec (ws := Cond.code yX7_minutes cX7_minutes 3 (some .int) :: wAll) B.pre w (List.mem_cons_of_mem _ h)
  have hown : s.vm.findClass RX7 = some m.cls := findClass_of_methodNamed B.named
  subst hsz
  have hD := hD0.self (sz := s.heap.size)
  generalize hAe : va_A [(ce_X7 ob ob_houses ob_fresh ob_introducers ob_x ob_y ob_rank ob_weekday ob_from ob_to ob_came ob_bride ob_told), (ce_i16 y ob_x fob_x), (ce_i16 y ob_y fob_y)] s.heap.size = A at hD ⊢
  have hA : ∀ q : Nat, s.heap.size ≤ q → A q := fun q h => by rw [← hAe]; exact Or.inr h
  have hS : va_S A s.heap s.heap [] := va_S.rf
  have hP : va_P G vwCl [(ce_X7 ob ob_houses ob_fresh ob_introducers ob_x ob_y ob_rank ob_weekday ob_from ob_to ob_came ob_bride ob_told), (ce_i16 y ob_x fob_x), (ce_i16 y ob_y fob_y)] s.heap := hP
  have hl := lv_entry ([.ref ob, .int a1, .int a2]) (n := 3) (Nat.le_of_ble_eq_true rfl)
  rw [lg_entry_eq]
  generalize (lg_sl ([.ref ob, .int a1, .int a2]) ++ List.replicate (3 - (lg_sl ([.ref ob, .int a1, .int a2])).length) Slot.unset).toArray = ls at hl ⊢
  have hl : lv_has ls 3 [(0, .ref ob), (1, .int a1), (2, .int a2)] := hl
  refine lv_aload_n hx hb dX7_minutes_0 rfl (lv_at hl 0 rfl) ?_
  refine va_get (D := G) (ci := 7) (v := .ref ob_x) (C := RX7) (T := TX7) (N := 12) hx hb hw0 inA_wsX70 hown hK.1 hP 0 rfl rfl 3 (by decide) (hw0 _ m_1066) (fun _ h9 => h9) rfl dX7_minutes_1 ?_
  refine lv_iload_n hx hb dX7_minutes_4 rfl (lv_at hl 1 rfl) ?_
  refine va_iald hx hb hK.1 hP 1 1 rfl rfl (vi p_a1 (by decide)) dX7_minutes_5 ?_
  refine lv_topi (fun v_1001 ev_1001 => ?_)
  refine lv_aload_n hx hb dX7_minutes_6 rfl (lv_at hl 0 rfl) ?_
  refine va_get (D := G) (ci := 7) (v := .ref ob_x) (C := RX7) (T := TX7) (N := 12) hx hb hw0 inA_wsX70 hown hK.1 hP 0 rfl rfl 3 (by decide) (hw0 _ m_1066) (fun _ h9 => h9) rfl dX7_minutes_7 ?_
  refine lv_iload_n hx hb dX7_minutes_10 rfl (lv_at hl 2 rfl) ?_
  refine va_iald hx hb hK.1 hP 1 1 rfl rfl (vi p_a2 (by decide)) dX7_minutes_11 ?_
  refine lv_topi (fun v_1002 ev_1002 => ?_)
  refine lv_isub hx hb dX7_minutes_12 ?_
  refine lv_topi (fun v_1003 ev_1003 => ?_)
  refine va_mabs (own := RX7) hx hb (by rw [hml]; exact hl.1.symm) hown (hw0 _ m_1083) (hw0 _ m_562) (hw0 _ m_283) (hw0 _ m_563) (Nat.le_of_ble_eq_true rfl) (Nat.le_of_ble_eq_true rfl) (Nat.zero_le _) (Nat.zero_le _) dX7_minutes_13 ?_
  refine lv_topi (fun v_1004 ev_1004 => ?_)
  refine lv_aload_n hx hb dX7_minutes_16 rfl (lv_at hl 0 rfl) ?_
  refine va_get (D := G) (ci := 7) (v := .ref ob_y) (C := RX7) (T := TX7) (N := 12) hx hb hw0 inA_wsX70 hown hK.1 hP 0 rfl rfl 4 (by decide) (hw0 _ m_1068) (fun _ h9 => h9) rfl dX7_minutes_17 ?_
  refine lv_iload_n hx hb dX7_minutes_20 rfl (lv_at hl 1 rfl) ?_
  refine va_iald hx hb hK.1 hP 2 1 rfl rfl (vi p_a1 (by decide)) dX7_minutes_21 ?_
  refine lv_topi (fun v_1005 ev_1005 => ?_)
  refine lv_aload_n hx hb dX7_minutes_22 rfl (lv_at hl 0 rfl) ?_
  refine va_get (D := G) (ci := 7) (v := .ref ob_y) (C := RX7) (T := TX7) (N := 12) hx hb hw0 inA_wsX70 hown hK.1 hP 0 rfl rfl 4 (by decide) (hw0 _ m_1068) (fun _ h9 => h9) rfl dX7_minutes_23 ?_
  refine lv_iload_n hx hb dX7_minutes_26 rfl (lv_at hl 2 rfl) ?_
  refine va_iald hx hb hK.1 hP 2 1 rfl rfl (vi p_a2 (by decide)) dX7_minutes_27 ?_
  refine lv_topi (fun v_1006 ev_1006 => ?_)
  refine lv_isub hx hb dX7_minutes_28 ?_
  refine lv_topi (fun v_1007 ev_1007 => ?_)
  refine va_mabs (own := RX7) hx hb (by rw [hml]; exact hl.1.symm) hown (hw0 _ m_1083) (hw0 _ m_562) (hw0 _ m_283) (hw0 _ m_563) (Nat.le_of_ble_eq_true rfl) (Nat.le_of_ble_eq_true rfl) (Nat.zero_le _) (Nat.zero_le _) dX7_minutes_29 ?_
  refine lv_topi (fun v_1008 ev_1008 => ?_)
  refine lv_iadd hx hb dX7_minutes_32 ?_
  refine lv_topi (fun v_1009 ev_1009 => ?_)
  exact W.iret (v := v_1009) hx hb hr (fun t ht hW => ⟨⟨v_1009, _, rfl, ⟨v_1009, rfl, rfl⟩, by rw [ht]; exact hP, hD⟩, hS.F ht⟩) hS.2.2 dX7_minutes_33

set_option maxHeartbeats 4000000 in
set_option maxRecDepth 100000 in
theorem sX1_kindsOf (l : Launch) (G : va_G) (y : Nat → ClassId) (sz : Nat) (ob : Nat) (a1 : Int32) (a2 : Int32) (ob_size : Int32) (ob_debtor : Nat) (ob_creditor : Nat) (ob_kind : Nat) (ob_due : Nat) (ob_came : Nat) (ob_open : Nat) (ob_kinds : Nat) (fob_kinds : Nat → Int32) (p_ob_size : (0 : Int) ≤ ob_size.toInt ∧ ob_size.toInt ≤ 600) (p_a1 : (0 : Int) ≤ a1.toInt ∧ a1.toInt ≤ 15) (p_a2 : (0 : Int) ≤ a2.toInt ∧ a2.toInt ≤ 15) : Met l yX1_kindsOf (Cond.code yX1_kindsOf cX1_kindsOf 3 (some .int) :: wAll) ({ frames := 0, cells := 0, slots := 0, locals := 0 }) (va_Pc [.ref ob, .int a1, .int a2] (kp G y sz [(ce_X1 ob ob_size ob_debtor ob_creditor ob_kind ob_due ob_came ob_open ob_kinds), (ce_i256 y ob_kinds fob_kinds)])) (va_Qi (fun (r : Int32) (w : va_W) => (∃ (v_7 : Int32), r = v_7 ∧ w = [(ce_X1 ob ob_size ob_debtor ob_creditor ob_kind ob_due ob_came ob_open ob_kinds), (ce_i256 y ob_kinds fob_kinds)])) (kq G (va_A [(ce_X1 ob ob_size ob_debtor ob_creditor ob_kind ob_due ob_came ob_open ob_kinds), (ce_i256 y ob_kinds fob_kinds)] sz)) (va_A [(ce_X1 ob ob_size ob_debtor ob_creditor ob_kind ob_due ob_came ob_open ob_kinds), (ce_i256 y ob_kinds fob_kinds)] sz)) 0 0 (va_A [(ce_X1 ob ob_size ob_debtor ob_creditor ob_kind ob_due ob_came ob_open ob_kinds), (ce_i256 y ob_kinds fob_kinds)] sz) := by
  refine Met.ofW (cc := cX1_kindsOf) (maxL := 3) (ret := (some .int)) (by decide) rfl ?_
  intro p e s m args below meth c s₁ B hml hv
  obtain ⟨rfl, hsz, hP, hK, hD0⟩ := hv
  have hx := B.exec
  have hb := B.bytes
  have hr := B.returns
  have hw0 : ∀ w ∈ wAll, w.before _ s = true := fun w h => atoms_spec (ws := Cond.code yX1_kindsOf cX1_kindsOf 3 (some .int) :: wAll) B.pre w (List.mem_cons_of_mem _ h)
  have hown : s.vm.findClass RX1 = some m.cls := findClass_of_methodNamed B.named
  subst hsz
  have hD := hD0.self (sz := s.heap.size)
  generalize hAe : va_A [(ce_X1 ob ob_size ob_debtor ob_creditor ob_kind ob_due ob_came ob_open ob_kinds), (ce_i256 y ob_kinds fob_kinds)] s.heap.size = A at hD ⊢
  have hA : ∀ q : Nat, s.heap.size ≤ q → A q := fun q h => by rw [← hAe]; exact Or.inr h
  have hS : va_S A s.heap s.heap [] := va_S.rf
  have hP : va_P G vwCl [(ce_X1 ob ob_size ob_debtor ob_creditor ob_kind ob_due ob_came ob_open ob_kinds), (ce_i256 y ob_kinds fob_kinds)] s.heap := hP
  have hl := lv_entry ([.ref ob, .int a1, .int a2]) (n := 3) (Nat.le_of_ble_eq_true rfl)
  rw [lg_entry_eq]
  generalize (lg_sl ([.ref ob, .int a1, .int a2]) ++ List.replicate (3 - (lg_sl ([.ref ob, .int a1, .int a2])).length) Slot.unset).toArray = ls at hl ⊢
  have hl : lv_has ls 3 [(0, .ref ob), (1, .int a1), (2, .int a2)] := hl
  refine lv_aload_n hx hb dX1_kindsOf_0 rfl (lv_at hl 0 rfl) ?_
  refine va_get (D := G) (ci := 1) (v := .ref ob_kinds) (C := RX1) (T := TX1) (N := 8) hx hb hw0 inA_wsX10 hown hK.1 hP 0 rfl rfl 7 (by decide) (hw0 _ m_314) (fun _ h9 => h9) rfl dX1_kindsOf_1 ?_
  refine lv_iload_n hx hb dX1_kindsOf_4 rfl (lv_at hl 1 rfl) ?_
  refine lv_bipush (v := 16) hx hb dX1_kindsOf_5 (by decide) ?_
  refine lv_imul hx hb dX1_kindsOf_7 ?_
  refine lv_topi (fun v_1001 ev_1001 => ?_)
  have qv_1001 := ba_mul 16 ev_1001 p_a1 (by decide) (by decide) (by decide)
  have bv_1001 : (0 : Int) ≤ v_1001.toInt ∧ v_1001.toInt ≤ 240 := qv_1001.2
  refine lv_iload_n hx hb dX1_kindsOf_8 rfl (lv_at hl 2 rfl) ?_
  refine lv_iadd hx hb dX1_kindsOf_9 ?_
  refine lv_topi (fun v_1002 ev_1002 => ?_)
  have qv_1002 := ba_add ev_1002 bv_1001 p_a2 (by decide)
  have bv_1002 : (0 : Int) ≤ v_1002.toInt ∧ v_1002.toInt ≤ 255 := bq_add qv_1002 bv_1001 p_a2 _ _ (by decide)
  refine va_iald hx hb hK.1 hP 1 1 rfl rfl (vi bv_1002 (by decide)) dX1_kindsOf_10 ?_
  refine lv_topi (fun v_1003 ev_1003 => ?_)
  exact W.iret (v := v_1003) hx hb hr (fun t ht hW => ⟨⟨v_1003, _, rfl, ⟨v_1003, rfl, rfl⟩, by rw [ht]; exact hP, hD⟩, hS.F ht⟩) hS.2.2 dX1_kindsOf_11

set_option maxHeartbeats 4000000 in
set_option maxRecDepth 100000 in
theorem sX1_overdue (l : Launch) (G : va_G) (y : Nat → ClassId) (sz : Nat) (ob : Nat) (a1 : Int32) (ob_size : Int32) (ob_debtor : Nat) (ob_creditor : Nat) (ob_kind : Nat) (ob_due : Nat) (ob_came : Nat) (ob_open : Nat) (ob_kinds : Nat) (fob_due : Nat → Int32) (p_ob_size : (0 : Int) ≤ ob_size.toInt ∧ ob_size.toInt ≤ 600) : Met l yX1_overdue (Cond.code yX1_overdue cX1_overdue 4 (some .int) :: wAll) ({ frames := 0, cells := 0, slots := 0, locals := 0 }) (va_Pc [.ref ob, .int a1] (kp G y sz [(ce_X1 ob ob_size ob_debtor ob_creditor ob_kind ob_due ob_came ob_open ob_kinds), (ce_i600 y ob_due fob_due)])) (va_Qi (fun (r : Int32) (w : va_W) => (∃ (v_287 : Int32), r = v_287 ∧ w = [(ce_X1 ob ob_size ob_debtor ob_creditor ob_kind ob_due ob_came ob_open ob_kinds), (ce_i600 y ob_due fob_due)])) (kq G (va_A [(ce_X1 ob ob_size ob_debtor ob_creditor ob_kind ob_due ob_came ob_open ob_kinds), (ce_i600 y ob_due fob_due)] sz)) (va_A [(ce_X1 ob ob_size ob_debtor ob_creditor ob_kind ob_due ob_came ob_open ob_kinds), (ce_i600 y ob_due fob_due)] sz)) 0 0 (va_A [(ce_X1 ob ob_size ob_debtor ob_creditor ob_kind ob_due ob_came ob_open ob_kinds), (ce_i600 y ob_due fob_due)] sz) := by
  refine Met.ofW (cc := cX1_overdue) (maxL := 4) (ret := (some .int)) (by decide) rfl ?_
  intro p e s m args below meth c s₁ B hml hv
  obtain ⟨rfl, hsz, hP, hK, hD0⟩ := hv
  have hx := B.exec
  have hb := B.bytes
  have hr := B.returns
  have hw0 : ∀ w ∈ wAll, w.before _ s = true := fun w h => atoms_spec (ws := Cond.code yX1_overdue cX1_overdue 4 (some .int) :: wAll) B.pre w (List.mem_cons_of_mem _ h)
  have hown : s.vm.findClass RX1 = some m.cls := findClass_of_methodNamed B.named
  subst hsz
  have hD := hD0.self (sz := s.heap.size)
  generalize hAe : va_A [(ce_X1 ob ob_size ob_debtor ob_creditor ob_kind ob_due ob_came ob_open ob_kinds), (ce_i600 y ob_due fob_due)] s.heap.size = A at hD ⊢
  have hA : ∀ q : Nat, s.heap.size ≤ q → A q := fun q h => by rw [← hAe]; exact Or.inr h
  have hS : va_S A s.heap s.heap [] := va_S.rf
  have hP : va_P G vwCl [(ce_X1 ob ob_size ob_debtor ob_creditor ob_kind ob_due ob_came ob_open ob_kinds), (ce_i600 y ob_due fob_due)] s.heap := hP
  have hl := lv_entry ([.ref ob, .int a1]) (n := 4) (Nat.le_of_ble_eq_true rfl)
  rw [lg_entry_eq]
  generalize (lg_sl ([.ref ob, .int a1]) ++ List.replicate (4 - (lg_sl ([.ref ob, .int a1])).length) Slot.unset).toArray = ls at hl ⊢
  have hl : lv_has ls 4 [(0, .ref ob), (1, .int a1)] := hl
  refine lv_iconst (v := 0) hx hb dX1_overdue_0 (by decide) ?_
  refine lv_istore_n (lv' := [(2, .int 0), (0, .ref ob), (1, .int a1)]) hx hb dX1_overdue_1 rfl hl (by decide) rfl (fun ls hl => ?_)
  refine lv_iconst (v := 0) hx hb dX1_overdue_2 (by decide) ?_
  refine lv_istore_n (lv' := [(3, .int 0), (2, .int 0), (0, .ref ob), (1, .int a1)]) hx hb dX1_overdue_3 rfl hl (by decide) rfl (fun ls hl => ?_)
  refine loopX (fun n H locs ls st => ∃ (v_1126 : Int32) (v_1127 : Int32), (600 - v_1126.toInt).toNat = n ∧ ((0 : Int) ≤ v_1126.toInt ∧ v_1126.toInt ≤ 600) ∧ st = [] ∧ vPD G A H [(ce_X1 ob ob_size ob_debtor ob_creditor ob_kind ob_due ob_came ob_open ob_kinds), (ce_i600 y ob_due fob_due)] ∧ va_S A s.heap H locs ∧ lv_has ls 4 [(3, .int v_1126), (2, .int v_1127), (0, .ref ob), (1, .int a1)]) ?_ (n := (600 - (0 : Int32).toInt).toNat) ⟨0, 0, rfl, (bw (0) (600) (bkc (x := 0) (c := 0) (by decide)) (by decide)), rfl, ⟨hP, hD⟩, hS, lv_sub hl [0, 1, 2, 3] rfl⟩
  rintro n ih_1135 H locs ls st ⟨v_1126, v_1127, hn_1135, bv_1126, rfl, ⟨hP, hD⟩, hS, hl⟩
  refine lv_iload_n hx hb dX1_overdue_4 rfl (lv_at hl 0 rfl) ?_
  refine lv_aload_n hx hb dX1_overdue_5 rfl (lv_at hl 2 rfl) ?_
  refine va_get (D := G) (ci := 1) (v := .int ob_size) (C := RX1) (T := TX1) (N := 8) hx hb hw0 inA_wsX10 hown hK.1 hP 0 rfl rfl 0 (by decide) (hw0 _ m_307) (fun _ h9 => h9) rfl dX1_overdue_6 ?_
  refine lv_icmp_ge (tgt := 31) hx hb dX1_overdue_9 (by decide) (fun c_1136 => ?_) (fun c_1136 => ?_)
  · skip
    have nc_1136 := nb_le (600) (0) c_1136 p_ob_size bv_1126 (by decide)
    refine lv_iload_n hx hb dX1_overdue_31 rfl (lv_at hl 1 rfl) ?_
    exact W.iret (v := v_1127) hx hb hr (fun t ht hW => ⟨⟨v_1127, _, rfl, ⟨v_1127, rfl, rfl⟩, by rw [ht]; exact hP, hD⟩, hS.F ht⟩) hS.2.2 dX1_overdue_32
  · skip
    have nc_1136 := nb_nle (599) (1) c_1136 bv_1126 p_ob_size (by decide)
    refine lv_aload_n hx hb dX1_overdue_12 rfl (lv_at hl 2 rfl) ?_
    refine va_get (D := G) (ci := 1) (v := .ref ob_due) (C := RX1) (T := TX1) (N := 8) hx hb hw0 inA_wsX10 hown hK.1 hP 0 rfl rfl 4 (by decide) (hw0 _ m_311) (fun _ h9 => h9) rfl dX1_overdue_13 ?_
    refine lv_iload_n hx hb dX1_overdue_16 rfl (lv_at hl 0 rfl) ?_
    refine va_iald hx hb hK.1 hP 1 1 rfl rfl (vi nc_1136.1 (by decide)) dX1_overdue_17 ?_
    refine lv_topi (fun v_1137 ev_1137 => ?_)
    refine lv_iload_n hx hb dX1_overdue_18 rfl (lv_at hl 3 rfl) ?_
    refine cutW 25 (fun H locs ls st => ∃ (v_1140 : Int32), st = [] ∧ vPD G A H [(ce_X1 ob ob_size ob_debtor ob_creditor ob_kind ob_due ob_came ob_open ob_kinds), (ce_i600 y ob_due fob_due)] ∧ va_S A s.heap H locs ∧ lv_has ls 4 [(3, .int v_1126), (2, .int v_1140), (0, .ref ob), (1, .int a1)]) ?_ (fun J_25_1140 => ?_)
    · rintro H locs ls st ⟨v_1140, rfl, ⟨hP, hD⟩, hS, hl⟩
      obtain ⟨v_1141, ev_1141⟩ : ∃ z : Int32, z = v_1126 + 1 := ⟨_, rfl⟩
      have qv_1141 := ba_add ev_1141 nc_1136.1 (bkc (x := 1) (c := 1) (by decide)) (by decide)
      have bv_1141 : (1 : Int) ≤ v_1141.toInt ∧ v_1141.toInt ≤ 600 := bq_add qv_1141 nc_1136.1 (bkc (x := 1) (c := 1) (by decide)) _ _ (by decide)
      have qv_1141 : v_1141.toInt = v_1126.toInt + (1) := qv_1141
      refine lv_iinc (v := v_1141) (lv' := [(3, .int v_1141), (2, .int v_1140), (0, .ref ob), (1, .int a1)]) hx hb dX1_overdue_25 hl (k := 0) rfl (ev_1141.symm) (by decide) rfl (fun ls hl => ?_)
      refine lv_goto (tgt := 4) hx hb dX1_overdue_28 (by decide) ?_
      exact ih_1135 _ (ml_inc (hi := 600) hn_1135 qv_1141 (by decide) ((bw (0) (600) bv_1141 (by decide))).2) _ _ _ _ ⟨v_1141, v_1140, rfl, (bw (0) (600) bv_1141 (by decide)), rfl, ⟨hP, hD⟩, hS, lv_sub hl [0, 1, 2, 3] rfl⟩
    · skip
      refine lv_icmp_ge (tgt := 25) hx hb dX1_overdue_19 (by decide) (fun c_1142 => ?_) (fun c_1142 => ?_)
      · skip
        have nc_1142 := nb_le (2147483647) (-2147483648) c_1142 (btop a1) (btop v_1137) (by decide)
        exact J_25_1140 _ _ _ _ ⟨v_1127, rfl, ⟨hP, hD⟩, hS, lv_sub hl [0, 1, 2, 3] rfl⟩
      · skip
        have nc_1142 := nb_nle (2147483646) (-2147483647) c_1142 (btop v_1137) (btop a1) (by decide)
        obtain ⟨v_1143, ev_1143⟩ : ∃ z : Int32, z = v_1127 + 1 := ⟨_, rfl⟩
        refine lv_iinc (v := v_1143) (lv' := [(2, .int v_1143), (3, .int v_1126), (0, .ref ob), (1, .int a1)]) hx hb dX1_overdue_22 hl (k := 1) rfl (ev_1143.symm) (by decide) rfl (fun ls hl => ?_)
        exact J_25_1140 _ _ _ _ ⟨v_1143, rfl, ⟨hP, hD⟩, hS, lv_sub hl [1, 0, 2, 3] rfl⟩

set_option maxHeartbeats 4000000 in
set_option maxRecDepth 100000 in
theorem sX1_overdueTo (l : Launch) (G : va_G) (y : Nat → ClassId) (sz : Nat) (ob : Nat) (a1 : Int32) (a2 : Int32) (ob_size : Int32) (ob_debtor : Nat) (ob_creditor : Nat) (ob_kind : Nat) (ob_due : Nat) (ob_came : Nat) (ob_open : Nat) (ob_kinds : Nat) (fob_creditor : Nat → Int32) (fob_due : Nat → Int32) (p_ob_size : (0 : Int) ≤ ob_size.toInt ∧ ob_size.toInt ≤ 600) (p_fob_creditor : ∀ i, (0 : Int) ≤ (fob_creditor i).toInt ∧ (fob_creditor i).toInt ≤ 15) : Met l yX1_overdueTo (Cond.code yX1_overdueTo cX1_overdueTo 5 (some .int) :: wAll) ({ frames := 0, cells := 0, slots := 0, locals := 0 }) (va_Pc [.ref ob, .int a1, .int a2] (kp G y sz [(ce_X1 ob ob_size ob_debtor ob_creditor ob_kind ob_due ob_came ob_open ob_kinds), (ce_i600 y ob_creditor fob_creditor), (ce_i600 y ob_due fob_due)])) (va_Qi (fun (r : Int32) (w : va_W) => (∃ (v_407 : Int32), r = v_407 ∧ w = [(ce_X1 ob ob_size ob_debtor ob_creditor ob_kind ob_due ob_came ob_open ob_kinds), (ce_i600 y ob_creditor fob_creditor), (ce_i600 y ob_due fob_due)])) (kq G (va_A [(ce_X1 ob ob_size ob_debtor ob_creditor ob_kind ob_due ob_came ob_open ob_kinds), (ce_i600 y ob_creditor fob_creditor), (ce_i600 y ob_due fob_due)] sz)) (va_A [(ce_X1 ob ob_size ob_debtor ob_creditor ob_kind ob_due ob_came ob_open ob_kinds), (ce_i600 y ob_creditor fob_creditor), (ce_i600 y ob_due fob_due)] sz)) 0 0 (va_A [(ce_X1 ob ob_size ob_debtor ob_creditor ob_kind ob_due ob_came ob_open ob_kinds), (ce_i600 y ob_creditor fob_creditor), (ce_i600 y ob_due fob_due)] sz) := by
  refine Met.ofW (cc := cX1_overdueTo) (maxL := 5) (ret := (some .int)) (by decide) rfl ?_
  intro p e s m args below meth c s₁ B hml hv
  obtain ⟨rfl, hsz, hP, hK, hD0⟩ := hv
  have hx := B.exec
  have hb := B.bytes
  have hr := B.returns
  have hw0 : ∀ w ∈ wAll, w.before _ s = true := fun w h => atoms_spec (ws := Cond.code yX1_overdueTo cX1_overdueTo 5 (some .int) :: wAll) B.pre w (List.mem_cons_of_mem _ h)
  have hown : s.vm.findClass RX1 = some m.cls := findClass_of_methodNamed B.named
  subst hsz
  have hD := hD0.self (sz := s.heap.size)
  generalize hAe : va_A [(ce_X1 ob ob_size ob_debtor ob_creditor ob_kind ob_due ob_came ob_open ob_kinds), (ce_i600 y ob_creditor fob_creditor), (ce_i600 y ob_due fob_due)] s.heap.size = A at hD ⊢
  have hA : ∀ q : Nat, s.heap.size ≤ q → A q := fun q h => by rw [← hAe]; exact Or.inr h
  have hS : va_S A s.heap s.heap [] := va_S.rf
  have hP : va_P G vwCl [(ce_X1 ob ob_size ob_debtor ob_creditor ob_kind ob_due ob_came ob_open ob_kinds), (ce_i600 y ob_creditor fob_creditor), (ce_i600 y ob_due fob_due)] s.heap := hP
  have hl := lv_entry ([.ref ob, .int a1, .int a2]) (n := 5) (Nat.le_of_ble_eq_true rfl)
  rw [lg_entry_eq]
  generalize (lg_sl ([.ref ob, .int a1, .int a2]) ++ List.replicate (5 - (lg_sl ([.ref ob, .int a1, .int a2])).length) Slot.unset).toArray = ls at hl ⊢
  have hl : lv_has ls 5 [(0, .ref ob), (1, .int a1), (2, .int a2)] := hl
  refine lv_iconst (v := 0) hx hb dX1_overdueTo_0 (by decide) ?_
  refine lv_istore_n (lv' := [(3, .int 0), (0, .ref ob), (1, .int a1), (2, .int a2)]) hx hb dX1_overdueTo_1 rfl hl (by decide) rfl (fun ls hl => ?_)
  refine lv_iconst (v := 0) hx hb dX1_overdueTo_2 (by decide) ?_
  refine lv_istore (lv' := [(4, .int 0), (3, .int 0), (0, .ref ob), (1, .int a1), (2, .int a2)]) hx hb dX1_overdueTo_3 hl (by decide) rfl (fun ls hl => ?_)
  refine loopX (fun n H locs ls st => ∃ (v_1178 : Int32) (v_1179 : Int32), (600 - v_1178.toInt).toNat = n ∧ ((0 : Int) ≤ v_1178.toInt ∧ v_1178.toInt ≤ 600) ∧ st = [] ∧ vPD G A H [(ce_X1 ob ob_size ob_debtor ob_creditor ob_kind ob_due ob_came ob_open ob_kinds), (ce_i600 y ob_creditor fob_creditor), (ce_i600 y ob_due fob_due)] ∧ va_S A s.heap H locs ∧ lv_has ls 5 [(4, .int v_1178), (3, .int v_1179), (0, .ref ob), (1, .int a1), (2, .int a2)]) ?_ (n := (600 - (0 : Int32).toInt).toNat) ⟨0, 0, rfl, (bw (0) (600) (bkc (x := 0) (c := 0) (by decide)) (by decide)), rfl, ⟨hP, hD⟩, hS, lv_sub hl [0, 1, 2, 3, 4] rfl⟩
  rintro n ih_1191 H locs ls st ⟨v_1178, v_1179, hn_1191, bv_1178, rfl, ⟨hP, hD⟩, hS, hl⟩
  refine lv_iload hx hb dX1_overdueTo_5 (lv_at hl 0 rfl) ?_
  refine lv_aload_n hx hb dX1_overdueTo_7 rfl (lv_at hl 2 rfl) ?_
  refine va_get (D := G) (ci := 1) (v := .int ob_size) (C := RX1) (T := TX1) (N := 8) hx hb hw0 inA_wsX10 hown hK.1 hP 0 rfl rfl 0 (by decide) (hw0 _ m_307) (fun _ h9 => h9) rfl dX1_overdueTo_8 ?_
  refine lv_icmp_ge (tgt := 45) hx hb dX1_overdueTo_11 (by decide) (fun c_1192 => ?_) (fun c_1192 => ?_)
  · skip
    have nc_1192 := nb_le (600) (0) c_1192 p_ob_size bv_1178 (by decide)
    refine lv_iload_n hx hb dX1_overdueTo_45 rfl (lv_at hl 1 rfl) ?_
    exact W.iret (v := v_1179) hx hb hr (fun t ht hW => ⟨⟨v_1179, _, rfl, ⟨v_1179, rfl, rfl⟩, by rw [ht]; exact hP, hD⟩, hS.F ht⟩) hS.2.2 dX1_overdueTo_46
  · skip
    have nc_1192 := nb_nle (599) (1) c_1192 bv_1178 p_ob_size (by decide)
    refine lv_aload_n hx hb dX1_overdueTo_14 rfl (lv_at hl 2 rfl) ?_
    refine va_get (D := G) (ci := 1) (v := .ref ob_creditor) (C := RX1) (T := TX1) (N := 8) hx hb hw0 inA_wsX10 hown hK.1 hP 0 rfl rfl 2 (by decide) (hw0 _ m_309) (fun _ h9 => h9) rfl dX1_overdueTo_15 ?_
    refine lv_iload hx hb dX1_overdueTo_18 (lv_at hl 0 rfl) ?_
    refine va_iald hx hb hK.1 hP 1 1 rfl rfl (vi nc_1192.1 (by decide)) dX1_overdueTo_20 ?_
    refine lv_topi (fun v_1193 ev_1193 => ?_)
    have bv_1193 : (0 : Int) ≤ v_1193.toInt ∧ v_1193.toInt ≤ 15 := rd_b ev_1193 p_fob_creditor
    refine lv_iload_n hx hb dX1_overdueTo_21 rfl (lv_at hl 3 rfl) ?_
    refine cutW 39 (fun H locs ls st => ∃ (v_1198 : Int32), st = [] ∧ vPD G A H [(ce_X1 ob ob_size ob_debtor ob_creditor ob_kind ob_due ob_came ob_open ob_kinds), (ce_i600 y ob_creditor fob_creditor), (ce_i600 y ob_due fob_due)] ∧ va_S A s.heap H locs ∧ lv_has ls 5 [(4, .int v_1178), (3, .int v_1198), (0, .ref ob), (1, .int a1), (2, .int a2)]) ?_ (fun J_39_1198 => ?_)
    · rintro H locs ls st ⟨v_1198, rfl, ⟨hP, hD⟩, hS, hl⟩
      obtain ⟨v_1199, ev_1199⟩ : ∃ z : Int32, z = v_1178 + 1 := ⟨_, rfl⟩
      have qv_1199 := ba_add ev_1199 nc_1192.1 (bkc (x := 1) (c := 1) (by decide)) (by decide)
      have bv_1199 : (1 : Int) ≤ v_1199.toInt ∧ v_1199.toInt ≤ 600 := bq_add qv_1199 nc_1192.1 (bkc (x := 1) (c := 1) (by decide)) _ _ (by decide)
      have qv_1199 : v_1199.toInt = v_1178.toInt + (1) := qv_1199
      refine lv_iinc (v := v_1199) (lv' := [(4, .int v_1199), (3, .int v_1198), (0, .ref ob), (1, .int a1), (2, .int a2)]) hx hb dX1_overdueTo_39 hl (k := 0) rfl (ev_1199.symm) (by decide) rfl (fun ls hl => ?_)
      refine lv_goto (tgt := 5) hx hb dX1_overdueTo_42 (by decide) ?_
      exact ih_1191 _ (ml_inc (hi := 600) hn_1191 qv_1199 (by decide) ((bw (0) (600) bv_1199 (by decide))).2) _ _ _ _ ⟨v_1199, v_1198, rfl, (bw (0) (600) bv_1199 (by decide)), rfl, ⟨hP, hD⟩, hS, lv_sub hl [0, 1, 2, 3, 4] rfl⟩
    · skip
      refine lv_icmp_ne (tgt := 39) hx hb dX1_overdueTo_22 (by decide) (fun c_1200 => ?_) (fun c_1200 => ?_)
      · skip
        exact J_39_1198 _ _ _ _ ⟨v_1179, rfl, ⟨hP, hD⟩, hS, lv_sub hl [0, 1, 2, 3, 4] rfl⟩
      · skip
        have nc_1200 := nb_eq (0) (15) c_1200 bv_1193 (btop a1) (by decide)
        refine lv_aload_n hx hb dX1_overdueTo_25 rfl (lv_at hl 2 rfl) ?_
        refine va_get (D := G) (ci := 1) (v := .ref ob_due) (C := RX1) (T := TX1) (N := 8) hx hb hw0 inA_wsX10 hown hK.1 hP 0 rfl rfl 4 (by decide) (hw0 _ m_311) (fun _ h9 => h9) rfl dX1_overdueTo_26 ?_
        refine lv_iload hx hb dX1_overdueTo_29 (lv_at hl 0 rfl) ?_
        refine va_iald hx hb hK.1 hP 2 1 rfl rfl (vi nc_1192.1 (by decide)) dX1_overdueTo_31 ?_
        refine lv_topi (fun v_1201 ev_1201 => ?_)
        refine lv_iload_n hx hb dX1_overdueTo_32 rfl (lv_at hl 4 rfl) ?_
        refine lv_icmp_ge (tgt := 39) hx hb dX1_overdueTo_33 (by decide) (fun c_1202 => ?_) (fun c_1202 => ?_)
        · skip
          have nc_1202 := nb_le (2147483647) (-2147483648) c_1202 (btop a2) (btop v_1201) (by decide)
          exact J_39_1198 _ _ _ _ ⟨v_1179, rfl, ⟨hP, hD⟩, hS, lv_sub hl [0, 1, 2, 3, 4] rfl⟩
        · skip
          have nc_1202 := nb_nle (2147483646) (-2147483647) c_1202 (btop v_1201) (btop a2) (by decide)
          obtain ⟨v_1203, ev_1203⟩ : ∃ z : Int32, z = v_1179 + 1 := ⟨_, rfl⟩
          refine lv_iinc (v := v_1203) (lv' := [(3, .int v_1203), (4, .int v_1178), (0, .ref ob), (1, .int a1), (2, .int a2)]) hx hb dX1_overdueTo_36 hl (k := 1) rfl (ev_1203.symm) (by decide) rfl (fun ls hl => ?_)
          exact J_39_1198 _ _ _ _ ⟨v_1203, rfl, ⟨hP, hD⟩, hS, lv_sub hl [1, 0, 2, 3, 4] rfl⟩

set_option maxHeartbeats 4000000 in
set_option maxRecDepth 100000 in
theorem sX1_nth (l : Launch) (G : va_G) (y : Nat → ClassId) (sz : Nat) (ob : Nat) (a1 : Int32) (a2 : Int32) (ob_size : Int32) (ob_debtor : Nat) (ob_creditor : Nat) (ob_kind : Nat) (ob_due : Nat) (ob_came : Nat) (ob_open : Nat) (ob_kinds : Nat) (fob_debtor : Nat → Int32) (fob_open : Nat → Int32) (p_ob_size : (0 : Int) ≤ ob_size.toInt ∧ ob_size.toInt ≤ 600) (p_a1 : (0 : Int) ≤ a1.toInt ∧ a1.toInt ≤ 15) : Met l yX1_nth (Cond.code yX1_nth cX1_nth 5 (some .int) :: wAll) ({ frames := 0, cells := 0, slots := 0, locals := 0 }) (va_Pc [.ref ob, .int a1, .int a2] (kp G y sz [(ce_X1 ob ob_size ob_debtor ob_creditor ob_kind ob_due ob_came ob_open ob_kinds), (ce_i600 y ob_debtor fob_debtor), (ce_i16 y ob_open fob_open)])) (va_Qi (fun (r : Int32) (w : va_W) => (∃ (v_339 : Int32), ((-1 : Int) ≤ v_339.toInt ∧ v_339.toInt ≤ 599) ∧ r = v_339 ∧ w = [(ce_X1 ob ob_size ob_debtor ob_creditor ob_kind ob_due ob_came ob_open ob_kinds), (ce_i600 y ob_debtor fob_debtor), (ce_i16 y ob_open fob_open)])) (kq G (va_A [(ce_X1 ob ob_size ob_debtor ob_creditor ob_kind ob_due ob_came ob_open ob_kinds), (ce_i600 y ob_debtor fob_debtor), (ce_i16 y ob_open fob_open)] sz)) (va_A [(ce_X1 ob ob_size ob_debtor ob_creditor ob_kind ob_due ob_came ob_open ob_kinds), (ce_i600 y ob_debtor fob_debtor), (ce_i16 y ob_open fob_open)] sz)) 0 0 (va_A [(ce_X1 ob ob_size ob_debtor ob_creditor ob_kind ob_due ob_came ob_open ob_kinds), (ce_i600 y ob_debtor fob_debtor), (ce_i16 y ob_open fob_open)] sz) := by
  refine Met.ofW (cc := cX1_nth) (maxL := 5) (ret := (some .int)) (by decide) rfl ?_
  intro p e s m args below meth c s₁ B hml hv
  obtain ⟨rfl, hsz, hP, hK, hD0⟩ := hv
  have hx := B.exec
  have hb := B.bytes
  have hr := B.returns
  have hw0 : ∀ w ∈ wAll, w.before _ s = true := fun w h => atoms_spec (ws := Cond.code yX1_nth cX1_nth 5 (some .int) :: wAll) B.pre w (List.mem_cons_of_mem _ h)
  have hown : s.vm.findClass RX1 = some m.cls := findClass_of_methodNamed B.named
  subst hsz
  have hD := hD0.self (sz := s.heap.size)
  generalize hAe : va_A [(ce_X1 ob ob_size ob_debtor ob_creditor ob_kind ob_due ob_came ob_open ob_kinds), (ce_i600 y ob_debtor fob_debtor), (ce_i16 y ob_open fob_open)] s.heap.size = A at hD ⊢
  have hA : ∀ q : Nat, s.heap.size ≤ q → A q := fun q h => by rw [← hAe]; exact Or.inr h
  have hS : va_S A s.heap s.heap [] := va_S.rf
  have hP : va_P G vwCl [(ce_X1 ob ob_size ob_debtor ob_creditor ob_kind ob_due ob_came ob_open ob_kinds), (ce_i600 y ob_debtor fob_debtor), (ce_i16 y ob_open fob_open)] s.heap := hP
  have hl := lv_entry ([.ref ob, .int a1, .int a2]) (n := 5) (Nat.le_of_ble_eq_true rfl)
  rw [lg_entry_eq]
  generalize (lg_sl ([.ref ob, .int a1, .int a2]) ++ List.replicate (5 - (lg_sl ([.ref ob, .int a1, .int a2])).length) Slot.unset).toArray = ls at hl ⊢
  have hl : lv_has ls 5 [(0, .ref ob), (1, .int a1), (2, .int a2)] := hl
  refine lv_iload_n hx hb dX1_nth_0 rfl (lv_at hl 2 rfl) ?_
  refine cutW 14 (fun H locs ls st => st = [] ∧ vPD G A H [(ce_X1 ob ob_size ob_debtor ob_creditor ob_kind ob_due ob_came ob_open ob_kinds), (ce_i600 y ob_debtor fob_debtor), (ce_i16 y ob_open fob_open)] ∧ va_S A s.heap H locs ∧ lv_has ls 5 []) ?_ (fun J_14_1003 => ?_)
  · rintro H locs ls st ⟨rfl, ⟨hP, hD⟩, hS, hl⟩
    refine lv_iconst (v := (-1)) hx hb dX1_nth_14 (by decide) ?_
    exact W.iret (v := (-1)) hx hb hr (fun t ht hW => ⟨⟨(-1), _, rfl, ⟨(-1), (bw (-1) (599) (bkc (x := (-1)) (c := -1) (by decide)) (by decide)), rfl, rfl⟩, by rw [ht]; exact hP, hD⟩, hS.F ht⟩) hS.2.2 dX1_nth_15
  · skip
    refine lv_if_lt (tgt := 14) hx hb dX1_nth_1 (by decide) (fun c_1004 => ?_) (fun c_1004 => ?_)
    · skip
      have nc_1004 := nb_lt (-1) (0) c_1004 (btop a2) (bkc (x := 0) (c := 0) (by decide)) (by decide)
      exact J_14_1003 _ _ _ _ ⟨rfl, ⟨hP, hD⟩, hS, lv_sub hl [] rfl⟩
    · skip
      have nc_1004 := nb_nlt (0) (0) c_1004 (bkc (x := 0) (c := 0) (by decide)) (btop a2) (by decide)
      refine lv_iload_n hx hb dX1_nth_4 rfl (lv_at hl 2 rfl) ?_
      refine lv_aload_n hx hb dX1_nth_5 rfl (lv_at hl 0 rfl) ?_
      refine va_get (D := G) (ci := 1) (v := .ref ob_open) (C := RX1) (T := TX1) (N := 8) hx hb hw0 inA_wsX10 hown hK.1 hP 0 rfl rfl 6 (by decide) (hw0 _ m_313) (fun _ h9 => h9) rfl dX1_nth_6 ?_
      refine lv_iload_n hx hb dX1_nth_9 rfl (lv_at hl 1 rfl) ?_
      refine va_iald hx hb hK.1 hP 2 1 rfl rfl (vi p_a1 (by decide)) dX1_nth_10 ?_
      refine lv_topi (fun v_1005 ev_1005 => ?_)
      refine lv_icmp_lt (tgt := 16) hx hb dX1_nth_11 (by decide) (fun c_1006 => ?_) (fun c_1006 => ?_)
      · skip
        have nc_1006 := nb_lt (2147483646) (1) c_1006 nc_1004.2.1 (btop v_1005) (by decide)
        refine lv_iload_n hx hb dX1_nth_16 rfl (lv_at hl 2 rfl) ?_
        refine lv_istore_n (lv' := [(3, .int a2), (0, .ref ob), (1, .int a1), (2, .int a2)]) hx hb dX1_nth_17 rfl hl (by decide) rfl (fun ls hl => ?_)
        refine lv_iconst (v := 0) hx hb dX1_nth_18 (by decide) ?_
        refine lv_istore (lv' := [(4, .int 0), (3, .int a2), (0, .ref ob), (1, .int a1), (2, .int a2)]) hx hb dX1_nth_19 hl (by decide) rfl (fun ls hl => ?_)
        refine loopX (fun n H locs ls st => ∃ (v_1148 : Int32) (v_1149 : Int32), (600 - v_1148.toInt).toNat = n ∧ ((0 : Int) ≤ v_1148.toInt ∧ v_1148.toInt ≤ 600) ∧ ((0 : Int) ≤ v_1149.toInt ∧ v_1149.toInt ≤ 2147483646) ∧ st = [] ∧ vPD G A H [(ce_X1 ob ob_size ob_debtor ob_creditor ob_kind ob_due ob_came ob_open ob_kinds), (ce_i600 y ob_debtor fob_debtor), (ce_i16 y ob_open fob_open)] ∧ va_S A s.heap H locs ∧ lv_has ls 5 [(4, .int v_1148), (3, .int v_1149), (0, .ref ob), (1, .int a1)]) ?_ (n := (600 - (0 : Int32).toInt).toNat) ⟨0, a2, rfl, (bw (0) (600) (bkc (x := 0) (c := 0) (by decide)) (by decide)), nc_1006.1, rfl, ⟨hP, hD⟩, hS, lv_sub hl [0, 1, 2, 3] rfl⟩
        rintro n ih_1159 H locs ls st ⟨v_1148, v_1149, hn_1159, bv_1148, bv_1149, rfl, ⟨hP, hD⟩, hS, hl⟩
        refine lv_iload hx hb dX1_nth_21 (lv_at hl 0 rfl) ?_
        refine lv_aload_n hx hb dX1_nth_23 rfl (lv_at hl 2 rfl) ?_
        refine va_get (D := G) (ci := 1) (v := .int ob_size) (C := RX1) (T := TX1) (N := 8) hx hb hw0 inA_wsX10 hown hK.1 hP 0 rfl rfl 0 (by decide) (hw0 _ m_307) (fun _ h9 => h9) rfl dX1_nth_24 ?_
        refine lv_icmp_ge (tgt := 57) hx hb dX1_nth_27 (by decide) (fun c_1160 => ?_) (fun c_1160 => ?_)
        · skip
          have nc_1160 := nb_le (600) (0) c_1160 p_ob_size bv_1148 (by decide)
          refine lv_iconst (v := (-1)) hx hb dX1_nth_57 (by decide) ?_
          exact W.iret (v := (-1)) hx hb hr (fun t ht hW => ⟨⟨(-1), _, rfl, ⟨(-1), (bw (-1) (599) (bkc (x := (-1)) (c := -1) (by decide)) (by decide)), rfl, rfl⟩, by rw [ht]; exact hP, hD⟩, hS.F ht⟩) hS.2.2 dX1_nth_58
        · skip
          have nc_1160 := nb_nle (599) (1) c_1160 bv_1148 p_ob_size (by decide)
          refine lv_aload_n hx hb dX1_nth_30 rfl (lv_at hl 2 rfl) ?_
          refine va_get (D := G) (ci := 1) (v := .ref ob_debtor) (C := RX1) (T := TX1) (N := 8) hx hb hw0 inA_wsX10 hown hK.1 hP 0 rfl rfl 1 (by decide) (hw0 _ m_308) (fun _ h9 => h9) rfl dX1_nth_31 ?_
          refine lv_iload hx hb dX1_nth_34 (lv_at hl 0 rfl) ?_
          refine va_iald hx hb hK.1 hP 1 1 rfl rfl (vi nc_1160.1 (by decide)) dX1_nth_36 ?_
          refine lv_topi (fun v_1161 ev_1161 => ?_)
          refine lv_iload_n hx hb dX1_nth_37 rfl (lv_at hl 3 rfl) ?_
          refine cutW 51 (fun H locs ls st => ∃ (v_1165 : Int32), ((0 : Int) ≤ v_1165.toInt ∧ v_1165.toInt ≤ 2147483646) ∧ st = [] ∧ vPD G A H [(ce_X1 ob ob_size ob_debtor ob_creditor ob_kind ob_due ob_came ob_open ob_kinds), (ce_i600 y ob_debtor fob_debtor), (ce_i16 y ob_open fob_open)] ∧ va_S A s.heap H locs ∧ lv_has ls 5 [(4, .int v_1148), (3, .int v_1165), (0, .ref ob), (1, .int a1)]) ?_ (fun J_51_1165 => ?_)
          · rintro H locs ls st ⟨v_1165, bv_1165, rfl, ⟨hP, hD⟩, hS, hl⟩
            obtain ⟨v_1166, ev_1166⟩ : ∃ z : Int32, z = v_1148 + 1 := ⟨_, rfl⟩
            have qv_1166 := ba_add ev_1166 nc_1160.1 (bkc (x := 1) (c := 1) (by decide)) (by decide)
            have bv_1166 : (1 : Int) ≤ v_1166.toInt ∧ v_1166.toInt ≤ 600 := bq_add qv_1166 nc_1160.1 (bkc (x := 1) (c := 1) (by decide)) _ _ (by decide)
            have qv_1166 : v_1166.toInt = v_1148.toInt + (1) := qv_1166
            refine lv_iinc (v := v_1166) (lv' := [(4, .int v_1166), (3, .int v_1165), (0, .ref ob), (1, .int a1)]) hx hb dX1_nth_51 hl (k := 0) rfl (ev_1166.symm) (by decide) rfl (fun ls hl => ?_)
            refine lv_goto (tgt := 21) hx hb dX1_nth_54 (by decide) ?_
            exact ih_1159 _ (ml_inc (hi := 600) hn_1159 qv_1166 (by decide) ((bw (0) (600) bv_1166 (by decide))).2) _ _ _ _ ⟨v_1166, v_1165, rfl, (bw (0) (600) bv_1166 (by decide)), bv_1165, rfl, ⟨hP, hD⟩, hS, lv_sub hl [0, 1, 2, 3] rfl⟩
          · skip
            refine lv_icmp_ne (tgt := 51) hx hb dX1_nth_38 (by decide) (fun c_1167 => ?_) (fun c_1167 => ?_)
            · skip
              exact J_51_1165 _ _ _ _ ⟨v_1149, bv_1149, rfl, ⟨hP, hD⟩, hS, lv_sub hl [0, 1, 2, 3] rfl⟩
            · skip
              have nc_1167 := nb_eq (0) (15) c_1167 (btop v_1161) p_a1 (by decide)
              refine lv_iload_n hx hb dX1_nth_41 rfl (lv_at hl 1 rfl) ?_
              refine lv_if_ne (tgt := 48) hx hb dX1_nth_42 (by decide) (fun c_1168 => ?_) (fun c_1168 => ?_)
              · skip
                have nc_1168 := nb_ne (1) (2147483646) c_1168 bv_1149 (k := 0) (by decide) (by decide)
                obtain ⟨v_1169, ev_1169⟩ : ∃ z : Int32, z = v_1149 + (-1) := ⟨_, rfl⟩
                have qv_1169 := ba_add ev_1169 nc_1168.1 (bkc (x := (-1)) (c := -1) (by decide)) (by decide)
                have bv_1169 : (0 : Int) ≤ v_1169.toInt ∧ v_1169.toInt ≤ 2147483645 := bq_add qv_1169 nc_1168.1 (bkc (x := (-1)) (c := -1) (by decide)) _ _ (by decide)
                have qv_1169 : v_1169.toInt = v_1149.toInt + (-1) := qv_1169
                refine lv_iinc (v := v_1169) (lv' := [(3, .int v_1169), (4, .int v_1148), (0, .ref ob), (1, .int a1)]) hx hb dX1_nth_48 hl (k := 1) rfl (ev_1169.symm) (by decide) rfl (fun ls hl => ?_)
                exact J_51_1165 _ _ _ _ ⟨v_1169, (bw (0) (2147483646) bv_1169 (by decide)), rfl, ⟨hP, hD⟩, hS, lv_sub hl [1, 0, 2, 3] rfl⟩
              · skip
                have nc_1168 := nb_eq (0) (0) c_1168 bv_1149 (bkc (x := 0) (c := 0) (by decide)) (by decide)
                refine lv_iload hx hb dX1_nth_45 (lv_at hl 0 rfl) ?_
                exact W.iret (v := v_1148) hx hb hr (fun t ht hW => ⟨⟨v_1148, _, rfl, ⟨v_1148, (bw (-1) (599) nc_1160.1 (by decide)), rfl, rfl⟩, by rw [ht]; exact hP, hD⟩, hS.F ht⟩) hS.2.2 dX1_nth_47
      · skip
        have nc_1006 := nb_nlt (2147483647) (0) c_1006 (btop v_1005) nc_1004.2.1 (by decide)
        exact J_14_1003 _ _ _ _ ⟨rfl, ⟨hP, hD⟩, hS, lv_sub hl [] rfl⟩

set_option maxHeartbeats 4000000 in
set_option maxRecDepth 100000 in
theorem sX1_add (l : Launch) (G : va_G) (y : Nat → ClassId) (sz : Nat) (ob : Nat) (a1 : Int32) (a2 : Int32) (a3 : Int32) (a4 : Int32) (a5 : Int32) (ob_size : Int32) (ob_debtor : Nat) (ob_creditor : Nat) (ob_kind : Nat) (ob_due : Nat) (ob_came : Nat) (ob_open : Nat) (ob_kinds : Nat) (fob_debtor : Nat → Int32) (fob_creditor : Nat → Int32) (fob_kind : Nat → Int32) (fob_due : Nat → Int32) (fob_came : Nat → Int32) (fob_open : Nat → Int32) (fob_kinds : Nat → Int32) (p_ob_size : (0 : Int) ≤ ob_size.toInt ∧ ob_size.toInt ≤ 600) (p_fob_creditor : ∀ i, (0 : Int) ≤ (fob_creditor i).toInt ∧ (fob_creditor i).toInt ≤ 15) (p_a1 : (0 : Int) ≤ a1.toInt ∧ a1.toInt ≤ 15) (p_a2 : (0 : Int) ≤ a2.toInt ∧ a2.toInt ≤ 15) : Met l yX1_add (Cond.code yX1_add cX1_add 6 none :: wAll) ({ frames := 0, cells := 0, slots := 0, locals := 0 }) (va_Pc [.ref ob, .int a1, .int a2, .int a3, .int a4, .int a5] (kp G y sz [(ce_X1 ob ob_size ob_debtor ob_creditor ob_kind ob_due ob_came ob_open ob_kinds), (ce_i600 y ob_debtor fob_debtor), (ce_i600 y ob_creditor fob_creditor), (ce_i600 y ob_kind fob_kind), (ce_i600 y ob_due fob_due), (ce_i600 y ob_came fob_came), (ce_i16 y ob_open fob_open), (ce_i256 y ob_kinds fob_kinds)])) (va_Qv (fun (w : va_W) => (∃ (v_33 : Int32) (f_34 : Nat → Int32) (f_35 : Nat → Int32) (f_36 : Nat → Int32) (f_37 : Nat → Int32) (f_38 : Nat → Int32) (f_39 : Nat → Int32) (f_40 : Nat → Int32), ((1 : Int) ≤ v_33.toInt ∧ v_33.toInt ≤ 600) ∧ (∀ i, (0 : Int) ≤ (f_35 i).toInt ∧ (f_35 i).toInt ≤ 15) ∧ w = [(ce_X1 ob v_33 ob_debtor ob_creditor ob_kind ob_due ob_came ob_open ob_kinds), (ce_i600 y ob_debtor f_34), (ce_i600 y ob_creditor f_35), (ce_i600 y ob_kind f_36), (ce_i600 y ob_due f_37), (ce_i600 y ob_came f_38), (ce_i16 y ob_open f_39), (ce_i256 y ob_kinds f_40)])) (kq G (va_A [(ce_X1 ob ob_size ob_debtor ob_creditor ob_kind ob_due ob_came ob_open ob_kinds), (ce_i600 y ob_debtor fob_debtor), (ce_i600 y ob_creditor fob_creditor), (ce_i600 y ob_kind fob_kind), (ce_i600 y ob_due fob_due), (ce_i600 y ob_came fob_came), (ce_i16 y ob_open fob_open), (ce_i256 y ob_kinds fob_kinds)] sz)) (va_A [(ce_X1 ob ob_size ob_debtor ob_creditor ob_kind ob_due ob_came ob_open ob_kinds), (ce_i600 y ob_debtor fob_debtor), (ce_i600 y ob_creditor fob_creditor), (ce_i600 y ob_kind fob_kind), (ce_i600 y ob_due fob_due), (ce_i600 y ob_came fob_came), (ce_i16 y ob_open fob_open), (ce_i256 y ob_kinds fob_kinds)] sz)) 0 0 (va_A [(ce_X1 ob ob_size ob_debtor ob_creditor ob_kind ob_due ob_came ob_open ob_kinds), (ce_i600 y ob_debtor fob_debtor), (ce_i600 y ob_creditor fob_creditor), (ce_i600 y ob_kind fob_kind), (ce_i600 y ob_due fob_due), (ce_i600 y ob_came fob_came), (ce_i16 y ob_open fob_open), (ce_i256 y ob_kinds fob_kinds)] sz) := by
  refine Met.ofW (cc := cX1_add) (maxL := 6) (ret := none) (by decide) rfl ?_
  intro p e s m args below meth c s₁ B hml hv
  obtain ⟨rfl, hsz, hP, hK, hD0⟩ := hv
  have hx := B.exec
  have hb := B.bytes
  have hr := B.returns
  have hw0 : ∀ w ∈ wAll, w.before _ s = true := fun w h => atoms_spec (ws := Cond.code yX1_add cX1_add 6 none :: wAll) B.pre w (List.mem_cons_of_mem _ h)
  have hown : s.vm.findClass RX1 = some m.cls := findClass_of_methodNamed B.named
  subst hsz
  have hD := hD0.self (sz := s.heap.size)
  generalize hAe : va_A [(ce_X1 ob ob_size ob_debtor ob_creditor ob_kind ob_due ob_came ob_open ob_kinds), (ce_i600 y ob_debtor fob_debtor), (ce_i600 y ob_creditor fob_creditor), (ce_i600 y ob_kind fob_kind), (ce_i600 y ob_due fob_due), (ce_i600 y ob_came fob_came), (ce_i16 y ob_open fob_open), (ce_i256 y ob_kinds fob_kinds)] s.heap.size = A at hD ⊢
  have hA : ∀ q : Nat, s.heap.size ≤ q → A q := fun q h => by rw [← hAe]; exact Or.inr h
  have hS : va_S A s.heap s.heap [] := va_S.rf
  have hP : va_P G vwCl [(ce_X1 ob ob_size ob_debtor ob_creditor ob_kind ob_due ob_came ob_open ob_kinds), (ce_i600 y ob_debtor fob_debtor), (ce_i600 y ob_creditor fob_creditor), (ce_i600 y ob_kind fob_kind), (ce_i600 y ob_due fob_due), (ce_i600 y ob_came fob_came), (ce_i16 y ob_open fob_open), (ce_i256 y ob_kinds fob_kinds)] s.heap := hP
  have hl := lv_entry ([.ref ob, .int a1, .int a2, .int a3, .int a4, .int a5]) (n := 6) (Nat.le_of_ble_eq_true rfl)
  rw [lg_entry_eq]
  generalize (lg_sl ([.ref ob, .int a1, .int a2, .int a3, .int a4, .int a5]) ++ List.replicate (6 - (lg_sl ([.ref ob, .int a1, .int a2, .int a3, .int a4, .int a5])).length) Slot.unset).toArray = ls at hl ⊢
  have hl : lv_has ls 6 [(0, .ref ob), (1, .int a1), (2, .int a2), (3, .int a3), (4, .int a4), (5, .int a5)] := hl
  refine lv_aload_n hx hb dX1_add_0 rfl (lv_at hl 0 rfl) ?_
  refine va_get (D := G) (ci := 1) (v := .int ob_size) (C := RX1) (T := TX1) (N := 8) hx hb hw0 inA_wsX10 hown hK.1 hP 0 rfl rfl 0 (by decide) (hw0 _ m_307) (fun _ h9 => h9) rfl dX1_add_1 ?_
  refine lv_sipush (v := 600) hx hb dX1_add_4 (by decide) ?_
  refine lv_icmp_lt (tgt := 11) hx hb dX1_add_7 (by decide) (fun c_1001 => ?_) (fun c_1001 => ?_)
  · skip
    have nc_1001 := nb_lt (599) (600) c_1001 p_ob_size (bkc (x := 600) (c := 600) (by decide)) (by decide)
    refine lv_aload_n hx hb dX1_add_11 rfl (lv_at hl 0 rfl) ?_
    refine va_get (D := G) (ci := 1) (v := .ref ob_debtor) (C := RX1) (T := TX1) (N := 8) hx hb hw0 inA_wsX10 hown hK.1 hP 0 rfl rfl 1 (by decide) (hw0 _ m_308) (fun _ h9 => h9) rfl dX1_add_12 ?_
    refine lv_aload_n hx hb dX1_add_15 rfl (lv_at hl 0 rfl) ?_
    refine va_get (D := G) (ci := 1) (v := .int ob_size) (C := RX1) (T := TX1) (N := 8) hx hb hw0 inA_wsX10 hown hK.1 hP 0 rfl rfl 0 (by decide) (hw0 _ m_307) (fun _ h9 => h9) rfl dX1_add_16 ?_
    refine lv_iload_n hx hb dX1_add_19 rfl (lv_at hl 1 rfl) ?_
    refine va_iast hx hb hK.1 hP hD hS 1 1 rfl rfl (vi nc_1001.1 (by decide)) dX1_add_20 (fun H locs hP hD hS => ?_)
    generalize hf_1002 : (upd fob_debtor (ob_size : Int32).toNatClampNeg a1) = f_1002 at hP hD
    obtain ⟨hP, hD⟩ : vPD G A H [(ce_X1 ob ob_size ob_debtor ob_creditor ob_kind ob_due ob_came ob_open ob_kinds), (ce_i600 y ob_debtor f_1002), (ce_i600 y ob_creditor fob_creditor), (ce_i600 y ob_kind fob_kind), (ce_i600 y ob_due fob_due), (ce_i600 y ob_came fob_came), (ce_i16 y ob_open fob_open), (ce_i256 y ob_kinds fob_kinds)] := ⟨hP, hD⟩
    refine lv_aload_n hx hb dX1_add_21 rfl (lv_at hl 0 rfl) ?_
    refine va_get (D := G) (ci := 1) (v := .ref ob_creditor) (C := RX1) (T := TX1) (N := 8) hx hb hw0 inA_wsX10 hown hK.1 hP 0 rfl rfl 2 (by decide) (hw0 _ m_309) (fun _ h9 => h9) rfl dX1_add_22 ?_
    refine lv_aload_n hx hb dX1_add_25 rfl (lv_at hl 0 rfl) ?_
    refine va_get (D := G) (ci := 1) (v := .int ob_size) (C := RX1) (T := TX1) (N := 8) hx hb hw0 inA_wsX10 hown hK.1 hP 0 rfl rfl 0 (by decide) (hw0 _ m_307) (fun _ h9 => h9) rfl dX1_add_26 ?_
    refine lv_iload_n hx hb dX1_add_29 rfl (lv_at hl 2 rfl) ?_
    refine va_iast hx hb hK.1 hP hD hS 2 1 rfl rfl (vi nc_1001.1 (by decide)) dX1_add_30 (fun H locs hP hD hS => ?_)
    generalize hf_1003 : (upd fob_creditor (ob_size : Int32).toNatClampNeg a2) = f_1003 at hP hD
    have bf_1003 : ∀ i, (0 : Int) ≤ (f_1003 i).toInt ∧ (f_1003 i).toInt ≤ 15 := hf_1003 ▸ up_b p_fob_creditor p_a2
    obtain ⟨hP, hD⟩ : vPD G A H [(ce_X1 ob ob_size ob_debtor ob_creditor ob_kind ob_due ob_came ob_open ob_kinds), (ce_i600 y ob_debtor f_1002), (ce_i600 y ob_creditor f_1003), (ce_i600 y ob_kind fob_kind), (ce_i600 y ob_due fob_due), (ce_i600 y ob_came fob_came), (ce_i16 y ob_open fob_open), (ce_i256 y ob_kinds fob_kinds)] := ⟨hP, hD⟩
    refine lv_aload_n hx hb dX1_add_31 rfl (lv_at hl 0 rfl) ?_
    refine va_get (D := G) (ci := 1) (v := .ref ob_kind) (C := RX1) (T := TX1) (N := 8) hx hb hw0 inA_wsX10 hown hK.1 hP 0 rfl rfl 3 (by decide) (hw0 _ m_310) (fun _ h9 => h9) rfl dX1_add_32 ?_
    refine lv_aload_n hx hb dX1_add_35 rfl (lv_at hl 0 rfl) ?_
    refine va_get (D := G) (ci := 1) (v := .int ob_size) (C := RX1) (T := TX1) (N := 8) hx hb hw0 inA_wsX10 hown hK.1 hP 0 rfl rfl 0 (by decide) (hw0 _ m_307) (fun _ h9 => h9) rfl dX1_add_36 ?_
    refine lv_iload_n hx hb dX1_add_39 rfl (lv_at hl 3 rfl) ?_
    refine va_iast hx hb hK.1 hP hD hS 3 1 rfl rfl (vi nc_1001.1 (by decide)) dX1_add_40 (fun H locs hP hD hS => ?_)
    generalize hf_1004 : (upd fob_kind (ob_size : Int32).toNatClampNeg a3) = f_1004 at hP hD
    obtain ⟨hP, hD⟩ : vPD G A H [(ce_X1 ob ob_size ob_debtor ob_creditor ob_kind ob_due ob_came ob_open ob_kinds), (ce_i600 y ob_debtor f_1002), (ce_i600 y ob_creditor f_1003), (ce_i600 y ob_kind f_1004), (ce_i600 y ob_due fob_due), (ce_i600 y ob_came fob_came), (ce_i16 y ob_open fob_open), (ce_i256 y ob_kinds fob_kinds)] := ⟨hP, hD⟩
    refine lv_aload_n hx hb dX1_add_41 rfl (lv_at hl 0 rfl) ?_
    refine va_get (D := G) (ci := 1) (v := .ref ob_due) (C := RX1) (T := TX1) (N := 8) hx hb hw0 inA_wsX10 hown hK.1 hP 0 rfl rfl 4 (by decide) (hw0 _ m_311) (fun _ h9 => h9) rfl dX1_add_42 ?_
    refine lv_aload_n hx hb dX1_add_45 rfl (lv_at hl 0 rfl) ?_
    refine va_get (D := G) (ci := 1) (v := .int ob_size) (C := RX1) (T := TX1) (N := 8) hx hb hw0 inA_wsX10 hown hK.1 hP 0 rfl rfl 0 (by decide) (hw0 _ m_307) (fun _ h9 => h9) rfl dX1_add_46 ?_
    refine lv_iload hx hb dX1_add_49 (lv_at hl 4 rfl) ?_
    refine va_iast hx hb hK.1 hP hD hS 4 1 rfl rfl (vi nc_1001.1 (by decide)) dX1_add_51 (fun H locs hP hD hS => ?_)
    generalize hf_1005 : (upd fob_due (ob_size : Int32).toNatClampNeg a4) = f_1005 at hP hD
    obtain ⟨hP, hD⟩ : vPD G A H [(ce_X1 ob ob_size ob_debtor ob_creditor ob_kind ob_due ob_came ob_open ob_kinds), (ce_i600 y ob_debtor f_1002), (ce_i600 y ob_creditor f_1003), (ce_i600 y ob_kind f_1004), (ce_i600 y ob_due f_1005), (ce_i600 y ob_came fob_came), (ce_i16 y ob_open fob_open), (ce_i256 y ob_kinds fob_kinds)] := ⟨hP, hD⟩
    refine lv_aload_n hx hb dX1_add_52 rfl (lv_at hl 0 rfl) ?_
    refine va_get (D := G) (ci := 1) (v := .ref ob_came) (C := RX1) (T := TX1) (N := 8) hx hb hw0 inA_wsX10 hown hK.1 hP 0 rfl rfl 5 (by decide) (hw0 _ m_312) (fun _ h9 => h9) rfl dX1_add_53 ?_
    refine lv_aload_n hx hb dX1_add_56 rfl (lv_at hl 0 rfl) ?_
    refine va_get (D := G) (ci := 1) (v := .int ob_size) (C := RX1) (T := TX1) (N := 8) hx hb hw0 inA_wsX10 hown hK.1 hP 0 rfl rfl 0 (by decide) (hw0 _ m_307) (fun _ h9 => h9) rfl dX1_add_57 ?_
    refine lv_iload hx hb dX1_add_60 (lv_at hl 5 rfl) ?_
    refine va_iast hx hb hK.1 hP hD hS 5 1 rfl rfl (vi nc_1001.1 (by decide)) dX1_add_62 (fun H locs hP hD hS => ?_)
    generalize hf_1006 : (upd fob_came (ob_size : Int32).toNatClampNeg a5) = f_1006 at hP hD
    obtain ⟨hP, hD⟩ : vPD G A H [(ce_X1 ob ob_size ob_debtor ob_creditor ob_kind ob_due ob_came ob_open ob_kinds), (ce_i600 y ob_debtor f_1002), (ce_i600 y ob_creditor f_1003), (ce_i600 y ob_kind f_1004), (ce_i600 y ob_due f_1005), (ce_i600 y ob_came f_1006), (ce_i16 y ob_open fob_open), (ce_i256 y ob_kinds fob_kinds)] := ⟨hP, hD⟩
    refine lv_aload_n hx hb dX1_add_63 rfl (lv_at hl 0 rfl) ?_
    refine lv_dup hx hb dX1_add_64 rfl ?_
    refine va_get (D := G) (ci := 1) (v := .int ob_size) (C := RX1) (T := TX1) (N := 8) hx hb hw0 inA_wsX10 hown hK.1 hP 0 rfl rfl 0 (by decide) (hw0 _ m_307) (fun _ h9 => h9) rfl dX1_add_65 ?_
    refine lv_iconst (v := 1) hx hb dX1_add_68 (by decide) ?_
    refine lv_iadd hx hb dX1_add_69 ?_
    refine lv_topi (fun v_1007 ev_1007 => ?_)
    have qv_1007 := ba_add ev_1007 nc_1001.1 (bkc (x := 1) (c := 1) (by decide)) (by decide)
    have bv_1007 : (1 : Int) ≤ v_1007.toInt ∧ v_1007.toInt ≤ 600 := bq_add qv_1007 nc_1001.1 (bkc (x := 1) (c := 1) (by decide)) _ _ (by decide)
    have qv_1007 : v_1007.toInt = ob_size.toInt + (1) := qv_1007
    refine va_put (D := G) (ci := 1) (v := .int v_1007) (ty := .int) (C := RX1) (T := TX1) (N := 8) hx hb hw0 inA_wsX10 tyX1 tyX1_ok nmX1 hown hK.1 hP hD hS 0 rfl rfl 0 (by decide) (hw0 _ m_307) (fun _ h9 => h9) rfl fd_X1_0 rfl rfl (Nat.le_of_ble_eq_true rfl) dX1_add_70 (fun H locs hP hD hS => ?_)
    obtain ⟨hP, hD⟩ : vPD G A H [(ce_X1 ob v_1007 ob_debtor ob_creditor ob_kind ob_due ob_came ob_open ob_kinds), (ce_i600 y ob_debtor f_1002), (ce_i600 y ob_creditor f_1003), (ce_i600 y ob_kind f_1004), (ce_i600 y ob_due f_1005), (ce_i600 y ob_came f_1006), (ce_i16 y ob_open fob_open), (ce_i256 y ob_kinds fob_kinds)] := ⟨hP, hD⟩
    refine lv_aload_n hx hb dX1_add_73 rfl (lv_at hl 0 rfl) ?_
    refine va_get (D := G) (ci := 1) (v := .ref ob_open) (C := RX1) (T := TX1) (N := 8) hx hb hw0 inA_wsX10 hown hK.1 hP 0 rfl rfl 6 (by decide) (hw0 _ m_313) (fun _ h9 => h9) rfl dX1_add_74 ?_
    refine lv_iload_n hx hb dX1_add_77 rfl (lv_at hl 1 rfl) ?_
    refine lv_dup2_11 hx hb dX1_add_78 rfl rfl ?_
    refine va_iald hx hb hK.1 hP 6 1 rfl rfl (vi p_a1 (by decide)) dX1_add_79 ?_
    refine lv_topi (fun v_1008 ev_1008 => ?_)
    refine lv_iconst (v := 1) hx hb dX1_add_80 (by decide) ?_
    refine lv_iadd hx hb dX1_add_81 ?_
    refine lv_topi (fun v_1009 ev_1009 => ?_)
    refine va_iast hx hb hK.1 hP hD hS 6 1 rfl rfl (vi p_a1 (by decide)) dX1_add_82 (fun H locs hP hD hS => ?_)
    generalize hf_1010 : (upd fob_open (a1 : Int32).toNatClampNeg v_1009) = f_1010 at hP hD
    obtain ⟨hP, hD⟩ : vPD G A H [(ce_X1 ob v_1007 ob_debtor ob_creditor ob_kind ob_due ob_came ob_open ob_kinds), (ce_i600 y ob_debtor f_1002), (ce_i600 y ob_creditor f_1003), (ce_i600 y ob_kind f_1004), (ce_i600 y ob_due f_1005), (ce_i600 y ob_came f_1006), (ce_i16 y ob_open f_1010), (ce_i256 y ob_kinds fob_kinds)] := ⟨hP, hD⟩
    refine lv_aload_n hx hb dX1_add_83 rfl (lv_at hl 0 rfl) ?_
    refine va_get (D := G) (ci := 1) (v := .ref ob_kinds) (C := RX1) (T := TX1) (N := 8) hx hb hw0 inA_wsX10 hown hK.1 hP 0 rfl rfl 7 (by decide) (hw0 _ m_314) (fun _ h9 => h9) rfl dX1_add_84 ?_
    refine lv_iload_n hx hb dX1_add_87 rfl (lv_at hl 1 rfl) ?_
    refine lv_bipush (v := 16) hx hb dX1_add_88 (by decide) ?_
    refine lv_imul hx hb dX1_add_90 ?_
    refine lv_topi (fun v_1011 ev_1011 => ?_)
    have qv_1011 := ba_mul 16 ev_1011 p_a1 (by decide) (by decide) (by decide)
    have bv_1011 : (0 : Int) ≤ v_1011.toInt ∧ v_1011.toInt ≤ 240 := qv_1011.2
    refine lv_iload_n hx hb dX1_add_91 rfl (lv_at hl 2 rfl) ?_
    refine lv_iadd hx hb dX1_add_92 ?_
    refine lv_topi (fun v_1012 ev_1012 => ?_)
    have qv_1012 := ba_add ev_1012 bv_1011 p_a2 (by decide)
    have bv_1012 : (0 : Int) ≤ v_1012.toInt ∧ v_1012.toInt ≤ 255 := bq_add qv_1012 bv_1011 p_a2 _ _ (by decide)
    refine lv_dup2_11 hx hb dX1_add_93 rfl rfl ?_
    refine va_iald hx hb hK.1 hP 7 1 rfl rfl (vi bv_1012 (by decide)) dX1_add_94 ?_
    refine lv_topi (fun v_1013 ev_1013 => ?_)
    refine lv_iconst (v := 1) hx hb dX1_add_95 (by decide) ?_
    refine lv_iload_n hx hb dX1_add_96 rfl (lv_at hl 3 rfl) ?_
    refine lv_ishl hx hb dX1_add_97 ?_
    refine lv_topi (fun v_1014 ev_1014 => ?_)
    refine lv_ior hx hb dX1_add_98 ?_
    refine lv_topi (fun v_1015 ev_1015 => ?_)
    refine va_iast hx hb hK.1 hP hD hS 7 1 rfl rfl (vi bv_1012 (by decide)) dX1_add_99 (fun H locs hP hD hS => ?_)
    generalize hf_1016 : (upd fob_kinds (v_1012 : Int32).toNatClampNeg v_1015) = f_1016 at hP hD
    obtain ⟨hP, hD⟩ : vPD G A H [(ce_X1 ob v_1007 ob_debtor ob_creditor ob_kind ob_due ob_came ob_open ob_kinds), (ce_i600 y ob_debtor f_1002), (ce_i600 y ob_creditor f_1003), (ce_i600 y ob_kind f_1004), (ce_i600 y ob_due f_1005), (ce_i600 y ob_came f_1006), (ce_i16 y ob_open f_1010), (ce_i256 y ob_kinds f_1016)] := ⟨hP, hD⟩
    exact W.vret hx hb hr (fun t ht hW => ⟨⟨_, rfl, ⟨v_1007, f_1002, f_1003, f_1004, f_1005, f_1006, f_1010, f_1016, bv_1007, bf_1003, rfl⟩, by rw [ht]; exact hP, hD⟩, hS.F ht⟩) hS.2.2 dX1_add_100
  · skip
    have nc_1001 := nb_nlt (600) (600) c_1001 (bkc (x := 600) (c := 600) (by decide)) p_ob_size (by decide)
    exact W.vret hx hb hr (fun t ht hW => ⟨⟨_, rfl, ⟨ob_size, fob_debtor, fob_creditor, fob_kind, fob_due, fob_came, fob_open, fob_kinds, (bw (1) (600) nc_1001.2.1 (by decide)), p_fob_creditor, rfl⟩, by rw [ht]; exact hP, hD⟩, hS.F ht⟩) hS.2.2 dX1_add_10

set_option maxHeartbeats 4000000 in
set_option maxRecDepth 100000 in
theorem sX1_move (l : Launch) (G : va_G) (y : Nat → ClassId) (sz : Nat) (ob : Nat) (a1 : Int32) (a2 : Int32) (ob_size : Int32) (ob_debtor : Nat) (ob_creditor : Nat) (ob_kind : Nat) (ob_due : Nat) (ob_came : Nat) (ob_open : Nat) (ob_kinds : Nat) (fob_debtor : Nat → Int32) (fob_creditor : Nat → Int32) (fob_kind : Nat → Int32) (fob_due : Nat → Int32) (fob_came : Nat → Int32) (p_ob_size : (0 : Int) ≤ ob_size.toInt ∧ ob_size.toInt ≤ 600) (p_fob_creditor : ∀ i, (0 : Int) ≤ (fob_creditor i).toInt ∧ (fob_creditor i).toInt ≤ 15) (p_a1 : (0 : Int) ≤ a1.toInt ∧ a1.toInt ≤ 599) (p_a2 : (0 : Int) ≤ a2.toInt ∧ a2.toInt ≤ 599) : Met l yX1_move (Cond.code yX1_move cX1_move 3 none :: wAll) ({ frames := 0, cells := 0, slots := 0, locals := 0 }) (va_Pc [.ref ob, .int a1, .int a2] (kp G y sz [(ce_X1 ob ob_size ob_debtor ob_creditor ob_kind ob_due ob_came ob_open ob_kinds), (ce_i600 y ob_debtor fob_debtor), (ce_i600 y ob_creditor fob_creditor), (ce_i600 y ob_kind fob_kind), (ce_i600 y ob_due fob_due), (ce_i600 y ob_came fob_came)])) (va_Qv (fun (w : va_W) => (∃ (f_21 : Nat → Int32) (f_22 : Nat → Int32) (f_23 : Nat → Int32) (f_24 : Nat → Int32) (f_25 : Nat → Int32), (∀ i, (0 : Int) ≤ (f_22 i).toInt ∧ (f_22 i).toInt ≤ 15) ∧ w = [(ce_X1 ob ob_size ob_debtor ob_creditor ob_kind ob_due ob_came ob_open ob_kinds), (ce_i600 y ob_debtor f_21), (ce_i600 y ob_creditor f_22), (ce_i600 y ob_kind f_23), (ce_i600 y ob_due f_24), (ce_i600 y ob_came f_25)])) (kq G (va_A [(ce_X1 ob ob_size ob_debtor ob_creditor ob_kind ob_due ob_came ob_open ob_kinds), (ce_i600 y ob_debtor fob_debtor), (ce_i600 y ob_creditor fob_creditor), (ce_i600 y ob_kind fob_kind), (ce_i600 y ob_due fob_due), (ce_i600 y ob_came fob_came)] sz)) (va_A [(ce_X1 ob ob_size ob_debtor ob_creditor ob_kind ob_due ob_came ob_open ob_kinds), (ce_i600 y ob_debtor fob_debtor), (ce_i600 y ob_creditor fob_creditor), (ce_i600 y ob_kind fob_kind), (ce_i600 y ob_due fob_due), (ce_i600 y ob_came fob_came)] sz)) 0 0 (va_A [(ce_X1 ob ob_size ob_debtor ob_creditor ob_kind ob_due ob_came ob_open ob_kinds), (ce_i600 y ob_debtor fob_debtor), (ce_i600 y ob_creditor fob_creditor), (ce_i600 y ob_kind fob_kind), (ce_i600 y ob_due fob_due), (ce_i600 y ob_came fob_came)] sz) := by
  refine Met.ofW (cc := cX1_move) (maxL := 3) (ret := none) (by decide) rfl ?_
  intro p e s m args below meth c s₁ B hml hv
  obtain ⟨rfl, hsz, hP, hK, hD0⟩ := hv
  have hx := B.exec
  have hb := B.bytes
  have hr := B.returns
  have hw0 : ∀ w ∈ wAll, w.before _ s = true := fun w h => atoms_spec (ws := Cond.code yX1_move cX1_move 3 none :: wAll) B.pre w (List.mem_cons_of_mem _ h)
  have hown : s.vm.findClass RX1 = some m.cls := findClass_of_methodNamed B.named
  subst hsz
  have hD := hD0.self (sz := s.heap.size)
  generalize hAe : va_A [(ce_X1 ob ob_size ob_debtor ob_creditor ob_kind ob_due ob_came ob_open ob_kinds), (ce_i600 y ob_debtor fob_debtor), (ce_i600 y ob_creditor fob_creditor), (ce_i600 y ob_kind fob_kind), (ce_i600 y ob_due fob_due), (ce_i600 y ob_came fob_came)] s.heap.size = A at hD ⊢
  have hA : ∀ q : Nat, s.heap.size ≤ q → A q := fun q h => by rw [← hAe]; exact Or.inr h
  have hS : va_S A s.heap s.heap [] := va_S.rf
  have hP : va_P G vwCl [(ce_X1 ob ob_size ob_debtor ob_creditor ob_kind ob_due ob_came ob_open ob_kinds), (ce_i600 y ob_debtor fob_debtor), (ce_i600 y ob_creditor fob_creditor), (ce_i600 y ob_kind fob_kind), (ce_i600 y ob_due fob_due), (ce_i600 y ob_came fob_came)] s.heap := hP
  have hl := lv_entry ([.ref ob, .int a1, .int a2]) (n := 3) (Nat.le_of_ble_eq_true rfl)
  rw [lg_entry_eq]
  generalize (lg_sl ([.ref ob, .int a1, .int a2]) ++ List.replicate (3 - (lg_sl ([.ref ob, .int a1, .int a2])).length) Slot.unset).toArray = ls at hl ⊢
  have hl : lv_has ls 3 [(0, .ref ob), (1, .int a1), (2, .int a2)] := hl
  refine lv_aload_n hx hb dX1_move_0 rfl (lv_at hl 0 rfl) ?_
  refine va_get (D := G) (ci := 1) (v := .ref ob_debtor) (C := RX1) (T := TX1) (N := 8) hx hb hw0 inA_wsX10 hown hK.1 hP 0 rfl rfl 1 (by decide) (hw0 _ m_308) (fun _ h9 => h9) rfl dX1_move_1 ?_
  refine lv_iload_n hx hb dX1_move_4 rfl (lv_at hl 2 rfl) ?_
  refine lv_aload_n hx hb dX1_move_5 rfl (lv_at hl 0 rfl) ?_
  refine va_get (D := G) (ci := 1) (v := .ref ob_debtor) (C := RX1) (T := TX1) (N := 8) hx hb hw0 inA_wsX10 hown hK.1 hP 0 rfl rfl 1 (by decide) (hw0 _ m_308) (fun _ h9 => h9) rfl dX1_move_6 ?_
  refine lv_iload_n hx hb dX1_move_9 rfl (lv_at hl 1 rfl) ?_
  refine va_iald hx hb hK.1 hP 1 1 rfl rfl (vi p_a1 (by decide)) dX1_move_10 ?_
  refine lv_topi (fun v_1001 ev_1001 => ?_)
  refine va_iast hx hb hK.1 hP hD hS 1 1 rfl rfl (vi p_a2 (by decide)) dX1_move_11 (fun H locs hP hD hS => ?_)
  generalize hf_1002 : (upd fob_debtor (a2 : Int32).toNatClampNeg v_1001) = f_1002 at hP hD
  obtain ⟨hP, hD⟩ : vPD G A H [(ce_X1 ob ob_size ob_debtor ob_creditor ob_kind ob_due ob_came ob_open ob_kinds), (ce_i600 y ob_debtor f_1002), (ce_i600 y ob_creditor fob_creditor), (ce_i600 y ob_kind fob_kind), (ce_i600 y ob_due fob_due), (ce_i600 y ob_came fob_came)] := ⟨hP, hD⟩
  refine lv_aload_n hx hb dX1_move_12 rfl (lv_at hl 0 rfl) ?_
  refine va_get (D := G) (ci := 1) (v := .ref ob_creditor) (C := RX1) (T := TX1) (N := 8) hx hb hw0 inA_wsX10 hown hK.1 hP 0 rfl rfl 2 (by decide) (hw0 _ m_309) (fun _ h9 => h9) rfl dX1_move_13 ?_
  refine lv_iload_n hx hb dX1_move_16 rfl (lv_at hl 2 rfl) ?_
  refine lv_aload_n hx hb dX1_move_17 rfl (lv_at hl 0 rfl) ?_
  refine va_get (D := G) (ci := 1) (v := .ref ob_creditor) (C := RX1) (T := TX1) (N := 8) hx hb hw0 inA_wsX10 hown hK.1 hP 0 rfl rfl 2 (by decide) (hw0 _ m_309) (fun _ h9 => h9) rfl dX1_move_18 ?_
  refine lv_iload_n hx hb dX1_move_21 rfl (lv_at hl 1 rfl) ?_
  refine va_iald hx hb hK.1 hP 2 1 rfl rfl (vi p_a1 (by decide)) dX1_move_22 ?_
  refine lv_topi (fun v_1003 ev_1003 => ?_)
  have bv_1003 : (0 : Int) ≤ v_1003.toInt ∧ v_1003.toInt ≤ 15 := rd_b ev_1003 p_fob_creditor
  refine va_iast hx hb hK.1 hP hD hS 2 1 rfl rfl (vi p_a2 (by decide)) dX1_move_23 (fun H locs hP hD hS => ?_)
  generalize hf_1004 : (upd fob_creditor (a2 : Int32).toNatClampNeg v_1003) = f_1004 at hP hD
  have bf_1004 : ∀ i, (0 : Int) ≤ (f_1004 i).toInt ∧ (f_1004 i).toInt ≤ 15 := hf_1004 ▸ up_b p_fob_creditor bv_1003
  obtain ⟨hP, hD⟩ : vPD G A H [(ce_X1 ob ob_size ob_debtor ob_creditor ob_kind ob_due ob_came ob_open ob_kinds), (ce_i600 y ob_debtor f_1002), (ce_i600 y ob_creditor f_1004), (ce_i600 y ob_kind fob_kind), (ce_i600 y ob_due fob_due), (ce_i600 y ob_came fob_came)] := ⟨hP, hD⟩
  refine lv_aload_n hx hb dX1_move_24 rfl (lv_at hl 0 rfl) ?_
  refine va_get (D := G) (ci := 1) (v := .ref ob_kind) (C := RX1) (T := TX1) (N := 8) hx hb hw0 inA_wsX10 hown hK.1 hP 0 rfl rfl 3 (by decide) (hw0 _ m_310) (fun _ h9 => h9) rfl dX1_move_25 ?_
  refine lv_iload_n hx hb dX1_move_28 rfl (lv_at hl 2 rfl) ?_
  refine lv_aload_n hx hb dX1_move_29 rfl (lv_at hl 0 rfl) ?_
  refine va_get (D := G) (ci := 1) (v := .ref ob_kind) (C := RX1) (T := TX1) (N := 8) hx hb hw0 inA_wsX10 hown hK.1 hP 0 rfl rfl 3 (by decide) (hw0 _ m_310) (fun _ h9 => h9) rfl dX1_move_30 ?_
  refine lv_iload_n hx hb dX1_move_33 rfl (lv_at hl 1 rfl) ?_
  refine va_iald hx hb hK.1 hP 3 1 rfl rfl (vi p_a1 (by decide)) dX1_move_34 ?_
  refine lv_topi (fun v_1005 ev_1005 => ?_)
  refine va_iast hx hb hK.1 hP hD hS 3 1 rfl rfl (vi p_a2 (by decide)) dX1_move_35 (fun H locs hP hD hS => ?_)
  generalize hf_1006 : (upd fob_kind (a2 : Int32).toNatClampNeg v_1005) = f_1006 at hP hD
  obtain ⟨hP, hD⟩ : vPD G A H [(ce_X1 ob ob_size ob_debtor ob_creditor ob_kind ob_due ob_came ob_open ob_kinds), (ce_i600 y ob_debtor f_1002), (ce_i600 y ob_creditor f_1004), (ce_i600 y ob_kind f_1006), (ce_i600 y ob_due fob_due), (ce_i600 y ob_came fob_came)] := ⟨hP, hD⟩
  refine lv_aload_n hx hb dX1_move_36 rfl (lv_at hl 0 rfl) ?_
  refine va_get (D := G) (ci := 1) (v := .ref ob_due) (C := RX1) (T := TX1) (N := 8) hx hb hw0 inA_wsX10 hown hK.1 hP 0 rfl rfl 4 (by decide) (hw0 _ m_311) (fun _ h9 => h9) rfl dX1_move_37 ?_
  refine lv_iload_n hx hb dX1_move_40 rfl (lv_at hl 2 rfl) ?_
  refine lv_aload_n hx hb dX1_move_41 rfl (lv_at hl 0 rfl) ?_
  refine va_get (D := G) (ci := 1) (v := .ref ob_due) (C := RX1) (T := TX1) (N := 8) hx hb hw0 inA_wsX10 hown hK.1 hP 0 rfl rfl 4 (by decide) (hw0 _ m_311) (fun _ h9 => h9) rfl dX1_move_42 ?_
  refine lv_iload_n hx hb dX1_move_45 rfl (lv_at hl 1 rfl) ?_
  refine va_iald hx hb hK.1 hP 4 1 rfl rfl (vi p_a1 (by decide)) dX1_move_46 ?_
  refine lv_topi (fun v_1007 ev_1007 => ?_)
  refine va_iast hx hb hK.1 hP hD hS 4 1 rfl rfl (vi p_a2 (by decide)) dX1_move_47 (fun H locs hP hD hS => ?_)
  generalize hf_1008 : (upd fob_due (a2 : Int32).toNatClampNeg v_1007) = f_1008 at hP hD
  obtain ⟨hP, hD⟩ : vPD G A H [(ce_X1 ob ob_size ob_debtor ob_creditor ob_kind ob_due ob_came ob_open ob_kinds), (ce_i600 y ob_debtor f_1002), (ce_i600 y ob_creditor f_1004), (ce_i600 y ob_kind f_1006), (ce_i600 y ob_due f_1008), (ce_i600 y ob_came fob_came)] := ⟨hP, hD⟩
  refine lv_aload_n hx hb dX1_move_48 rfl (lv_at hl 0 rfl) ?_
  refine va_get (D := G) (ci := 1) (v := .ref ob_came) (C := RX1) (T := TX1) (N := 8) hx hb hw0 inA_wsX10 hown hK.1 hP 0 rfl rfl 5 (by decide) (hw0 _ m_312) (fun _ h9 => h9) rfl dX1_move_49 ?_
  refine lv_iload_n hx hb dX1_move_52 rfl (lv_at hl 2 rfl) ?_
  refine lv_aload_n hx hb dX1_move_53 rfl (lv_at hl 0 rfl) ?_
  refine va_get (D := G) (ci := 1) (v := .ref ob_came) (C := RX1) (T := TX1) (N := 8) hx hb hw0 inA_wsX10 hown hK.1 hP 0 rfl rfl 5 (by decide) (hw0 _ m_312) (fun _ h9 => h9) rfl dX1_move_54 ?_
  refine lv_iload_n hx hb dX1_move_57 rfl (lv_at hl 1 rfl) ?_
  refine va_iald hx hb hK.1 hP 5 1 rfl rfl (vi p_a1 (by decide)) dX1_move_58 ?_
  refine lv_topi (fun v_1009 ev_1009 => ?_)
  refine va_iast hx hb hK.1 hP hD hS 5 1 rfl rfl (vi p_a2 (by decide)) dX1_move_59 (fun H locs hP hD hS => ?_)
  generalize hf_1010 : (upd fob_came (a2 : Int32).toNatClampNeg v_1009) = f_1010 at hP hD
  obtain ⟨hP, hD⟩ : vPD G A H [(ce_X1 ob ob_size ob_debtor ob_creditor ob_kind ob_due ob_came ob_open ob_kinds), (ce_i600 y ob_debtor f_1002), (ce_i600 y ob_creditor f_1004), (ce_i600 y ob_kind f_1006), (ce_i600 y ob_due f_1008), (ce_i600 y ob_came f_1010)] := ⟨hP, hD⟩
  exact W.vret hx hb hr (fun t ht hW => ⟨⟨_, rfl, ⟨f_1002, f_1004, f_1006, f_1008, f_1010, bf_1004, rfl⟩, by rw [ht]; exact hP, hD⟩, hS.F ht⟩) hS.2.2 dX1_move_60

set_option maxHeartbeats 4000000 in
set_option maxRecDepth 100000 in
theorem sX2_isFull (l : Launch) (G : va_G) (y : Nat → ClassId) (sz : Nat) (ob : Nat) (ob_size : Int32) (ob_who : Nat) (ob_whom : Nat) (ob_what : Nat) (ob_day : Nat) (p_ob_size : (0 : Int) ≤ ob_size.toInt ∧ ob_size.toInt ≤ 600) : Met l yX2_isFull (Cond.code yX2_isFull cX2_isFull 1 (some .boolean) :: wAll) ({ frames := 0, cells := 0, slots := 0, locals := 0 }) (va_Pc [.ref ob] (kp G y sz [(ce_X2 ob ob_size ob_who ob_whom ob_what ob_day)])) (va_Qi (fun (r : Int32) (w : va_W) => (((0 : Int) ≤ ob_size.toInt ∧ ob_size.toInt ≤ 599) ∧ r = 0 ∧ w = [(ce_X2 ob ob_size ob_who ob_whom ob_what ob_day)]) ∨ (((600 : Int) ≤ ob_size.toInt ∧ ob_size.toInt ≤ 600) ∧ r = 1 ∧ w = [(ce_X2 ob ob_size ob_who ob_whom ob_what ob_day)])) (kq G (va_A [(ce_X2 ob ob_size ob_who ob_whom ob_what ob_day)] sz)) (va_A [(ce_X2 ob ob_size ob_who ob_whom ob_what ob_day)] sz)) 0 0 (va_A [(ce_X2 ob ob_size ob_who ob_whom ob_what ob_day)] sz) := by
  refine Met.ofW (cc := cX2_isFull) (maxL := 1) (ret := (some .boolean)) (by decide) rfl ?_
  intro p e s m args below meth c s₁ B hml hv
  obtain ⟨rfl, hsz, hP, hK, hD0⟩ := hv
  have hx := B.exec
  have hb := B.bytes
  have hr := B.returns
  have hw0 : ∀ w ∈ wAll, w.before _ s = true := fun w h => atoms_spec (ws := Cond.code yX2_isFull cX2_isFull 1 (some .boolean) :: wAll) B.pre w (List.mem_cons_of_mem _ h)
  have hown : s.vm.findClass RX2 = some m.cls := findClass_of_methodNamed B.named
  subst hsz
  have hD := hD0.self (sz := s.heap.size)
  generalize hAe : va_A [(ce_X2 ob ob_size ob_who ob_whom ob_what ob_day)] s.heap.size = A at hD ⊢
  have hA : ∀ q : Nat, s.heap.size ≤ q → A q := fun q h => by rw [← hAe]; exact Or.inr h
  have hS : va_S A s.heap s.heap [] := va_S.rf
  have hP : va_P G vwCl [(ce_X2 ob ob_size ob_who ob_whom ob_what ob_day)] s.heap := hP
  have hl := lv_entry ([.ref ob]) (n := 1) (Nat.le_of_ble_eq_true rfl)
  rw [lg_entry_eq]
  generalize (lg_sl ([.ref ob]) ++ List.replicate (1 - (lg_sl ([.ref ob])).length) Slot.unset).toArray = ls at hl ⊢
  have hl : lv_has ls 1 [(0, .ref ob)] := hl
  refine lv_aload_n hx hb dX2_isFull_0 rfl (lv_at hl 0 rfl) ?_
  refine va_get (D := G) (ci := 2) (v := .int ob_size) (C := RX2) (T := TX2) (N := 5) hx hb hw0 inA_wsX20 hown hK.1 hP 0 rfl rfl 0 (by decide) (hw0 _ m_702) (fun _ h9 => h9) rfl dX2_isFull_1 ?_
  refine lv_sipush (v := 600) hx hb dX2_isFull_4 (by decide) ?_
  refine lv_icmp_lt (tgt := 14) hx hb dX2_isFull_7 (by decide) (fun c_1001 => ?_) (fun c_1001 => ?_)
  · skip
    have nc_1001 := nb_lt (599) (600) c_1001 p_ob_size (bkc (x := 600) (c := 600) (by decide)) (by decide)
    refine lv_iconst (v := 0) hx hb dX2_isFull_14 (by decide) ?_
    exact W.zret (v := 0) hx hb hr rfl (fun t ht hW => ⟨⟨0, _, rfl, Or.inl (⟨nc_1001.1, rfl, rfl⟩), by rw [ht]; exact hP, hD⟩, hS.F ht⟩) hS.2.2 dX2_isFull_15
  · skip
    have nc_1001 := nb_nlt (600) (600) c_1001 (bkc (x := 600) (c := 600) (by decide)) p_ob_size (by decide)
    refine lv_iconst (v := 1) hx hb dX2_isFull_10 (by decide) ?_
    refine lv_goto (tgt := 15) hx hb dX2_isFull_11 (by decide) ?_
    exact W.zret (v := 1) hx hb hr rfl (fun t ht hW => ⟨⟨1, _, rfl, Or.inr (⟨nc_1001.2.1, rfl, rfl⟩), by rw [ht]; exact hP, hD⟩, hS.F ht⟩) hS.2.2 dX2_isFull_15

set_option maxHeartbeats 4000000 in
set_option maxRecDepth 100000 in
theorem sX2_add (l : Launch) (G : va_G) (y : Nat → ClassId) (sz : Nat) (ob : Nat) (a1 : Int32) (a2 : Int32) (a3 : Int32) (a4 : Int32) (ob_size : Int32) (ob_who : Nat) (ob_whom : Nat) (ob_what : Nat) (ob_day : Nat) (fob_who : Nat → Int32) (fob_whom : Nat → Int32) (fob_what : Nat → Int32) (fob_day : Nat → Int32) (p_ob_size : (0 : Int) ≤ ob_size.toInt ∧ ob_size.toInt ≤ 600) (p_fob_who : ∀ i, (0 : Int) ≤ (fob_who i).toInt ∧ (fob_who i).toInt ≤ 15) (p_fob_whom : ∀ i, (0 : Int) ≤ (fob_whom i).toInt ∧ (fob_whom i).toInt ≤ 15) (p_a1 : (0 : Int) ≤ a1.toInt ∧ a1.toInt ≤ 15) (p_a2 : (0 : Int) ≤ a2.toInt ∧ a2.toInt ≤ 15) : Met l yX2_add (Cond.code yX2_add cX2_add 5 none :: wAll) ({ frames := 0, cells := 0, slots := 0, locals := 0 }) (va_Pc [.ref ob, .int a1, .int a2, .int a3, .int a4] (kp G y sz [(ce_X2 ob ob_size ob_who ob_whom ob_what ob_day), (ce_i600 y ob_who fob_who), (ce_i600 y ob_whom fob_whom), (ce_i600 y ob_what fob_what), (ce_i600 y ob_day fob_day)])) (va_Qv (fun (w : va_W) => (∃ (v_13 : Int32) (f_14 : Nat → Int32) (f_15 : Nat → Int32) (f_16 : Nat → Int32) (f_17 : Nat → Int32), ((1 : Int) ≤ v_13.toInt ∧ v_13.toInt ≤ 600) ∧ (∀ i, (0 : Int) ≤ (f_14 i).toInt ∧ (f_14 i).toInt ≤ 15) ∧ (∀ i, (0 : Int) ≤ (f_15 i).toInt ∧ (f_15 i).toInt ≤ 15) ∧ w = [(ce_X2 ob v_13 ob_who ob_whom ob_what ob_day), (ce_i600 y ob_who f_14), (ce_i600 y ob_whom f_15), (ce_i600 y ob_what f_16), (ce_i600 y ob_day f_17)])) (kq G (va_A [(ce_X2 ob ob_size ob_who ob_whom ob_what ob_day), (ce_i600 y ob_who fob_who), (ce_i600 y ob_whom fob_whom), (ce_i600 y ob_what fob_what), (ce_i600 y ob_day fob_day)] sz)) (va_A [(ce_X2 ob ob_size ob_who ob_whom ob_what ob_day), (ce_i600 y ob_who fob_who), (ce_i600 y ob_whom fob_whom), (ce_i600 y ob_what fob_what), (ce_i600 y ob_day fob_day)] sz)) 0 0 (va_A [(ce_X2 ob ob_size ob_who ob_whom ob_what ob_day), (ce_i600 y ob_who fob_who), (ce_i600 y ob_whom fob_whom), (ce_i600 y ob_what fob_what), (ce_i600 y ob_day fob_day)] sz) := by
  refine Met.ofW (cc := cX2_add) (maxL := 5) (ret := none) (by decide) rfl ?_
  intro p e s m args below meth c s₁ B hml hv
  obtain ⟨rfl, hsz, hP, hK, hD0⟩ := hv
  have hx := B.exec
  have hb := B.bytes
  have hr := B.returns
  have hw0 : ∀ w ∈ wAll, w.before _ s = true := fun w h => atoms_spec (ws := Cond.code yX2_add cX2_add 5 none :: wAll) B.pre w (List.mem_cons_of_mem _ h)
  have hown : s.vm.findClass RX2 = some m.cls := findClass_of_methodNamed B.named
  subst hsz
  have hD := hD0.self (sz := s.heap.size)
  generalize hAe : va_A [(ce_X2 ob ob_size ob_who ob_whom ob_what ob_day), (ce_i600 y ob_who fob_who), (ce_i600 y ob_whom fob_whom), (ce_i600 y ob_what fob_what), (ce_i600 y ob_day fob_day)] s.heap.size = A at hD ⊢
  have hA : ∀ q : Nat, s.heap.size ≤ q → A q := fun q h => by rw [← hAe]; exact Or.inr h
  have hS : va_S A s.heap s.heap [] := va_S.rf
  have hP : va_P G vwCl [(ce_X2 ob ob_size ob_who ob_whom ob_what ob_day), (ce_i600 y ob_who fob_who), (ce_i600 y ob_whom fob_whom), (ce_i600 y ob_what fob_what), (ce_i600 y ob_day fob_day)] s.heap := hP
  have hl := lv_entry ([.ref ob, .int a1, .int a2, .int a3, .int a4]) (n := 5) (Nat.le_of_ble_eq_true rfl)
  rw [lg_entry_eq]
  generalize (lg_sl ([.ref ob, .int a1, .int a2, .int a3, .int a4]) ++ List.replicate (5 - (lg_sl ([.ref ob, .int a1, .int a2, .int a3, .int a4])).length) Slot.unset).toArray = ls at hl ⊢
  have hl : lv_has ls 5 [(0, .ref ob), (1, .int a1), (2, .int a2), (3, .int a3), (4, .int a4)] := hl
  refine lv_aload_n hx hb dX2_add_0 rfl (lv_at hl 0 rfl) ?_
  refine va_get (D := G) (ci := 2) (v := .int ob_size) (C := RX2) (T := TX2) (N := 5) hx hb hw0 inA_wsX20 hown hK.1 hP 0 rfl rfl 0 (by decide) (hw0 _ m_702) (fun _ h9 => h9) rfl dX2_add_1 ?_
  refine lv_sipush (v := 600) hx hb dX2_add_4 (by decide) ?_
  refine lv_icmp_ge (tgt := 61) hx hb dX2_add_7 (by decide) (fun c_1001 => ?_) (fun c_1001 => ?_)
  · skip
    have nc_1001 := nb_le (600) (600) c_1001 (bkc (x := 600) (c := 600) (by decide)) p_ob_size (by decide)
    exact W.vret hx hb hr (fun t ht hW => ⟨⟨_, rfl, ⟨ob_size, fob_who, fob_whom, fob_what, fob_day, (bw (1) (600) nc_1001.2.1 (by decide)), p_fob_who, p_fob_whom, rfl⟩, by rw [ht]; exact hP, hD⟩, hS.F ht⟩) hS.2.2 dX2_add_61
  · skip
    have nc_1001 := nb_nle (599) (600) c_1001 p_ob_size (bkc (x := 600) (c := 600) (by decide)) (by decide)
    refine lv_aload_n hx hb dX2_add_10 rfl (lv_at hl 0 rfl) ?_
    refine va_get (D := G) (ci := 2) (v := .ref ob_who) (C := RX2) (T := TX2) (N := 5) hx hb hw0 inA_wsX20 hown hK.1 hP 0 rfl rfl 1 (by decide) (hw0 _ m_703) (fun _ h9 => h9) rfl dX2_add_11 ?_
    refine lv_aload_n hx hb dX2_add_14 rfl (lv_at hl 0 rfl) ?_
    refine va_get (D := G) (ci := 2) (v := .int ob_size) (C := RX2) (T := TX2) (N := 5) hx hb hw0 inA_wsX20 hown hK.1 hP 0 rfl rfl 0 (by decide) (hw0 _ m_702) (fun _ h9 => h9) rfl dX2_add_15 ?_
    refine lv_iload_n hx hb dX2_add_18 rfl (lv_at hl 1 rfl) ?_
    refine va_iast hx hb hK.1 hP hD hS 1 1 rfl rfl (vi nc_1001.1 (by decide)) dX2_add_19 (fun H locs hP hD hS => ?_)
    generalize hf_1002 : (upd fob_who (ob_size : Int32).toNatClampNeg a1) = f_1002 at hP hD
    have bf_1002 : ∀ i, (0 : Int) ≤ (f_1002 i).toInt ∧ (f_1002 i).toInt ≤ 15 := hf_1002 ▸ up_b p_fob_who p_a1
    obtain ⟨hP, hD⟩ : vPD G A H [(ce_X2 ob ob_size ob_who ob_whom ob_what ob_day), (ce_i600 y ob_who f_1002), (ce_i600 y ob_whom fob_whom), (ce_i600 y ob_what fob_what), (ce_i600 y ob_day fob_day)] := ⟨hP, hD⟩
    refine lv_aload_n hx hb dX2_add_20 rfl (lv_at hl 0 rfl) ?_
    refine va_get (D := G) (ci := 2) (v := .ref ob_whom) (C := RX2) (T := TX2) (N := 5) hx hb hw0 inA_wsX20 hown hK.1 hP 0 rfl rfl 2 (by decide) (hw0 _ m_704) (fun _ h9 => h9) rfl dX2_add_21 ?_
    refine lv_aload_n hx hb dX2_add_24 rfl (lv_at hl 0 rfl) ?_
    refine va_get (D := G) (ci := 2) (v := .int ob_size) (C := RX2) (T := TX2) (N := 5) hx hb hw0 inA_wsX20 hown hK.1 hP 0 rfl rfl 0 (by decide) (hw0 _ m_702) (fun _ h9 => h9) rfl dX2_add_25 ?_
    refine lv_iload_n hx hb dX2_add_28 rfl (lv_at hl 2 rfl) ?_
    refine va_iast hx hb hK.1 hP hD hS 2 1 rfl rfl (vi nc_1001.1 (by decide)) dX2_add_29 (fun H locs hP hD hS => ?_)
    generalize hf_1003 : (upd fob_whom (ob_size : Int32).toNatClampNeg a2) = f_1003 at hP hD
    have bf_1003 : ∀ i, (0 : Int) ≤ (f_1003 i).toInt ∧ (f_1003 i).toInt ≤ 15 := hf_1003 ▸ up_b p_fob_whom p_a2
    obtain ⟨hP, hD⟩ : vPD G A H [(ce_X2 ob ob_size ob_who ob_whom ob_what ob_day), (ce_i600 y ob_who f_1002), (ce_i600 y ob_whom f_1003), (ce_i600 y ob_what fob_what), (ce_i600 y ob_day fob_day)] := ⟨hP, hD⟩
    refine lv_aload_n hx hb dX2_add_30 rfl (lv_at hl 0 rfl) ?_
    refine va_get (D := G) (ci := 2) (v := .ref ob_what) (C := RX2) (T := TX2) (N := 5) hx hb hw0 inA_wsX20 hown hK.1 hP 0 rfl rfl 3 (by decide) (hw0 _ m_705) (fun _ h9 => h9) rfl dX2_add_31 ?_
    refine lv_aload_n hx hb dX2_add_34 rfl (lv_at hl 0 rfl) ?_
    refine va_get (D := G) (ci := 2) (v := .int ob_size) (C := RX2) (T := TX2) (N := 5) hx hb hw0 inA_wsX20 hown hK.1 hP 0 rfl rfl 0 (by decide) (hw0 _ m_702) (fun _ h9 => h9) rfl dX2_add_35 ?_
    refine lv_iload_n hx hb dX2_add_38 rfl (lv_at hl 3 rfl) ?_
    refine va_iast hx hb hK.1 hP hD hS 3 1 rfl rfl (vi nc_1001.1 (by decide)) dX2_add_39 (fun H locs hP hD hS => ?_)
    generalize hf_1004 : (upd fob_what (ob_size : Int32).toNatClampNeg a3) = f_1004 at hP hD
    obtain ⟨hP, hD⟩ : vPD G A H [(ce_X2 ob ob_size ob_who ob_whom ob_what ob_day), (ce_i600 y ob_who f_1002), (ce_i600 y ob_whom f_1003), (ce_i600 y ob_what f_1004), (ce_i600 y ob_day fob_day)] := ⟨hP, hD⟩
    refine lv_aload_n hx hb dX2_add_40 rfl (lv_at hl 0 rfl) ?_
    refine va_get (D := G) (ci := 2) (v := .ref ob_day) (C := RX2) (T := TX2) (N := 5) hx hb hw0 inA_wsX20 hown hK.1 hP 0 rfl rfl 4 (by decide) (hw0 _ m_706) (fun _ h9 => h9) rfl dX2_add_41 ?_
    refine lv_aload_n hx hb dX2_add_44 rfl (lv_at hl 0 rfl) ?_
    refine va_get (D := G) (ci := 2) (v := .int ob_size) (C := RX2) (T := TX2) (N := 5) hx hb hw0 inA_wsX20 hown hK.1 hP 0 rfl rfl 0 (by decide) (hw0 _ m_702) (fun _ h9 => h9) rfl dX2_add_45 ?_
    refine lv_iload hx hb dX2_add_48 (lv_at hl 4 rfl) ?_
    refine va_iast hx hb hK.1 hP hD hS 4 1 rfl rfl (vi nc_1001.1 (by decide)) dX2_add_50 (fun H locs hP hD hS => ?_)
    generalize hf_1005 : (upd fob_day (ob_size : Int32).toNatClampNeg a4) = f_1005 at hP hD
    obtain ⟨hP, hD⟩ : vPD G A H [(ce_X2 ob ob_size ob_who ob_whom ob_what ob_day), (ce_i600 y ob_who f_1002), (ce_i600 y ob_whom f_1003), (ce_i600 y ob_what f_1004), (ce_i600 y ob_day f_1005)] := ⟨hP, hD⟩
    refine lv_aload_n hx hb dX2_add_51 rfl (lv_at hl 0 rfl) ?_
    refine lv_dup hx hb dX2_add_52 rfl ?_
    refine va_get (D := G) (ci := 2) (v := .int ob_size) (C := RX2) (T := TX2) (N := 5) hx hb hw0 inA_wsX20 hown hK.1 hP 0 rfl rfl 0 (by decide) (hw0 _ m_702) (fun _ h9 => h9) rfl dX2_add_53 ?_
    refine lv_iconst (v := 1) hx hb dX2_add_56 (by decide) ?_
    refine lv_iadd hx hb dX2_add_57 ?_
    refine lv_topi (fun v_1006 ev_1006 => ?_)
    have qv_1006 := ba_add ev_1006 nc_1001.1 (bkc (x := 1) (c := 1) (by decide)) (by decide)
    have bv_1006 : (1 : Int) ≤ v_1006.toInt ∧ v_1006.toInt ≤ 600 := bq_add qv_1006 nc_1001.1 (bkc (x := 1) (c := 1) (by decide)) _ _ (by decide)
    have qv_1006 : v_1006.toInt = ob_size.toInt + (1) := qv_1006
    refine va_put (D := G) (ci := 2) (v := .int v_1006) (ty := .int) (C := RX2) (T := TX2) (N := 5) hx hb hw0 inA_wsX20 tyX2 tyX2_ok nmX2 hown hK.1 hP hD hS 0 rfl rfl 0 (by decide) (hw0 _ m_702) (fun _ h9 => h9) rfl fd_X2_0 rfl rfl (Nat.le_of_ble_eq_true rfl) dX2_add_58 (fun H locs hP hD hS => ?_)
    obtain ⟨hP, hD⟩ : vPD G A H [(ce_X2 ob v_1006 ob_who ob_whom ob_what ob_day), (ce_i600 y ob_who f_1002), (ce_i600 y ob_whom f_1003), (ce_i600 y ob_what f_1004), (ce_i600 y ob_day f_1005)] := ⟨hP, hD⟩
    exact W.vret hx hb hr (fun t ht hW => ⟨⟨_, rfl, ⟨v_1006, f_1002, f_1003, f_1004, f_1005, bv_1006, bf_1002, bf_1003, rfl⟩, by rw [ht]; exact hP, hD⟩, hS.F ht⟩) hS.2.2 dX2_add_61

set_option maxHeartbeats 4000000 in
set_option maxRecDepth 100000 in
theorem sX2_callsBy (l : Launch) (G : va_G) (y : Nat → ClassId) (sz : Nat) (ob : Nat) (a1 : Int32) (ob_size : Int32) (ob_who : Nat) (ob_whom : Nat) (ob_what : Nat) (ob_day : Nat) (fob_who : Nat → Int32) (fob_what : Nat → Int32) (p_ob_size : (0 : Int) ≤ ob_size.toInt ∧ ob_size.toInt ≤ 600) (p_fob_who : ∀ i, (0 : Int) ≤ (fob_who i).toInt ∧ (fob_who i).toInt ≤ 15) : Met l yX2_callsBy (Cond.code yX2_callsBy cX2_callsBy 4 (some .int) :: wAll) ({ frames := 0, cells := 0, slots := 0, locals := 0 }) (va_Pc [.ref ob, .int a1] (kp G y sz [(ce_X2 ob ob_size ob_who ob_whom ob_what ob_day), (ce_i600 y ob_who fob_who), (ce_i600 y ob_what fob_what)])) (va_Qi (fun (r : Int32) (w : va_W) => (∃ (v_407 : Int32), r = v_407 ∧ w = [(ce_X2 ob ob_size ob_who ob_whom ob_what ob_day), (ce_i600 y ob_who fob_who), (ce_i600 y ob_what fob_what)])) (kq G (va_A [(ce_X2 ob ob_size ob_who ob_whom ob_what ob_day), (ce_i600 y ob_who fob_who), (ce_i600 y ob_what fob_what)] sz)) (va_A [(ce_X2 ob ob_size ob_who ob_whom ob_what ob_day), (ce_i600 y ob_who fob_who), (ce_i600 y ob_what fob_what)] sz)) 0 0 (va_A [(ce_X2 ob ob_size ob_who ob_whom ob_what ob_day), (ce_i600 y ob_who fob_who), (ce_i600 y ob_what fob_what)] sz) := by
  refine Met.ofW (cc := cX2_callsBy) (maxL := 4) (ret := (some .int)) (by decide) rfl ?_
  intro p e s m args below meth c s₁ B hml hv
  obtain ⟨rfl, hsz, hP, hK, hD0⟩ := hv
  have hx := B.exec
  have hb := B.bytes
  have hr := B.returns
  have hw0 : ∀ w ∈ wAll, w.before _ s = true := fun w h => atoms_spec (ws := Cond.code yX2_callsBy cX2_callsBy 4 (some .int) :: wAll) B.pre w (List.mem_cons_of_mem _ h)
  have hown : s.vm.findClass RX2 = some m.cls := findClass_of_methodNamed B.named
  subst hsz
  have hD := hD0.self (sz := s.heap.size)
  generalize hAe : va_A [(ce_X2 ob ob_size ob_who ob_whom ob_what ob_day), (ce_i600 y ob_who fob_who), (ce_i600 y ob_what fob_what)] s.heap.size = A at hD ⊢
  have hA : ∀ q : Nat, s.heap.size ≤ q → A q := fun q h => by rw [← hAe]; exact Or.inr h
  have hS : va_S A s.heap s.heap [] := va_S.rf
  have hP : va_P G vwCl [(ce_X2 ob ob_size ob_who ob_whom ob_what ob_day), (ce_i600 y ob_who fob_who), (ce_i600 y ob_what fob_what)] s.heap := hP
  have hl := lv_entry ([.ref ob, .int a1]) (n := 4) (Nat.le_of_ble_eq_true rfl)
  rw [lg_entry_eq]
  generalize (lg_sl ([.ref ob, .int a1]) ++ List.replicate (4 - (lg_sl ([.ref ob, .int a1])).length) Slot.unset).toArray = ls at hl ⊢
  have hl : lv_has ls 4 [(0, .ref ob), (1, .int a1)] := hl
  refine lv_iconst (v := 0) hx hb dX2_callsBy_0 (by decide) ?_
  refine lv_istore_n (lv' := [(2, .int 0), (0, .ref ob), (1, .int a1)]) hx hb dX2_callsBy_1 rfl hl (by decide) rfl (fun ls hl => ?_)
  refine lv_iconst (v := 0) hx hb dX2_callsBy_2 (by decide) ?_
  refine lv_istore_n (lv' := [(3, .int 0), (2, .int 0), (0, .ref ob), (1, .int a1)]) hx hb dX2_callsBy_3 rfl hl (by decide) rfl (fun ls hl => ?_)
  refine loopX (fun n H locs ls st => ∃ (v_1178 : Int32) (v_1179 : Int32), (600 - v_1178.toInt).toNat = n ∧ ((0 : Int) ≤ v_1178.toInt ∧ v_1178.toInt ≤ 600) ∧ st = [] ∧ vPD G A H [(ce_X2 ob ob_size ob_who ob_whom ob_what ob_day), (ce_i600 y ob_who fob_who), (ce_i600 y ob_what fob_what)] ∧ va_S A s.heap H locs ∧ lv_has ls 4 [(3, .int v_1178), (2, .int v_1179), (0, .ref ob), (1, .int a1)]) ?_ (n := (600 - (0 : Int32).toInt).toNat) ⟨0, 0, rfl, (bw (0) (600) (bkc (x := 0) (c := 0) (by decide)) (by decide)), rfl, ⟨hP, hD⟩, hS, lv_sub hl [0, 1, 2, 3] rfl⟩
  rintro n ih_1191 H locs ls st ⟨v_1178, v_1179, hn_1191, bv_1178, rfl, ⟨hP, hD⟩, hS, hl⟩
  refine lv_iload_n hx hb dX2_callsBy_4 rfl (lv_at hl 0 rfl) ?_
  refine lv_aload_n hx hb dX2_callsBy_5 rfl (lv_at hl 2 rfl) ?_
  refine va_get (D := G) (ci := 2) (v := .int ob_size) (C := RX2) (T := TX2) (N := 5) hx hb hw0 inA_wsX20 hown hK.1 hP 0 rfl rfl 0 (by decide) (hw0 _ m_702) (fun _ h9 => h9) rfl dX2_callsBy_6 ?_
  refine lv_icmp_ge (tgt := 41) hx hb dX2_callsBy_9 (by decide) (fun c_1192 => ?_) (fun c_1192 => ?_)
  · skip
    have nc_1192 := nb_le (600) (0) c_1192 p_ob_size bv_1178 (by decide)
    refine lv_iload_n hx hb dX2_callsBy_41 rfl (lv_at hl 1 rfl) ?_
    exact W.iret (v := v_1179) hx hb hr (fun t ht hW => ⟨⟨v_1179, _, rfl, ⟨v_1179, rfl, rfl⟩, by rw [ht]; exact hP, hD⟩, hS.F ht⟩) hS.2.2 dX2_callsBy_42
  · skip
    have nc_1192 := nb_nle (599) (1) c_1192 bv_1178 p_ob_size (by decide)
    refine lv_aload_n hx hb dX2_callsBy_12 rfl (lv_at hl 2 rfl) ?_
    refine va_get (D := G) (ci := 2) (v := .ref ob_what) (C := RX2) (T := TX2) (N := 5) hx hb hw0 inA_wsX20 hown hK.1 hP 0 rfl rfl 3 (by decide) (hw0 _ m_705) (fun _ h9 => h9) rfl dX2_callsBy_13 ?_
    refine lv_iload_n hx hb dX2_callsBy_16 rfl (lv_at hl 0 rfl) ?_
    refine va_iald hx hb hK.1 hP 2 1 rfl rfl (vi nc_1192.1 (by decide)) dX2_callsBy_17 ?_
    refine lv_topi (fun v_1193 ev_1193 => ?_)
    refine lv_iconst (v := 2) hx hb dX2_callsBy_18 (by decide) ?_
    refine cutW 35 (fun H locs ls st => ∃ (v_1198 : Int32), st = [] ∧ vPD G A H [(ce_X2 ob ob_size ob_who ob_whom ob_what ob_day), (ce_i600 y ob_who fob_who), (ce_i600 y ob_what fob_what)] ∧ va_S A s.heap H locs ∧ lv_has ls 4 [(3, .int v_1178), (2, .int v_1198), (0, .ref ob), (1, .int a1)]) ?_ (fun J_35_1198 => ?_)
    · rintro H locs ls st ⟨v_1198, rfl, ⟨hP, hD⟩, hS, hl⟩
      obtain ⟨v_1199, ev_1199⟩ : ∃ z : Int32, z = v_1178 + 1 := ⟨_, rfl⟩
      have qv_1199 := ba_add ev_1199 nc_1192.1 (bkc (x := 1) (c := 1) (by decide)) (by decide)
      have bv_1199 : (1 : Int) ≤ v_1199.toInt ∧ v_1199.toInt ≤ 600 := bq_add qv_1199 nc_1192.1 (bkc (x := 1) (c := 1) (by decide)) _ _ (by decide)
      have qv_1199 : v_1199.toInt = v_1178.toInt + (1) := qv_1199
      refine lv_iinc (v := v_1199) (lv' := [(3, .int v_1199), (2, .int v_1198), (0, .ref ob), (1, .int a1)]) hx hb dX2_callsBy_35 hl (k := 0) rfl (ev_1199.symm) (by decide) rfl (fun ls hl => ?_)
      refine lv_goto (tgt := 4) hx hb dX2_callsBy_38 (by decide) ?_
      exact ih_1191 _ (ml_inc (hi := 600) hn_1191 qv_1199 (by decide) ((bw (0) (600) bv_1199 (by decide))).2) _ _ _ _ ⟨v_1199, v_1198, rfl, (bw (0) (600) bv_1199 (by decide)), rfl, ⟨hP, hD⟩, hS, lv_sub hl [0, 1, 2, 3] rfl⟩
    · skip
      refine lv_icmp_ne (tgt := 35) hx hb dX2_callsBy_19 (by decide) (fun c_1200 => ?_) (fun c_1200 => ?_)
      · skip
        have nc_1200 := nb_ne (-2147483648) (2147483647) c_1200 (btop v_1193) (k := 2) (by decide) (by decide)
        exact J_35_1198 _ _ _ _ ⟨v_1179, rfl, ⟨hP, hD⟩, hS, lv_sub hl [0, 1, 2, 3] rfl⟩
      · skip
        have nc_1200 := nb_eq (2) (2) c_1200 (btop v_1193) (bkc (x := 2) (c := 2) (by decide)) (by decide)
        refine lv_aload_n hx hb dX2_callsBy_22 rfl (lv_at hl 2 rfl) ?_
        refine va_get (D := G) (ci := 2) (v := .ref ob_who) (C := RX2) (T := TX2) (N := 5) hx hb hw0 inA_wsX20 hown hK.1 hP 0 rfl rfl 1 (by decide) (hw0 _ m_703) (fun _ h9 => h9) rfl dX2_callsBy_23 ?_
        refine lv_iload_n hx hb dX2_callsBy_26 rfl (lv_at hl 0 rfl) ?_
        refine va_iald hx hb hK.1 hP 1 1 rfl rfl (vi nc_1192.1 (by decide)) dX2_callsBy_27 ?_
        refine lv_topi (fun v_1201 ev_1201 => ?_)
        have bv_1201 : (0 : Int) ≤ v_1201.toInt ∧ v_1201.toInt ≤ 15 := rd_b ev_1201 p_fob_who
        refine lv_iload_n hx hb dX2_callsBy_28 rfl (lv_at hl 3 rfl) ?_
        refine lv_icmp_ne (tgt := 35) hx hb dX2_callsBy_29 (by decide) (fun c_1202 => ?_) (fun c_1202 => ?_)
        · skip
          exact J_35_1198 _ _ _ _ ⟨v_1179, rfl, ⟨hP, hD⟩, hS, lv_sub hl [0, 1, 2, 3] rfl⟩
        · skip
          have nc_1202 := nb_eq (0) (15) c_1202 bv_1201 (btop a1) (by decide)
          obtain ⟨v_1203, ev_1203⟩ : ∃ z : Int32, z = v_1179 + 1 := ⟨_, rfl⟩
          refine lv_iinc (v := v_1203) (lv' := [(2, .int v_1203), (3, .int v_1178), (0, .ref ob), (1, .int a1)]) hx hb dX2_callsBy_32 hl (k := 1) rfl (ev_1203.symm) (by decide) rfl (fun ls hl => ?_)
          exact J_35_1198 _ _ _ _ ⟨v_1203, rfl, ⟨hP, hD⟩, hS, lv_sub hl [1, 0, 2, 3] rfl⟩

set_option maxHeartbeats 4000000 in
set_option maxRecDepth 100000 in
theorem sX2_callsTo (l : Launch) (G : va_G) (y : Nat → ClassId) (sz : Nat) (ob : Nat) (a1 : Int32) (ob_size : Int32) (ob_who : Nat) (ob_whom : Nat) (ob_what : Nat) (ob_day : Nat) (fob_whom : Nat → Int32) (fob_what : Nat → Int32) (p_ob_size : (0 : Int) ≤ ob_size.toInt ∧ ob_size.toInt ≤ 600) (p_fob_whom : ∀ i, (0 : Int) ≤ (fob_whom i).toInt ∧ (fob_whom i).toInt ≤ 15) : Met l yX2_callsTo (Cond.code yX2_callsTo cX2_callsTo 4 (some .int) :: wAll) ({ frames := 0, cells := 0, slots := 0, locals := 0 }) (va_Pc [.ref ob, .int a1] (kp G y sz [(ce_X2 ob ob_size ob_who ob_whom ob_what ob_day), (ce_i600 y ob_whom fob_whom), (ce_i600 y ob_what fob_what)])) (va_Qi (fun (r : Int32) (w : va_W) => (∃ (v_407 : Int32), r = v_407 ∧ w = [(ce_X2 ob ob_size ob_who ob_whom ob_what ob_day), (ce_i600 y ob_whom fob_whom), (ce_i600 y ob_what fob_what)])) (kq G (va_A [(ce_X2 ob ob_size ob_who ob_whom ob_what ob_day), (ce_i600 y ob_whom fob_whom), (ce_i600 y ob_what fob_what)] sz)) (va_A [(ce_X2 ob ob_size ob_who ob_whom ob_what ob_day), (ce_i600 y ob_whom fob_whom), (ce_i600 y ob_what fob_what)] sz)) 0 0 (va_A [(ce_X2 ob ob_size ob_who ob_whom ob_what ob_day), (ce_i600 y ob_whom fob_whom), (ce_i600 y ob_what fob_what)] sz) := by
  refine Met.ofW (cc := cX2_callsTo) (maxL := 4) (ret := (some .int)) (by decide) rfl ?_
  intro p e s m args below meth c s₁ B hml hv
  obtain ⟨rfl, hsz, hP, hK, hD0⟩ := hv
  have hx := B.exec
  have hb := B.bytes
  have hr := B.returns
  have hw0 : ∀ w ∈ wAll, w.before _ s = true := fun w h => atoms_spec (ws := Cond.code yX2_callsTo cX2_callsTo 4 (some .int) :: wAll) B.pre w (List.mem_cons_of_mem _ h)
  have hown : s.vm.findClass RX2 = some m.cls := findClass_of_methodNamed B.named
  subst hsz
  have hD := hD0.self (sz := s.heap.size)
  generalize hAe : va_A [(ce_X2 ob ob_size ob_who ob_whom ob_what ob_day), (ce_i600 y ob_whom fob_whom), (ce_i600 y ob_what fob_what)] s.heap.size = A at hD ⊢
  have hA : ∀ q : Nat, s.heap.size ≤ q → A q := fun q h => by rw [← hAe]; exact Or.inr h
  have hS : va_S A s.heap s.heap [] := va_S.rf
  have hP : va_P G vwCl [(ce_X2 ob ob_size ob_who ob_whom ob_what ob_day), (ce_i600 y ob_whom fob_whom), (ce_i600 y ob_what fob_what)] s.heap := hP
  have hl := lv_entry ([.ref ob, .int a1]) (n := 4) (Nat.le_of_ble_eq_true rfl)
  rw [lg_entry_eq]
  generalize (lg_sl ([.ref ob, .int a1]) ++ List.replicate (4 - (lg_sl ([.ref ob, .int a1])).length) Slot.unset).toArray = ls at hl ⊢
  have hl : lv_has ls 4 [(0, .ref ob), (1, .int a1)] := hl
  refine lv_iconst (v := 0) hx hb dX2_callsTo_0 (by decide) ?_
  refine lv_istore_n (lv' := [(2, .int 0), (0, .ref ob), (1, .int a1)]) hx hb dX2_callsTo_1 rfl hl (by decide) rfl (fun ls hl => ?_)
  refine lv_iconst (v := 0) hx hb dX2_callsTo_2 (by decide) ?_
  refine lv_istore_n (lv' := [(3, .int 0), (2, .int 0), (0, .ref ob), (1, .int a1)]) hx hb dX2_callsTo_3 rfl hl (by decide) rfl (fun ls hl => ?_)
  refine loopX (fun n H locs ls st => ∃ (v_1178 : Int32) (v_1179 : Int32), (600 - v_1178.toInt).toNat = n ∧ ((0 : Int) ≤ v_1178.toInt ∧ v_1178.toInt ≤ 600) ∧ st = [] ∧ vPD G A H [(ce_X2 ob ob_size ob_who ob_whom ob_what ob_day), (ce_i600 y ob_whom fob_whom), (ce_i600 y ob_what fob_what)] ∧ va_S A s.heap H locs ∧ lv_has ls 4 [(3, .int v_1178), (2, .int v_1179), (0, .ref ob), (1, .int a1)]) ?_ (n := (600 - (0 : Int32).toInt).toNat) ⟨0, 0, rfl, (bw (0) (600) (bkc (x := 0) (c := 0) (by decide)) (by decide)), rfl, ⟨hP, hD⟩, hS, lv_sub hl [0, 1, 2, 3] rfl⟩
  rintro n ih_1191 H locs ls st ⟨v_1178, v_1179, hn_1191, bv_1178, rfl, ⟨hP, hD⟩, hS, hl⟩
  refine lv_iload_n hx hb dX2_callsTo_4 rfl (lv_at hl 0 rfl) ?_
  refine lv_aload_n hx hb dX2_callsTo_5 rfl (lv_at hl 2 rfl) ?_
  refine va_get (D := G) (ci := 2) (v := .int ob_size) (C := RX2) (T := TX2) (N := 5) hx hb hw0 inA_wsX20 hown hK.1 hP 0 rfl rfl 0 (by decide) (hw0 _ m_702) (fun _ h9 => h9) rfl dX2_callsTo_6 ?_
  refine lv_icmp_ge (tgt := 41) hx hb dX2_callsTo_9 (by decide) (fun c_1192 => ?_) (fun c_1192 => ?_)
  · skip
    have nc_1192 := nb_le (600) (0) c_1192 p_ob_size bv_1178 (by decide)
    refine lv_iload_n hx hb dX2_callsTo_41 rfl (lv_at hl 1 rfl) ?_
    exact W.iret (v := v_1179) hx hb hr (fun t ht hW => ⟨⟨v_1179, _, rfl, ⟨v_1179, rfl, rfl⟩, by rw [ht]; exact hP, hD⟩, hS.F ht⟩) hS.2.2 dX2_callsTo_42
  · skip
    have nc_1192 := nb_nle (599) (1) c_1192 bv_1178 p_ob_size (by decide)
    refine lv_aload_n hx hb dX2_callsTo_12 rfl (lv_at hl 2 rfl) ?_
    refine va_get (D := G) (ci := 2) (v := .ref ob_what) (C := RX2) (T := TX2) (N := 5) hx hb hw0 inA_wsX20 hown hK.1 hP 0 rfl rfl 3 (by decide) (hw0 _ m_705) (fun _ h9 => h9) rfl dX2_callsTo_13 ?_
    refine lv_iload_n hx hb dX2_callsTo_16 rfl (lv_at hl 0 rfl) ?_
    refine va_iald hx hb hK.1 hP 2 1 rfl rfl (vi nc_1192.1 (by decide)) dX2_callsTo_17 ?_
    refine lv_topi (fun v_1193 ev_1193 => ?_)
    refine lv_iconst (v := 2) hx hb dX2_callsTo_18 (by decide) ?_
    refine cutW 35 (fun H locs ls st => ∃ (v_1198 : Int32), st = [] ∧ vPD G A H [(ce_X2 ob ob_size ob_who ob_whom ob_what ob_day), (ce_i600 y ob_whom fob_whom), (ce_i600 y ob_what fob_what)] ∧ va_S A s.heap H locs ∧ lv_has ls 4 [(3, .int v_1178), (2, .int v_1198), (0, .ref ob), (1, .int a1)]) ?_ (fun J_35_1198 => ?_)
    · rintro H locs ls st ⟨v_1198, rfl, ⟨hP, hD⟩, hS, hl⟩
      obtain ⟨v_1199, ev_1199⟩ : ∃ z : Int32, z = v_1178 + 1 := ⟨_, rfl⟩
      have qv_1199 := ba_add ev_1199 nc_1192.1 (bkc (x := 1) (c := 1) (by decide)) (by decide)
      have bv_1199 : (1 : Int) ≤ v_1199.toInt ∧ v_1199.toInt ≤ 600 := bq_add qv_1199 nc_1192.1 (bkc (x := 1) (c := 1) (by decide)) _ _ (by decide)
      have qv_1199 : v_1199.toInt = v_1178.toInt + (1) := qv_1199
      refine lv_iinc (v := v_1199) (lv' := [(3, .int v_1199), (2, .int v_1198), (0, .ref ob), (1, .int a1)]) hx hb dX2_callsTo_35 hl (k := 0) rfl (ev_1199.symm) (by decide) rfl (fun ls hl => ?_)
      refine lv_goto (tgt := 4) hx hb dX2_callsTo_38 (by decide) ?_
      exact ih_1191 _ (ml_inc (hi := 600) hn_1191 qv_1199 (by decide) ((bw (0) (600) bv_1199 (by decide))).2) _ _ _ _ ⟨v_1199, v_1198, rfl, (bw (0) (600) bv_1199 (by decide)), rfl, ⟨hP, hD⟩, hS, lv_sub hl [0, 1, 2, 3] rfl⟩
    · skip
      refine lv_icmp_ne (tgt := 35) hx hb dX2_callsTo_19 (by decide) (fun c_1200 => ?_) (fun c_1200 => ?_)
      · skip
        have nc_1200 := nb_ne (-2147483648) (2147483647) c_1200 (btop v_1193) (k := 2) (by decide) (by decide)
        exact J_35_1198 _ _ _ _ ⟨v_1179, rfl, ⟨hP, hD⟩, hS, lv_sub hl [0, 1, 2, 3] rfl⟩
      · skip
        have nc_1200 := nb_eq (2) (2) c_1200 (btop v_1193) (bkc (x := 2) (c := 2) (by decide)) (by decide)
        refine lv_aload_n hx hb dX2_callsTo_22 rfl (lv_at hl 2 rfl) ?_
        refine va_get (D := G) (ci := 2) (v := .ref ob_whom) (C := RX2) (T := TX2) (N := 5) hx hb hw0 inA_wsX20 hown hK.1 hP 0 rfl rfl 2 (by decide) (hw0 _ m_704) (fun _ h9 => h9) rfl dX2_callsTo_23 ?_
        refine lv_iload_n hx hb dX2_callsTo_26 rfl (lv_at hl 0 rfl) ?_
        refine va_iald hx hb hK.1 hP 1 1 rfl rfl (vi nc_1192.1 (by decide)) dX2_callsTo_27 ?_
        refine lv_topi (fun v_1201 ev_1201 => ?_)
        have bv_1201 : (0 : Int) ≤ v_1201.toInt ∧ v_1201.toInt ≤ 15 := rd_b ev_1201 p_fob_whom
        refine lv_iload_n hx hb dX2_callsTo_28 rfl (lv_at hl 3 rfl) ?_
        refine lv_icmp_ne (tgt := 35) hx hb dX2_callsTo_29 (by decide) (fun c_1202 => ?_) (fun c_1202 => ?_)
        · skip
          exact J_35_1198 _ _ _ _ ⟨v_1179, rfl, ⟨hP, hD⟩, hS, lv_sub hl [0, 1, 2, 3] rfl⟩
        · skip
          have nc_1202 := nb_eq (0) (15) c_1202 bv_1201 (btop a1) (by decide)
          obtain ⟨v_1203, ev_1203⟩ : ∃ z : Int32, z = v_1179 + 1 := ⟨_, rfl⟩
          refine lv_iinc (v := v_1203) (lv' := [(2, .int v_1203), (3, .int v_1178), (0, .ref ob), (1, .int a1)]) hx hb dX2_callsTo_32 hl (k := 1) rfl (ev_1203.symm) (by decide) rfl (fun ls hl => ?_)
          exact J_35_1198 _ _ _ _ ⟨v_1203, rfl, ⟨hP, hD⟩, hS, lv_sub hl [1, 0, 2, 3] rfl⟩

set_option maxHeartbeats 4000000 in
set_option maxRecDepth 100000 in
theorem sX5_small (l : Launch) (G : va_G) (y : Nat → ClassId) (sz : Nat) (ob : Nat) (a1 : Int32) (ob_filled : Int32) (ob_width : Int32) (ob_size : Int32) (ob_numbers : Nat) (fob_numbers : Nat → Int64) (p_ob_filled : (0 : Int) ≤ ob_filled.toInt ∧ ob_filled.toInt ≤ 1) (p_ob_size : (0 : Int) ≤ ob_size.toInt ∧ ob_size.toInt ≤ 60) : Met l yX5_small (Cond.code yX5_small cX5_small 2 (some .int) :: wAll) ({ frames := 0, cells := 0, slots := 0, locals := 0 }) (va_Pc [.ref ob, .int a1] (kp G y sz [(ce_X5 ob ob_filled ob_width ob_size ob_numbers), (ce_l60 y ob_numbers fob_numbers)])) (va_Qi (fun (r : Int32) (w : va_W) => (∃ (v_29 : Int32), ((-1 : Int) ≤ v_29.toInt ∧ v_29.toInt ≤ 15) ∧ r = v_29 ∧ w = [(ce_X5 ob ob_filled ob_width ob_size ob_numbers), (ce_l60 y ob_numbers fob_numbers)])) (kq G (va_A [(ce_X5 ob ob_filled ob_width ob_size ob_numbers), (ce_l60 y ob_numbers fob_numbers)] sz)) (va_A [(ce_X5 ob ob_filled ob_width ob_size ob_numbers), (ce_l60 y ob_numbers fob_numbers)] sz)) 0 0 (va_A [(ce_X5 ob ob_filled ob_width ob_size ob_numbers), (ce_l60 y ob_numbers fob_numbers)] sz) := by
  refine Met.ofW (cc := cX5_small) (maxL := 2) (ret := (some .int)) (by decide) rfl ?_
  intro p e s m args below meth c s₁ B hml hv
  obtain ⟨rfl, hsz, hP, hK, hD0⟩ := hv
  have hx := B.exec
  have hb := B.bytes
  have hr := B.returns
  have hw0 : ∀ w ∈ wAll, w.before _ s = true := fun w h => atoms_spec (ws := Cond.code yX5_small cX5_small 2 (some .int) :: wAll) B.pre w (List.mem_cons_of_mem _ h)
  have hown : s.vm.findClass RX5 = some m.cls := findClass_of_methodNamed B.named
  subst hsz
  have hD := hD0.self (sz := s.heap.size)
  generalize hAe : va_A [(ce_X5 ob ob_filled ob_width ob_size ob_numbers), (ce_l60 y ob_numbers fob_numbers)] s.heap.size = A at hD ⊢
  have hA : ∀ q : Nat, s.heap.size ≤ q → A q := fun q h => by rw [← hAe]; exact Or.inr h
  have hS : va_S A s.heap s.heap [] := va_S.rf
  have hP : va_P G vwCl [(ce_X5 ob ob_filled ob_width ob_size ob_numbers), (ce_l60 y ob_numbers fob_numbers)] s.heap := hP
  have hl := lv_entry ([.ref ob, .int a1]) (n := 2) (Nat.le_of_ble_eq_true rfl)
  rw [lg_entry_eq]
  generalize (lg_sl ([.ref ob, .int a1]) ++ List.replicate (2 - (lg_sl ([.ref ob, .int a1])).length) Slot.unset).toArray = ls at hl ⊢
  have hl : lv_has ls 2 [(0, .ref ob), (1, .int a1)] := hl
  refine lv_iload_n hx hb dX5_small_0 rfl (lv_at hl 1 rfl) ?_
  refine cutW 36 (fun H locs ls st => st = [] ∧ vPD G A H [(ce_X5 ob ob_filled ob_width ob_size ob_numbers), (ce_l60 y ob_numbers fob_numbers)] ∧ va_S A s.heap H locs ∧ lv_has ls 2 []) ?_ (fun J_36_1006 => ?_)
  · rintro H locs ls st ⟨rfl, ⟨hP, hD⟩, hS, hl⟩
    refine lv_iconst (v := (-1)) hx hb dX5_small_36 (by decide) ?_
    exact W.iret (v := (-1)) hx hb hr (fun t ht hW => ⟨⟨(-1), _, rfl, ⟨(-1), (bw (-1) (15) (bkc (x := (-1)) (c := -1) (by decide)) (by decide)), rfl, rfl⟩, by rw [ht]; exact hP, hD⟩, hS.F ht⟩) hS.2.2 dX5_small_37
  · skip
    refine lv_if_lt (tgt := 36) hx hb dX5_small_1 (by decide) (fun c_1007 => ?_) (fun c_1007 => ?_)
    · skip
      have nc_1007 := nb_lt (-1) (0) c_1007 (btop a1) (bkc (x := 0) (c := 0) (by decide)) (by decide)
      exact J_36_1006 _ _ _ _ ⟨rfl, ⟨hP, hD⟩, hS, lv_sub hl [] rfl⟩
    · skip
      have nc_1007 := nb_nlt (0) (0) c_1007 (bkc (x := 0) (c := 0) (by decide)) (btop a1) (by decide)
      refine lv_iload_n hx hb dX5_small_4 rfl (lv_at hl 1 rfl) ?_
      refine lv_aload_n hx hb dX5_small_5 rfl (lv_at hl 0 rfl) ?_
      refine va_get (D := G) (ci := 5) (v := .int ob_size) (C := RX5) (T := TX5) (N := 4) hx hb hw0 inA_wsX50 hown hK.1 hP 0 rfl rfl 2 (by decide) (hw0 _ m_942) (fun _ h9 => h9) rfl dX5_small_6 ?_
      refine lv_icmp_ge (tgt := 36) hx hb dX5_small_9 (by decide) (fun c_1008 => ?_) (fun c_1008 => ?_)
      · skip
        have nc_1008 := nb_le (60) (0) c_1008 p_ob_size nc_1007.2.1 (by decide)
        exact J_36_1006 _ _ _ _ ⟨rfl, ⟨hP, hD⟩, hS, lv_sub hl [] rfl⟩
      · skip
        have nc_1008 := nb_nle (59) (1) c_1008 nc_1007.2.1 p_ob_size (by decide)
        refine lv_aload_n hx hb dX5_small_12 rfl (lv_at hl 0 rfl) ?_
        refine va_get (D := G) (ci := 5) (v := .ref ob_numbers) (C := RX5) (T := TX5) (N := 4) hx hb hw0 inA_wsX50 hown hK.1 hP 0 rfl rfl 3 (by decide) (hw0 _ m_945) (fun _ h9 => h9) rfl dX5_small_13 ?_
        refine lv_iload_n hx hb dX5_small_16 rfl (lv_at hl 1 rfl) ?_
        refine va_lald hx hb hK.1 hP 1 2 rfl rfl (vi nc_1008.1 (by decide)) dX5_small_17 ?_
        refine lv_topl (fun v_1009 ev_1009 => ?_)
        refine lv_lconst (v := 0) hx hb dX5_small_18 (by decide) ?_
        refine W.lcmp hx hb dX5_small_19 ?_
        refine lv_if_lt (tgt := 36) hx hb dX5_small_20 (by decide) (fun c_1010 => ?_) (fun c_1010 => ?_)
        · skip
          have nc_1010 := jl_lt c_1010
          have bc_1010 : (-9223372036854775808 : Int) ≤ v_1009.toInt ∧ v_1009.toInt ≤ -1 := nl_lt nc_1010 (ltop v_1009) (k := 0) (by decide) (by decide)
          exact J_36_1006 _ _ _ _ ⟨rfl, ⟨hP, hD⟩, hS, lv_sub hl [] rfl⟩
        · skip
          have nc_1010 := jl_nlt c_1010
          have bc_1010 : (0 : Int) ≤ v_1009.toInt ∧ v_1009.toInt ≤ 9223372036854775807 := nl_ge nc_1010 (ltop v_1009) (k := 0) (by decide) (by decide)
          refine lv_aload_n hx hb dX5_small_23 rfl (lv_at hl 0 rfl) ?_
          refine va_get (D := G) (ci := 5) (v := .ref ob_numbers) (C := RX5) (T := TX5) (N := 4) hx hb hw0 inA_wsX50 hown hK.1 hP 0 rfl rfl 3 (by decide) (hw0 _ m_945) (fun _ h9 => h9) rfl dX5_small_24 ?_
          refine lv_iload_n hx hb dX5_small_27 rfl (lv_at hl 1 rfl) ?_
          refine va_lald hx hb hK.1 hP 1 2 rfl rfl (vi nc_1008.1 (by decide)) dX5_small_28 ?_
          refine lv_topl (fun v_1011 ev_1011 => ?_)
          obtain rfl : v_1009 = v_1011 := (ev_1011.trans ev_1009.symm).symm
          refine lv_ldc2 (own := RX5) (v := 16) hx hb hown (hw0 _ m_951) dX5_small_29 ?_
          refine W.lcmp hx hb dX5_small_32 ?_
          refine lv_if_lt (tgt := 38) hx hb dX5_small_33 (by decide) (fun c_1012 => ?_) (fun c_1012 => ?_)
          · skip
            have nc_1012 := jl_lt c_1012
            have bc_1012 : (0 : Int) ≤ v_1009.toInt ∧ v_1009.toInt ≤ 15 := nl_lt nc_1012 bc_1010 (k := 16) (by decide) (by decide)
            refine lv_aload_n hx hb dX5_small_38 rfl (lv_at hl 0 rfl) ?_
            refine va_get (D := G) (ci := 5) (v := .ref ob_numbers) (C := RX5) (T := TX5) (N := 4) hx hb hw0 inA_wsX50 hown hK.1 hP 0 rfl rfl 3 (by decide) (hw0 _ m_945) (fun _ h9 => h9) rfl dX5_small_39 ?_
            refine lv_iload_n hx hb dX5_small_42 rfl (lv_at hl 1 rfl) ?_
            refine va_lald hx hb hK.1 hP 1 2 rfl rfl (vi nc_1008.1 (by decide)) dX5_small_43 ?_
            refine lv_topl (fun v_1013 ev_1013 => ?_)
            obtain rfl : v_1009 = v_1013 := (ev_1013.trans ev_1009.symm).symm
            refine lv_l2i hx hb dX5_small_44 rfl ?_
            refine lv_topi (fun v_1014 ev_1014 => ?_)
            have bv_1014 : (0 : Int) ≤ v_1014.toInt ∧ v_1014.toInt ≤ 15 := ba_l2i ev_1014 bc_1012 (by decide)
            exact W.iret (v := v_1014) hx hb hr (fun t ht hW => ⟨⟨v_1014, _, rfl, ⟨v_1014, (bw (-1) (15) bv_1014 (by decide)), rfl, rfl⟩, by rw [ht]; exact hP, hD⟩, hS.F ht⟩) hS.2.2 dX5_small_45
          · skip
            have nc_1012 := jl_nlt c_1012
            have bc_1012 : (16 : Int) ≤ v_1009.toInt ∧ v_1009.toInt ≤ 9223372036854775807 := nl_ge nc_1012 bc_1010 (k := 16) (by decide) (by decide)
            exact J_36_1006 _ _ _ _ ⟨rfl, ⟨hP, hD⟩, hS, lv_sub hl [] rfl⟩

set_option maxHeartbeats 4000000 in
set_option maxRecDepth 100000 in
theorem sX5_hasRun (l : Launch) (G : va_G) (y : Nat → ClassId) (sz : Nat) (ob : Nat) (a1 : Int32) (a2 : Int32) (ob_filled : Int32) (ob_width : Int32) (ob_size : Int32) (ob_numbers : Nat) (p_ob_filled : (0 : Int) ≤ ob_filled.toInt ∧ ob_filled.toInt ≤ 1) (p_ob_size : (0 : Int) ≤ ob_size.toInt ∧ ob_size.toInt ≤ 60) : Met l yX5_hasRun (Cond.code yX5_hasRun cX5_hasRun 3 (some .boolean) :: wAll) ({ frames := 0, cells := 0, slots := 0, locals := 0 }) (va_Pc [.ref ob, .int a1, .int a2] (kp G y sz [(ce_X5 ob ob_filled ob_width ob_size ob_numbers)])) (va_Qi (fun (r : Int32) (w : va_W) => ((a1.toInt < 0 ∨ a2.toInt < 0 ∨ ob_size.toInt < a1.toInt + a2.toInt) ∧ r = 0 ∧ w = [(ce_X5 ob ob_filled ob_width ob_size ob_numbers)]) ∨ (((0 : Int) ≤ a1.toInt ∧ a1.toInt ≤ 60) ∧ ((0 : Int) ≤ a2.toInt ∧ a2.toInt ≤ 60) ∧ (0 ≤ a1.toInt ∧ 0 ≤ a2.toInt ∧ a1.toInt + a2.toInt ≤ ob_size.toInt) ∧ r = 1 ∧ w = [(ce_X5 ob ob_filled ob_width ob_size ob_numbers)])) (kq G (va_A [(ce_X5 ob ob_filled ob_width ob_size ob_numbers)] sz)) (va_A [(ce_X5 ob ob_filled ob_width ob_size ob_numbers)] sz)) 0 0 (va_A [(ce_X5 ob ob_filled ob_width ob_size ob_numbers)] sz) := by
  refine Met.ofW (cc := cX5_hasRun) (maxL := 3) (ret := (some .boolean)) (by decide) rfl ?_
  intro p e s m args below meth c s₁ B hml hv
  obtain ⟨rfl, hsz, hP, hK, hD0⟩ := hv
  have hx := B.exec
  have hb := B.bytes
  have hr := B.returns
  have hw0 : ∀ w ∈ wAll, w.before _ s = true := fun w h => atoms_spec (ws := Cond.code yX5_hasRun cX5_hasRun 3 (some .boolean) :: wAll) B.pre w (List.mem_cons_of_mem _ h)
  have hown : s.vm.findClass RX5 = some m.cls := findClass_of_methodNamed B.named
  subst hsz
  have hD := hD0.self (sz := s.heap.size)
  generalize hAe : va_A [(ce_X5 ob ob_filled ob_width ob_size ob_numbers)] s.heap.size = A at hD ⊢
  have hA : ∀ q : Nat, s.heap.size ≤ q → A q := fun q h => by rw [← hAe]; exact Or.inr h
  have hS : va_S A s.heap s.heap [] := va_S.rf
  have hP : va_P G vwCl [(ce_X5 ob ob_filled ob_width ob_size ob_numbers)] s.heap := hP
  have hl := lv_entry ([.ref ob, .int a1, .int a2]) (n := 3) (Nat.le_of_ble_eq_true rfl)
  rw [lg_entry_eq]
  generalize (lg_sl ([.ref ob, .int a1, .int a2]) ++ List.replicate (3 - (lg_sl ([.ref ob, .int a1, .int a2])).length) Slot.unset).toArray = ls at hl ⊢
  have hl : lv_has ls 3 [(0, .ref ob), (1, .int a1), (2, .int a2)] := hl
  refine lv_iload_n hx hb dX5_hasRun_0 rfl (lv_at hl 1 rfl) ?_
  refine lv_if_lt (tgt := 30) hx hb dX5_hasRun_1 (by decide) (fun c_1001 => ?_) (fun c_1001 => ?_)
  · skip
    have nc_1001 := nb_lt (-1) (0) c_1001 (btop a1) (bkc (x := 0) (c := 0) (by decide)) (by decide)
    refine lv_iconst (v := 0) hx hb dX5_hasRun_30 (by decide) ?_
    exact W.zret (v := 0) hx hb hr rfl (fun t ht hW => ⟨⟨0, _, rfl, Or.inl (⟨by have h90 : Int32.toInt 0 = 0 := (by decide); omega, rfl, rfl⟩), by rw [ht]; exact hP, hD⟩, hS.F ht⟩) hS.2.2 dX5_hasRun_31
  · skip
    have nc_1001 := nb_nlt (0) (0) c_1001 (bkc (x := 0) (c := 0) (by decide)) (btop a1) (by decide)
    refine lv_iload_n hx hb dX5_hasRun_4 rfl (lv_at hl 2 rfl) ?_
    refine lv_if_lt (tgt := 30) hx hb dX5_hasRun_5 (by decide) (fun c_1002 => ?_) (fun c_1002 => ?_)
    · skip
      have nc_1002 := nb_lt (-1) (0) c_1002 (btop a2) (bkc (x := 0) (c := 0) (by decide)) (by decide)
      refine lv_iconst (v := 0) hx hb dX5_hasRun_30 (by decide) ?_
      exact W.zret (v := 0) hx hb hr rfl (fun t ht hW => ⟨⟨0, _, rfl, Or.inl (⟨by have h90 : Int32.toInt 0 = 0 := (by decide); omega, rfl, rfl⟩), by rw [ht]; exact hP, hD⟩, hS.F ht⟩) hS.2.2 dX5_hasRun_31
    · skip
      have nc_1002 := nb_nlt (0) (0) c_1002 (bkc (x := 0) (c := 0) (by decide)) (btop a2) (by decide)
      refine lv_iload_n hx hb dX5_hasRun_8 rfl (lv_at hl 2 rfl) ?_
      refine lv_aload_n hx hb dX5_hasRun_9 rfl (lv_at hl 0 rfl) ?_
      refine va_get (D := G) (ci := 5) (v := .int ob_size) (C := RX5) (T := TX5) (N := 4) hx hb hw0 inA_wsX50 hown hK.1 hP 0 rfl rfl 2 (by decide) (hw0 _ m_942) (fun _ h9 => h9) rfl dX5_hasRun_10 ?_
      refine lv_icmp_gt (tgt := 30) hx hb dX5_hasRun_13 (by decide) (fun c_1003 => ?_) (fun c_1003 => ?_)
      · skip
        have nc_1003 := nb_lt (60) (1) c_1003 p_ob_size nc_1002.2.1 (by decide)
        refine lv_iconst (v := 0) hx hb dX5_hasRun_30 (by decide) ?_
        exact W.zret (v := 0) hx hb hr rfl (fun t ht hW => ⟨⟨0, _, rfl, Or.inl (⟨by have h90 : Int32.toInt 0 = 0 := (by decide); omega, rfl, rfl⟩), by rw [ht]; exact hP, hD⟩, hS.F ht⟩) hS.2.2 dX5_hasRun_31
      · skip
        have nc_1003 := nb_nlt (60) (0) c_1003 nc_1002.2.1 p_ob_size (by decide)
        refine lv_iload_n hx hb dX5_hasRun_16 rfl (lv_at hl 1 rfl) ?_
        refine lv_aload_n hx hb dX5_hasRun_17 rfl (lv_at hl 0 rfl) ?_
        refine va_get (D := G) (ci := 5) (v := .int ob_size) (C := RX5) (T := TX5) (N := 4) hx hb hw0 inA_wsX50 hown hK.1 hP 0 rfl rfl 2 (by decide) (hw0 _ m_942) (fun _ h9 => h9) rfl dX5_hasRun_18 ?_
        refine lv_iload_n hx hb dX5_hasRun_21 rfl (lv_at hl 2 rfl) ?_
        refine lv_isub hx hb dX5_hasRun_22 ?_
        refine lv_topi (fun v_1004 ev_1004 => ?_)
        have qv_1004 := ba_sub ev_1004 nc_1003.2.1 nc_1003.1 (by decide)
        have bv_1004 : (-60 : Int) ≤ v_1004.toInt ∧ v_1004.toInt ≤ 60 := bq_sub qv_1004 nc_1003.2.1 nc_1003.1 _ _ (by decide)
        refine lv_icmp_gt (tgt := 30) hx hb dX5_hasRun_23 (by decide) (fun c_1005 => ?_) (fun c_1005 => ?_)
        · skip
          have nc_1005 := nb_lt (60) (0) c_1005 bv_1004 nc_1001.2.1 (by decide)
          refine lv_iconst (v := 0) hx hb dX5_hasRun_30 (by decide) ?_
          exact W.zret (v := 0) hx hb hr rfl (fun t ht hW => ⟨⟨0, _, rfl, Or.inl (⟨by have h90 : Int32.toInt 0 = 0 := (by decide); omega, rfl, rfl⟩), by rw [ht]; exact hP, hD⟩, hS.F ht⟩) hS.2.2 dX5_hasRun_31
        · skip
          have nc_1005 := nb_nlt (60) (0) c_1005 nc_1001.2.1 bv_1004 (by decide)
          refine lv_iconst (v := 1) hx hb dX5_hasRun_26 (by decide) ?_
          refine lv_goto (tgt := 31) hx hb dX5_hasRun_27 (by decide) ?_
          exact W.zret (v := 1) hx hb hr rfl (fun t ht hW => ⟨⟨1, _, rfl, Or.inr (⟨nc_1005.1, nc_1003.1, by have h90 : Int32.toInt 1 = 1 := (by decide); omega, rfl, rfl⟩), by rw [ht]; exact hP, hD⟩, hS.F ht⟩) hS.2.2 dX5_hasRun_31

set_option maxHeartbeats 4000000 in
set_option maxRecDepth 100000 in
theorem sX0_clear (l : Launch) (G : va_G) (y : Nat → ClassId) (sz : Nat) (ob : Nat) (ob_lines : Int32) (ob_used : Int32) (ob_paying : Nat) (ob_kind : Nat) (ob_within : Nat) (ob_start : Nat) (ob_stop : Nat) (ob_tests : Nat) (ob_facts : Nat) (ob_beyond : Int32) (p_ob_lines : (0 : Int) ≤ ob_lines.toInt ∧ ob_lines.toInt ≤ 24) (p_ob_used : (0 : Int) ≤ ob_used.toInt ∧ ob_used.toInt ≤ 700) (p_ob_beyond : (0 : Int) ≤ ob_beyond.toInt ∧ ob_beyond.toInt ≤ 1) : Met l yX0_clear (Cond.code yX0_clear cX0_clear 1 none :: wAll) ({ frames := 0, cells := 0, slots := 0, locals := 0 }) (va_Pc [.ref ob] (kp G y sz [(ce_X0 ob ob_lines ob_used ob_paying ob_kind ob_within ob_start ob_stop ob_tests ob_facts ob_beyond)])) (va_Qv (fun (w : va_W) => (w = [(ce_X0 ob 0 0 ob_paying ob_kind ob_within ob_start ob_stop ob_tests ob_facts ob_beyond)])) (kq G (va_A [(ce_X0 ob ob_lines ob_used ob_paying ob_kind ob_within ob_start ob_stop ob_tests ob_facts ob_beyond)] sz)) (va_A [(ce_X0 ob ob_lines ob_used ob_paying ob_kind ob_within ob_start ob_stop ob_tests ob_facts ob_beyond)] sz)) 0 0 (va_A [(ce_X0 ob ob_lines ob_used ob_paying ob_kind ob_within ob_start ob_stop ob_tests ob_facts ob_beyond)] sz) := by
  refine Met.ofW (cc := cX0_clear) (maxL := 1) (ret := none) (by decide) rfl ?_
  intro p e s m args below meth c s₁ B hml hv
  obtain ⟨rfl, hsz, hP, hK, hD0⟩ := hv
  have hx := B.exec
  have hb := B.bytes
  have hr := B.returns
  have hw0 : ∀ w ∈ wAll, w.before _ s = true := fun w h => atoms_spec (ws := Cond.code yX0_clear cX0_clear 1 none :: wAll) B.pre w (List.mem_cons_of_mem _ h)
  have hown : s.vm.findClass RX0 = some m.cls := findClass_of_methodNamed B.named
  subst hsz
  have hD := hD0.self (sz := s.heap.size)
  generalize hAe : va_A [(ce_X0 ob ob_lines ob_used ob_paying ob_kind ob_within ob_start ob_stop ob_tests ob_facts ob_beyond)] s.heap.size = A at hD ⊢
  have hA : ∀ q : Nat, s.heap.size ≤ q → A q := fun q h => by rw [← hAe]; exact Or.inr h
  have hS : va_S A s.heap s.heap [] := va_S.rf
  have hP : va_P G vwCl [(ce_X0 ob ob_lines ob_used ob_paying ob_kind ob_within ob_start ob_stop ob_tests ob_facts ob_beyond)] s.heap := hP
  have hl := lv_entry ([.ref ob]) (n := 1) (Nat.le_of_ble_eq_true rfl)
  rw [lg_entry_eq]
  generalize (lg_sl ([.ref ob]) ++ List.replicate (1 - (lg_sl ([.ref ob])).length) Slot.unset).toArray = ls at hl ⊢
  have hl : lv_has ls 1 [(0, .ref ob)] := hl
  refine lv_aload_n hx hb dX0_clear_0 rfl (lv_at hl 0 rfl) ?_
  refine lv_iconst (v := 0) hx hb dX0_clear_1 (by decide) ?_
  refine va_put (D := G) (ci := 0) (v := .int 0) (ty := .int) (C := RX0) (T := TX0) (N := 10) hx hb hw0 inA_wsX00 tyX0 tyX0_ok nmX0 hown hK.1 hP hD hS 0 rfl rfl 0 (by decide) (hw0 _ m_266) (fun _ h9 => h9) rfl fd_X0_0 rfl rfl (Nat.le_of_ble_eq_true rfl) dX0_clear_2 (fun H locs hP hD hS => ?_)
  obtain ⟨hP, hD⟩ : vPD G A H [(ce_X0 ob 0 ob_used ob_paying ob_kind ob_within ob_start ob_stop ob_tests ob_facts ob_beyond)] := ⟨hP, hD⟩
  refine lv_aload_n hx hb dX0_clear_5 rfl (lv_at hl 0 rfl) ?_
  refine lv_iconst (v := 0) hx hb dX0_clear_6 (by decide) ?_
  refine va_put (D := G) (ci := 0) (v := .int 0) (ty := .int) (C := RX0) (T := TX0) (N := 10) hx hb hw0 inA_wsX00 tyX0 tyX0_ok nmX0 hown hK.1 hP hD hS 0 rfl rfl 1 (by decide) (hw0 _ m_267) (fun _ h9 => h9) rfl fd_X0_1 rfl rfl (Nat.le_of_ble_eq_true rfl) dX0_clear_7 (fun H locs hP hD hS => ?_)
  obtain ⟨hP, hD⟩ : vPD G A H [(ce_X0 ob 0 0 ob_paying ob_kind ob_within ob_start ob_stop ob_tests ob_facts ob_beyond)] := ⟨hP, hD⟩
  exact W.vret hx hb hr (fun t ht hW => ⟨⟨_, rfl, rfl, by rw [ht]; exact hP, hD⟩, hS.F ht⟩) hS.2.2 dX0_clear_10

set_option maxHeartbeats 4000000 in
set_option maxRecDepth 100000 in
theorem sX0_put (l : Launch) (G : va_G) (y : Nat → ClassId) (sz : Nat) (ob : Nat) (a1 : Int32) (ob_lines : Int32) (ob_used : Int32) (ob_paying : Nat) (ob_kind : Nat) (ob_within : Nat) (ob_start : Nat) (ob_stop : Nat) (ob_tests : Nat) (ob_facts : Nat) (ob_beyond : Int32) (fob_tests : Nat → Int32) (p_ob_lines : (0 : Int) ≤ ob_lines.toInt ∧ ob_lines.toInt ≤ 24) (p_ob_used : (0 : Int) ≤ ob_used.toInt ∧ ob_used.toInt ≤ 700) (p_ob_beyond : (0 : Int) ≤ ob_beyond.toInt ∧ ob_beyond.toInt ≤ 1) : Met l yX0_put (Cond.code yX0_put cX0_put 2 none :: wAll) ({ frames := 0, cells := 0, slots := 0, locals := 0 }) (va_Pc [.ref ob, .int a1] (kp G y sz [(ce_X0 ob ob_lines ob_used ob_paying ob_kind ob_within ob_start ob_stop ob_tests ob_facts ob_beyond), (ce_i700 y ob_tests fob_tests)])) (va_Qv (fun (w : va_W) => (∃ (v_7 : Int32) (f_8 : Nat → Int32), ((1 : Int) ≤ v_7.toInt ∧ v_7.toInt ≤ 700) ∧ w = [(ce_X0 ob ob_lines v_7 ob_paying ob_kind ob_within ob_start ob_stop ob_tests ob_facts ob_beyond), (ce_i700 y ob_tests f_8)])) (kq G (va_A [(ce_X0 ob ob_lines ob_used ob_paying ob_kind ob_within ob_start ob_stop ob_tests ob_facts ob_beyond), (ce_i700 y ob_tests fob_tests)] sz)) (va_A [(ce_X0 ob ob_lines ob_used ob_paying ob_kind ob_within ob_start ob_stop ob_tests ob_facts ob_beyond), (ce_i700 y ob_tests fob_tests)] sz)) 0 0 (va_A [(ce_X0 ob ob_lines ob_used ob_paying ob_kind ob_within ob_start ob_stop ob_tests ob_facts ob_beyond), (ce_i700 y ob_tests fob_tests)] sz) := by
  refine Met.ofW (cc := cX0_put) (maxL := 2) (ret := none) (by decide) rfl ?_
  intro p e s m args below meth c s₁ B hml hv
  obtain ⟨rfl, hsz, hP, hK, hD0⟩ := hv
  have hx := B.exec
  have hb := B.bytes
  have hr := B.returns
  have hw0 : ∀ w ∈ wAll, w.before _ s = true := fun w h => atoms_spec (ws := Cond.code yX0_put cX0_put 2 none :: wAll) B.pre w (List.mem_cons_of_mem _ h)
  have hown : s.vm.findClass RX0 = some m.cls := findClass_of_methodNamed B.named
  subst hsz
  have hD := hD0.self (sz := s.heap.size)
  generalize hAe : va_A [(ce_X0 ob ob_lines ob_used ob_paying ob_kind ob_within ob_start ob_stop ob_tests ob_facts ob_beyond), (ce_i700 y ob_tests fob_tests)] s.heap.size = A at hD ⊢
  have hA : ∀ q : Nat, s.heap.size ≤ q → A q := fun q h => by rw [← hAe]; exact Or.inr h
  have hS : va_S A s.heap s.heap [] := va_S.rf
  have hP : va_P G vwCl [(ce_X0 ob ob_lines ob_used ob_paying ob_kind ob_within ob_start ob_stop ob_tests ob_facts ob_beyond), (ce_i700 y ob_tests fob_tests)] s.heap := hP
  have hl := lv_entry ([.ref ob, .int a1]) (n := 2) (Nat.le_of_ble_eq_true rfl)
  rw [lg_entry_eq]
  generalize (lg_sl ([.ref ob, .int a1]) ++ List.replicate (2 - (lg_sl ([.ref ob, .int a1])).length) Slot.unset).toArray = ls at hl ⊢
  have hl : lv_has ls 2 [(0, .ref ob), (1, .int a1)] := hl
  refine lv_aload_n hx hb dX0_put_0 rfl (lv_at hl 0 rfl) ?_
  refine va_get (D := G) (ci := 0) (v := .int ob_used) (C := RX0) (T := TX0) (N := 10) hx hb hw0 inA_wsX00 hown hK.1 hP 0 rfl rfl 1 (by decide) (hw0 _ m_267) (fun _ h9 => h9) rfl dX0_put_1 ?_
  refine lv_sipush (v := 700) hx hb dX0_put_4 (by decide) ?_
  refine lv_icmp_ge (tgt := 30) hx hb dX0_put_7 (by decide) (fun c_1001 => ?_) (fun c_1001 => ?_)
  · skip
    have nc_1001 := nb_le (700) (700) c_1001 (bkc (x := 700) (c := 700) (by decide)) p_ob_used (by decide)
    exact W.vret hx hb hr (fun t ht hW => ⟨⟨_, rfl, ⟨ob_used, fob_tests, (bw (1) (700) nc_1001.2.1 (by decide)), rfl⟩, by rw [ht]; exact hP, hD⟩, hS.F ht⟩) hS.2.2 dX0_put_30
  · skip
    have nc_1001 := nb_nle (699) (700) c_1001 p_ob_used (bkc (x := 700) (c := 700) (by decide)) (by decide)
    refine lv_aload_n hx hb dX0_put_10 rfl (lv_at hl 0 rfl) ?_
    refine va_get (D := G) (ci := 0) (v := .ref ob_tests) (C := RX0) (T := TX0) (N := 10) hx hb hw0 inA_wsX00 hown hK.1 hP 0 rfl rfl 7 (by decide) (hw0 _ m_279) (fun _ h9 => h9) rfl dX0_put_11 ?_
    refine lv_aload_n hx hb dX0_put_14 rfl (lv_at hl 0 rfl) ?_
    refine va_get (D := G) (ci := 0) (v := .int ob_used) (C := RX0) (T := TX0) (N := 10) hx hb hw0 inA_wsX00 hown hK.1 hP 0 rfl rfl 1 (by decide) (hw0 _ m_267) (fun _ h9 => h9) rfl dX0_put_15 ?_
    refine lv_iload_n hx hb dX0_put_18 rfl (lv_at hl 1 rfl) ?_
    refine va_iast hx hb hK.1 hP hD hS 1 1 rfl rfl (vi nc_1001.1 (by decide)) dX0_put_19 (fun H locs hP hD hS => ?_)
    generalize hf_1002 : (upd fob_tests (ob_used : Int32).toNatClampNeg a1) = f_1002 at hP hD
    obtain ⟨hP, hD⟩ : vPD G A H [(ce_X0 ob ob_lines ob_used ob_paying ob_kind ob_within ob_start ob_stop ob_tests ob_facts ob_beyond), (ce_i700 y ob_tests f_1002)] := ⟨hP, hD⟩
    refine lv_aload_n hx hb dX0_put_20 rfl (lv_at hl 0 rfl) ?_
    refine lv_dup hx hb dX0_put_21 rfl ?_
    refine va_get (D := G) (ci := 0) (v := .int ob_used) (C := RX0) (T := TX0) (N := 10) hx hb hw0 inA_wsX00 hown hK.1 hP 0 rfl rfl 1 (by decide) (hw0 _ m_267) (fun _ h9 => h9) rfl dX0_put_22 ?_
    refine lv_iconst (v := 1) hx hb dX0_put_25 (by decide) ?_
    refine lv_iadd hx hb dX0_put_26 ?_
    refine lv_topi (fun v_1003 ev_1003 => ?_)
    have qv_1003 := ba_add ev_1003 nc_1001.1 (bkc (x := 1) (c := 1) (by decide)) (by decide)
    have bv_1003 : (1 : Int) ≤ v_1003.toInt ∧ v_1003.toInt ≤ 700 := bq_add qv_1003 nc_1001.1 (bkc (x := 1) (c := 1) (by decide)) _ _ (by decide)
    have qv_1003 : v_1003.toInt = ob_used.toInt + (1) := qv_1003
    refine va_put (D := G) (ci := 0) (v := .int v_1003) (ty := .int) (C := RX0) (T := TX0) (N := 10) hx hb hw0 inA_wsX00 tyX0 tyX0_ok nmX0 hown hK.1 hP hD hS 0 rfl rfl 1 (by decide) (hw0 _ m_267) (fun _ h9 => h9) rfl fd_X0_1 rfl rfl (Nat.le_of_ble_eq_true rfl) dX0_put_27 (fun H locs hP hD hS => ?_)
    obtain ⟨hP, hD⟩ : vPD G A H [(ce_X0 ob ob_lines v_1003 ob_paying ob_kind ob_within ob_start ob_stop ob_tests ob_facts ob_beyond), (ce_i700 y ob_tests f_1002)] := ⟨hP, hD⟩
    exact W.vret hx hb hr (fun t ht hW => ⟨⟨_, rfl, ⟨v_1003, f_1002, bv_1003, rfl⟩, by rw [ht]; exact hP, hD⟩, hS.F ht⟩) hS.2.2 dX0_put_30

set_option maxHeartbeats 4000000 in
set_option maxRecDepth 100000 in
theorem sX0_partOf (l : Launch) (G : va_G) (y : Nat → ClassId) (sz : Nat) (ob : Nat) (a1 : Int32) (ob_lines : Int32) (ob_used : Int32) (ob_paying : Nat) (ob_kind : Nat) (ob_within : Nat) (ob_start : Nat) (ob_stop : Nat) (ob_tests : Nat) (ob_facts : Nat) (ob_beyond : Int32) (fob_facts : Nat → Int32) (p_ob_lines : (0 : Int) ≤ ob_lines.toInt ∧ ob_lines.toInt ≤ 24) (p_ob_used : (0 : Int) ≤ ob_used.toInt ∧ ob_used.toInt ≤ 700) (p_ob_beyond : (0 : Int) ≤ ob_beyond.toInt ∧ ob_beyond.toInt ≤ 1) : Met l yX0_partOf (Cond.code yX0_partOf cX0_partOf 2 (some .int) :: wAll) ({ frames := 0, cells := 0, slots := 0, locals := 0 }) (va_Pc [.ref ob, .int a1] (kp G y sz [(ce_X0 ob ob_lines ob_used ob_paying ob_kind ob_within ob_start ob_stop ob_tests ob_facts ob_beyond), (ce_i5 y ob_facts fob_facts)])) (va_Qi (fun (r : Int32) (w : va_W) => (∃ (v_11 : Int32), r = v_11 ∧ w = [(ce_X0 ob ob_lines ob_used ob_paying ob_kind ob_within ob_start ob_stop ob_tests ob_facts ob_beyond), (ce_i5 y ob_facts fob_facts)])) (kq G (va_A [(ce_X0 ob ob_lines ob_used ob_paying ob_kind ob_within ob_start ob_stop ob_tests ob_facts ob_beyond), (ce_i5 y ob_facts fob_facts)] sz)) (va_A [(ce_X0 ob ob_lines ob_used ob_paying ob_kind ob_within ob_start ob_stop ob_tests ob_facts ob_beyond), (ce_i5 y ob_facts fob_facts)] sz)) 0 0 (va_A [(ce_X0 ob ob_lines ob_used ob_paying ob_kind ob_within ob_start ob_stop ob_tests ob_facts ob_beyond), (ce_i5 y ob_facts fob_facts)] sz) := by
  refine Met.ofW (cc := cX0_partOf) (maxL := 2) (ret := (some .int)) (by decide) rfl ?_
  intro p e s m args below meth c s₁ B hml hv
  obtain ⟨rfl, hsz, hP, hK, hD0⟩ := hv
  have hx := B.exec
  have hb := B.bytes
  have hr := B.returns
  have hw0 : ∀ w ∈ wAll, w.before _ s = true := fun w h => atoms_spec (ws := Cond.code yX0_partOf cX0_partOf 2 (some .int) :: wAll) B.pre w (List.mem_cons_of_mem _ h)
  have hown : s.vm.findClass RX0 = some m.cls := findClass_of_methodNamed B.named
  subst hsz
  have hD := hD0.self (sz := s.heap.size)
  generalize hAe : va_A [(ce_X0 ob ob_lines ob_used ob_paying ob_kind ob_within ob_start ob_stop ob_tests ob_facts ob_beyond), (ce_i5 y ob_facts fob_facts)] s.heap.size = A at hD ⊢
  have hA : ∀ q : Nat, s.heap.size ≤ q → A q := fun q h => by rw [← hAe]; exact Or.inr h
  have hS : va_S A s.heap s.heap [] := va_S.rf
  have hP : va_P G vwCl [(ce_X0 ob ob_lines ob_used ob_paying ob_kind ob_within ob_start ob_stop ob_tests ob_facts ob_beyond), (ce_i5 y ob_facts fob_facts)] s.heap := hP
  have hl := lv_entry ([.ref ob, .int a1]) (n := 2) (Nat.le_of_ble_eq_true rfl)
  rw [lg_entry_eq]
  generalize (lg_sl ([.ref ob, .int a1]) ++ List.replicate (2 - (lg_sl ([.ref ob, .int a1])).length) Slot.unset).toArray = ls at hl ⊢
  have hl : lv_has ls 2 [(0, .ref ob), (1, .int a1)] := hl
  refine lv_iload_n hx hb dX0_partOf_0 rfl (lv_at hl 1 rfl) ?_
  refine lv_sipush (v := 1000) hx hb dX0_partOf_1 (by decide) ?_
  refine lv_icmp_ge (tgt := 9) hx hb dX0_partOf_4 (by decide) (fun c_1001 => ?_) (fun c_1001 => ?_)
  · skip
    have nc_1001 := nb_le (1000) (1000) c_1001 (bkc (x := 1000) (c := 1000) (by decide)) (btop a1) (by decide)
    refine lv_iload_n hx hb dX0_partOf_9 rfl (lv_at hl 1 rfl) ?_
    refine lv_sipush (v := 1000) hx hb dX0_partOf_10 (by decide) ?_
    refine lv_isub hx hb dX0_partOf_13 ?_
    refine lv_topi (fun v_1002 ev_1002 => ?_)
    have qv_1002 := ba_sub ev_1002 nc_1001.2.1 (bkc (x := 1000) (c := 1000) (by decide)) (by decide)
    have bv_1002 : (0 : Int) ≤ v_1002.toInt ∧ v_1002.toInt ≤ 2147482647 := bq_sub qv_1002 nc_1001.2.1 (bkc (x := 1000) (c := 1000) (by decide)) _ _ (by decide)
    have qv_1002 : v_1002.toInt = a1.toInt - (1000) := qv_1002
    refine lv_iconst (v := 5) hx hb dX0_partOf_14 (by decide) ?_
    refine lv_icmp_ge (tgt := 31) hx hb dX0_partOf_15 (by decide) (fun c_1003 => ?_) (fun c_1003 => ?_)
    · skip
      have nc_1003 := nb_le (5) (5) c_1003 (bkc (x := 5) (c := 5) (by decide)) bv_1002 (by decide)
      refine lv_iconst (v := 0) hx hb dX0_partOf_31 (by decide) ?_
      exact W.iret (v := 0) hx hb hr (fun t ht hW => ⟨⟨0, _, rfl, ⟨0, rfl, rfl⟩, by rw [ht]; exact hP, hD⟩, hS.F ht⟩) hS.2.2 dX0_partOf_32
    · skip
      have nc_1003 := nb_nle (4) (5) c_1003 bv_1002 (bkc (x := 5) (c := 5) (by decide)) (by decide)
      refine lv_aload_n hx hb dX0_partOf_18 rfl (lv_at hl 0 rfl) ?_
      refine va_get (D := G) (ci := 0) (v := .ref ob_facts) (C := RX0) (T := TX0) (N := 10) hx hb hw0 inA_wsX00 hown hK.1 hP 0 rfl rfl 8 (by decide) (hw0 _ m_299) (fun _ h9 => h9) rfl dX0_partOf_19 ?_
      refine lv_iload_n hx hb dX0_partOf_22 rfl (lv_at hl 1 rfl) ?_
      refine lv_sipush (v := 1000) hx hb dX0_partOf_23 (by decide) ?_
      refine lv_isub hx hb dX0_partOf_26 ?_
      refine lv_topi (fun v_1004 ev_1004 => ?_)
      obtain rfl : v_1002 = v_1004 := (ev_1004.trans (ev_1002.symm)).symm
      refine va_iald hx hb hK.1 hP 1 1 rfl rfl (vi nc_1003.1 (by decide)) dX0_partOf_27 ?_
      refine lv_topi (fun v_1005 ev_1005 => ?_)
      refine lv_goto (tgt := 32) hx hb dX0_partOf_28 (by decide) ?_
      exact W.iret (v := v_1005) hx hb hr (fun t ht hW => ⟨⟨v_1005, _, rfl, ⟨v_1005, rfl, rfl⟩, by rw [ht]; exact hP, hD⟩, hS.F ht⟩) hS.2.2 dX0_partOf_32
  · skip
    have nc_1001 := nb_nle (999) (1000) c_1001 (btop a1) (bkc (x := 1000) (c := 1000) (by decide)) (by decide)
    refine lv_iload_n hx hb dX0_partOf_7 rfl (lv_at hl 1 rfl) ?_
    exact W.iret (v := a1) hx hb hr (fun t ht hW => ⟨⟨a1, _, rfl, ⟨a1, rfl, rfl⟩, by rw [ht]; exact hP, hD⟩, hS.F ht⟩) hS.2.2 dX0_partOf_8
