set_option maxHeartbeats 4000000 in
set_option maxRecDepth 100000 in
theorem fX7_has (l : Launch) (G : va_G) (y : Nat → ClassId) (sz : Nat) (ob : Nat) (a1 : Int32) (ob_houses : Int32) (ob_fresh : Int32) (ob_introducers : Int32) (ob_x : Nat) (ob_y : Nat) (ob_rank : Nat) (ob_weekday : Nat) (ob_from : Nat) (ob_to : Nat) (ob_came : Nat) (ob_bride : Nat) (ob_told : Nat) (p_ob_houses : (0 : Int) ≤ ob_houses.toInt ∧ ob_houses.toInt ≤ 16) : Met l yX7_has (Cond.code yX7_has cX7_has 2 (some .boolean) :: wAll) ({ frames := 0, cells := 0, slots := 0, locals := 0 }) (va_Pc [.ref ob, .int a1] (kp G y sz [(ce_X7 ob ob_houses ob_fresh ob_introducers ob_x ob_y ob_rank ob_weekday ob_from ob_to ob_came ob_bride ob_told)])) (va_Qi (fun (r : Int32) (w : va_W) => ((a1.toInt < 0 ∨ ob_houses.toInt ≤ a1.toInt) ∧ r = 0 ∧ w = [(ce_X7 ob ob_houses ob_fresh ob_introducers ob_x ob_y ob_rank ob_weekday ob_from ob_to ob_came ob_bride ob_told)]) ∨ (((0 : Int) ≤ a1.toInt ∧ a1.toInt ≤ 15) ∧ ((1 : Int) ≤ ob_houses.toInt ∧ ob_houses.toInt ≤ 16) ∧ (0 ≤ a1.toInt ∧ a1.toInt < ob_houses.toInt) ∧ r = 1 ∧ w = [(ce_X7 ob ob_houses ob_fresh ob_introducers ob_x ob_y ob_rank ob_weekday ob_from ob_to ob_came ob_bride ob_told)])) (kq G (va_A [(ce_X7 ob ob_houses ob_fresh ob_introducers ob_x ob_y ob_rank ob_weekday ob_from ob_to ob_came ob_bride ob_told)] sz)) (va_A [(ce_X7 ob ob_houses ob_fresh ob_introducers ob_x ob_y ob_rank ob_weekday ob_from ob_to ob_came ob_bride ob_told)] sz)) 0 0 (va_A [(ce_X7 ob ob_houses ob_fresh ob_introducers ob_x ob_y ob_rank ob_weekday ob_from ob_to ob_came ob_bride ob_told)] sz) := by
  refine Met.ofW (cc := cX7_has) (maxL := 2) (ret := (some .boolean)) (by decide) rfl ?_
  intro p e s m args below meth c s₁ B hml hv
  obtain ⟨rfl, hsz, hP, hK, hD0⟩ := hv
  have hx := B.exec
  have hb := B.bytes
  have hr := B.returns
  have hw0 : ∀ w ∈ wAll, w.before _ s = true := fun w h => atoms_spec (ws := Cond.code yX7_has cX7_has 2 (some .boolean) :: wAll) B.pre w (List.mem_cons_of_mem _ h)
  have hown : s.vm.findClass RX7 = some m.cls := findClass_of_methodNamed B.named
  subst hsz
  have hD := hD0.self (sz := s.heap.size)
  generalize hAe : va_A [(ce_X7 ob ob_houses ob_fresh ob_introducers ob_x ob_y ob_rank ob_weekday ob_from ob_to ob_came ob_bride ob_told)] s.heap.size = A at hD ⊢
  have hA : ∀ q : Nat, s.heap.size ≤ q → A q := fun q h => by rw [← hAe]; exact Or.inr h
  have hS : va_S A s.heap s.heap [] := va_S.rf
  have hP : va_P G vwCl [(ce_X7 ob ob_houses ob_fresh ob_introducers ob_x ob_y ob_rank ob_weekday ob_from ob_to ob_came ob_bride ob_told)] s.heap := hP
  have hl := lv_entry ([.ref ob, .int a1]) (n := 2) (Nat.le_of_ble_eq_true rfl)
  rw [lg_entry_eq]
  generalize (lg_sl ([.ref ob, .int a1]) ++ List.replicate (2 - (lg_sl ([.ref ob, .int a1])).length) Slot.unset).toArray = ls at hl ⊢
  have hl : lv_has ls 2 [(0, .ref ob), (1, .int a1)] := hl
  refine lv_iload_n hx hb dX7_has_0 rfl (lv_at hl 1 rfl) ?_
  refine lv_if_lt (tgt := 16) hx hb dX7_has_1 (by decide) (fun c_1001 => ?_) (fun c_1001 => ?_)
  · skip
    have nc_1001 := nb_lt (-1) (0) c_1001 (btop a1) (bkc (x := 0) (c := 0) (by decide)) (by decide)
    refine lv_iconst (v := 0) hx hb dX7_has_16 (by decide) ?_
    exact W.zret (v := 0) hx hb hr rfl (fun t ht hW => ⟨⟨0, _, rfl, Or.inl (⟨by have h90 : Int32.toInt 0 = 0 := (by decide); omega, rfl, rfl⟩), by rw [ht]; exact hP, hD⟩, hS.F ht⟩) hS.2.2 dX7_has_17
  · skip
    have nc_1001 := nb_nlt (0) (0) c_1001 (bkc (x := 0) (c := 0) (by decide)) (btop a1) (by decide)
    refine lv_iload_n hx hb dX7_has_4 rfl (lv_at hl 1 rfl) ?_
    refine lv_aload_n hx hb dX7_has_5 rfl (lv_at hl 0 rfl) ?_
    refine va_get (D := G) (ci := 7) (v := .int ob_houses) (C := RX7) (T := TX7) (N := 12) hx hb hw0 inA_wsX70 hown hK.1 hP 0 rfl rfl 0 (by decide) (hw0 _ m_1060) (fun _ h9 => h9) rfl dX7_has_6 ?_
    refine lv_icmp_ge (tgt := 16) hx hb dX7_has_9 (by decide) (fun c_1002 => ?_) (fun c_1002 => ?_)
    · skip
      have nc_1002 := nb_le (16) (0) c_1002 p_ob_houses nc_1001.2.1 (by decide)
      refine lv_iconst (v := 0) hx hb dX7_has_16 (by decide) ?_
      exact W.zret (v := 0) hx hb hr rfl (fun t ht hW => ⟨⟨0, _, rfl, Or.inl (⟨by have h90 : Int32.toInt 0 = 0 := (by decide); omega, rfl, rfl⟩), by rw [ht]; exact hP, hD⟩, hS.F ht⟩) hS.2.2 dX7_has_17
    · skip
      have nc_1002 := nb_nle (15) (1) c_1002 nc_1001.2.1 p_ob_houses (by decide)
      refine lv_iconst (v := 1) hx hb dX7_has_12 (by decide) ?_
      refine lv_goto (tgt := 17) hx hb dX7_has_13 (by decide) ?_
      exact W.zret (v := 1) hx hb hr rfl (fun t ht hW => ⟨⟨1, _, rfl, Or.inr (⟨nc_1002.1, nc_1002.2.1, by have h90 : Int32.toInt 1 = 1 := (by decide); omega, rfl, rfl⟩), by rw [ht]; exact hP, hD⟩, hS.F ht⟩) hS.2.2 dX7_has_17

set_option maxHeartbeats 4000000 in
set_option maxRecDepth 100000 in
theorem fX7_hasPair (l : Launch) (G : va_G) (y : Nat → ClassId) (sz : Nat) (ob : Nat) (a1 : Int32) (a2 : Int32) (ob_houses : Int32) (ob_fresh : Int32) (ob_introducers : Int32) (ob_x : Nat) (ob_y : Nat) (ob_rank : Nat) (ob_weekday : Nat) (ob_from : Nat) (ob_to : Nat) (ob_came : Nat) (ob_bride : Nat) (ob_told : Nat) (p_ob_houses : (0 : Int) ≤ ob_houses.toInt ∧ ob_houses.toInt ≤ 16) : Met l yX7_hasPair (Cond.code yX7_hasPair cX7_hasPair 3 (some .boolean) :: wAll) ({ frames := 1, cells := 0, slots := 0, locals := 21 }) (va_Pc [.ref ob, .int a1, .int a2] (kp G y sz [(ce_X7 ob ob_houses ob_fresh ob_introducers ob_x ob_y ob_rank ob_weekday ob_from ob_to ob_came ob_bride ob_told)])) (va_Qi (fun (r : Int32) (w : va_W) => ((¬ (0 ≤ a1.toInt ∧ a1.toInt < ob_houses.toInt ∧ 0 ≤ a2.toInt ∧ a2.toInt < ob_houses.toInt ∧ a1.toInt ≠ a2.toInt)) ∧ r = 0 ∧ w = [(ce_X7 ob ob_houses ob_fresh ob_introducers ob_x ob_y ob_rank ob_weekday ob_from ob_to ob_came ob_bride ob_told)]) ∨ (((0 : Int) ≤ a1.toInt ∧ a1.toInt ≤ 15) ∧ ((0 : Int) ≤ a2.toInt ∧ a2.toInt ≤ 15) ∧ ((1 : Int) ≤ ob_houses.toInt ∧ ob_houses.toInt ≤ 16) ∧ (0 ≤ a1.toInt ∧ a1.toInt < ob_houses.toInt ∧ 0 ≤ a2.toInt ∧ a2.toInt < ob_houses.toInt ∧ a1.toInt ≠ a2.toInt) ∧ r = 1 ∧ w = [(ce_X7 ob ob_houses ob_fresh ob_introducers ob_x ob_y ob_rank ob_weekday ob_from ob_to ob_came ob_bride ob_told)])) (kq G (va_A [(ce_X7 ob ob_houses ob_fresh ob_introducers ob_x ob_y ob_rank ob_weekday ob_from ob_to ob_came ob_bride ob_told)] sz)) (va_A [(ce_X7 ob ob_houses ob_fresh ob_introducers ob_x ob_y ob_rank ob_weekday ob_from ob_to ob_came ob_bride ob_told)] sz)) 0 0 (va_A [(ce_X7 ob ob_houses ob_fresh ob_introducers ob_x ob_y ob_rank ob_weekday ob_from ob_to ob_came ob_bride ob_told)] sz) := by
  refine Met.ofW (cc := cX7_hasPair) (maxL := 3) (ret := (some .boolean)) (by decide) rfl ?_
  intro p e s m args below meth c s₁ B hml hv
  obtain ⟨rfl, hsz, hP, hK, hD0⟩ := hv
  have hx := B.exec
  have hb := B.bytes
  have hr := B.returns
  have hw0 : ∀ w ∈ wAll, w.before _ s = true := fun w h => atoms_spec (ws := Cond.code yX7_hasPair cX7_hasPair 3 (some .boolean) :: wAll) B.pre w (List.mem_cons_of_mem _ h)
  have hown : s.vm.findClass RX7 = some m.cls := findClass_of_methodNamed B.named
  subst hsz
  have hD := hD0.self (sz := s.heap.size)
  generalize hAe : va_A [(ce_X7 ob ob_houses ob_fresh ob_introducers ob_x ob_y ob_rank ob_weekday ob_from ob_to ob_came ob_bride ob_told)] s.heap.size = A at hD ⊢
  have hA : ∀ q : Nat, s.heap.size ≤ q → A q := fun q h => by rw [← hAe]; exact Or.inr h
  have hS : va_S A s.heap s.heap [] := va_S.rf
  have hP : va_P G vwCl [(ce_X7 ob ob_houses ob_fresh ob_introducers ob_x ob_y ob_rank ob_weekday ob_from ob_to ob_came ob_bride ob_told)] s.heap := hP
  have hl := lv_entry ([.ref ob, .int a1, .int a2]) (n := 3) (Nat.le_of_ble_eq_true rfl)
  rw [lg_entry_eq]
  generalize (lg_sl ([.ref ob, .int a1, .int a2]) ++ List.replicate (3 - (lg_sl ([.ref ob, .int a1, .int a2])).length) Slot.unset).toArray = ls at hl ⊢
  have hl : lv_has ls 3 [(0, .ref ob), (1, .int a1), (2, .int a2)] := hl
  refine lv_aload_n hx hb dX7_hasPair_0 rfl (lv_at hl 0 rfl) ?_
  refine lv_iload_n hx hb dX7_hasPair_1 rfl (lv_at hl 1 rfl) ?_
  refine cVim (As := [.int a1]) (rest := []) ⟨hx, hb, hml, hown, hw0⟩ hA hK hP hD hS [true] (fX7_has l G y _ ob a1 ob_houses ob_fresh ob_introducers ob_x ob_y ob_rank ob_weekday ob_from ob_to ob_came ob_bride ob_told p_ob_houses) rfl ⟨(callB_of 1 hw0 (gA m_1075) rfl rfl rfl (hw0 _ m_746) (hw0 _ m_1077) cb_X7_has ⟨Nat.le_of_ble_eq_true rfl, Nat.le_of_ble_eq_true rfl⟩), (hw0 _ m_862), (hw0 _ m_863)⟩ (ci := 7) (q := (RX7, TX7, 12)) rfl rfl rfl hl.1 (Nat.le_of_ble_eq_true rfl) dX7_hasPair_2 ⟨Nat.le_of_ble_eq_true rfl, Nat.le_of_ble_eq_true rfl⟩ (fun r_1001 w_1001 H locs hw_1001 hP hD hS => ?_)
  rcases hw_1001 with ⟨h_1002, rfl, rfl⟩ | ⟨h_1003, h_1004, h_1005, rfl, rfl⟩
  · skip
    obtain ⟨hP, hD⟩ : vPD G A H [(ce_X7 ob ob_houses ob_fresh ob_introducers ob_x ob_y ob_rank ob_weekday ob_from ob_to ob_came ob_bride ob_told)] := ⟨hP, hD⟩
    refine lv_if_eq (tgt := 25) hx hb dX7_hasPair_5 (by decide) (fun _ => ?_) (fun c9 => absurd (by decide) c9)
    refine lv_iconst (v := 0) hx hb dX7_hasPair_25 (by decide) ?_
    exact W.zret (v := 0) hx hb hr rfl (fun t ht hW => ⟨⟨0, _, rfl, Or.inl (⟨by have h90 : Int32.toInt 0 = 0 := (by decide); omega, rfl, rfl⟩), by rw [ht]; exact hP, hD⟩, hS.F ht⟩) hS.2.2 dX7_hasPair_26
  · skip
    obtain ⟨hP, hD⟩ : vPD G A H [(ce_X7 ob ob_houses ob_fresh ob_introducers ob_x ob_y ob_rank ob_weekday ob_from ob_to ob_came ob_bride ob_told)] := ⟨hP, hD⟩
    refine lv_if_eq (tgt := 25) hx hb dX7_hasPair_5 (by decide) (fun c9 => absurd c9 (by decide)) (fun _ => ?_)
    refine lv_aload_n hx hb dX7_hasPair_8 rfl (lv_at hl 0 rfl) ?_
    refine lv_iload_n hx hb dX7_hasPair_9 rfl (lv_at hl 2 rfl) ?_
    refine cVim (As := [.int a2]) (rest := []) ⟨hx, hb, hml, hown, hw0⟩ hA hK hP hD hS [true] (fX7_has l G y _ ob a2 ob_houses ob_fresh ob_introducers ob_x ob_y ob_rank ob_weekday ob_from ob_to ob_came ob_bride ob_told (bw (0) (16) h_1004 (by decide))) rfl ⟨(callB_of 1 hw0 (gA m_1075) rfl rfl rfl (hw0 _ m_746) (hw0 _ m_1077) cb_X7_has ⟨Nat.le_of_ble_eq_true rfl, Nat.le_of_ble_eq_true rfl⟩), (hw0 _ m_862), (hw0 _ m_863)⟩ (ci := 7) (q := (RX7, TX7, 12)) rfl rfl rfl hl.1 (Nat.le_of_ble_eq_true rfl) dX7_hasPair_10 ⟨Nat.le_of_ble_eq_true rfl, Nat.le_of_ble_eq_true rfl⟩ (fun r_1006 w_1006 H locs hw_1006 hP hD hS => ?_)
    rcases hw_1006 with ⟨h_1007, rfl, rfl⟩ | ⟨h_1008, h_1009, h_1010, rfl, rfl⟩
    · skip
      obtain ⟨hP, hD⟩ : vPD G A H [(ce_X7 ob ob_houses ob_fresh ob_introducers ob_x ob_y ob_rank ob_weekday ob_from ob_to ob_came ob_bride ob_told)] := ⟨hP, hD⟩
      refine lv_if_eq (tgt := 25) hx hb dX7_hasPair_13 (by decide) (fun _ => ?_) (fun c9 => absurd (by decide) c9)
      refine lv_iconst (v := 0) hx hb dX7_hasPair_25 (by decide) ?_
      exact W.zret (v := 0) hx hb hr rfl (fun t ht hW => ⟨⟨0, _, rfl, Or.inl (⟨by have h90 : Int32.toInt 0 = 0 := (by decide); omega, rfl, rfl⟩), by rw [ht]; exact hP, hD⟩, hS.F ht⟩) hS.2.2 dX7_hasPair_26
    · skip
      obtain ⟨hP, hD⟩ : vPD G A H [(ce_X7 ob ob_houses ob_fresh ob_introducers ob_x ob_y ob_rank ob_weekday ob_from ob_to ob_came ob_bride ob_told)] := ⟨hP, hD⟩
      refine lv_if_eq (tgt := 25) hx hb dX7_hasPair_13 (by decide) (fun c9 => absurd c9 (by decide)) (fun _ => ?_)
      refine lv_iload_n hx hb dX7_hasPair_16 rfl (lv_at hl 1 rfl) ?_
      refine lv_iload_n hx hb dX7_hasPair_17 rfl (lv_at hl 2 rfl) ?_
      refine lv_icmp_eq (tgt := 25) hx hb dX7_hasPair_18 (by decide) (fun c_1011 => ?_) (fun c_1011 => ?_)
      · skip
        have nc_1011 := nb_eq (0) (15) c_1011 h_1003 h_1008 (by decide)
        refine lv_iconst (v := 0) hx hb dX7_hasPair_25 (by decide) ?_
        exact W.zret (v := 0) hx hb hr rfl (fun t ht hW => ⟨⟨0, _, rfl, Or.inl (⟨by have h90 : Int32.toInt 0 = 0 := (by decide); omega, rfl, rfl⟩), by rw [ht]; exact hP, hD⟩, hS.F ht⟩) hS.2.2 dX7_hasPair_26
      · skip
        have nc_1011 : a1.toInt ≠ a2.toInt := fun h9 => c_1011 (Int32.toInt_inj.mp h9)
        refine lv_iconst (v := 1) hx hb dX7_hasPair_21 (by decide) ?_
        refine lv_goto (tgt := 26) hx hb dX7_hasPair_22 (by decide) ?_
        exact W.zret (v := 1) hx hb hr rfl (fun t ht hW => ⟨⟨1, _, rfl, Or.inr (⟨h_1003, h_1008, h_1004, by have h90 : Int32.toInt 1 = 1 := (by decide); omega, rfl, rfl⟩), by rw [ht]; exact hP, hD⟩, hS.F ht⟩) hS.2.2 dX7_hasPair_26

set_option maxHeartbeats 4000000 in
set_option maxRecDepth 100000 in
theorem fX7_isThere (l : Launch) (G : va_G) (y : Nat → ClassId) (sz : Nat) (ob : Nat) (a1 : Int32) (a2 : Int32) (ob_houses : Int32) (ob_fresh : Int32) (ob_introducers : Int32) (ob_x : Nat) (ob_y : Nat) (ob_rank : Nat) (ob_weekday : Nat) (ob_from : Nat) (ob_to : Nat) (ob_came : Nat) (ob_bride : Nat) (ob_told : Nat) (fob_came : Nat → Int32) (p_ob_houses : (0 : Int) ≤ ob_houses.toInt ∧ ob_houses.toInt ≤ 16) (p_fob_came : ∀ i, (0 : Int) ≤ (fob_came i).toInt ∧ (fob_came i).toInt ≤ 399) (p_a1 : (0 : Int) ≤ a1.toInt ∧ a1.toInt ≤ 15) (p_a2 : (0 : Int) ≤ a2.toInt ∧ a2.toInt ≤ 399) : Met l yX7_isThere (Cond.code yX7_isThere cX7_isThere 3 (some .boolean) :: wAll) ({ frames := 0, cells := 0, slots := 0, locals := 0 }) (va_Pc [.ref ob, .int a1, .int a2] (kp G y sz [(ce_X7 ob ob_houses ob_fresh ob_introducers ob_x ob_y ob_rank ob_weekday ob_from ob_to ob_came ob_bride ob_told), (ce_i16 y ob_came fob_came)])) (va_Qi (fun (r : Int32) (w : va_W) => (((0 : Int) ≤ a2.toInt ∧ a2.toInt ≤ 398) ∧ (a2.toInt < (fob_came a1.toInt.toNat).toInt) ∧ r = 0 ∧ w = [(ce_X7 ob ob_houses ob_fresh ob_introducers ob_x ob_y ob_rank ob_weekday ob_from ob_to ob_came ob_bride ob_told), (ce_i16 y ob_came fob_came)]) ∨ (((fob_came a1.toInt.toNat).toInt ≤ a2.toInt) ∧ r = 1 ∧ w = [(ce_X7 ob ob_houses ob_fresh ob_introducers ob_x ob_y ob_rank ob_weekday ob_from ob_to ob_came ob_bride ob_told), (ce_i16 y ob_came fob_came)])) (kq G (va_A [(ce_X7 ob ob_houses ob_fresh ob_introducers ob_x ob_y ob_rank ob_weekday ob_from ob_to ob_came ob_bride ob_told), (ce_i16 y ob_came fob_came)] sz)) (va_A [(ce_X7 ob ob_houses ob_fresh ob_introducers ob_x ob_y ob_rank ob_weekday ob_from ob_to ob_came ob_bride ob_told), (ce_i16 y ob_came fob_came)] sz)) 0 0 (va_A [(ce_X7 ob ob_houses ob_fresh ob_introducers ob_x ob_y ob_rank ob_weekday ob_from ob_to ob_came ob_bride ob_told), (ce_i16 y ob_came fob_came)] sz) := by
  refine Met.ofW (cc := cX7_isThere) (maxL := 3) (ret := (some .boolean)) (by decide) rfl ?_
  intro p e s m args below meth c s₁ B hml hv
  obtain ⟨rfl, hsz, hP, hK, hD0⟩ := hv
  have hx := B.exec
  have hb := B.bytes
  have hr := B.returns
  have hw0 : ∀ w ∈ wAll, w.before _ s = true := fun w h => atoms_spec (ws := Cond.code yX7_isThere cX7_isThere 3 (some .boolean) :: wAll) B.pre w (List.mem_cons_of_mem _ h)
  have hown : s.vm.findClass RX7 = some m.cls := findClass_of_methodNamed B.named
  subst hsz
  have hD := hD0.self (sz := s.heap.size)
  generalize hAe : va_A [(ce_X7 ob ob_houses ob_fresh ob_introducers ob_x ob_y ob_rank ob_weekday ob_from ob_to ob_came ob_bride ob_told), (ce_i16 y ob_came fob_came)] s.heap.size = A at hD ⊢
  have hA : ∀ q : Nat, s.heap.size ≤ q → A q := fun q h => by rw [← hAe]; exact Or.inr h
  have hS : va_S A s.heap s.heap [] := va_S.rf
  have hP : va_P G vwCl [(ce_X7 ob ob_houses ob_fresh ob_introducers ob_x ob_y ob_rank ob_weekday ob_from ob_to ob_came ob_bride ob_told), (ce_i16 y ob_came fob_came)] s.heap := hP
  have hl := lv_entry ([.ref ob, .int a1, .int a2]) (n := 3) (Nat.le_of_ble_eq_true rfl)
  rw [lg_entry_eq]
  generalize (lg_sl ([.ref ob, .int a1, .int a2]) ++ List.replicate (3 - (lg_sl ([.ref ob, .int a1, .int a2])).length) Slot.unset).toArray = ls at hl ⊢
  have hl : lv_has ls 3 [(0, .ref ob), (1, .int a1), (2, .int a2)] := hl
  refine lv_iload_n hx hb dX7_isThere_0 rfl (lv_at hl 2 rfl) ?_
  refine lv_aload_n hx hb dX7_isThere_1 rfl (lv_at hl 0 rfl) ?_
  refine va_get (D := G) (ci := 7) (v := .ref ob_came) (C := RX7) (T := TX7) (N := 12) hx hb hw0 inA_wsX70 hown hK.1 hP 0 rfl rfl 9 (by decide) (hw0 _ m_1073) (fun _ h9 => h9) rfl dX7_isThere_2 ?_
  refine lv_iload_n hx hb dX7_isThere_5 rfl (lv_at hl 1 rfl) ?_
  refine va_iald hx hb hK.1 hP 1 1 rfl rfl (vi p_a1 (by decide)) dX7_isThere_6 ?_
  refine lv_topi (fun v_1001 ev_1001 => ?_)
  have bv_1001 : (0 : Int) ≤ v_1001.toInt ∧ v_1001.toInt ≤ 399 := rd_b ev_1001 p_fob_came
  have lbv_1001 := ld_n ev_1001 (by omega)
  refine lv_icmp_lt (tgt := 14) hx hb dX7_isThere_7 (by decide) (fun c_1002 => ?_) (fun c_1002 => ?_)
  · skip
    have nc_1002 := nb_lt (398) (1) c_1002 p_a2 bv_1001 (by decide)
    refine lv_iconst (v := 0) hx hb dX7_isThere_14 (by decide) ?_
    exact W.zret (v := 0) hx hb hr rfl (fun t ht hW => ⟨⟨0, _, rfl, Or.inl (⟨nc_1002.1, by have h90 : Int32.toInt 0 = 0 := (by decide); omega, rfl, rfl⟩), by rw [ht]; exact hP, hD⟩, hS.F ht⟩) hS.2.2 dX7_isThere_15
  · skip
    have nc_1002 := nb_nlt (399) (0) c_1002 bv_1001 p_a2 (by decide)
    refine lv_iconst (v := 1) hx hb dX7_isThere_10 (by decide) ?_
    refine lv_goto (tgt := 15) hx hb dX7_isThere_11 (by decide) ?_
    exact W.zret (v := 1) hx hb hr rfl (fun t ht hW => ⟨⟨1, _, rfl, Or.inr (⟨by have h90 : Int32.toInt 1 = 1 := (by decide); omega, rfl, rfl⟩), by rw [ht]; exact hP, hD⟩, hS.F ht⟩) hS.2.2 dX7_isThere_15

set_option maxHeartbeats 4000000 in
set_option maxRecDepth 100000 in
theorem fX7_isNew (l : Launch) (G : va_G) (y : Nat → ClassId) (sz : Nat) (ob : Nat) (a1 : Int32) (a2 : Int32) (ob_houses : Int32) (ob_fresh : Int32) (ob_introducers : Int32) (ob_x : Nat) (ob_y : Nat) (ob_rank : Nat) (ob_weekday : Nat) (ob_from : Nat) (ob_to : Nat) (ob_came : Nat) (ob_bride : Nat) (ob_told : Nat) (fob_came : Nat → Int32) (p_ob_houses : (0 : Int) ≤ ob_houses.toInt ∧ ob_houses.toInt ≤ 16) (p_fob_came : ∀ i, (0 : Int) ≤ (fob_came i).toInt ∧ (fob_came i).toInt ≤ 399) (p_a1 : (0 : Int) ≤ a1.toInt ∧ a1.toInt ≤ 15) (p_a2 : (0 : Int) ≤ a2.toInt ∧ a2.toInt ≤ 399) : Met l yX7_isNew (Cond.code yX7_isNew cX7_isNew 3 (some .boolean) :: wAll) ({ frames := 0, cells := 0, slots := 0, locals := 0 }) (va_Pc [.ref ob, .int a1, .int a2] (kp G y sz [(ce_X7 ob ob_houses ob_fresh ob_introducers ob_x ob_y ob_rank ob_weekday ob_from ob_to ob_came ob_bride ob_told), (ce_i16 y ob_came fob_came)])) (va_Qi (fun (r : Int32) (w : va_W) => ((a2.toInt < (fob_came a1.toInt.toNat).toInt ∨ ob_fresh.toInt < a2.toInt - (fob_came a1.toInt.toNat).toInt) ∧ r = 0 ∧ w = [(ce_X7 ob ob_houses ob_fresh ob_introducers ob_x ob_y ob_rank ob_weekday ob_from ob_to ob_came ob_bride ob_told), (ce_i16 y ob_came fob_came)]) ∨ (((fob_came a1.toInt.toNat).toInt ≤ a2.toInt ∧ a2.toInt - (fob_came a1.toInt.toNat).toInt ≤ ob_fresh.toInt) ∧ r = 1 ∧ w = [(ce_X7 ob ob_houses ob_fresh ob_introducers ob_x ob_y ob_rank ob_weekday ob_from ob_to ob_came ob_bride ob_told), (ce_i16 y ob_came fob_came)])) (kq G (va_A [(ce_X7 ob ob_houses ob_fresh ob_introducers ob_x ob_y ob_rank ob_weekday ob_from ob_to ob_came ob_bride ob_told), (ce_i16 y ob_came fob_came)] sz)) (va_A [(ce_X7 ob ob_houses ob_fresh ob_introducers ob_x ob_y ob_rank ob_weekday ob_from ob_to ob_came ob_bride ob_told), (ce_i16 y ob_came fob_came)] sz)) 0 0 (va_A [(ce_X7 ob ob_houses ob_fresh ob_introducers ob_x ob_y ob_rank ob_weekday ob_from ob_to ob_came ob_bride ob_told), (ce_i16 y ob_came fob_came)] sz) := by
  refine Met.ofW (cc := cX7_isNew) (maxL := 3) (ret := (some .boolean)) (by decide) rfl ?_
  intro p e s m args below meth c s₁ B hml hv
  obtain ⟨rfl, hsz, hP, hK, hD0⟩ := hv
  have hx := B.exec
  have hb := B.bytes
  have hr := B.returns
  have hw0 : ∀ w ∈ wAll, w.before _ s = true := fun w h => atoms_spec (ws := Cond.code yX7_isNew cX7_isNew 3 (some .boolean) :: wAll) B.pre w (List.mem_cons_of_mem _ h)
  have hown : s.vm.findClass RX7 = some m.cls := findClass_of_methodNamed B.named
  subst hsz
  have hD := hD0.self (sz := s.heap.size)
  generalize hAe : va_A [(ce_X7 ob ob_houses ob_fresh ob_introducers ob_x ob_y ob_rank ob_weekday ob_from ob_to ob_came ob_bride ob_told), (ce_i16 y ob_came fob_came)] s.heap.size = A at hD ⊢
  have hA : ∀ q : Nat, s.heap.size ≤ q → A q := fun q h => by rw [← hAe]; exact Or.inr h
  have hS : va_S A s.heap s.heap [] := va_S.rf
  have hP : va_P G vwCl [(ce_X7 ob ob_houses ob_fresh ob_introducers ob_x ob_y ob_rank ob_weekday ob_from ob_to ob_came ob_bride ob_told), (ce_i16 y ob_came fob_came)] s.heap := hP
  have hl := lv_entry ([.ref ob, .int a1, .int a2]) (n := 3) (Nat.le_of_ble_eq_true rfl)
  rw [lg_entry_eq]
  generalize (lg_sl ([.ref ob, .int a1, .int a2]) ++ List.replicate (3 - (lg_sl ([.ref ob, .int a1, .int a2])).length) Slot.unset).toArray = ls at hl ⊢
  have hl : lv_has ls 3 [(0, .ref ob), (1, .int a1), (2, .int a2)] := hl
  refine lv_iload_n hx hb dX7_isNew_0 rfl (lv_at hl 2 rfl) ?_
  refine lv_aload_n hx hb dX7_isNew_1 rfl (lv_at hl 0 rfl) ?_
  refine va_get (D := G) (ci := 7) (v := .ref ob_came) (C := RX7) (T := TX7) (N := 12) hx hb hw0 inA_wsX70 hown hK.1 hP 0 rfl rfl 9 (by decide) (hw0 _ m_1073) (fun _ h9 => h9) rfl dX7_isNew_2 ?_
  refine lv_iload_n hx hb dX7_isNew_5 rfl (lv_at hl 1 rfl) ?_
  refine va_iald hx hb hK.1 hP 1 1 rfl rfl (vi p_a1 (by decide)) dX7_isNew_6 ?_
  refine lv_topi (fun v_1001 ev_1001 => ?_)
  have bv_1001 : (0 : Int) ≤ v_1001.toInt ∧ v_1001.toInt ≤ 399 := rd_b ev_1001 p_fob_came
  have lbv_1001 := ld_n ev_1001 (by omega)
  refine lv_icmp_lt (tgt := 29) hx hb dX7_isNew_7 (by decide) (fun c_1002 => ?_) (fun c_1002 => ?_)
  · skip
    have nc_1002 := nb_lt (398) (1) c_1002 p_a2 bv_1001 (by decide)
    refine lv_iconst (v := 0) hx hb dX7_isNew_29 (by decide) ?_
    exact W.zret (v := 0) hx hb hr rfl (fun t ht hW => ⟨⟨0, _, rfl, Or.inl (⟨by have h90 : Int32.toInt 0 = 0 := (by decide); omega, rfl, rfl⟩), by rw [ht]; exact hP, hD⟩, hS.F ht⟩) hS.2.2 dX7_isNew_30
  · skip
    have nc_1002 := nb_nlt (399) (0) c_1002 bv_1001 p_a2 (by decide)
    refine lv_iload_n hx hb dX7_isNew_10 rfl (lv_at hl 2 rfl) ?_
    refine lv_aload_n hx hb dX7_isNew_11 rfl (lv_at hl 0 rfl) ?_
    refine va_get (D := G) (ci := 7) (v := .ref ob_came) (C := RX7) (T := TX7) (N := 12) hx hb hw0 inA_wsX70 hown hK.1 hP 0 rfl rfl 9 (by decide) (hw0 _ m_1073) (fun _ h9 => h9) rfl dX7_isNew_12 ?_
    refine lv_iload_n hx hb dX7_isNew_15 rfl (lv_at hl 1 rfl) ?_
    refine va_iald hx hb hK.1 hP 1 1 rfl rfl (vi p_a1 (by decide)) dX7_isNew_16 ?_
    refine lv_topi (fun v_1003 ev_1003 => ?_)
    obtain rfl : v_1001 = v_1003 := (ev_1003.trans (ev_1001.symm)).symm
    refine lv_isub hx hb dX7_isNew_17 ?_
    refine lv_topi (fun v_1004 ev_1004 => ?_)
    have qv_1004 := ba_sub ev_1004 nc_1002.2.1 nc_1002.1 (by decide)
    have bv_1004 : (-399 : Int) ≤ v_1004.toInt ∧ v_1004.toInt ≤ 399 := bq_sub qv_1004 nc_1002.2.1 nc_1002.1 _ _ (by decide)
    refine lv_aload_n hx hb dX7_isNew_18 rfl (lv_at hl 0 rfl) ?_
    refine va_get (D := G) (ci := 7) (v := .int ob_fresh) (C := RX7) (T := TX7) (N := 12) hx hb hw0 inA_wsX70 hown hK.1 hP 0 rfl rfl 1 (by decide) (hw0 _ m_1061) (fun _ h9 => h9) rfl dX7_isNew_19 ?_
    refine lv_icmp_gt (tgt := 29) hx hb dX7_isNew_22 (by decide) (fun c_1005 => ?_) (fun c_1005 => ?_)
    · skip
      have nc_1005 := nb_lt (398) (-399) c_1005 (btop ob_fresh) bv_1004 (by decide)
      refine lv_iconst (v := 0) hx hb dX7_isNew_29 (by decide) ?_
      exact W.zret (v := 0) hx hb hr rfl (fun t ht hW => ⟨⟨0, _, rfl, Or.inl (⟨by have h90 : Int32.toInt 0 = 0 := (by decide); omega, rfl, rfl⟩), by rw [ht]; exact hP, hD⟩, hS.F ht⟩) hS.2.2 dX7_isNew_30
    · skip
      have nc_1005 := nb_nlt (399) (-399) c_1005 bv_1004 (btop ob_fresh) (by decide)
      refine lv_iconst (v := 1) hx hb dX7_isNew_25 (by decide) ?_
      refine lv_goto (tgt := 30) hx hb dX7_isNew_26 (by decide) ?_
      exact W.zret (v := 1) hx hb hr rfl (fun t ht hW => ⟨⟨1, _, rfl, Or.inr (⟨by have h90 : Int32.toInt 1 = 1 := (by decide); omega, rfl, rfl⟩), by rw [ht]; exact hP, hD⟩, hS.F ht⟩) hS.2.2 dX7_isNew_30

set_option maxHeartbeats 4000000 in
set_option maxRecDepth 100000 in
theorem fX7_waits (l : Launch) (G : va_G) (y : Nat → ClassId) (sz : Nat) (ob : Nat) (a1 : Int32) (a2 : Int32) (ob_houses : Int32) (ob_fresh : Int32) (ob_introducers : Int32) (ob_x : Nat) (ob_y : Nat) (ob_rank : Nat) (ob_weekday : Nat) (ob_from : Nat) (ob_to : Nat) (ob_came : Nat) (ob_bride : Nat) (ob_told : Nat) (fob_came : Nat → Int32) (fob_bride : Nat → Int32) (p_ob_houses : (0 : Int) ≤ ob_houses.toInt ∧ ob_houses.toInt ≤ 16) (p_fob_came : ∀ i, (0 : Int) ≤ (fob_came i).toInt ∧ (fob_came i).toInt ≤ 399) (p_a1 : (0 : Int) ≤ a1.toInt ∧ a1.toInt ≤ 15) (p_a2 : (0 : Int) ≤ a2.toInt ∧ a2.toInt ≤ 399) : Met l yX7_waits (Cond.code yX7_waits cX7_waits 3 (some .boolean) :: wAll) ({ frames := 0, cells := 0, slots := 0, locals := 0 }) (va_Pc [.ref ob, .int a1, .int a2] (kp G y sz [(ce_X7 ob ob_houses ob_fresh ob_introducers ob_x ob_y ob_rank ob_weekday ob_from ob_to ob_came ob_bride ob_told), (ce_i16 y ob_came fob_came), (ce_i16 y ob_bride fob_bride)])) (va_Qi (fun (r : Int32) (w : va_W) => (((fob_bride a1.toInt.toNat).toInt ≤ 0 ∨ (fob_bride a1.toInt.toNat).toInt < a2.toInt - (fob_came a1.toInt.toNat).toInt) ∧ r = 0 ∧ w = [(ce_X7 ob ob_houses ob_fresh ob_introducers ob_x ob_y ob_rank ob_weekday ob_from ob_to ob_came ob_bride ob_told), (ce_i16 y ob_came fob_came), (ce_i16 y ob_bride fob_bride)]) ∨ ((0 < (fob_bride a1.toInt.toNat).toInt ∧ a2.toInt - (fob_came a1.toInt.toNat).toInt ≤ (fob_bride a1.toInt.toNat).toInt) ∧ r = 1 ∧ w = [(ce_X7 ob ob_houses ob_fresh ob_introducers ob_x ob_y ob_rank ob_weekday ob_from ob_to ob_came ob_bride ob_told), (ce_i16 y ob_came fob_came), (ce_i16 y ob_bride fob_bride)])) (kq G (va_A [(ce_X7 ob ob_houses ob_fresh ob_introducers ob_x ob_y ob_rank ob_weekday ob_from ob_to ob_came ob_bride ob_told), (ce_i16 y ob_came fob_came), (ce_i16 y ob_bride fob_bride)] sz)) (va_A [(ce_X7 ob ob_houses ob_fresh ob_introducers ob_x ob_y ob_rank ob_weekday ob_from ob_to ob_came ob_bride ob_told), (ce_i16 y ob_came fob_came), (ce_i16 y ob_bride fob_bride)] sz)) 0 0 (va_A [(ce_X7 ob ob_houses ob_fresh ob_introducers ob_x ob_y ob_rank ob_weekday ob_from ob_to ob_came ob_bride ob_told), (ce_i16 y ob_came fob_came), (ce_i16 y ob_bride fob_bride)] sz) := by
  refine Met.ofW (cc := cX7_waits) (maxL := 3) (ret := (some .boolean)) (by decide) rfl ?_
  intro p e s m args below meth c s₁ B hml hv
  obtain ⟨rfl, hsz, hP, hK, hD0⟩ := hv
  have hx := B.exec
  have hb := B.bytes
  have hr := B.returns
  have hw0 : ∀ w ∈ wAll, w.before _ s = true := fun w h => atoms_spec (ws := Cond.code yX7_waits cX7_waits 3 (some .boolean) :: wAll) B.pre w (List.mem_cons_of_mem _ h)
  have hown : s.vm.findClass RX7 = some m.cls := findClass_of_methodNamed B.named
  subst hsz
  have hD := hD0.self (sz := s.heap.size)
  generalize hAe : va_A [(ce_X7 ob ob_houses ob_fresh ob_introducers ob_x ob_y ob_rank ob_weekday ob_from ob_to ob_came ob_bride ob_told), (ce_i16 y ob_came fob_came), (ce_i16 y ob_bride fob_bride)] s.heap.size = A at hD ⊢
  have hA : ∀ q : Nat, s.heap.size ≤ q → A q := fun q h => by rw [← hAe]; exact Or.inr h
  have hS : va_S A s.heap s.heap [] := va_S.rf
  have hP : va_P G vwCl [(ce_X7 ob ob_houses ob_fresh ob_introducers ob_x ob_y ob_rank ob_weekday ob_from ob_to ob_came ob_bride ob_told), (ce_i16 y ob_came fob_came), (ce_i16 y ob_bride fob_bride)] s.heap := hP
  have hl := lv_entry ([.ref ob, .int a1, .int a2]) (n := 3) (Nat.le_of_ble_eq_true rfl)
  rw [lg_entry_eq]
  generalize (lg_sl ([.ref ob, .int a1, .int a2]) ++ List.replicate (3 - (lg_sl ([.ref ob, .int a1, .int a2])).length) Slot.unset).toArray = ls at hl ⊢
  have hl : lv_has ls 3 [(0, .ref ob), (1, .int a1), (2, .int a2)] := hl
  refine lv_aload_n hx hb dX7_waits_0 rfl (lv_at hl 0 rfl) ?_
  refine va_get (D := G) (ci := 7) (v := .ref ob_bride) (C := RX7) (T := TX7) (N := 12) hx hb hw0 inA_wsX70 hown hK.1 hP 0 rfl rfl 10 (by decide) (hw0 _ m_1074) (fun _ h9 => h9) rfl dX7_waits_1 ?_
  refine lv_iload_n hx hb dX7_waits_4 rfl (lv_at hl 1 rfl) ?_
  refine va_iald hx hb hK.1 hP 2 1 rfl rfl (vi p_a1 (by decide)) dX7_waits_5 ?_
  refine lv_topi (fun v_1001 ev_1001 => ?_)
  have lbv_1001 := ld_n ev_1001 (by omega)
  refine lv_if_le (tgt := 30) hx hb dX7_waits_6 (by decide) (fun c_1002 => ?_) (fun c_1002 => ?_)
  · skip
    have nc_1002 := nb_le (0) (0) c_1002 (btop v_1001) (bkc (x := 0) (c := 0) (by decide)) (by decide)
    refine lv_iconst (v := 0) hx hb dX7_waits_30 (by decide) ?_
    exact W.zret (v := 0) hx hb hr rfl (fun t ht hW => ⟨⟨0, _, rfl, Or.inl (⟨by have h90 : Int32.toInt 0 = 0 := (by decide); omega, rfl, rfl⟩), by rw [ht]; exact hP, hD⟩, hS.F ht⟩) hS.2.2 dX7_waits_31
  · skip
    have nc_1002 := nb_nle (0) (1) c_1002 (bkc (x := 0) (c := 0) (by decide)) (btop v_1001) (by decide)
    refine lv_iload_n hx hb dX7_waits_9 rfl (lv_at hl 2 rfl) ?_
    refine lv_aload_n hx hb dX7_waits_10 rfl (lv_at hl 0 rfl) ?_
    refine va_get (D := G) (ci := 7) (v := .ref ob_came) (C := RX7) (T := TX7) (N := 12) hx hb hw0 inA_wsX70 hown hK.1 hP 0 rfl rfl 9 (by decide) (hw0 _ m_1073) (fun _ h9 => h9) rfl dX7_waits_11 ?_
    refine lv_iload_n hx hb dX7_waits_14 rfl (lv_at hl 1 rfl) ?_
    refine va_iald hx hb hK.1 hP 1 1 rfl rfl (vi p_a1 (by decide)) dX7_waits_15 ?_
    refine lv_topi (fun v_1003 ev_1003 => ?_)
    have bv_1003 : (0 : Int) ≤ v_1003.toInt ∧ v_1003.toInt ≤ 399 := rd_b ev_1003 p_fob_came
    have lbv_1003 := ld_n ev_1003 (by omega)
    refine lv_isub hx hb dX7_waits_16 ?_
    refine lv_topi (fun v_1004 ev_1004 => ?_)
    have qv_1004 := ba_sub ev_1004 p_a2 bv_1003 (by decide)
    have bv_1004 : (-399 : Int) ≤ v_1004.toInt ∧ v_1004.toInt ≤ 399 := bq_sub qv_1004 p_a2 bv_1003 _ _ (by decide)
    refine lv_aload_n hx hb dX7_waits_17 rfl (lv_at hl 0 rfl) ?_
    refine va_get (D := G) (ci := 7) (v := .ref ob_bride) (C := RX7) (T := TX7) (N := 12) hx hb hw0 inA_wsX70 hown hK.1 hP 0 rfl rfl 10 (by decide) (hw0 _ m_1074) (fun _ h9 => h9) rfl dX7_waits_18 ?_
    refine lv_iload_n hx hb dX7_waits_21 rfl (lv_at hl 1 rfl) ?_
    refine va_iald hx hb hK.1 hP 2 1 rfl rfl (vi p_a1 (by decide)) dX7_waits_22 ?_
    refine lv_topi (fun v_1005 ev_1005 => ?_)
    obtain rfl : v_1001 = v_1005 := (ev_1005.trans (ev_1001.symm)).symm
    refine lv_icmp_gt (tgt := 30) hx hb dX7_waits_23 (by decide) (fun c_1006 => ?_) (fun c_1006 => ?_)
    · skip
      have nc_1006 := nb_lt (398) (2) c_1006 nc_1002.2.1 bv_1004 (by decide)
      refine lv_iconst (v := 0) hx hb dX7_waits_30 (by decide) ?_
      exact W.zret (v := 0) hx hb hr rfl (fun t ht hW => ⟨⟨0, _, rfl, Or.inl (⟨by have h90 : Int32.toInt 0 = 0 := (by decide); omega, rfl, rfl⟩), by rw [ht]; exact hP, hD⟩, hS.F ht⟩) hS.2.2 dX7_waits_31
    · skip
      have nc_1006 := nb_nlt (399) (1) c_1006 bv_1004 nc_1002.2.1 (by decide)
      refine lv_iconst (v := 1) hx hb dX7_waits_26 (by decide) ?_
      refine lv_goto (tgt := 31) hx hb dX7_waits_27 (by decide) ?_
      exact W.zret (v := 1) hx hb hr rfl (fun t ht hW => ⟨⟨1, _, rfl, Or.inr (⟨by have h90 : Int32.toInt 1 = 1 := (by decide); omega, rfl, rfl⟩), by rw [ht]; exact hP, hD⟩, hS.F ht⟩) hS.2.2 dX7_waits_31

set_option maxHeartbeats 4000000 in
set_option maxRecDepth 100000 in
theorem fX6_knew (l : Launch) (G : va_G) (y : Nat → ClassId) (sz : Nat) (ob : Nat) (a1 : Int32) (a2 : Int32) (ob_town : Nat) (ob_code : Nat) (ob_debts : Nat) (ob_deeds : Nat) (ob_knows : Nat) (ob_day : Int32) (ob_paid : Int32) (ob_follows : Nat) (fob_knows : Nat → Int32) (p_fob_knows : ∀ i, (0 : Int) ≤ (fob_knows i).toInt ∧ (fob_knows i).toInt ≤ 65535) (p_ob_day : (0 : Int) ≤ ob_day.toInt ∧ ob_day.toInt ≤ 399) (p_a1 : (0 : Int) ≤ a1.toInt ∧ a1.toInt ≤ 15) (p_a2 : (0 : Int) ≤ a2.toInt ∧ a2.toInt ≤ 15) : Met l yX6_knew (Cond.code yX6_knew cX6_knew 3 (some .int) :: wAll) ({ frames := 0, cells := 0, slots := 0, locals := 0 }) (va_Pc [.ref ob, .int a1, .int a2] (kp G y sz [(ce_X6 ob ob_town ob_code ob_debts ob_deeds ob_knows ob_day ob_paid ob_follows), (ce_i16 y ob_knows fob_knows)])) (va_Qi (fun (r : Int32) (w : va_W) => (∃ (v_7 : Int32), ((0 : Int) ≤ v_7.toInt ∧ v_7.toInt ≤ 1) ∧ ((v_7 : Int32).toInt = qk fob_knows a1.toInt a2.toInt) ∧ r = v_7 ∧ w = [(ce_X6 ob ob_town ob_code ob_debts ob_deeds ob_knows ob_day ob_paid ob_follows), (ce_i16 y ob_knows fob_knows)])) (kq G (va_A [(ce_X6 ob ob_town ob_code ob_debts ob_deeds ob_knows ob_day ob_paid ob_follows), (ce_i16 y ob_knows fob_knows)] sz)) (va_A [(ce_X6 ob ob_town ob_code ob_debts ob_deeds ob_knows ob_day ob_paid ob_follows), (ce_i16 y ob_knows fob_knows)] sz)) 0 0 (va_A [(ce_X6 ob ob_town ob_code ob_debts ob_deeds ob_knows ob_day ob_paid ob_follows), (ce_i16 y ob_knows fob_knows)] sz) := by
  refine Met.ofW (cc := cX6_knew) (maxL := 3) (ret := (some .int)) (by decide) rfl ?_
  intro p e s m args below meth c s₁ B hml hv
  obtain ⟨rfl, hsz, hP, hK, hD0⟩ := hv
  have hx := B.exec
  have hb := B.bytes
  have hr := B.returns
  have hw0 : ∀ w ∈ wAll, w.before _ s = true := fun w h => atoms_spec (ws := Cond.code yX6_knew cX6_knew 3 (some .int) :: wAll) B.pre w (List.mem_cons_of_mem _ h)
  have hown : s.vm.findClass RX6 = some m.cls := findClass_of_methodNamed B.named
  subst hsz
  have hD := hD0.self (sz := s.heap.size)
  generalize hAe : va_A [(ce_X6 ob ob_town ob_code ob_debts ob_deeds ob_knows ob_day ob_paid ob_follows), (ce_i16 y ob_knows fob_knows)] s.heap.size = A at hD ⊢
  have hA : ∀ q : Nat, s.heap.size ≤ q → A q := fun q h => by rw [← hAe]; exact Or.inr h
  have hS : va_S A s.heap s.heap [] := va_S.rf
  have hP : va_P G vwCl [(ce_X6 ob ob_town ob_code ob_debts ob_deeds ob_knows ob_day ob_paid ob_follows), (ce_i16 y ob_knows fob_knows)] s.heap := hP
  have hl := lv_entry ([.ref ob, .int a1, .int a2]) (n := 3) (Nat.le_of_ble_eq_true rfl)
  rw [lg_entry_eq]
  generalize (lg_sl ([.ref ob, .int a1, .int a2]) ++ List.replicate (3 - (lg_sl ([.ref ob, .int a1, .int a2])).length) Slot.unset).toArray = ls at hl ⊢
  have hl : lv_has ls 3 [(0, .ref ob), (1, .int a1), (2, .int a2)] := hl
  refine lv_aload_n hx hb dX6_knew_0 rfl (lv_at hl 0 rfl) ?_
  refine va_get (D := G) (ci := 6) (v := .ref ob_knows) (C := RX6) (T := TX6) (N := 8) hx hb hw0 inA_wsX60 hown hK.1 hP 0 rfl rfl 4 (by decide) (hw0 _ m_970) (fun _ h9 => h9) rfl dX6_knew_1 ?_
  refine lv_iload_n hx hb dX6_knew_4 rfl (lv_at hl 1 rfl) ?_
  refine va_iald hx hb hK.1 hP 1 1 rfl rfl (vi p_a1 (by decide)) dX6_knew_5 ?_
  refine lv_topi (fun v_1001 ev_1001 => ?_)
  have bv_1001 : (0 : Int) ≤ v_1001.toInt ∧ v_1001.toInt ≤ 65535 := rd_b ev_1001 p_fob_knows
  refine lv_iload_n hx hb dX6_knew_6 rfl (lv_at hl 2 rfl) ?_
  refine lv_ishr hx hb dX6_knew_7 ?_
  refine lv_topi (fun v_1002 ev_1002 => ?_)
  have bv_1002 : (0 : Int) ≤ v_1002.toInt ∧ v_1002.toInt ≤ 65535 := ba_shr ev_1002 bv_1001 (by decide)
  refine lv_iconst (v := 1) hx hb dX6_knew_8 (by decide) ?_
  refine lv_iand hx hb dX6_knew_9 ?_
  refine lv_topi (fun v_1003 ev_1003 => ?_)
  have bv_1003 : (0 : Int) ≤ v_1003.toInt ∧ v_1003.toInt ≤ 1 := ba_andr ev_1003 (bkc (x := 1) (c := 1) (by decide)) (by decide)
  exact W.iret (v := v_1003) hx hb hr (fun t ht hW => ⟨⟨v_1003, _, rfl, ⟨v_1003, bv_1003, (by have lm1 : Int32.toInt (-1) = -1 := (by decide); have l91 : Int32.toInt 1 = 1 := (by decide); have l92 : Int32.toInt 2 = 2 := (by decide); have l93 : Int32.toInt 3 = 3 := (by decide); exact qk_h ev_1001 ev_1002 ev_1003 (by omega) (by omega) ⟨by omega, by omega⟩), rfl, rfl⟩, by rw [ht]; exact hP, hD⟩, hS.F ht⟩) hS.2.2 dX6_knew_10

set_option maxHeartbeats 4000000 in
set_option maxRecDepth 100000 in
theorem fbit16 (l : Launch) (G : va_G) (y : Nat → ClassId) (sz : Nat) (a1 : Int32) (p_a1 : (0 : Int) ≤ a1.toInt ∧ a1.toInt ≤ 65535) : Met l yJ6_bitCount_0f7a4 (Cond.code yJ6_bitCount_0f7a4 cJ6_bitCount_0f7a4 1 (some .int) :: wAll) ({ frames := 0, cells := 0, slots := 0, locals := 0 }) (va_Pc [.int a1] (kp G y sz [])) (va_Qi (fun (r : Int32) (w : va_W) => (∃ (v_31 : Int32), ((0 : Int) ≤ v_31.toInt ∧ v_31.toInt ≤ 63) ∧ ((v_31 : Int32).toInt = (cb 16 a1.toInt.toNat : Int)) ∧ r = v_31 ∧ w = [])) (kq G (va_A [] sz)) (va_A [] sz)) 0 0 (va_A [] sz) := by
  refine Met.ofW (cc := cJ6_bitCount_0f7a4) (maxL := 1) (ret := (some .int)) (by decide) rfl ?_
  intro p e s m args below meth c s₁ B hml hv
  obtain ⟨rfl, hsz, hP, hK, hD0⟩ := hv
  have hx := B.exec
  have hb := B.bytes
  have hr := B.returns
  have hw0 : ∀ w ∈ wAll, w.before _ s = true := fun w h => atoms_spec (ws := Cond.code yJ6_bitCount_0f7a4 cJ6_bitCount_0f7a4 1 (some .int) :: wAll) B.pre w (List.mem_cons_of_mem _ h)
  have hown : s.vm.findClass RJ6 = some m.cls := findClass_of_methodNamed B.named
  subst hsz
  have hD := hD0.self (sz := s.heap.size)
  generalize hAe : va_A [] s.heap.size = A at hD ⊢
  have hA : ∀ q : Nat, s.heap.size ≤ q → A q := fun q h => by rw [← hAe]; exact Or.inr h
  have hS : va_S A s.heap s.heap [] := va_S.rf
  have hP : va_P G vwCl [] s.heap := hP
  have hl := lv_entry ([.int a1]) (n := 1) (Nat.le_of_ble_eq_true rfl)
  rw [lg_entry_eq]
  generalize (lg_sl ([.int a1]) ++ List.replicate (1 - (lg_sl ([.int a1])).length) Slot.unset).toArray = ls at hl ⊢
  have hl : lv_has ls 1 [(0, .int a1)] := hl
  refine lv_iload_n hx hb dJ6_bitCount_0f7a4_0 rfl (lv_at hl 0 rfl) ?_
  refine lv_iload_n hx hb dJ6_bitCount_0f7a4_1 rfl (lv_at hl 0 rfl) ?_
  refine lv_iconst (v := 1) hx hb dJ6_bitCount_0f7a4_2 (by decide) ?_
  refine lv_iushr hx hb dJ6_bitCount_0f7a4_3 rfl ?_
  refine lv_topi (fun v_1001 ev_1001 => ?_)
  have bv_1001 : (0 : Int) ≤ v_1001.toInt ∧ v_1001.toInt ≤ 32767 := ba_ushr 1 ev_1001 p_a1 (by decide) (by decide) _ _ (by decide)
  refine lv_ldcw (own := RJ6) (v := 1431655765) hx hb hown (hw0 _ m_27) dJ6_bitCount_0f7a4_4 ?_
  refine lv_iand hx hb dJ6_bitCount_0f7a4_7 ?_
  refine lv_topi (fun v_1002 ev_1002 => ?_)
  have bv_1002 : (0 : Int) ≤ v_1002.toInt ∧ v_1002.toInt ≤ 32767 := ba_andl ev_1002 bv_1001 (by decide)
  refine lv_isub hx hb dJ6_bitCount_0f7a4_8 ?_
  refine lv_topi (fun v_1003 ev_1003 => ?_)
  have qv_1003 := ba_sub ev_1003 p_a1 bv_1002 (by decide)
  have bv_1003 : (-32767 : Int) ≤ v_1003.toInt ∧ v_1003.toInt ≤ 65535 := bq_sub qv_1003 p_a1 bv_1002 _ _ (by decide)
  refine lv_istore_n (lv' := [(0, .int v_1003)]) hx hb dJ6_bitCount_0f7a4_9 rfl hl (by decide) rfl (fun ls hl => ?_)
  refine lv_iload_n hx hb dJ6_bitCount_0f7a4_10 rfl (lv_at hl 0 rfl) ?_
  refine lv_ldcw (own := RJ6) (v := 858993459) hx hb hown (hw0 _ m_28) dJ6_bitCount_0f7a4_11 ?_
  refine lv_iand hx hb dJ6_bitCount_0f7a4_14 ?_
  refine lv_topi (fun v_1004 ev_1004 => ?_)
  have bv_1004 : (0 : Int) ≤ v_1004.toInt ∧ v_1004.toInt ≤ 858993459 := ba_andr ev_1004 (bkc (x := 858993459) (c := 858993459) (by decide)) (by decide)
  refine lv_iload_n hx hb dJ6_bitCount_0f7a4_15 rfl (lv_at hl 0 rfl) ?_
  refine lv_iconst (v := 2) hx hb dJ6_bitCount_0f7a4_16 (by decide) ?_
  refine lv_iushr hx hb dJ6_bitCount_0f7a4_17 rfl ?_
  refine lv_topi (fun v_1005 ev_1005 => ?_)
  refine lv_ldcw (own := RJ6) (v := 858993459) hx hb hown (hw0 _ m_28) dJ6_bitCount_0f7a4_18 ?_
  refine lv_iand hx hb dJ6_bitCount_0f7a4_21 ?_
  refine lv_topi (fun v_1006 ev_1006 => ?_)
  have bv_1006 : (0 : Int) ≤ v_1006.toInt ∧ v_1006.toInt ≤ 858993459 := ba_andr ev_1006 (bkc (x := 858993459) (c := 858993459) (by decide)) (by decide)
  refine lv_iadd hx hb dJ6_bitCount_0f7a4_22 ?_
  refine lv_topi (fun v_1007 ev_1007 => ?_)
  have qv_1007 := ba_add ev_1007 bv_1004 bv_1006 (by decide)
  have bv_1007 : (0 : Int) ≤ v_1007.toInt ∧ v_1007.toInt ≤ 1717986918 := bq_add qv_1007 bv_1004 bv_1006 _ _ (by decide)
  refine lv_istore_n (lv' := [(0, .int v_1007)]) hx hb dJ6_bitCount_0f7a4_23 rfl hl (by decide) rfl (fun ls hl => ?_)
  refine lv_iload_n hx hb dJ6_bitCount_0f7a4_24 rfl (lv_at hl 0 rfl) ?_
  refine lv_iload_n hx hb dJ6_bitCount_0f7a4_25 rfl (lv_at hl 0 rfl) ?_
  refine lv_iconst (v := 4) hx hb dJ6_bitCount_0f7a4_26 (by decide) ?_
  refine lv_iushr hx hb dJ6_bitCount_0f7a4_27 rfl ?_
  refine lv_topi (fun v_1008 ev_1008 => ?_)
  have bv_1008 : (0 : Int) ≤ v_1008.toInt ∧ v_1008.toInt ≤ 107374182 := ba_ushr 4 ev_1008 bv_1007 (by decide) (by decide) _ _ (by decide)
  refine lv_iadd hx hb dJ6_bitCount_0f7a4_28 ?_
  refine lv_topi (fun v_1009 ev_1009 => ?_)
  have qv_1009 := ba_add ev_1009 bv_1007 bv_1008 (by decide)
  have bv_1009 : (0 : Int) ≤ v_1009.toInt ∧ v_1009.toInt ≤ 1825361100 := bq_add qv_1009 bv_1007 bv_1008 _ _ (by decide)
  refine lv_ldcw (own := RJ6) (v := 252645135) hx hb hown (hw0 _ m_29) dJ6_bitCount_0f7a4_29 ?_
  refine lv_iand hx hb dJ6_bitCount_0f7a4_32 ?_
  refine lv_topi (fun v_1010 ev_1010 => ?_)
  have bv_1010 : (0 : Int) ≤ v_1010.toInt ∧ v_1010.toInt ≤ 252645135 := ba_andr ev_1010 (bkc (x := 252645135) (c := 252645135) (by decide)) (by decide)
  refine lv_istore_n (lv' := [(0, .int v_1010)]) hx hb dJ6_bitCount_0f7a4_33 rfl hl (by decide) rfl (fun ls hl => ?_)
  refine lv_iload_n hx hb dJ6_bitCount_0f7a4_34 rfl (lv_at hl 0 rfl) ?_
  refine lv_iload_n hx hb dJ6_bitCount_0f7a4_35 rfl (lv_at hl 0 rfl) ?_
  refine lv_bipush (v := 8) hx hb dJ6_bitCount_0f7a4_36 (by decide) ?_
  refine lv_iushr hx hb dJ6_bitCount_0f7a4_38 rfl ?_
  refine lv_topi (fun v_1011 ev_1011 => ?_)
  have bv_1011 : (0 : Int) ≤ v_1011.toInt ∧ v_1011.toInt ≤ 986895 := ba_ushr 8 ev_1011 bv_1010 (by decide) (by decide) _ _ (by decide)
  refine lv_iadd hx hb dJ6_bitCount_0f7a4_39 ?_
  refine lv_topi (fun v_1012 ev_1012 => ?_)
  have qv_1012 := ba_add ev_1012 bv_1010 bv_1011 (by decide)
  have bv_1012 : (0 : Int) ≤ v_1012.toInt ∧ v_1012.toInt ≤ 253632030 := bq_add qv_1012 bv_1010 bv_1011 _ _ (by decide)
  refine lv_istore_n (lv' := [(0, .int v_1012)]) hx hb dJ6_bitCount_0f7a4_40 rfl hl (by decide) rfl (fun ls hl => ?_)
  refine lv_iload_n hx hb dJ6_bitCount_0f7a4_41 rfl (lv_at hl 0 rfl) ?_
  refine lv_iload_n hx hb dJ6_bitCount_0f7a4_42 rfl (lv_at hl 0 rfl) ?_
  refine lv_bipush (v := 16) hx hb dJ6_bitCount_0f7a4_43 (by decide) ?_
  refine lv_iushr hx hb dJ6_bitCount_0f7a4_45 rfl ?_
  refine lv_topi (fun v_1013 ev_1013 => ?_)
  have bv_1013 : (0 : Int) ≤ v_1013.toInt ∧ v_1013.toInt ≤ 3870 := ba_ushr 16 ev_1013 bv_1012 (by decide) (by decide) _ _ (by decide)
  refine lv_iadd hx hb dJ6_bitCount_0f7a4_46 ?_
  refine lv_topi (fun v_1014 ev_1014 => ?_)
  have qv_1014 := ba_add ev_1014 bv_1012 bv_1013 (by decide)
  have bv_1014 : (0 : Int) ≤ v_1014.toInt ∧ v_1014.toInt ≤ 253635900 := bq_add qv_1014 bv_1012 bv_1013 _ _ (by decide)
  refine lv_istore_n (lv' := [(0, .int v_1014)]) hx hb dJ6_bitCount_0f7a4_47 rfl hl (by decide) rfl (fun ls hl => ?_)
  refine lv_iload_n hx hb dJ6_bitCount_0f7a4_48 rfl (lv_at hl 0 rfl) ?_
  refine lv_bipush (v := 63) hx hb dJ6_bitCount_0f7a4_49 (by decide) ?_
  refine lv_iand hx hb dJ6_bitCount_0f7a4_51 ?_
  refine lv_topi (fun v_1015 ev_1015 => ?_)
  have bv_1015 : (0 : Int) ≤ v_1015.toInt ∧ v_1015.toInt ≤ 63 := ba_andr ev_1015 (bkc (x := 63) (c := 63) (by decide)) (by decide)
  exact W.iret (v := v_1015) hx hb hr (fun t ht hW => ⟨⟨v_1015, _, rfl, ⟨v_1015, bv_1015, bcc (by subst_vars; rfl) p_a1, rfl, rfl⟩, by rw [ht]; exact hP, hD⟩, hS.F ht⟩) hS.2.2 dJ6_bitCount_0f7a4_52

set_option maxHeartbeats 4000000 in
set_option maxRecDepth 100000 in
theorem fX6_isOpenTo (l : Launch) (G : va_G) (y : Nat → ClassId) (sz : Nat) (ob : Nat) (a1 : Int32) (a2 : Int32) (ob_town : Nat) (ob_code : Nat) (ob_debts : Nat) (ob_deeds : Nat) (ob_knows : Nat) (ob_day : Int32) (ob_paid : Int32) (ob_follows : Nat) (ob_town_houses : Int32) (ob_town_fresh : Int32) (ob_town_introducers : Int32) (ob_town_x : Nat) (ob_town_y : Nat) (ob_town_rank : Nat) (ob_town_weekday : Nat) (ob_town_from : Nat) (ob_town_to : Nat) (ob_town_came : Nat) (ob_town_bride : Nat) (ob_town_told : Nat) (fob_town_came : Nat → Int32) (fob_knows : Nat → Int32) (p_ob_town_houses : (0 : Int) ≤ ob_town_houses.toInt ∧ ob_town_houses.toInt ≤ 16) (p_fob_town_came : ∀ i, (0 : Int) ≤ (fob_town_came i).toInt ∧ (fob_town_came i).toInt ≤ 399) (p_fob_knows : ∀ i, (0 : Int) ≤ (fob_knows i).toInt ∧ (fob_knows i).toInt ≤ 65535) (p_ob_day : (0 : Int) ≤ ob_day.toInt ∧ ob_day.toInt ≤ 399) (p_a1 : (0 : Int) ≤ a1.toInt ∧ a1.toInt ≤ 15) (p_a2 : (0 : Int) ≤ a2.toInt ∧ a2.toInt ≤ 15) (hq0 : (fob_town_came a1.toInt.toNat).toInt ≤ ob_day.toInt ∧ (fob_town_came a2.toInt.toNat).toInt ≤ ob_day.toInt) : Met l yX6_isOpenTo (Cond.code yX6_isOpenTo cX6_isOpenTo 3 (some .boolean) :: wAll) ({ frames := 1, cells := 0, slots := 0, locals := 22 }) (va_Pc [.ref ob, .int a1, .int a2] (kp G y sz [(ce_X6 ob ob_town ob_code ob_debts ob_deeds ob_knows ob_day ob_paid ob_follows), (ce_X7 ob_town ob_town_houses ob_town_fresh ob_town_introducers ob_town_x ob_town_y ob_town_rank ob_town_weekday ob_town_from ob_town_to ob_town_came ob_town_bride ob_town_told), (ce_i16 y ob_town_came fob_town_came), (ce_i16 y ob_knows fob_knows)])) (va_Qi (fun (r : Int32) (w : va_W) => ((¬ (qk fob_knows a1.toInt a2.toInt = 1 ∨ (ob_day.toInt - (fob_town_came a2.toInt.toNat).toInt ≤ ob_town_fresh.toInt ∧ ¬ ob_day.toInt - (fob_town_came a1.toInt.toNat).toInt ≤ ob_town_fresh.toInt) ∨ ob_town_introducers.toInt ≤ qin fob_knows a1.toInt a2.toInt)) ∧ r = 0 ∧ w = [(ce_X6 ob ob_town ob_code ob_debts ob_deeds ob_knows ob_day ob_paid ob_follows), (ce_X7 ob_town ob_town_houses ob_town_fresh ob_town_introducers ob_town_x ob_town_y ob_town_rank ob_town_weekday ob_town_from ob_town_to ob_town_came ob_town_bride ob_town_told), (ce_i16 y ob_town_came fob_town_came), (ce_i16 y ob_knows fob_knows)]) ∨ ((qk fob_knows a1.toInt a2.toInt = 1 ∨ (ob_day.toInt - (fob_town_came a2.toInt.toNat).toInt ≤ ob_town_fresh.toInt ∧ ¬ ob_day.toInt - (fob_town_came a1.toInt.toNat).toInt ≤ ob_town_fresh.toInt) ∨ ob_town_introducers.toInt ≤ qin fob_knows a1.toInt a2.toInt) ∧ r = 1 ∧ w = [(ce_X6 ob ob_town ob_code ob_debts ob_deeds ob_knows ob_day ob_paid ob_follows), (ce_X7 ob_town ob_town_houses ob_town_fresh ob_town_introducers ob_town_x ob_town_y ob_town_rank ob_town_weekday ob_town_from ob_town_to ob_town_came ob_town_bride ob_town_told), (ce_i16 y ob_town_came fob_town_came), (ce_i16 y ob_knows fob_knows)])) (kq G (va_A [(ce_X6 ob ob_town ob_code ob_debts ob_deeds ob_knows ob_day ob_paid ob_follows), (ce_X7 ob_town ob_town_houses ob_town_fresh ob_town_introducers ob_town_x ob_town_y ob_town_rank ob_town_weekday ob_town_from ob_town_to ob_town_came ob_town_bride ob_town_told), (ce_i16 y ob_town_came fob_town_came), (ce_i16 y ob_knows fob_knows)] sz)) (va_A [(ce_X6 ob ob_town ob_code ob_debts ob_deeds ob_knows ob_day ob_paid ob_follows), (ce_X7 ob_town ob_town_houses ob_town_fresh ob_town_introducers ob_town_x ob_town_y ob_town_rank ob_town_weekday ob_town_from ob_town_to ob_town_came ob_town_bride ob_town_told), (ce_i16 y ob_town_came fob_town_came), (ce_i16 y ob_knows fob_knows)] sz)) 0 0 (va_A [(ce_X6 ob ob_town ob_code ob_debts ob_deeds ob_knows ob_day ob_paid ob_follows), (ce_X7 ob_town ob_town_houses ob_town_fresh ob_town_introducers ob_town_x ob_town_y ob_town_rank ob_town_weekday ob_town_from ob_town_to ob_town_came ob_town_bride ob_town_told), (ce_i16 y ob_town_came fob_town_came), (ce_i16 y ob_knows fob_knows)] sz) := by
  refine Met.ofW (cc := cX6_isOpenTo) (maxL := 3) (ret := (some .boolean)) (by decide) rfl ?_
  intro p e s m args below meth c s₁ B hml hv
  obtain ⟨rfl, hsz, hP, hK, hD0⟩ := hv
  have hx := B.exec
  have hb := B.bytes
  have hr := B.returns
  have hw0 : ∀ w ∈ wAll, w.before _ s = true := fun w h => atoms_spec (ws := Cond.code yX6_isOpenTo cX6_isOpenTo 3 (some .boolean) :: wAll) B.pre w (List.mem_cons_of_mem _ h)
  have hown : s.vm.findClass RX6 = some m.cls := findClass_of_methodNamed B.named
  subst hsz
  have hD := hD0.self (sz := s.heap.size)
  generalize hAe : va_A [(ce_X6 ob ob_town ob_code ob_debts ob_deeds ob_knows ob_day ob_paid ob_follows), (ce_X7 ob_town ob_town_houses ob_town_fresh ob_town_introducers ob_town_x ob_town_y ob_town_rank ob_town_weekday ob_town_from ob_town_to ob_town_came ob_town_bride ob_town_told), (ce_i16 y ob_town_came fob_town_came), (ce_i16 y ob_knows fob_knows)] s.heap.size = A at hD ⊢
  have hA : ∀ q : Nat, s.heap.size ≤ q → A q := fun q h => by rw [← hAe]; exact Or.inr h
  have hS : va_S A s.heap s.heap [] := va_S.rf
  have hP : va_P G vwCl [(ce_X6 ob ob_town ob_code ob_debts ob_deeds ob_knows ob_day ob_paid ob_follows), (ce_X7 ob_town ob_town_houses ob_town_fresh ob_town_introducers ob_town_x ob_town_y ob_town_rank ob_town_weekday ob_town_from ob_town_to ob_town_came ob_town_bride ob_town_told), (ce_i16 y ob_town_came fob_town_came), (ce_i16 y ob_knows fob_knows)] s.heap := hP
  have hl := lv_entry ([.ref ob, .int a1, .int a2]) (n := 3) (Nat.le_of_ble_eq_true rfl)
  rw [lg_entry_eq]
  generalize (lg_sl ([.ref ob, .int a1, .int a2]) ++ List.replicate (3 - (lg_sl ([.ref ob, .int a1, .int a2])).length) Slot.unset).toArray = ls at hl ⊢
  have hl : lv_has ls 3 [(0, .ref ob), (1, .int a1), (2, .int a2)] := hl
  refine lv_aload_n hx hb dX6_isOpenTo_0 rfl (lv_at hl 0 rfl) ?_
  refine lv_iload_n hx hb dX6_isOpenTo_1 rfl (lv_at hl 1 rfl) ?_
  refine lv_iload_n hx hb dX6_isOpenTo_2 rfl (lv_at hl 2 rfl) ?_
  refine cVim (As := [.int a1, .int a2]) (rest := []) ⟨hx, hb, hml, hown, hw0⟩ hA hK hP hD hS [true, false, false, true] (fX6_knew l G y _ ob a1 a2 ob_town ob_code ob_debts ob_deeds ob_knows ob_day ob_paid ob_follows fob_knows p_fob_knows p_ob_day p_a1 p_a2) rfl ⟨(callB_of 2 hw0 (gA m_1054) rfl rfl rfl (hw0 _ m_958) (hw0 _ m_957) cb_X6_knew ⟨Nat.le_of_ble_eq_true rfl, Nat.le_of_ble_eq_true rfl⟩), (hw0 _ m_959), (hw0 _ m_960)⟩ (ci := 6) (q := (RX6, TX6, 8)) rfl rfl rfl hl.1 (Nat.le_of_ble_eq_true rfl) dX6_isOpenTo_3 ⟨Nat.le_of_ble_eq_true rfl, Nat.le_of_ble_eq_true rfl⟩ (fun r_1001 w_1001 H locs hw_1001 hP hD hS => ?_)
  obtain ⟨v_1002, bv_1002, h_1003, er_1001, rfl⟩ := hw_1001
  subst r_1001
  obtain ⟨hP, hD⟩ : vPD G A H [(ce_X6 ob ob_town ob_code ob_debts ob_deeds ob_knows ob_day ob_paid ob_follows), (ce_X7 ob_town ob_town_houses ob_town_fresh ob_town_introducers ob_town_x ob_town_y ob_town_rank ob_town_weekday ob_town_from ob_town_to ob_town_came ob_town_bride ob_town_told), (ce_i16 y ob_town_came fob_town_came), (ce_i16 y ob_knows fob_knows)] := ⟨hP, hD⟩
  refine lv_iconst (v := 1) hx hb dX6_isOpenTo_6 (by decide) ?_
  refine lv_icmp_eq (tgt := 40) hx hb dX6_isOpenTo_7 (by decide) (fun c_1004 => ?_) (fun c_1004 => ?_)
  · skip
    have nc_1004 := nb_eq (1) (1) c_1004 bv_1002 (bkc (x := 1) (c := 1) (by decide)) (by decide)
    refine lv_iconst (v := 1) hx hb dX6_isOpenTo_40 (by decide) ?_
    exact W.zret (v := 1) hx hb hr rfl (fun t ht hW => ⟨⟨1, _, rfl, Or.inr (⟨by have h90 : Int32.toInt 1 = 1 := (by decide); omega, rfl, rfl⟩), by rw [ht]; exact hP, hD⟩, hS.F ht⟩) hS.2.2 dX6_isOpenTo_41
  · skip
    have nc_1004 := nb_ne (0) (0) c_1004 bv_1002 (k := 1) (by decide) (by decide)
    refine lv_aload_n hx hb dX6_isOpenTo_10 rfl (lv_at hl 0 rfl) ?_
    refine va_get (D := G) (ci := 6) (v := .ref ob_town) (C := RX6) (T := TX6) (N := 8) hx hb hw0 inA_wsX60 hown hK.1 hP 0 rfl rfl 0 (by decide) (hw0 _ m_974) (fun _ h9 => h9) rfl dX6_isOpenTo_11 ?_
    refine lv_iload_n hx hb dX6_isOpenTo_14 rfl (lv_at hl 2 rfl) ?_
    refine lv_aload_n hx hb dX6_isOpenTo_15 rfl (lv_at hl 0 rfl) ?_
    refine va_get (D := G) (ci := 6) (v := .int ob_day) (C := RX6) (T := TX6) (N := 8) hx hb hw0 inA_wsX60 hown hK.1 hP 0 rfl rfl 5 (by decide) (hw0 _ m_956) (fun _ h9 => h9) rfl dX6_isOpenTo_16 ?_
    refine cVim (As := [.int a2, .int ob_day]) (rest := []) ⟨hx, hb, hml, hown, hw0⟩ hA hK hP hD hS [false, true, true] (fX7_isNew l G y _ ob_town a2 ob_day ob_town_houses ob_town_fresh ob_town_introducers ob_town_x ob_town_y ob_town_rank ob_town_weekday ob_town_from ob_town_to ob_town_came ob_town_bride ob_town_told fob_town_came p_ob_town_houses p_fob_town_came p_a2 p_ob_day) rfl ⟨(callB_of 2 hw0 (gA m_1080) rfl rfl rfl (hw0 _ m_746) (hw0 _ m_1047) cb_X7_isNew ⟨Nat.le_of_ble_eq_true rfl, Nat.le_of_ble_eq_true rfl⟩), (hw0 _ m_1048), (hw0 _ m_1049)⟩ (ci := 7) (q := (RX7, TX7, 12)) rfl rfl rfl hl.1 (Nat.le_of_ble_eq_true rfl) dX6_isOpenTo_19 ⟨Nat.le_of_ble_eq_true rfl, Nat.le_of_ble_eq_true rfl⟩ (fun r_1005 w_1005 H locs hw_1005 hP hD hS => ?_)
    rcases hw_1005 with ⟨h_1006, rfl, rfl⟩ | ⟨h_1007, rfl, rfl⟩
    · skip
      obtain ⟨hP, hD⟩ : vPD G A H [(ce_X6 ob ob_town ob_code ob_debts ob_deeds ob_knows ob_day ob_paid ob_follows), (ce_X7 ob_town ob_town_houses ob_town_fresh ob_town_introducers ob_town_x ob_town_y ob_town_rank ob_town_weekday ob_town_from ob_town_to ob_town_came ob_town_bride ob_town_told), (ce_i16 y ob_town_came fob_town_came), (ce_i16 y ob_knows fob_knows)] := ⟨hP, hD⟩
      refine lv_if_eq (tgt := 42) hx hb dX6_isOpenTo_22 (by decide) (fun _ => ?_) (fun c9 => absurd (by decide) c9)
      refine lv_aload_n hx hb dX6_isOpenTo_42 rfl (lv_at hl 0 rfl) ?_
      refine va_get (D := G) (ci := 6) (v := .ref ob_knows) (C := RX6) (T := TX6) (N := 8) hx hb hw0 inA_wsX60 hown hK.1 hP 0 rfl rfl 4 (by decide) (hw0 _ m_970) (fun _ h9 => h9) rfl dX6_isOpenTo_43 ?_
      refine lv_iload_n hx hb dX6_isOpenTo_46 rfl (lv_at hl 1 rfl) ?_
      refine va_iald hx hb hK.1 hP 3 1 rfl rfl (vi p_a1 (by decide)) dX6_isOpenTo_47 ?_
      refine lv_topi (fun v_1008 ev_1008 => ?_)
      have bv_1008 : (0 : Int) ≤ v_1008.toInt ∧ v_1008.toInt ≤ 65535 := rd_b ev_1008 p_fob_knows
      refine lv_aload_n hx hb dX6_isOpenTo_48 rfl (lv_at hl 0 rfl) ?_
      refine va_get (D := G) (ci := 6) (v := .ref ob_knows) (C := RX6) (T := TX6) (N := 8) hx hb hw0 inA_wsX60 hown hK.1 hP 0 rfl rfl 4 (by decide) (hw0 _ m_970) (fun _ h9 => h9) rfl dX6_isOpenTo_49 ?_
      refine lv_iload_n hx hb dX6_isOpenTo_52 rfl (lv_at hl 2 rfl) ?_
      refine va_iald hx hb hK.1 hP 3 1 rfl rfl (vi p_a2 (by decide)) dX6_isOpenTo_53 ?_
      refine lv_topi (fun v_1009 ev_1009 => ?_)
      have bv_1009 : (0 : Int) ≤ v_1009.toInt ∧ v_1009.toInt ≤ 65535 := rd_b ev_1009 p_fob_knows
      refine lv_iand hx hb dX6_isOpenTo_54 ?_
      refine lv_topi (fun v_1010 ev_1010 => ?_)
      have bv_1010 : (0 : Int) ≤ v_1010.toInt ∧ v_1010.toInt ≤ 65535 := ba_andl ev_1010 bv_1008 (by decide)
      refine cSim (As := [.int v_1010]) (rest := []) ⟨hx, hb, hml, hown, hw0⟩ hA hK hP hD hS [] (fbit16 l G y _ v_1010 bv_1010) rfl ⟨(callB_of 1 hw0 (gA m_26) rfl rfl rfl (hw0 _ m_834) (hw0 _ m_1050) cb_J6_bitCount_0f7a4 ⟨Nat.le_of_ble_eq_true rfl, Nat.le_of_ble_eq_true rfl⟩), (hw0 _ m_1051)⟩ rfl hl.1 (Nat.le_of_ble_eq_true rfl) dX6_isOpenTo_55 ⟨Nat.le_of_ble_eq_true rfl, Nat.le_of_ble_eq_true rfl⟩ (fun r_1011 w_1011 H locs hw_1011 hP hD hS => ?_)
      obtain ⟨v_1012, bv_1012, h_1013, er_1011, rfl⟩ := hw_1011
      subst r_1011
      obtain ⟨hP, hD⟩ : vPD G A H [(ce_X6 ob ob_town ob_code ob_debts ob_deeds ob_knows ob_day ob_paid ob_follows), (ce_X7 ob_town ob_town_houses ob_town_fresh ob_town_introducers ob_town_x ob_town_y ob_town_rank ob_town_weekday ob_town_from ob_town_to ob_town_came ob_town_bride ob_town_told), (ce_i16 y ob_town_came fob_town_came), (ce_i16 y ob_knows fob_knows)] := ⟨hP, hD⟩
      have E_1014 := qin_h h_1013 ev_1010 ev_1008 ev_1009 (by omega) (by omega) (by omega) (by omega)
      refine lv_aload_n hx hb dX6_isOpenTo_58 rfl (lv_at hl 0 rfl) ?_
      refine va_get (D := G) (ci := 6) (v := .ref ob_town) (C := RX6) (T := TX6) (N := 8) hx hb hw0 inA_wsX60 hown hK.1 hP 0 rfl rfl 0 (by decide) (hw0 _ m_974) (fun _ h9 => h9) rfl dX6_isOpenTo_59 ?_
      refine va_get (D := G) (ci := 7) (v := .int ob_town_introducers) (C := RX7) (T := TX7) (N := 12) hx hb hw0 inA_wsX70 hown hK.1 hP 1 rfl rfl 2 (by decide) (hw0 _ m_1052) (fun _ h9 => h9) rfl dX6_isOpenTo_62 ?_
      refine lv_icmp_lt (tgt := 72) hx hb dX6_isOpenTo_65 (by decide) (fun c_1015 => ?_) (fun c_1015 => ?_)
      · skip
        have nc_1015 := nb_lt (63) (1) c_1015 bv_1012 (btop ob_town_introducers) (by decide)
        refine lv_iconst (v := 0) hx hb dX6_isOpenTo_72 (by decide) ?_
        exact W.zret (v := 0) hx hb hr rfl (fun t ht hW => ⟨⟨0, _, rfl, Or.inl (⟨by have h90 : Int32.toInt 0 = 0 := (by decide); omega, rfl, rfl⟩), by rw [ht]; exact hP, hD⟩, hS.F ht⟩) hS.2.2 dX6_isOpenTo_73
      · skip
        have nc_1015 := nb_nlt (63) (0) c_1015 (btop ob_town_introducers) bv_1012 (by decide)
        refine lv_iconst (v := 1) hx hb dX6_isOpenTo_68 (by decide) ?_
        refine lv_goto (tgt := 73) hx hb dX6_isOpenTo_69 (by decide) ?_
        exact W.zret (v := 1) hx hb hr rfl (fun t ht hW => ⟨⟨1, _, rfl, Or.inr (⟨by have h90 : Int32.toInt 1 = 1 := (by decide); omega, rfl, rfl⟩), by rw [ht]; exact hP, hD⟩, hS.F ht⟩) hS.2.2 dX6_isOpenTo_73
    · skip
      obtain ⟨hP, hD⟩ : vPD G A H [(ce_X6 ob ob_town ob_code ob_debts ob_deeds ob_knows ob_day ob_paid ob_follows), (ce_X7 ob_town ob_town_houses ob_town_fresh ob_town_introducers ob_town_x ob_town_y ob_town_rank ob_town_weekday ob_town_from ob_town_to ob_town_came ob_town_bride ob_town_told), (ce_i16 y ob_town_came fob_town_came), (ce_i16 y ob_knows fob_knows)] := ⟨hP, hD⟩
      refine lv_if_eq (tgt := 42) hx hb dX6_isOpenTo_22 (by decide) (fun c9 => absurd c9 (by decide)) (fun _ => ?_)
      refine lv_aload_n hx hb dX6_isOpenTo_25 rfl (lv_at hl 0 rfl) ?_
      refine va_get (D := G) (ci := 6) (v := .ref ob_town) (C := RX6) (T := TX6) (N := 8) hx hb hw0 inA_wsX60 hown hK.1 hP 0 rfl rfl 0 (by decide) (hw0 _ m_974) (fun _ h9 => h9) rfl dX6_isOpenTo_26 ?_
      refine lv_iload_n hx hb dX6_isOpenTo_29 rfl (lv_at hl 1 rfl) ?_
      refine lv_aload_n hx hb dX6_isOpenTo_30 rfl (lv_at hl 0 rfl) ?_
      refine va_get (D := G) (ci := 6) (v := .int ob_day) (C := RX6) (T := TX6) (N := 8) hx hb hw0 inA_wsX60 hown hK.1 hP 0 rfl rfl 5 (by decide) (hw0 _ m_956) (fun _ h9 => h9) rfl dX6_isOpenTo_31 ?_
      refine cVim (As := [.int a1, .int ob_day]) (rest := []) ⟨hx, hb, hml, hown, hw0⟩ hA hK hP hD hS [false, true, true] (fX7_isNew l G y _ ob_town a1 ob_day ob_town_houses ob_town_fresh ob_town_introducers ob_town_x ob_town_y ob_town_rank ob_town_weekday ob_town_from ob_town_to ob_town_came ob_town_bride ob_town_told fob_town_came p_ob_town_houses p_fob_town_came p_a1 p_ob_day) rfl ⟨(callB_of 2 hw0 (gA m_1080) rfl rfl rfl (hw0 _ m_746) (hw0 _ m_1047) cb_X7_isNew ⟨Nat.le_of_ble_eq_true rfl, Nat.le_of_ble_eq_true rfl⟩), (hw0 _ m_1048), (hw0 _ m_1049)⟩ (ci := 7) (q := (RX7, TX7, 12)) rfl rfl rfl hl.1 (Nat.le_of_ble_eq_true rfl) dX6_isOpenTo_34 ⟨Nat.le_of_ble_eq_true rfl, Nat.le_of_ble_eq_true rfl⟩ (fun r_1016 w_1016 H locs hw_1016 hP hD hS => ?_)
      rcases hw_1016 with ⟨h_1017, rfl, rfl⟩ | ⟨h_1018, rfl, rfl⟩
      · skip
        obtain ⟨hP, hD⟩ : vPD G A H [(ce_X6 ob ob_town ob_code ob_debts ob_deeds ob_knows ob_day ob_paid ob_follows), (ce_X7 ob_town ob_town_houses ob_town_fresh ob_town_introducers ob_town_x ob_town_y ob_town_rank ob_town_weekday ob_town_from ob_town_to ob_town_came ob_town_bride ob_town_told), (ce_i16 y ob_town_came fob_town_came), (ce_i16 y ob_knows fob_knows)] := ⟨hP, hD⟩
        refine lv_if_ne (tgt := 42) hx hb dX6_isOpenTo_37 (by decide) (fun c9 => absurd (by decide) c9) (fun _ => ?_)
        refine lv_iconst (v := 1) hx hb dX6_isOpenTo_40 (by decide) ?_
        exact W.zret (v := 1) hx hb hr rfl (fun t ht hW => ⟨⟨1, _, rfl, Or.inr (⟨by have h90 : Int32.toInt 1 = 1 := (by decide); omega, rfl, rfl⟩), by rw [ht]; exact hP, hD⟩, hS.F ht⟩) hS.2.2 dX6_isOpenTo_41
      · skip
        obtain ⟨hP, hD⟩ : vPD G A H [(ce_X6 ob ob_town ob_code ob_debts ob_deeds ob_knows ob_day ob_paid ob_follows), (ce_X7 ob_town ob_town_houses ob_town_fresh ob_town_introducers ob_town_x ob_town_y ob_town_rank ob_town_weekday ob_town_from ob_town_to ob_town_came ob_town_bride ob_town_told), (ce_i16 y ob_town_came fob_town_came), (ce_i16 y ob_knows fob_knows)] := ⟨hP, hD⟩
        refine lv_if_ne (tgt := 42) hx hb dX6_isOpenTo_37 (by decide) (fun _ => ?_) (fun c9 => absurd c9 (by decide))
        refine lv_aload_n hx hb dX6_isOpenTo_42 rfl (lv_at hl 0 rfl) ?_
        refine va_get (D := G) (ci := 6) (v := .ref ob_knows) (C := RX6) (T := TX6) (N := 8) hx hb hw0 inA_wsX60 hown hK.1 hP 0 rfl rfl 4 (by decide) (hw0 _ m_970) (fun _ h9 => h9) rfl dX6_isOpenTo_43 ?_
        refine lv_iload_n hx hb dX6_isOpenTo_46 rfl (lv_at hl 1 rfl) ?_
        refine va_iald hx hb hK.1 hP 3 1 rfl rfl (vi p_a1 (by decide)) dX6_isOpenTo_47 ?_
        refine lv_topi (fun v_1019 ev_1019 => ?_)
        have bv_1019 : (0 : Int) ≤ v_1019.toInt ∧ v_1019.toInt ≤ 65535 := rd_b ev_1019 p_fob_knows
        refine lv_aload_n hx hb dX6_isOpenTo_48 rfl (lv_at hl 0 rfl) ?_
        refine va_get (D := G) (ci := 6) (v := .ref ob_knows) (C := RX6) (T := TX6) (N := 8) hx hb hw0 inA_wsX60 hown hK.1 hP 0 rfl rfl 4 (by decide) (hw0 _ m_970) (fun _ h9 => h9) rfl dX6_isOpenTo_49 ?_
        refine lv_iload_n hx hb dX6_isOpenTo_52 rfl (lv_at hl 2 rfl) ?_
        refine va_iald hx hb hK.1 hP 3 1 rfl rfl (vi p_a2 (by decide)) dX6_isOpenTo_53 ?_
        refine lv_topi (fun v_1020 ev_1020 => ?_)
        have bv_1020 : (0 : Int) ≤ v_1020.toInt ∧ v_1020.toInt ≤ 65535 := rd_b ev_1020 p_fob_knows
        refine lv_iand hx hb dX6_isOpenTo_54 ?_
        refine lv_topi (fun v_1021 ev_1021 => ?_)
        have bv_1021 : (0 : Int) ≤ v_1021.toInt ∧ v_1021.toInt ≤ 65535 := ba_andl ev_1021 bv_1019 (by decide)
        refine cSim (As := [.int v_1021]) (rest := []) ⟨hx, hb, hml, hown, hw0⟩ hA hK hP hD hS [] (fbit16 l G y _ v_1021 bv_1021) rfl ⟨(callB_of 1 hw0 (gA m_26) rfl rfl rfl (hw0 _ m_834) (hw0 _ m_1050) cb_J6_bitCount_0f7a4 ⟨Nat.le_of_ble_eq_true rfl, Nat.le_of_ble_eq_true rfl⟩), (hw0 _ m_1051)⟩ rfl hl.1 (Nat.le_of_ble_eq_true rfl) dX6_isOpenTo_55 ⟨Nat.le_of_ble_eq_true rfl, Nat.le_of_ble_eq_true rfl⟩ (fun r_1022 w_1022 H locs hw_1022 hP hD hS => ?_)
        obtain ⟨v_1023, bv_1023, h_1024, er_1022, rfl⟩ := hw_1022
        subst r_1022
        obtain ⟨hP, hD⟩ : vPD G A H [(ce_X6 ob ob_town ob_code ob_debts ob_deeds ob_knows ob_day ob_paid ob_follows), (ce_X7 ob_town ob_town_houses ob_town_fresh ob_town_introducers ob_town_x ob_town_y ob_town_rank ob_town_weekday ob_town_from ob_town_to ob_town_came ob_town_bride ob_town_told), (ce_i16 y ob_town_came fob_town_came), (ce_i16 y ob_knows fob_knows)] := ⟨hP, hD⟩
        have E_1025 := qin_h h_1024 ev_1021 ev_1019 ev_1020 (by omega) (by omega) (by omega) (by omega)
        refine lv_aload_n hx hb dX6_isOpenTo_58 rfl (lv_at hl 0 rfl) ?_
        refine va_get (D := G) (ci := 6) (v := .ref ob_town) (C := RX6) (T := TX6) (N := 8) hx hb hw0 inA_wsX60 hown hK.1 hP 0 rfl rfl 0 (by decide) (hw0 _ m_974) (fun _ h9 => h9) rfl dX6_isOpenTo_59 ?_
        refine va_get (D := G) (ci := 7) (v := .int ob_town_introducers) (C := RX7) (T := TX7) (N := 12) hx hb hw0 inA_wsX70 hown hK.1 hP 1 rfl rfl 2 (by decide) (hw0 _ m_1052) (fun _ h9 => h9) rfl dX6_isOpenTo_62 ?_
        refine lv_icmp_lt (tgt := 72) hx hb dX6_isOpenTo_65 (by decide) (fun c_1026 => ?_) (fun c_1026 => ?_)
        · skip
          have nc_1026 := nb_lt (63) (1) c_1026 bv_1023 (btop ob_town_introducers) (by decide)
          refine lv_iconst (v := 0) hx hb dX6_isOpenTo_72 (by decide) ?_
          exact W.zret (v := 0) hx hb hr rfl (fun t ht hW => ⟨⟨0, _, rfl, Or.inl (⟨by have h90 : Int32.toInt 0 = 0 := (by decide); omega, rfl, rfl⟩), by rw [ht]; exact hP, hD⟩, hS.F ht⟩) hS.2.2 dX6_isOpenTo_73
        · skip
          have nc_1026 := nb_nlt (63) (0) c_1026 (btop ob_town_introducers) bv_1023 (by decide)
          refine lv_iconst (v := 1) hx hb dX6_isOpenTo_68 (by decide) ?_
          refine lv_goto (tgt := 73) hx hb dX6_isOpenTo_69 (by decide) ?_
          exact W.zret (v := 1) hx hb hr rfl (fun t ht hW => ⟨⟨1, _, rfl, Or.inr (⟨by have h90 : Int32.toInt 1 = 1 := (by decide); omega, rfl, rfl⟩), by rw [ht]; exact hP, hD⟩, hS.F ht⟩) hS.2.2 dX6_isOpenTo_73

set_option maxHeartbeats 4000000 in
set_option maxRecDepth 100000 in
theorem fX6_barrier (l : Launch) (G : va_G) (y : Nat → ClassId) (sz : Nat) (ob : Nat) (a1 : Int32) (a2 : Int32) (a3 : Int32) (ob_town : Nat) (ob_code : Nat) (ob_debts : Nat) (ob_deeds : Nat) (ob_knows : Nat) (ob_day : Int32) (ob_paid : Int32) (ob_follows : Nat) (ob_town_houses : Int32) (ob_town_fresh : Int32) (ob_town_introducers : Int32) (ob_town_x : Nat) (ob_town_y : Nat) (ob_town_rank : Nat) (ob_town_weekday : Nat) (ob_town_from : Nat) (ob_town_to : Nat) (ob_town_came : Nat) (ob_town_bride : Nat) (ob_town_told : Nat) (fob_town_weekday : Nat → Int32) (fob_town_came : Nat → Int32) (fob_town_bride : Nat → Int32) (fob_knows : Nat → Int32) (p_ob_town_houses : (0 : Int) ≤ ob_town_houses.toInt ∧ ob_town_houses.toInt ≤ 16) (p_fob_town_came : ∀ i, (0 : Int) ≤ (fob_town_came i).toInt ∧ (fob_town_came i).toInt ≤ 399) (p_fob_knows : ∀ i, (0 : Int) ≤ (fob_knows i).toInt ∧ (fob_knows i).toInt ≤ 65535) (p_ob_day : (0 : Int) ≤ ob_day.toInt ∧ ob_day.toInt ≤ 399) (p_a1 : (0 : Int) ≤ a1.toInt ∧ a1.toInt ≤ 15) (p_a2 : (0 : Int) ≤ a2.toInt ∧ a2.toInt ≤ 15) : Met l yX6_barrier (Cond.code yX6_barrier cX6_barrier 4 (some .int) :: wAll) ({ frames := 2, cells := 0, slots := 0, locals := 44 }) (va_Pc [.ref ob, .int a1, .int a2, .int a3] (kp G y sz [(ce_X6 ob ob_town ob_code ob_debts ob_deeds ob_knows ob_day ob_paid ob_follows), (ce_X7 ob_town ob_town_houses ob_town_fresh ob_town_introducers ob_town_x ob_town_y ob_town_rank ob_town_weekday ob_town_from ob_town_to ob_town_came ob_town_bride ob_town_told), (ce_i16 y ob_town_weekday fob_town_weekday), (ce_i16 y ob_town_came fob_town_came), (ce_i16 y ob_town_bride fob_town_bride), (ce_i16 y ob_knows fob_knows)])) (va_Qi (fun (r : Int32) (w : va_W) => (∃ (v_37 : Int32), ((0 : Int) ≤ v_37.toInt ∧ v_37.toInt ≤ 3) ∧ ((v_37 : Int32).toInt = qba (fob_town_came a1.toInt.toNat).toInt (fob_town_came a2.toInt.toNat).toInt ob_day.toInt ob_town_fresh.toInt (qk fob_knows a1.toInt a2.toInt) (qin fob_knows a1.toInt a2.toInt) ob_town_introducers.toInt (fob_town_weekday a2.toInt.toNat).toInt (fob_town_bride a1.toInt.toNat).toInt a3.toInt) ∧ r = v_37 ∧ w = [(ce_X6 ob ob_town ob_code ob_debts ob_deeds ob_knows ob_day ob_paid ob_follows), (ce_X7 ob_town ob_town_houses ob_town_fresh ob_town_introducers ob_town_x ob_town_y ob_town_rank ob_town_weekday ob_town_from ob_town_to ob_town_came ob_town_bride ob_town_told), (ce_i16 y ob_town_weekday fob_town_weekday), (ce_i16 y ob_town_came fob_town_came), (ce_i16 y ob_town_bride fob_town_bride), (ce_i16 y ob_knows fob_knows)])) (kq G (va_A [(ce_X6 ob ob_town ob_code ob_debts ob_deeds ob_knows ob_day ob_paid ob_follows), (ce_X7 ob_town ob_town_houses ob_town_fresh ob_town_introducers ob_town_x ob_town_y ob_town_rank ob_town_weekday ob_town_from ob_town_to ob_town_came ob_town_bride ob_town_told), (ce_i16 y ob_town_weekday fob_town_weekday), (ce_i16 y ob_town_came fob_town_came), (ce_i16 y ob_town_bride fob_town_bride), (ce_i16 y ob_knows fob_knows)] sz)) (va_A [(ce_X6 ob ob_town ob_code ob_debts ob_deeds ob_knows ob_day ob_paid ob_follows), (ce_X7 ob_town ob_town_houses ob_town_fresh ob_town_introducers ob_town_x ob_town_y ob_town_rank ob_town_weekday ob_town_from ob_town_to ob_town_came ob_town_bride ob_town_told), (ce_i16 y ob_town_weekday fob_town_weekday), (ce_i16 y ob_town_came fob_town_came), (ce_i16 y ob_town_bride fob_town_bride), (ce_i16 y ob_knows fob_knows)] sz)) 0 0 (va_A [(ce_X6 ob ob_town ob_code ob_debts ob_deeds ob_knows ob_day ob_paid ob_follows), (ce_X7 ob_town ob_town_houses ob_town_fresh ob_town_introducers ob_town_x ob_town_y ob_town_rank ob_town_weekday ob_town_from ob_town_to ob_town_came ob_town_bride ob_town_told), (ce_i16 y ob_town_weekday fob_town_weekday), (ce_i16 y ob_town_came fob_town_came), (ce_i16 y ob_town_bride fob_town_bride), (ce_i16 y ob_knows fob_knows)] sz) := by
  refine Met.ofW (cc := cX6_barrier) (maxL := 4) (ret := (some .int)) (by decide) rfl ?_
  intro p e s m args below meth c s₁ B hml hv
  obtain ⟨rfl, hsz, hP, hK, hD0⟩ := hv
  have hx := B.exec
  have hb := B.bytes
  have hr := B.returns
  have hw0 : ∀ w ∈ wAll, w.before _ s = true := fun w h => atoms_spec (ws := Cond.code yX6_barrier cX6_barrier 4 (some .int) :: wAll) B.pre w (List.mem_cons_of_mem _ h)
  have hown : s.vm.findClass RX6 = some m.cls := findClass_of_methodNamed B.named
  subst hsz
  have hD := hD0.self (sz := s.heap.size)
  generalize hAe : va_A [(ce_X6 ob ob_town ob_code ob_debts ob_deeds ob_knows ob_day ob_paid ob_follows), (ce_X7 ob_town ob_town_houses ob_town_fresh ob_town_introducers ob_town_x ob_town_y ob_town_rank ob_town_weekday ob_town_from ob_town_to ob_town_came ob_town_bride ob_town_told), (ce_i16 y ob_town_weekday fob_town_weekday), (ce_i16 y ob_town_came fob_town_came), (ce_i16 y ob_town_bride fob_town_bride), (ce_i16 y ob_knows fob_knows)] s.heap.size = A at hD ⊢
  have hA : ∀ q : Nat, s.heap.size ≤ q → A q := fun q h => by rw [← hAe]; exact Or.inr h
  have hS : va_S A s.heap s.heap [] := va_S.rf
  have hP : va_P G vwCl [(ce_X6 ob ob_town ob_code ob_debts ob_deeds ob_knows ob_day ob_paid ob_follows), (ce_X7 ob_town ob_town_houses ob_town_fresh ob_town_introducers ob_town_x ob_town_y ob_town_rank ob_town_weekday ob_town_from ob_town_to ob_town_came ob_town_bride ob_town_told), (ce_i16 y ob_town_weekday fob_town_weekday), (ce_i16 y ob_town_came fob_town_came), (ce_i16 y ob_town_bride fob_town_bride), (ce_i16 y ob_knows fob_knows)] s.heap := hP
  have hl := lv_entry ([.ref ob, .int a1, .int a2, .int a3]) (n := 4) (Nat.le_of_ble_eq_true rfl)
  rw [lg_entry_eq]
  generalize (lg_sl ([.ref ob, .int a1, .int a2, .int a3]) ++ List.replicate (4 - (lg_sl ([.ref ob, .int a1, .int a2, .int a3])).length) Slot.unset).toArray = ls at hl ⊢
  have hl : lv_has ls 4 [(0, .ref ob), (1, .int a1), (2, .int a2), (3, .int a3)] := hl
  refine lv_aload_n hx hb dX6_barrier_0 rfl (lv_at hl 0 rfl) ?_
  refine va_get (D := G) (ci := 6) (v := .ref ob_town) (C := RX6) (T := TX6) (N := 8) hx hb hw0 inA_wsX60 hown hK.1 hP 0 rfl rfl 0 (by decide) (hw0 _ m_974) (fun _ h9 => h9) rfl dX6_barrier_1 ?_
  refine lv_iload_n hx hb dX6_barrier_4 rfl (lv_at hl 1 rfl) ?_
  refine lv_aload_n hx hb dX6_barrier_5 rfl (lv_at hl 0 rfl) ?_
  refine va_get (D := G) (ci := 6) (v := .int ob_day) (C := RX6) (T := TX6) (N := 8) hx hb hw0 inA_wsX60 hown hK.1 hP 0 rfl rfl 5 (by decide) (hw0 _ m_956) (fun _ h9 => h9) rfl dX6_barrier_6 ?_
  refine cVim (As := [.int a1, .int ob_day]) (rest := []) ⟨hx, hb, hml, hown, hw0⟩ hA hK hP hD hS [false, true, false, true] (fX7_isThere l G y _ ob_town a1 ob_day ob_town_houses ob_town_fresh ob_town_introducers ob_town_x ob_town_y ob_town_rank ob_town_weekday ob_town_from ob_town_to ob_town_came ob_town_bride ob_town_told fob_town_came p_ob_town_houses p_fob_town_came p_a1 p_ob_day) rfl ⟨(callB_of 2 hw0 (gA m_1081) rfl rfl rfl (hw0 _ m_746) (hw0 _ m_975) cb_X7_isThere ⟨Nat.le_of_ble_eq_true rfl, Nat.le_of_ble_eq_true rfl⟩), (hw0 _ m_976), (hw0 _ m_977)⟩ (ci := 7) (q := (RX7, TX7, 12)) rfl rfl rfl hl.1 (Nat.le_of_ble_eq_true rfl) dX6_barrier_9 ⟨Nat.le_of_ble_eq_true rfl, Nat.le_of_ble_eq_true rfl⟩ (fun r_1001 w_1001 H locs hw_1001 hP hD hS => ?_)
  rcases hw_1001 with ⟨h_1002, h_1003, rfl, rfl⟩ | ⟨h_1004, rfl, rfl⟩
  · skip
    obtain ⟨hP, hD⟩ : vPD G A H [(ce_X6 ob ob_town ob_code ob_debts ob_deeds ob_knows ob_day ob_paid ob_follows), (ce_X7 ob_town ob_town_houses ob_town_fresh ob_town_introducers ob_town_x ob_town_y ob_town_rank ob_town_weekday ob_town_from ob_town_to ob_town_came ob_town_bride ob_town_told), (ce_i16 y ob_town_weekday fob_town_weekday), (ce_i16 y ob_town_came fob_town_came), (ce_i16 y ob_town_bride fob_town_bride), (ce_i16 y ob_knows fob_knows)] := ⟨hP, hD⟩
    refine lv_if_eq (tgt := 39) hx hb dX6_barrier_12 (by decide) (fun _ => ?_) (fun c9 => absurd (by decide) c9)
    refine lv_iconst (v := 1) hx hb dX6_barrier_39 (by decide) ?_
    exact W.iret (v := 1) hx hb hr (fun t ht hW => ⟨⟨1, _, rfl, ⟨1, (bw (0) (3) (bkc (x := 1) (c := 1) (by decide)) (by decide)), (by have lm1 : Int32.toInt (-1) = -1 := (by decide); have l91 : Int32.toInt 1 = 1 := (by decide); have l92 : Int32.toInt 2 = 2 := (by decide); have l93 : Int32.toInt 3 = 3 := (by decide); have h90 : Int32.toInt 1 = 1 := (by decide); unfold qba; (repeat' split) <;> omega), rfl, rfl⟩, by rw [ht]; exact hP, hD⟩, hS.F ht⟩) hS.2.2 dX6_barrier_40
  · skip
    obtain ⟨hP, hD⟩ : vPD G A H [(ce_X6 ob ob_town ob_code ob_debts ob_deeds ob_knows ob_day ob_paid ob_follows), (ce_X7 ob_town ob_town_houses ob_town_fresh ob_town_introducers ob_town_x ob_town_y ob_town_rank ob_town_weekday ob_town_from ob_town_to ob_town_came ob_town_bride ob_town_told), (ce_i16 y ob_town_weekday fob_town_weekday), (ce_i16 y ob_town_came fob_town_came), (ce_i16 y ob_town_bride fob_town_bride), (ce_i16 y ob_knows fob_knows)] := ⟨hP, hD⟩
    refine lv_if_eq (tgt := 39) hx hb dX6_barrier_12 (by decide) (fun c9 => absurd c9 (by decide)) (fun _ => ?_)
    refine lv_aload_n hx hb dX6_barrier_15 rfl (lv_at hl 0 rfl) ?_
    refine va_get (D := G) (ci := 6) (v := .ref ob_town) (C := RX6) (T := TX6) (N := 8) hx hb hw0 inA_wsX60 hown hK.1 hP 0 rfl rfl 0 (by decide) (hw0 _ m_974) (fun _ h9 => h9) rfl dX6_barrier_16 ?_
    refine lv_iload_n hx hb dX6_barrier_19 rfl (lv_at hl 2 rfl) ?_
    refine lv_aload_n hx hb dX6_barrier_20 rfl (lv_at hl 0 rfl) ?_
    refine va_get (D := G) (ci := 6) (v := .int ob_day) (C := RX6) (T := TX6) (N := 8) hx hb hw0 inA_wsX60 hown hK.1 hP 0 rfl rfl 5 (by decide) (hw0 _ m_956) (fun _ h9 => h9) rfl dX6_barrier_21 ?_
    refine cVim (As := [.int a2, .int ob_day]) (rest := []) ⟨hx, hb, hml, hown, hw0⟩ hA hK hP hD hS [false, true, false, true] (fX7_isThere l G y _ ob_town a2 ob_day ob_town_houses ob_town_fresh ob_town_introducers ob_town_x ob_town_y ob_town_rank ob_town_weekday ob_town_from ob_town_to ob_town_came ob_town_bride ob_town_told fob_town_came p_ob_town_houses p_fob_town_came p_a2 p_ob_day) rfl ⟨(callB_of 2 hw0 (gA m_1081) rfl rfl rfl (hw0 _ m_746) (hw0 _ m_975) cb_X7_isThere ⟨Nat.le_of_ble_eq_true rfl, Nat.le_of_ble_eq_true rfl⟩), (hw0 _ m_976), (hw0 _ m_977)⟩ (ci := 7) (q := (RX7, TX7, 12)) rfl rfl rfl hl.1 (Nat.le_of_ble_eq_true rfl) dX6_barrier_24 ⟨Nat.le_of_ble_eq_true rfl, Nat.le_of_ble_eq_true rfl⟩ (fun r_1005 w_1005 H locs hw_1005 hP hD hS => ?_)
    rcases hw_1005 with ⟨h_1006, h_1007, rfl, rfl⟩ | ⟨h_1008, rfl, rfl⟩
    · skip
      obtain ⟨hP, hD⟩ : vPD G A H [(ce_X6 ob ob_town ob_code ob_debts ob_deeds ob_knows ob_day ob_paid ob_follows), (ce_X7 ob_town ob_town_houses ob_town_fresh ob_town_introducers ob_town_x ob_town_y ob_town_rank ob_town_weekday ob_town_from ob_town_to ob_town_came ob_town_bride ob_town_told), (ce_i16 y ob_town_weekday fob_town_weekday), (ce_i16 y ob_town_came fob_town_came), (ce_i16 y ob_town_bride fob_town_bride), (ce_i16 y ob_knows fob_knows)] := ⟨hP, hD⟩
      refine lv_if_eq (tgt := 39) hx hb dX6_barrier_27 (by decide) (fun _ => ?_) (fun c9 => absurd (by decide) c9)
      refine lv_iconst (v := 1) hx hb dX6_barrier_39 (by decide) ?_
      exact W.iret (v := 1) hx hb hr (fun t ht hW => ⟨⟨1, _, rfl, ⟨1, (bw (0) (3) (bkc (x := 1) (c := 1) (by decide)) (by decide)), (by have lm1 : Int32.toInt (-1) = -1 := (by decide); have l91 : Int32.toInt 1 = 1 := (by decide); have l92 : Int32.toInt 2 = 2 := (by decide); have l93 : Int32.toInt 3 = 3 := (by decide); have h90 : Int32.toInt 1 = 1 := (by decide); unfold qba; (repeat' split) <;> omega), rfl, rfl⟩, by rw [ht]; exact hP, hD⟩, hS.F ht⟩) hS.2.2 dX6_barrier_40
    · skip
      obtain ⟨hP, hD⟩ : vPD G A H [(ce_X6 ob ob_town ob_code ob_debts ob_deeds ob_knows ob_day ob_paid ob_follows), (ce_X7 ob_town ob_town_houses ob_town_fresh ob_town_introducers ob_town_x ob_town_y ob_town_rank ob_town_weekday ob_town_from ob_town_to ob_town_came ob_town_bride ob_town_told), (ce_i16 y ob_town_weekday fob_town_weekday), (ce_i16 y ob_town_came fob_town_came), (ce_i16 y ob_town_bride fob_town_bride), (ce_i16 y ob_knows fob_knows)] := ⟨hP, hD⟩
      refine lv_if_eq (tgt := 39) hx hb dX6_barrier_27 (by decide) (fun c9 => absurd c9 (by decide)) (fun _ => ?_)
      refine lv_aload_n hx hb dX6_barrier_30 rfl (lv_at hl 0 rfl) ?_
      refine lv_iload_n hx hb dX6_barrier_31 rfl (lv_at hl 1 rfl) ?_
      refine lv_iload_n hx hb dX6_barrier_32 rfl (lv_at hl 2 rfl) ?_
      refine cVim (As := [.int a1, .int a2]) (rest := []) ⟨hx, hb, hml, hown, hw0⟩ hA hK hP hD hS [true, true, false, true, false, true] (fX6_isOpenTo l G y _ ob a1 a2 ob_town ob_code ob_debts ob_deeds ob_knows ob_day ob_paid ob_follows ob_town_houses ob_town_fresh ob_town_introducers ob_town_x ob_town_y ob_town_rank ob_town_weekday ob_town_from ob_town_to ob_town_came ob_town_bride ob_town_told fob_town_came fob_knows p_ob_town_houses p_fob_town_came p_fob_knows p_ob_day p_a1 p_a2 (by omega)) rfl ⟨(callB_of 2 hw0 (gA m_1046) rfl rfl rfl (hw0 _ m_958) (hw0 _ m_978) cb_X6_isOpenTo ⟨Nat.le_of_ble_eq_true rfl, Nat.le_of_ble_eq_true rfl⟩), (hw0 _ m_979), (hw0 _ m_980)⟩ (ci := 6) (q := (RX6, TX6, 8)) rfl rfl rfl hl.1 (Nat.le_of_ble_eq_true rfl) dX6_barrier_33 ⟨Nat.le_of_ble_eq_true rfl, Nat.le_of_ble_eq_true rfl⟩ (fun r_1009 w_1009 H locs hw_1009 hP hD hS => ?_)
      rcases hw_1009 with ⟨h_1010, rfl, rfl⟩ | ⟨h_1011, rfl, rfl⟩
      · skip
        obtain ⟨hP, hD⟩ : vPD G A H [(ce_X6 ob ob_town ob_code ob_debts ob_deeds ob_knows ob_day ob_paid ob_follows), (ce_X7 ob_town ob_town_houses ob_town_fresh ob_town_introducers ob_town_x ob_town_y ob_town_rank ob_town_weekday ob_town_from ob_town_to ob_town_came ob_town_bride ob_town_told), (ce_i16 y ob_town_weekday fob_town_weekday), (ce_i16 y ob_town_came fob_town_came), (ce_i16 y ob_town_bride fob_town_bride), (ce_i16 y ob_knows fob_knows)] := ⟨hP, hD⟩
        refine lv_if_ne (tgt := 41) hx hb dX6_barrier_36 (by decide) (fun c9 => absurd (by decide) c9) (fun _ => ?_)
        refine lv_iconst (v := 1) hx hb dX6_barrier_39 (by decide) ?_
        exact W.iret (v := 1) hx hb hr (fun t ht hW => ⟨⟨1, _, rfl, ⟨1, (bw (0) (3) (bkc (x := 1) (c := 1) (by decide)) (by decide)), (by have lm1 : Int32.toInt (-1) = -1 := (by decide); have l91 : Int32.toInt 1 = 1 := (by decide); have l92 : Int32.toInt 2 = 2 := (by decide); have l93 : Int32.toInt 3 = 3 := (by decide); have h90 : Int32.toInt 1 = 1 := (by decide); unfold qba; (repeat' split) <;> omega), rfl, rfl⟩, by rw [ht]; exact hP, hD⟩, hS.F ht⟩) hS.2.2 dX6_barrier_40
      · skip
        obtain ⟨hP, hD⟩ : vPD G A H [(ce_X6 ob ob_town ob_code ob_debts ob_deeds ob_knows ob_day ob_paid ob_follows), (ce_X7 ob_town ob_town_houses ob_town_fresh ob_town_introducers ob_town_x ob_town_y ob_town_rank ob_town_weekday ob_town_from ob_town_to ob_town_came ob_town_bride ob_town_told), (ce_i16 y ob_town_weekday fob_town_weekday), (ce_i16 y ob_town_came fob_town_came), (ce_i16 y ob_town_bride fob_town_bride), (ce_i16 y ob_knows fob_knows)] := ⟨hP, hD⟩
        refine lv_if_ne (tgt := 41) hx hb dX6_barrier_36 (by decide) (fun _ => ?_) (fun c9 => absurd c9 (by decide))
        refine lv_iload_n hx hb dX6_barrier_41 rfl (lv_at hl 3 rfl) ?_
        refine lv_iconst (v := 2) hx hb dX6_barrier_42 (by decide) ?_
        refine lv_icmp_ge (tgt := 48) hx hb dX6_barrier_43 (by decide) (fun c_1012 => ?_) (fun c_1012 => ?_)
        · skip
          have nc_1012 := nb_le (2) (2) c_1012 (bkc (x := 2) (c := 2) (by decide)) (btop a3) (by decide)
          refine lv_aload_n hx hb dX6_barrier_48 rfl (lv_at hl 0 rfl) ?_
          refine va_get (D := G) (ci := 6) (v := .int ob_day) (C := RX6) (T := TX6) (N := 8) hx hb hw0 inA_wsX60 hown hK.1 hP 0 rfl rfl 5 (by decide) (hw0 _ m_956) (fun _ h9 => h9) rfl dX6_barrier_49 ?_
          refine lv_bipush (v := 7) hx hb dX6_barrier_52 (by decide) ?_
          refine lv_irem hx hb dX6_barrier_54 (by decide) ?_
          refine lv_topi (fun v_1013 ev_1013 => ?_)
          have bv_1013 : (0 : Int) ≤ v_1013.toInt ∧ v_1013.toInt ≤ 6 := ba_rem 7 ev_1013 p_ob_day (by decide) (by decide) (by decide)
          have rqv_1013 := rem_q ev_1013 (by omega) (by decide)
          refine lv_aload_n hx hb dX6_barrier_55 rfl (lv_at hl 0 rfl) ?_
          refine va_get (D := G) (ci := 6) (v := .ref ob_town) (C := RX6) (T := TX6) (N := 8) hx hb hw0 inA_wsX60 hown hK.1 hP 0 rfl rfl 0 (by decide) (hw0 _ m_974) (fun _ h9 => h9) rfl dX6_barrier_56 ?_
          refine va_get (D := G) (ci := 7) (v := .ref ob_town_weekday) (C := RX7) (T := TX7) (N := 12) hx hb hw0 inA_wsX70 hown hK.1 hP 1 rfl rfl 6 (by decide) (hw0 _ m_981) (fun _ h9 => h9) rfl dX6_barrier_59 ?_
          refine lv_iload_n hx hb dX6_barrier_62 rfl (lv_at hl 2 rfl) ?_
          refine va_iald hx hb hK.1 hP 2 1 rfl rfl (vi p_a2 (by decide)) dX6_barrier_63 ?_
          refine lv_topi (fun v_1014 ev_1014 => ?_)
          have lbv_1014 := ld_n ev_1014 (by omega)
          refine lv_icmp_eq (tgt := 69) hx hb dX6_barrier_64 (by decide) (fun c_1015 => ?_) (fun c_1015 => ?_)
          · skip
            have nc_1015 := nb_eq (0) (6) c_1015 bv_1013 (btop v_1014) (by decide)
            refine lv_aload_n hx hb dX6_barrier_69 rfl (lv_at hl 0 rfl) ?_
            refine va_get (D := G) (ci := 6) (v := .ref ob_town) (C := RX6) (T := TX6) (N := 8) hx hb hw0 inA_wsX60 hown hK.1 hP 0 rfl rfl 0 (by decide) (hw0 _ m_974) (fun _ h9 => h9) rfl dX6_barrier_70 ?_
            refine lv_iload_n hx hb dX6_barrier_73 rfl (lv_at hl 1 rfl) ?_
            refine lv_aload_n hx hb dX6_barrier_74 rfl (lv_at hl 0 rfl) ?_
            refine va_get (D := G) (ci := 6) (v := .int ob_day) (C := RX6) (T := TX6) (N := 8) hx hb hw0 inA_wsX60 hown hK.1 hP 0 rfl rfl 5 (by decide) (hw0 _ m_956) (fun _ h9 => h9) rfl dX6_barrier_75 ?_
            refine cVim (As := [.int a1, .int ob_day]) (rest := []) ⟨hx, hb, hml, hown, hw0⟩ hA hK hP hD hS [false, true, false, true, true] (fX7_waits l G y _ ob_town a1 ob_day ob_town_houses ob_town_fresh ob_town_introducers ob_town_x ob_town_y ob_town_rank ob_town_weekday ob_town_from ob_town_to ob_town_came ob_town_bride ob_town_told fob_town_came fob_town_bride p_ob_town_houses p_fob_town_came p_a1 p_ob_day) rfl ⟨(callB_of 2 hw0 (gA m_1084) rfl rfl rfl (hw0 _ m_746) (hw0 _ m_982) cb_X7_waits ⟨Nat.le_of_ble_eq_true rfl, Nat.le_of_ble_eq_true rfl⟩), (hw0 _ m_983), (hw0 _ m_984)⟩ (ci := 7) (q := (RX7, TX7, 12)) rfl rfl rfl hl.1 (Nat.le_of_ble_eq_true rfl) dX6_barrier_78 ⟨Nat.le_of_ble_eq_true rfl, Nat.le_of_ble_eq_true rfl⟩ (fun r_1016 w_1016 H locs hw_1016 hP hD hS => ?_)
            rcases hw_1016 with ⟨h_1017, rfl, rfl⟩ | ⟨h_1018, rfl, rfl⟩
            · skip
              obtain ⟨hP, hD⟩ : vPD G A H [(ce_X6 ob ob_town ob_code ob_debts ob_deeds ob_knows ob_day ob_paid ob_follows), (ce_X7 ob_town ob_town_houses ob_town_fresh ob_town_introducers ob_town_x ob_town_y ob_town_rank ob_town_weekday ob_town_from ob_town_to ob_town_came ob_town_bride ob_town_told), (ce_i16 y ob_town_weekday fob_town_weekday), (ce_i16 y ob_town_came fob_town_came), (ce_i16 y ob_town_bride fob_town_bride), (ce_i16 y ob_knows fob_knows)] := ⟨hP, hD⟩
              refine lv_if_eq (tgt := 88) hx hb dX6_barrier_81 (by decide) (fun _ => ?_) (fun c9 => absurd (by decide) c9)
              refine lv_iconst (v := 0) hx hb dX6_barrier_88 (by decide) ?_
              exact W.iret (v := 0) hx hb hr (fun t ht hW => ⟨⟨0, _, rfl, ⟨0, (bw (0) (3) (bkc (x := 0) (c := 0) (by decide)) (by decide)), (by have lm1 : Int32.toInt (-1) = -1 := (by decide); have l91 : Int32.toInt 1 = 1 := (by decide); have l92 : Int32.toInt 2 = 2 := (by decide); have l93 : Int32.toInt 3 = 3 := (by decide); have h90 : Int32.toInt 0 = 0 := (by decide); unfold qba; (repeat' split) <;> omega), rfl, rfl⟩, by rw [ht]; exact hP, hD⟩, hS.F ht⟩) hS.2.2 dX6_barrier_89
            · skip
              obtain ⟨hP, hD⟩ : vPD G A H [(ce_X6 ob ob_town ob_code ob_debts ob_deeds ob_knows ob_day ob_paid ob_follows), (ce_X7 ob_town ob_town_houses ob_town_fresh ob_town_introducers ob_town_x ob_town_y ob_town_rank ob_town_weekday ob_town_from ob_town_to ob_town_came ob_town_bride ob_town_told), (ce_i16 y ob_town_weekday fob_town_weekday), (ce_i16 y ob_town_came fob_town_came), (ce_i16 y ob_town_bride fob_town_bride), (ce_i16 y ob_knows fob_knows)] := ⟨hP, hD⟩
              refine lv_if_eq (tgt := 88) hx hb dX6_barrier_81 (by decide) (fun c9 => absurd c9 (by decide)) (fun _ => ?_)
              refine lv_iconst (v := 3) hx hb dX6_barrier_84 (by decide) ?_
              refine lv_goto (tgt := 89) hx hb dX6_barrier_85 (by decide) ?_
              exact W.iret (v := 3) hx hb hr (fun t ht hW => ⟨⟨3, _, rfl, ⟨3, (bw (0) (3) (bkc (x := 3) (c := 3) (by decide)) (by decide)), (by have lm1 : Int32.toInt (-1) = -1 := (by decide); have l91 : Int32.toInt 1 = 1 := (by decide); have l92 : Int32.toInt 2 = 2 := (by decide); have l93 : Int32.toInt 3 = 3 := (by decide); have h90 : Int32.toInt 3 = 3 := (by decide); unfold qba; (repeat' split) <;> omega), rfl, rfl⟩, by rw [ht]; exact hP, hD⟩, hS.F ht⟩) hS.2.2 dX6_barrier_89
          · skip
            have nc_1015 : v_1013.toInt ≠ v_1014.toInt := fun h9 => c_1015 (Int32.toInt_inj.mp h9)
            refine lv_iconst (v := 2) hx hb dX6_barrier_67 (by decide) ?_
            exact W.iret (v := 2) hx hb hr (fun t ht hW => ⟨⟨2, _, rfl, ⟨2, (bw (0) (3) (bkc (x := 2) (c := 2) (by decide)) (by decide)), (by have lm1 : Int32.toInt (-1) = -1 := (by decide); have l91 : Int32.toInt 1 = 1 := (by decide); have l92 : Int32.toInt 2 = 2 := (by decide); have l93 : Int32.toInt 3 = 3 := (by decide); have h90 : Int32.toInt 2 = 2 := (by decide); unfold qba; (repeat' split) <;> omega), rfl, rfl⟩, by rw [ht]; exact hP, hD⟩, hS.F ht⟩) hS.2.2 dX6_barrier_68
        · skip
          have nc_1012 := nb_nle (1) (2) c_1012 (btop a3) (bkc (x := 2) (c := 2) (by decide)) (by decide)
          refine lv_iconst (v := 0) hx hb dX6_barrier_46 (by decide) ?_
          exact W.iret (v := 0) hx hb hr (fun t ht hW => ⟨⟨0, _, rfl, ⟨0, (bw (0) (3) (bkc (x := 0) (c := 0) (by decide)) (by decide)), (by have lm1 : Int32.toInt (-1) = -1 := (by decide); have l91 : Int32.toInt 1 = 1 := (by decide); have l92 : Int32.toInt 2 = 2 := (by decide); have l93 : Int32.toInt 3 = 3 := (by decide); have h90 : Int32.toInt 0 = 0 := (by decide); unfold qba; (repeat' split) <;> omega), rfl, rfl⟩, by rw [ht]; exact hP, hD⟩, hS.F ht⟩) hS.2.2 dX6_barrier_47

set_option maxHeartbeats 4000000 in
set_option maxRecDepth 100000 in
theorem fX6_acquaint (l : Launch) (G : va_G) (y : Nat → ClassId) (sz : Nat) (o1 : Nat) (a2 : Int32) (a3 : Int32) (fo1 : Nat → Int32) (p_a2 : (0 : Int) ≤ a2.toInt ∧ a2.toInt ≤ 15) (p_a3 : (0 : Int) ≤ a3.toInt ∧ a3.toInt ≤ 15) (p_fo1 : ∀ i, (0 : Int) ≤ (fo1 i).toInt ∧ (fo1 i).toInt ≤ 65535) : Met l yX6_acquaint (Cond.code yX6_acquaint cX6_acquaint 3 none :: wAll) ({ frames := 0, cells := 0, slots := 0, locals := 0 }) (va_Pc [.ref o1, .int a2, .int a3] (kp G y sz [(ce_i16 y o1 fo1)])) (va_Qv (fun (w : va_W) => (∃ (f_17 : Nat → Int32), (∀ i, (0 : Int) ≤ (f_17 i).toInt ∧ (f_17 i).toInt ≤ 65535) ∧ (f_17 = kno fo1 a2.toInt.toNat a3.toInt.toNat a2.toInt a3.toInt) ∧ w = [(ce_i16 y o1 f_17)])) (kq G (va_A [(ce_i16 y o1 fo1)] sz)) (va_A [(ce_i16 y o1 fo1)] sz)) 0 0 (va_A [(ce_i16 y o1 fo1)] sz) := by
  refine Met.ofW (cc := cX6_acquaint) (maxL := 3) (ret := none) (by decide) rfl ?_
  intro p e s m args below meth c s₁ B hml hv
  obtain ⟨rfl, hsz, hP, hK, hD0⟩ := hv
  have hx := B.exec
  have hb := B.bytes
  have hr := B.returns
  have hw0 : ∀ w ∈ wAll, w.before _ s = true := fun w h => atoms_spec (ws := Cond.code yX6_acquaint cX6_acquaint 3 none :: wAll) B.pre w (List.mem_cons_of_mem _ h)
  have hown : s.vm.findClass RX6 = some m.cls := findClass_of_methodNamed B.named
  subst hsz
  have hD := hD0.self (sz := s.heap.size)
  generalize hAe : va_A [(ce_i16 y o1 fo1)] s.heap.size = A at hD ⊢
  have hA : ∀ q : Nat, s.heap.size ≤ q → A q := fun q h => by rw [← hAe]; exact Or.inr h
  have hS : va_S A s.heap s.heap [] := va_S.rf
  have hP : va_P G vwCl [(ce_i16 y o1 fo1)] s.heap := hP
  have hl := lv_entry ([.ref o1, .int a2, .int a3]) (n := 3) (Nat.le_of_ble_eq_true rfl)
  rw [lg_entry_eq]
  generalize (lg_sl ([.ref o1, .int a2, .int a3]) ++ List.replicate (3 - (lg_sl ([.ref o1, .int a2, .int a3])).length) Slot.unset).toArray = ls at hl ⊢
  have hl : lv_has ls 3 [(0, .ref o1), (1, .int a2), (2, .int a3)] := hl
  refine lv_aload_n hx hb dX6_acquaint_0 rfl (lv_at hl 0 rfl) ?_
  refine lv_iload_n hx hb dX6_acquaint_1 rfl (lv_at hl 1 rfl) ?_
  refine lv_dup2_11 hx hb dX6_acquaint_2 rfl rfl ?_
  refine va_iald hx hb hK.1 hP 0 1 rfl rfl (vi p_a2 (by decide)) dX6_acquaint_3 ?_
  refine lv_topi (fun v_1001 ev_1001 => ?_)
  have bv_1001 : (0 : Int) ≤ v_1001.toInt ∧ v_1001.toInt ≤ 65535 := rd_b ev_1001 p_fo1
  refine lv_iconst (v := 1) hx hb dX6_acquaint_4 (by decide) ?_
  refine lv_iload_n hx hb dX6_acquaint_5 rfl (lv_at hl 2 rfl) ?_
  refine lv_ishl hx hb dX6_acquaint_6 ?_
  refine lv_topi (fun v_1002 ev_1002 => ?_)
  have bv_1002 : (1 : Int) ≤ v_1002.toInt ∧ v_1002.toInt ≤ 32768 := ba_shl 0 15 ev_1002 p_a3 (by decide)
  refine lv_ior hx hb dX6_acquaint_7 ?_
  refine lv_topi (fun v_1003 ev_1003 => ?_)
  have bv_1003 : (0 : Int) ≤ v_1003.toInt ∧ v_1003.toInt ≤ 65535 := ba_or 16 ev_1003 bv_1001 bv_1002 (by decide)
  refine va_iast hx hb hK.1 hP hD hS 0 1 rfl rfl (vi p_a2 (by decide)) dX6_acquaint_8 (fun H locs hP hD hS => ?_)
  generalize hf_1004 : (upd fo1 (a2 : Int32).toNatClampNeg v_1003) = f_1004 at hP hD
  have bf_1004 : ∀ i, (0 : Int) ≤ (f_1004 i).toInt ∧ (f_1004 i).toInt ≤ 65535 := hf_1004 ▸ up_b p_fo1 bv_1003
  obtain ⟨hP, hD⟩ : vPD G A H [(ce_i16 y o1 f_1004)] := ⟨hP, hD⟩
  refine lv_aload_n hx hb dX6_acquaint_9 rfl (lv_at hl 0 rfl) ?_
  refine lv_iload_n hx hb dX6_acquaint_10 rfl (lv_at hl 2 rfl) ?_
  refine lv_dup2_11 hx hb dX6_acquaint_11 rfl rfl ?_
  refine va_iald hx hb hK.1 hP 0 1 rfl rfl (vi p_a3 (by decide)) dX6_acquaint_12 ?_
  refine lv_topi (fun v_1005 ev_1005 => ?_)
  have bv_1005 : (0 : Int) ≤ v_1005.toInt ∧ v_1005.toInt ≤ 65535 := rd_b ev_1005 bf_1004
  refine lv_iconst (v := 1) hx hb dX6_acquaint_13 (by decide) ?_
  refine lv_iload_n hx hb dX6_acquaint_14 rfl (lv_at hl 1 rfl) ?_
  refine lv_ishl hx hb dX6_acquaint_15 ?_
  refine lv_topi (fun v_1006 ev_1006 => ?_)
  have bv_1006 : (1 : Int) ≤ v_1006.toInt ∧ v_1006.toInt ≤ 32768 := ba_shl 0 15 ev_1006 p_a2 (by decide)
  refine lv_ior hx hb dX6_acquaint_16 ?_
  refine lv_topi (fun v_1007 ev_1007 => ?_)
  have bv_1007 : (0 : Int) ≤ v_1007.toInt ∧ v_1007.toInt ≤ 65535 := ba_or 16 ev_1007 bv_1005 bv_1006 (by decide)
  refine va_iast hx hb hK.1 hP hD hS 0 1 rfl rfl (vi p_a3 (by decide)) dX6_acquaint_17 (fun H locs hP hD hS => ?_)
  generalize hf_1008 : (upd f_1004 (a3 : Int32).toNatClampNeg v_1007) = f_1008 at hP hD
  have bf_1008 : ∀ i, (0 : Int) ≤ (f_1008 i).toInt ∧ (f_1008 i).toInt ≤ 65535 := hf_1008 ▸ up_b bf_1004 bv_1007
  obtain ⟨hP, hD⟩ : vPD G A H [(ce_i16 y o1 f_1008)] := ⟨hP, hD⟩
  exact W.vret hx hb hr (fun t ht hW => ⟨⟨_, rfl, ⟨f_1008, bf_1008, (by have lm1 : Int32.toInt (-1) = -1 := (by decide); have l91 : Int32.toInt 1 = 1 := (by decide); have l92 : Int32.toInt 2 = 2 := (by decide); have l93 : Int32.toInt 3 = 3 := (by decide); exact kno_e hf_1004 hf_1008 ev_1003 ev_1007 ev_1001 ev_1005 ev_1002 ev_1006 (by omega) (by omega) rfl rfl), rfl⟩, by rw [ht]; exact hP, hD⟩, hS.F ht⟩) hS.2.2 dX6_acquaint_18

set_option maxHeartbeats 4000000 in
set_option maxRecDepth 100000 in
theorem fX2_add (l : Launch) (G : va_G) (y : Nat → ClassId) (sz : Nat) (ob : Nat) (a1 : Int32) (a2 : Int32) (a3 : Int32) (a4 : Int32) (ob_size : Int32) (ob_who : Nat) (ob_whom : Nat) (ob_what : Nat) (ob_day : Nat) (fob_who : Nat → Int32) (fob_whom : Nat → Int32) (fob_what : Nat → Int32) (fob_day : Nat → Int32) (p_ob_size : (0 : Int) ≤ ob_size.toInt ∧ ob_size.toInt ≤ 600) (p_fob_who : ∀ i, (0 : Int) ≤ (fob_who i).toInt ∧ (fob_who i).toInt ≤ 15) (p_fob_whom : ∀ i, (0 : Int) ≤ (fob_whom i).toInt ∧ (fob_whom i).toInt ≤ 15) (p_a1 : (0 : Int) ≤ a1.toInt ∧ a1.toInt ≤ 15) (p_a2 : (0 : Int) ≤ a2.toInt ∧ a2.toInt ≤ 15) (hq0 : ob_size.toInt ≤ 599) : Met l yX2_add (Cond.code yX2_add cX2_add 5 none :: wAll) ({ frames := 0, cells := 0, slots := 0, locals := 0 }) (va_Pc [.ref ob, .int a1, .int a2, .int a3, .int a4] (kp G y sz [(ce_X2 ob ob_size ob_who ob_whom ob_what ob_day), (ce_i600 y ob_who fob_who), (ce_i600 y ob_whom fob_whom), (ce_i600 y ob_what fob_what), (ce_i600 y ob_day fob_day)])) (va_Qv (fun (w : va_W) => (∃ (v_13 : Int32) (f_14 : Nat → Int32) (f_15 : Nat → Int32) (f_16 : Nat → Int32) (f_17 : Nat → Int32), ((1 : Int) ≤ v_13.toInt ∧ v_13.toInt ≤ 600) ∧ (∀ i, (0 : Int) ≤ (f_14 i).toInt ∧ (f_14 i).toInt ≤ 15) ∧ (∀ i, (0 : Int) ≤ (f_15 i).toInt ∧ (f_15 i).toInt ≤ 15) ∧ (f_14 = upd fob_who ob_size.toInt.toNat a1) ∧ (f_15 = upd fob_whom ob_size.toInt.toNat a2) ∧ (f_16 = upd fob_what ob_size.toInt.toNat a3) ∧ (f_17 = upd fob_day ob_size.toInt.toNat a4) ∧ (v_13 = ob_size + 1) ∧ w = [(ce_X2 ob v_13 ob_who ob_whom ob_what ob_day), (ce_i600 y ob_who f_14), (ce_i600 y ob_whom f_15), (ce_i600 y ob_what f_16), (ce_i600 y ob_day f_17)])) (kq G (va_A [(ce_X2 ob ob_size ob_who ob_whom ob_what ob_day), (ce_i600 y ob_who fob_who), (ce_i600 y ob_whom fob_whom), (ce_i600 y ob_what fob_what), (ce_i600 y ob_day fob_day)] sz)) (va_A [(ce_X2 ob ob_size ob_who ob_whom ob_what ob_day), (ce_i600 y ob_who fob_who), (ce_i600 y ob_whom fob_whom), (ce_i600 y ob_what fob_what), (ce_i600 y ob_day fob_day)] sz)) 0 0 (va_A [(ce_X2 ob ob_size ob_who ob_whom ob_what ob_day), (ce_i600 y ob_who fob_who), (ce_i600 y ob_whom fob_whom), (ce_i600 y ob_what fob_what), (ce_i600 y ob_day fob_day)] sz) := by
  refine Met.ofW (cc := cX2_add) (maxL := 5) (ret := none) (by decide) rfl ?_
  intro p e s m args below meth c s₁ B hml hv
  obtain ⟨rfl, hsz, hP, hK, hD0⟩ := hv
  have hx := B.exec
  have hb := B.bytes
  have hr := B.returns
  have hw0 : ∀ w ∈ wAll, w.before _ s = true := fun w h => atoms_spec (ws := Cond.code yX2_add cX2_add 5 none :: wAll) B.pre w (List.mem_cons_of_mem _ h)
  have hown : s.vm.findClass RX2 = some m.cls := findClass_of_methodNamed B.named
  subst hsz
  have hD := hD0.self (sz := s.heap.size)
  generalize hAe : va_A [(ce_X2 ob ob_size ob_who ob_whom ob_what ob_day), (ce_i600 y ob_who fob_who), (ce_i600 y ob_whom fob_whom), (ce_i600 y ob_what fob_what), (ce_i600 y ob_day fob_day)] s.heap.size = A at hD ⊢
  have hA : ∀ q : Nat, s.heap.size ≤ q → A q := fun q h => by rw [← hAe]; exact Or.inr h
  have hS : va_S A s.heap s.heap [] := va_S.rf
  have hP : va_P G vwCl [(ce_X2 ob ob_size ob_who ob_whom ob_what ob_day), (ce_i600 y ob_who fob_who), (ce_i600 y ob_whom fob_whom), (ce_i600 y ob_what fob_what), (ce_i600 y ob_day fob_day)] s.heap := hP
  have hl := lv_entry ([.ref ob, .int a1, .int a2, .int a3, .int a4]) (n := 5) (Nat.le_of_ble_eq_true rfl)
  rw [lg_entry_eq]
  generalize (lg_sl ([.ref ob, .int a1, .int a2, .int a3, .int a4]) ++ List.replicate (5 - (lg_sl ([.ref ob, .int a1, .int a2, .int a3, .int a4])).length) Slot.unset).toArray = ls at hl ⊢
  have hl : lv_has ls 5 [(0, .ref ob), (1, .int a1), (2, .int a2), (3, .int a3), (4, .int a4)] := hl
  refine lv_aload_n hx hb dX2_add_0 rfl (lv_at hl 0 rfl) ?_
  refine va_get (D := G) (ci := 2) (v := .int ob_size) (C := RX2) (T := TX2) (N := 5) hx hb hw0 inA_wsX20 hown hK.1 hP 0 rfl rfl 0 (by decide) (hw0 _ m_702) (fun _ h9 => h9) rfl dX2_add_1 ?_
  refine lv_sipush (v := 600) hx hb dX2_add_4 (by decide) ?_
  refine lv_icmp_ge (tgt := 61) hx hb dX2_add_7 (by decide) (fun c_1001 => ?_) (fun c_1001 => ?_)
  · skip
    have nc_1001 := nb_le (600) (600) c_1001 (bkc (x := 600) (c := 600) (by decide)) p_ob_size (by decide)
    exact W.vret hx hb hr (fun t ht hW => ⟨⟨_, rfl, ⟨ob_size, fob_who, fob_whom, fob_what, fob_day, (bw (1) (600) nc_1001.2.1 (by decide)), p_fob_who, p_fob_whom, (by have lm1 : Int32.toInt (-1) = -1 := (by decide); have l91 : Int32.toInt 1 = 1 := (by decide); have l92 : Int32.toInt 2 = 2 := (by decide); have l93 : Int32.toInt 3 = 3 := (by decide); exact False.elim (by omega)), (by have lm1 : Int32.toInt (-1) = -1 := (by decide); have l91 : Int32.toInt 1 = 1 := (by decide); have l92 : Int32.toInt 2 = 2 := (by decide); have l93 : Int32.toInt 3 = 3 := (by decide); exact False.elim (by omega)), (by have lm1 : Int32.toInt (-1) = -1 := (by decide); have l91 : Int32.toInt 1 = 1 := (by decide); have l92 : Int32.toInt 2 = 2 := (by decide); have l93 : Int32.toInt 3 = 3 := (by decide); exact False.elim (by omega)), (by have lm1 : Int32.toInt (-1) = -1 := (by decide); have l91 : Int32.toInt 1 = 1 := (by decide); have l92 : Int32.toInt 2 = 2 := (by decide); have l93 : Int32.toInt 3 = 3 := (by decide); exact False.elim (by omega)), by first | assumption | exact False.elim (by omega), rfl⟩, by rw [ht]; exact hP, hD⟩, hS.F ht⟩) hS.2.2 dX2_add_61
  · skip
    have nc_1001 := nb_nle (599) (600) c_1001 p_ob_size (bkc (x := 600) (c := 600) (by decide)) (by decide)
    refine lv_aload_n hx hb dX2_add_10 rfl (lv_at hl 0 rfl) ?_
    refine va_get (D := G) (ci := 2) (v := .ref ob_who) (C := RX2) (T := TX2) (N := 5) hx hb hw0 inA_wsX20 hown hK.1 hP 0 rfl rfl 1 (by decide) (hw0 _ m_703) (fun _ h9 => h9) rfl dX2_add_11 ?_
    refine lv_aload_n hx hb dX2_add_14 rfl (lv_at hl 0 rfl) ?_
    refine va_get (D := G) (ci := 2) (v := .int ob_size) (C := RX2) (T := TX2) (N := 5) hx hb hw0 inA_wsX20 hown hK.1 hP 0 rfl rfl 0 (by decide) (hw0 _ m_702) (fun _ h9 => h9) rfl dX2_add_15 ?_
    refine lv_iload_n hx hb dX2_add_18 rfl (lv_at hl 1 rfl) ?_
    refine va_iast hx hb hK.1 hP hD hS 1 1 rfl rfl (vi nc_1001.1 (by decide)) dX2_add_19 (fun H locs hP hD hS => ?_)
    generalize hf_1002 : (upd fob_who (ob_size : Int32).toNatClampNeg a1) = f_1002 at hP hD
    have bf_1002 : ∀ i, (0 : Int) ≤ (f_1002 i).toInt ∧ (f_1002 i).toInt ≤ 15 := hf_1002 ▸ up_b p_fob_who p_a1
    obtain ⟨hP, hD⟩ : vPD G A H [(ce_X2 ob ob_size ob_who ob_whom ob_what ob_day), (ce_i600 y ob_who f_1002), (ce_i600 y ob_whom fob_whom), (ce_i600 y ob_what fob_what), (ce_i600 y ob_day fob_day)] := ⟨hP, hD⟩
    refine lv_aload_n hx hb dX2_add_20 rfl (lv_at hl 0 rfl) ?_
    refine va_get (D := G) (ci := 2) (v := .ref ob_whom) (C := RX2) (T := TX2) (N := 5) hx hb hw0 inA_wsX20 hown hK.1 hP 0 rfl rfl 2 (by decide) (hw0 _ m_704) (fun _ h9 => h9) rfl dX2_add_21 ?_
    refine lv_aload_n hx hb dX2_add_24 rfl (lv_at hl 0 rfl) ?_
    refine va_get (D := G) (ci := 2) (v := .int ob_size) (C := RX2) (T := TX2) (N := 5) hx hb hw0 inA_wsX20 hown hK.1 hP 0 rfl rfl 0 (by decide) (hw0 _ m_702) (fun _ h9 => h9) rfl dX2_add_25 ?_
    refine lv_iload_n hx hb dX2_add_28 rfl (lv_at hl 2 rfl) ?_
    refine va_iast hx hb hK.1 hP hD hS 2 1 rfl rfl (vi nc_1001.1 (by decide)) dX2_add_29 (fun H locs hP hD hS => ?_)
    generalize hf_1003 : (upd fob_whom (ob_size : Int32).toNatClampNeg a2) = f_1003 at hP hD
    have bf_1003 : ∀ i, (0 : Int) ≤ (f_1003 i).toInt ∧ (f_1003 i).toInt ≤ 15 := hf_1003 ▸ up_b p_fob_whom p_a2
    obtain ⟨hP, hD⟩ : vPD G A H [(ce_X2 ob ob_size ob_who ob_whom ob_what ob_day), (ce_i600 y ob_who f_1002), (ce_i600 y ob_whom f_1003), (ce_i600 y ob_what fob_what), (ce_i600 y ob_day fob_day)] := ⟨hP, hD⟩
    refine lv_aload_n hx hb dX2_add_30 rfl (lv_at hl 0 rfl) ?_
    refine va_get (D := G) (ci := 2) (v := .ref ob_what) (C := RX2) (T := TX2) (N := 5) hx hb hw0 inA_wsX20 hown hK.1 hP 0 rfl rfl 3 (by decide) (hw0 _ m_705) (fun _ h9 => h9) rfl dX2_add_31 ?_
    refine lv_aload_n hx hb dX2_add_34 rfl (lv_at hl 0 rfl) ?_
    refine va_get (D := G) (ci := 2) (v := .int ob_size) (C := RX2) (T := TX2) (N := 5) hx hb hw0 inA_wsX20 hown hK.1 hP 0 rfl rfl 0 (by decide) (hw0 _ m_702) (fun _ h9 => h9) rfl dX2_add_35 ?_
    refine lv_iload_n hx hb dX2_add_38 rfl (lv_at hl 3 rfl) ?_
    refine va_iast hx hb hK.1 hP hD hS 3 1 rfl rfl (vi nc_1001.1 (by decide)) dX2_add_39 (fun H locs hP hD hS => ?_)
    generalize hf_1004 : (upd fob_what (ob_size : Int32).toNatClampNeg a3) = f_1004 at hP hD
    obtain ⟨hP, hD⟩ : vPD G A H [(ce_X2 ob ob_size ob_who ob_whom ob_what ob_day), (ce_i600 y ob_who f_1002), (ce_i600 y ob_whom f_1003), (ce_i600 y ob_what f_1004), (ce_i600 y ob_day fob_day)] := ⟨hP, hD⟩
    refine lv_aload_n hx hb dX2_add_40 rfl (lv_at hl 0 rfl) ?_
    refine va_get (D := G) (ci := 2) (v := .ref ob_day) (C := RX2) (T := TX2) (N := 5) hx hb hw0 inA_wsX20 hown hK.1 hP 0 rfl rfl 4 (by decide) (hw0 _ m_706) (fun _ h9 => h9) rfl dX2_add_41 ?_
    refine lv_aload_n hx hb dX2_add_44 rfl (lv_at hl 0 rfl) ?_
    refine va_get (D := G) (ci := 2) (v := .int ob_size) (C := RX2) (T := TX2) (N := 5) hx hb hw0 inA_wsX20 hown hK.1 hP 0 rfl rfl 0 (by decide) (hw0 _ m_702) (fun _ h9 => h9) rfl dX2_add_45 ?_
    refine lv_iload hx hb dX2_add_48 (lv_at hl 4 rfl) ?_
    refine va_iast hx hb hK.1 hP hD hS 4 1 rfl rfl (vi nc_1001.1 (by decide)) dX2_add_50 (fun H locs hP hD hS => ?_)
    generalize hf_1005 : (upd fob_day (ob_size : Int32).toNatClampNeg a4) = f_1005 at hP hD
    obtain ⟨hP, hD⟩ : vPD G A H [(ce_X2 ob ob_size ob_who ob_whom ob_what ob_day), (ce_i600 y ob_who f_1002), (ce_i600 y ob_whom f_1003), (ce_i600 y ob_what f_1004), (ce_i600 y ob_day f_1005)] := ⟨hP, hD⟩
    refine lv_aload_n hx hb dX2_add_51 rfl (lv_at hl 0 rfl) ?_
    refine lv_dup hx hb dX2_add_52 rfl ?_
    refine va_get (D := G) (ci := 2) (v := .int ob_size) (C := RX2) (T := TX2) (N := 5) hx hb hw0 inA_wsX20 hown hK.1 hP 0 rfl rfl 0 (by decide) (hw0 _ m_702) (fun _ h9 => h9) rfl dX2_add_53 ?_
    refine lv_iconst (v := 1) hx hb dX2_add_56 (by decide) ?_
    refine lv_iadd hx hb dX2_add_57 ?_
    refine lv_topi (fun v_1006 ev_1006 => ?_)
    have qv_1006 := ba_add ev_1006 nc_1001.1 (bkc (x := 1) (c := 1) (by decide)) (by decide)
    have bv_1006 : (1 : Int) ≤ v_1006.toInt ∧ v_1006.toInt ≤ 600 := bq_add qv_1006 nc_1001.1 (bkc (x := 1) (c := 1) (by decide)) _ _ (by decide)
    have qv_1006 : v_1006.toInt = ob_size.toInt + (1) := qv_1006
    refine va_put (D := G) (ci := 2) (v := .int v_1006) (ty := .int) (C := RX2) (T := TX2) (N := 5) hx hb hw0 inA_wsX20 tyX2 tyX2_ok nmX2 hown hK.1 hP hD hS 0 rfl rfl 0 (by decide) (hw0 _ m_702) (fun _ h9 => h9) rfl fd_X2_0 rfl rfl (Nat.le_of_ble_eq_true rfl) dX2_add_58 (fun H locs hP hD hS => ?_)
    obtain ⟨hP, hD⟩ : vPD G A H [(ce_X2 ob v_1006 ob_who ob_whom ob_what ob_day), (ce_i600 y ob_who f_1002), (ce_i600 y ob_whom f_1003), (ce_i600 y ob_what f_1004), (ce_i600 y ob_day f_1005)] := ⟨hP, hD⟩
    exact W.vret hx hb hr (fun t ht hW => ⟨⟨_, rfl, ⟨v_1006, f_1002, f_1003, f_1004, f_1005, bv_1006, bf_1002, bf_1003, upd_v hf_1002 (by omega), upd_v hf_1003 (by omega), upd_v hf_1004 (by omega), upd_v hf_1005 (by omega), by first | assumption | exact False.elim (by omega), rfl⟩, by rw [ht]; exact hP, hD⟩, hS.F ht⟩) hS.2.2 dX2_add_61

set_option maxHeartbeats 4000000 in
set_option maxRecDepth 100000 in
theorem fX6_chance (l : Launch) (G : va_G) (y : Nat → ClassId) (sz : Nat) (ob : Nat) (a1 : Int32) (a2 : Int32) (ob_town : Nat) (ob_code : Nat) (ob_debts : Nat) (ob_deeds : Nat) (ob_knows : Nat) (ob_day : Int32) (ob_paid : Int32) (ob_follows : Nat) (ob_town_houses : Int32) (ob_town_fresh : Int32) (ob_town_introducers : Int32) (ob_town_x : Nat) (ob_town_y : Nat) (ob_town_rank : Nat) (ob_town_weekday : Nat) (ob_town_from : Nat) (ob_town_to : Nat) (ob_town_came : Nat) (ob_town_bride : Nat) (ob_town_told : Nat) (fob_town_x : Nat → Int32) (fob_town_y : Nat → Int32) (fob_town_rank : Nat → Int32) (fob_town_weekday : Nat → Int32) (fob_town_from : Nat → Int32) (fob_town_to : Nat → Int32) (fob_town_came : Nat → Int32) (fob_town_bride : Nat → Int32) (fob_town_told : Nat → Int32) (ob_deeds_size : Int32) (ob_deeds_who : Nat) (ob_deeds_whom : Nat) (ob_deeds_what : Nat) (ob_deeds_day : Nat) (fob_deeds_who : Nat → Int32) (fob_deeds_whom : Nat → Int32) (fob_deeds_what : Nat → Int32) (fob_deeds_day : Nat → Int32) (fob_knows : Nat → Int32) (p_ob_town_houses : (0 : Int) ≤ ob_town_houses.toInt ∧ ob_town_houses.toInt ≤ 16) (p_fob_town_came : ∀ i, (0 : Int) ≤ (fob_town_came i).toInt ∧ (fob_town_came i).toInt ≤ 399) (p_fob_town_told : ∀ i, (0 : Int) ≤ (fob_town_told i).toInt ∧ (fob_town_told i).toInt ≤ 65535) (p_ob_deeds_size : (0 : Int) ≤ ob_deeds_size.toInt ∧ ob_deeds_size.toInt ≤ 600) (p_fob_deeds_who : ∀ i, (0 : Int) ≤ (fob_deeds_who i).toInt ∧ (fob_deeds_who i).toInt ≤ 15) (p_fob_deeds_whom : ∀ i, (0 : Int) ≤ (fob_deeds_whom i).toInt ∧ (fob_deeds_whom i).toInt ≤ 15) (p_fob_knows : ∀ i, (0 : Int) ≤ (fob_knows i).toInt ∧ (fob_knows i).toInt ≤ 65535) (p_ob_day : (0 : Int) ≤ ob_day.toInt ∧ ob_day.toInt ≤ 399) (p_a1 : (0 : Int) ≤ a1.toInt ∧ a1.toInt ≤ 15) (p_a2 : (0 : Int) ≤ a2.toInt ∧ a2.toInt ≤ 15) (hq0 : ob_deeds_size.toInt ≤ 599) : Met l yX6_chance (Cond.code yX6_chance cX6_chance 4 (some .int) :: wAll) ({ frames := 1, cells := 0, slots := 0, locals := 24 }) (va_Pc [.ref ob, .int a1, .int a2] (kp G y sz [(ce_X6 ob ob_town ob_code ob_debts ob_deeds ob_knows ob_day ob_paid ob_follows), (ce_X7 ob_town ob_town_houses ob_town_fresh ob_town_introducers ob_town_x ob_town_y ob_town_rank ob_town_weekday ob_town_from ob_town_to ob_town_came ob_town_bride ob_town_told), (ce_i16 y ob_town_x fob_town_x), (ce_i16 y ob_town_y fob_town_y), (ce_i16 y ob_town_rank fob_town_rank), (ce_i16 y ob_town_weekday fob_town_weekday), (ce_i16 y ob_town_from fob_town_from), (ce_i16 y ob_town_to fob_town_to), (ce_i16 y ob_town_came fob_town_came), (ce_i16 y ob_town_bride fob_town_bride), (ce_i16 y ob_town_told fob_town_told), (ce_X2 ob_deeds ob_deeds_size ob_deeds_who ob_deeds_whom ob_deeds_what ob_deeds_day), (ce_i600 y ob_deeds_who fob_deeds_who), (ce_i600 y ob_deeds_whom fob_deeds_whom), (ce_i600 y ob_deeds_what fob_deeds_what), (ce_i600 y ob_deeds_day fob_deeds_day), (ce_i16 y ob_knows fob_knows)])) (va_Qi (fun (r : Int32) (w : va_W) => (∃ (v_37 : Int32) (v_38 : Int32) (f_39 : Nat → Int32) (f_40 : Nat → Int32) (f_41 : Nat → Int32) (f_42 : Nat → Int32) (f_43 : Nat → Int32), ((0 : Int) ≤ v_37.toInt ∧ v_37.toInt ≤ 1) ∧ ((1 : Int) ≤ v_38.toInt ∧ v_38.toInt ≤ 600) ∧ (∀ i, (0 : Int) ≤ (f_39 i).toInt ∧ (f_39 i).toInt ≤ 15) ∧ (∀ i, (0 : Int) ≤ (f_40 i).toInt ∧ (f_40 i).toInt ≤ 15) ∧ (∀ i, (0 : Int) ≤ (f_43 i).toInt ∧ (f_43 i).toInt ≤ 65535) ∧ (∀ g : Nat → Int32, sdt g ob_town_houses ob_town_fresh ob_town_introducers ob_day ob_deeds_size fob_town_x fob_town_y fob_town_rank fob_town_weekday fob_town_from fob_town_to fob_town_came fob_town_bride fob_town_told fob_knows fob_deeds_who fob_deeds_whom fob_deeds_what fob_deeds_day → sdt (gdo g a1.toInt a2.toInt 4) ob_town_houses ob_town_fresh ob_town_introducers ob_day v_38 fob_town_x fob_town_y fob_town_rank fob_town_weekday fob_town_from fob_town_to fob_town_came fob_town_bride fob_town_told f_43 f_39 f_40 f_41 f_42) ∧ ((v_37 : Int32).toInt = 1 - qk fob_knows a1.toInt a2.toInt) ∧ r = v_37 ∧ w = [(ce_X6 ob ob_town ob_code ob_debts ob_deeds ob_knows ob_day ob_paid ob_follows), (ce_X7 ob_town ob_town_houses ob_town_fresh ob_town_introducers ob_town_x ob_town_y ob_town_rank ob_town_weekday ob_town_from ob_town_to ob_town_came ob_town_bride ob_town_told), (ce_i16 y ob_town_x fob_town_x), (ce_i16 y ob_town_y fob_town_y), (ce_i16 y ob_town_rank fob_town_rank), (ce_i16 y ob_town_weekday fob_town_weekday), (ce_i16 y ob_town_from fob_town_from), (ce_i16 y ob_town_to fob_town_to), (ce_i16 y ob_town_came fob_town_came), (ce_i16 y ob_town_bride fob_town_bride), (ce_i16 y ob_town_told fob_town_told), (ce_X2 ob_deeds v_38 ob_deeds_who ob_deeds_whom ob_deeds_what ob_deeds_day), (ce_i600 y ob_deeds_who f_39), (ce_i600 y ob_deeds_whom f_40), (ce_i600 y ob_deeds_what f_41), (ce_i600 y ob_deeds_day f_42), (ce_i16 y ob_knows f_43)])) (kq G (va_A [(ce_X6 ob ob_town ob_code ob_debts ob_deeds ob_knows ob_day ob_paid ob_follows), (ce_X7 ob_town ob_town_houses ob_town_fresh ob_town_introducers ob_town_x ob_town_y ob_town_rank ob_town_weekday ob_town_from ob_town_to ob_town_came ob_town_bride ob_town_told), (ce_i16 y ob_town_x fob_town_x), (ce_i16 y ob_town_y fob_town_y), (ce_i16 y ob_town_rank fob_town_rank), (ce_i16 y ob_town_weekday fob_town_weekday), (ce_i16 y ob_town_from fob_town_from), (ce_i16 y ob_town_to fob_town_to), (ce_i16 y ob_town_came fob_town_came), (ce_i16 y ob_town_bride fob_town_bride), (ce_i16 y ob_town_told fob_town_told), (ce_X2 ob_deeds ob_deeds_size ob_deeds_who ob_deeds_whom ob_deeds_what ob_deeds_day), (ce_i600 y ob_deeds_who fob_deeds_who), (ce_i600 y ob_deeds_whom fob_deeds_whom), (ce_i600 y ob_deeds_what fob_deeds_what), (ce_i600 y ob_deeds_day fob_deeds_day), (ce_i16 y ob_knows fob_knows)] sz)) (va_A [(ce_X6 ob ob_town ob_code ob_debts ob_deeds ob_knows ob_day ob_paid ob_follows), (ce_X7 ob_town ob_town_houses ob_town_fresh ob_town_introducers ob_town_x ob_town_y ob_town_rank ob_town_weekday ob_town_from ob_town_to ob_town_came ob_town_bride ob_town_told), (ce_i16 y ob_town_x fob_town_x), (ce_i16 y ob_town_y fob_town_y), (ce_i16 y ob_town_rank fob_town_rank), (ce_i16 y ob_town_weekday fob_town_weekday), (ce_i16 y ob_town_from fob_town_from), (ce_i16 y ob_town_to fob_town_to), (ce_i16 y ob_town_came fob_town_came), (ce_i16 y ob_town_bride fob_town_bride), (ce_i16 y ob_town_told fob_town_told), (ce_X2 ob_deeds ob_deeds_size ob_deeds_who ob_deeds_whom ob_deeds_what ob_deeds_day), (ce_i600 y ob_deeds_who fob_deeds_who), (ce_i600 y ob_deeds_whom fob_deeds_whom), (ce_i600 y ob_deeds_what fob_deeds_what), (ce_i600 y ob_deeds_day fob_deeds_day), (ce_i16 y ob_knows fob_knows)] sz)) 0 0 (va_A [(ce_X6 ob ob_town ob_code ob_debts ob_deeds ob_knows ob_day ob_paid ob_follows), (ce_X7 ob_town ob_town_houses ob_town_fresh ob_town_introducers ob_town_x ob_town_y ob_town_rank ob_town_weekday ob_town_from ob_town_to ob_town_came ob_town_bride ob_town_told), (ce_i16 y ob_town_x fob_town_x), (ce_i16 y ob_town_y fob_town_y), (ce_i16 y ob_town_rank fob_town_rank), (ce_i16 y ob_town_weekday fob_town_weekday), (ce_i16 y ob_town_from fob_town_from), (ce_i16 y ob_town_to fob_town_to), (ce_i16 y ob_town_came fob_town_came), (ce_i16 y ob_town_bride fob_town_bride), (ce_i16 y ob_town_told fob_town_told), (ce_X2 ob_deeds ob_deeds_size ob_deeds_who ob_deeds_whom ob_deeds_what ob_deeds_day), (ce_i600 y ob_deeds_who fob_deeds_who), (ce_i600 y ob_deeds_whom fob_deeds_whom), (ce_i600 y ob_deeds_what fob_deeds_what), (ce_i600 y ob_deeds_day fob_deeds_day), (ce_i16 y ob_knows fob_knows)] sz) := by
  refine Met.ofW (cc := cX6_chance) (maxL := 4) (ret := (some .int)) (by decide) rfl ?_
  intro p e s m args below meth c s₁ B hml hv
  obtain ⟨rfl, hsz, hP, hK, hD0⟩ := hv
  have hx := B.exec
  have hb := B.bytes
  have hr := B.returns
  have hw0 : ∀ w ∈ wAll, w.before _ s = true := fun w h => atoms_spec (ws := Cond.code yX6_chance cX6_chance 4 (some .int) :: wAll) B.pre w (List.mem_cons_of_mem _ h)
  have hown : s.vm.findClass RX6 = some m.cls := findClass_of_methodNamed B.named
  subst hsz
  have hD := hD0.self (sz := s.heap.size)
  generalize hAe : va_A [(ce_X6 ob ob_town ob_code ob_debts ob_deeds ob_knows ob_day ob_paid ob_follows), (ce_X7 ob_town ob_town_houses ob_town_fresh ob_town_introducers ob_town_x ob_town_y ob_town_rank ob_town_weekday ob_town_from ob_town_to ob_town_came ob_town_bride ob_town_told), (ce_i16 y ob_town_x fob_town_x), (ce_i16 y ob_town_y fob_town_y), (ce_i16 y ob_town_rank fob_town_rank), (ce_i16 y ob_town_weekday fob_town_weekday), (ce_i16 y ob_town_from fob_town_from), (ce_i16 y ob_town_to fob_town_to), (ce_i16 y ob_town_came fob_town_came), (ce_i16 y ob_town_bride fob_town_bride), (ce_i16 y ob_town_told fob_town_told), (ce_X2 ob_deeds ob_deeds_size ob_deeds_who ob_deeds_whom ob_deeds_what ob_deeds_day), (ce_i600 y ob_deeds_who fob_deeds_who), (ce_i600 y ob_deeds_whom fob_deeds_whom), (ce_i600 y ob_deeds_what fob_deeds_what), (ce_i600 y ob_deeds_day fob_deeds_day), (ce_i16 y ob_knows fob_knows)] s.heap.size = A at hD ⊢
  have hA : ∀ q : Nat, s.heap.size ≤ q → A q := fun q h => by rw [← hAe]; exact Or.inr h
  have hS : va_S A s.heap s.heap [] := va_S.rf
  have hP : va_P G vwCl [(ce_X6 ob ob_town ob_code ob_debts ob_deeds ob_knows ob_day ob_paid ob_follows), (ce_X7 ob_town ob_town_houses ob_town_fresh ob_town_introducers ob_town_x ob_town_y ob_town_rank ob_town_weekday ob_town_from ob_town_to ob_town_came ob_town_bride ob_town_told), (ce_i16 y ob_town_x fob_town_x), (ce_i16 y ob_town_y fob_town_y), (ce_i16 y ob_town_rank fob_town_rank), (ce_i16 y ob_town_weekday fob_town_weekday), (ce_i16 y ob_town_from fob_town_from), (ce_i16 y ob_town_to fob_town_to), (ce_i16 y ob_town_came fob_town_came), (ce_i16 y ob_town_bride fob_town_bride), (ce_i16 y ob_town_told fob_town_told), (ce_X2 ob_deeds ob_deeds_size ob_deeds_who ob_deeds_whom ob_deeds_what ob_deeds_day), (ce_i600 y ob_deeds_who fob_deeds_who), (ce_i600 y ob_deeds_whom fob_deeds_whom), (ce_i600 y ob_deeds_what fob_deeds_what), (ce_i600 y ob_deeds_day fob_deeds_day), (ce_i16 y ob_knows fob_knows)] s.heap := hP
  have hl := lv_entry ([.ref ob, .int a1, .int a2]) (n := 4) (Nat.le_of_ble_eq_true rfl)
  rw [lg_entry_eq]
  generalize (lg_sl ([.ref ob, .int a1, .int a2]) ++ List.replicate (4 - (lg_sl ([.ref ob, .int a1, .int a2])).length) Slot.unset).toArray = ls at hl ⊢
  have hl : lv_has ls 4 [(0, .ref ob), (1, .int a1), (2, .int a2)] := hl
  refine lv_iconst (v := 1) hx hb dX6_chance_0 (by decide) ?_
  refine lv_aload_n hx hb dX6_chance_1 rfl (lv_at hl 0 rfl) ?_
  refine lv_iload_n hx hb dX6_chance_2 rfl (lv_at hl 1 rfl) ?_
  refine lv_iload_n hx hb dX6_chance_3 rfl (lv_at hl 2 rfl) ?_
  refine cVim (As := [.int a1, .int a2]) (rest := [.int 1]) ⟨hx, hb, hml, hown, hw0⟩ hA hK hP hD hS [true, false, false, false, false, false, false, false, false, false, false, false, false, false, false, false, true] (fX6_knew l G y _ ob a1 a2 ob_town ob_code ob_debts ob_deeds ob_knows ob_day ob_paid ob_follows fob_knows p_fob_knows p_ob_day p_a1 p_a2) rfl ⟨(callB_of 2 hw0 (gA m_1054) rfl rfl rfl (hw0 _ m_958) (hw0 _ m_957) cb_X6_knew ⟨Nat.le_of_ble_eq_true rfl, Nat.le_of_ble_eq_true rfl⟩), (hw0 _ m_959), (hw0 _ m_960)⟩ (ci := 6) (q := (RX6, TX6, 8)) rfl rfl rfl hl.1 (Nat.le_of_ble_eq_true rfl) dX6_chance_4 ⟨Nat.le_of_ble_eq_true rfl, Nat.le_of_ble_eq_true rfl⟩ (fun r_1001 w_1001 H locs hw_1001 hP hD hS => ?_)
  obtain ⟨v_1002, bv_1002, h_1003, er_1001, rfl⟩ := hw_1001
  subst r_1001
  obtain ⟨hP, hD⟩ : vPD G A H [(ce_X6 ob ob_town ob_code ob_debts ob_deeds ob_knows ob_day ob_paid ob_follows), (ce_X7 ob_town ob_town_houses ob_town_fresh ob_town_introducers ob_town_x ob_town_y ob_town_rank ob_town_weekday ob_town_from ob_town_to ob_town_came ob_town_bride ob_town_told), (ce_i16 y ob_town_x fob_town_x), (ce_i16 y ob_town_y fob_town_y), (ce_i16 y ob_town_rank fob_town_rank), (ce_i16 y ob_town_weekday fob_town_weekday), (ce_i16 y ob_town_from fob_town_from), (ce_i16 y ob_town_to fob_town_to), (ce_i16 y ob_town_came fob_town_came), (ce_i16 y ob_town_bride fob_town_bride), (ce_i16 y ob_town_told fob_town_told), (ce_X2 ob_deeds ob_deeds_size ob_deeds_who ob_deeds_whom ob_deeds_what ob_deeds_day), (ce_i600 y ob_deeds_who fob_deeds_who), (ce_i600 y ob_deeds_whom fob_deeds_whom), (ce_i600 y ob_deeds_what fob_deeds_what), (ce_i600 y ob_deeds_day fob_deeds_day), (ce_i16 y ob_knows fob_knows)] := ⟨hP, hD⟩
  refine lv_isub hx hb dX6_chance_7 ?_
  refine lv_topi (fun v_1004 ev_1004 => ?_)
  have qv_1004 := ba_sub ev_1004 (bkc (x := 1) (c := 1) (by decide)) bv_1002 (by decide)
  have bv_1004 : (0 : Int) ≤ v_1004.toInt ∧ v_1004.toInt ≤ 1 := bq_sub qv_1004 (bkc (x := 1) (c := 1) (by decide)) bv_1002 _ _ (by decide)
  have qv_1004 : v_1004.toInt = (1) - v_1002.toInt := qv_1004
  refine lv_istore_n (lv' := [(3, .int v_1004), (0, .ref ob), (1, .int a1), (2, .int a2)]) hx hb dX6_chance_8 rfl hl (by decide) rfl (fun ls hl => ?_)
  refine lv_aload_n hx hb dX6_chance_9 rfl (lv_at hl 1 rfl) ?_
  refine va_get (D := G) (ci := 6) (v := .ref ob_knows) (C := RX6) (T := TX6) (N := 8) hx hb hw0 inA_wsX60 hown hK.1 hP 0 rfl rfl 4 (by decide) (hw0 _ m_970) (fun _ h9 => h9) rfl dX6_chance_10 ?_
  refine lv_iload_n hx hb dX6_chance_13 rfl (lv_at hl 2 rfl) ?_
  refine lv_iload_n hx hb dX6_chance_14 rfl (lv_at hl 3 rfl) ?_
  refine cSvm (As := [.ref ob_knows, .int a1, .int a2]) (rest := []) ⟨hx, hb, hml, hown, hw0⟩ hA hK hP hD hS [false, false, false, false, false, false, false, false, false, false, false, false, false, false, false, false, true] (fX6_acquaint l G y _ ob_knows a1 a2 fob_knows p_a1 p_a2 p_fob_knows) rfl ⟨(callB_of 3 hw0 (gA m_952) rfl rfl rfl (hw0 _ m_958) (hw0 _ m_971) cb_X6_acquaint ⟨Nat.le_of_ble_eq_true rfl, Nat.le_of_ble_eq_true rfl⟩), (hw0 _ m_972)⟩ rfl hl.1 (Nat.le_of_ble_eq_true rfl) dX6_chance_15 ⟨Nat.le_of_ble_eq_true rfl, Nat.le_of_ble_eq_true rfl⟩ (fun w_1005 H locs hw_1005 hP hD hS => ?_)
  obtain ⟨f_1006, bf_1006, h_1007, rfl⟩ := hw_1005
  obtain ⟨hP, hD⟩ : vPD G A H [(ce_X6 ob ob_town ob_code ob_debts ob_deeds ob_knows ob_day ob_paid ob_follows), (ce_X7 ob_town ob_town_houses ob_town_fresh ob_town_introducers ob_town_x ob_town_y ob_town_rank ob_town_weekday ob_town_from ob_town_to ob_town_came ob_town_bride ob_town_told), (ce_i16 y ob_town_x fob_town_x), (ce_i16 y ob_town_y fob_town_y), (ce_i16 y ob_town_rank fob_town_rank), (ce_i16 y ob_town_weekday fob_town_weekday), (ce_i16 y ob_town_from fob_town_from), (ce_i16 y ob_town_to fob_town_to), (ce_i16 y ob_town_came fob_town_came), (ce_i16 y ob_town_bride fob_town_bride), (ce_i16 y ob_town_told fob_town_told), (ce_X2 ob_deeds ob_deeds_size ob_deeds_who ob_deeds_whom ob_deeds_what ob_deeds_day), (ce_i600 y ob_deeds_who fob_deeds_who), (ce_i600 y ob_deeds_whom fob_deeds_whom), (ce_i600 y ob_deeds_what fob_deeds_what), (ce_i600 y ob_deeds_day fob_deeds_day), (ce_i16 y ob_knows f_1006)] := ⟨hP, hD⟩
  refine lv_aload_n hx hb dX6_chance_18 rfl (lv_at hl 1 rfl) ?_
  refine va_get (D := G) (ci := 6) (v := .ref ob_deeds) (C := RX6) (T := TX6) (N := 8) hx hb hw0 inA_wsX60 hown hK.1 hP 0 rfl rfl 3 (by decide) (hw0 _ m_965) (fun _ h9 => h9) rfl dX6_chance_19 ?_
  refine lv_iload_n hx hb dX6_chance_22 rfl (lv_at hl 2 rfl) ?_
  refine lv_iload_n hx hb dX6_chance_23 rfl (lv_at hl 3 rfl) ?_
  refine lv_iconst (v := 4) hx hb dX6_chance_24 (by decide) ?_
  refine lv_aload_n hx hb dX6_chance_25 rfl (lv_at hl 1 rfl) ?_
  refine va_get (D := G) (ci := 6) (v := .int ob_day) (C := RX6) (T := TX6) (N := 8) hx hb hw0 inA_wsX60 hown hK.1 hP 0 rfl rfl 5 (by decide) (hw0 _ m_956) (fun _ h9 => h9) rfl dX6_chance_26 ?_
  refine cVvm (As := [.int a1, .int a2, .int 4, .int ob_day]) (rest := []) ⟨hx, hb, hml, hown, hw0⟩ hA hK hP hD hS [false, false, false, false, false, false, false, false, false, false, false, true, true, true, true, true] (fX2_add l G y _ ob_deeds a1 a2 4 ob_day ob_deeds_size ob_deeds_who ob_deeds_whom ob_deeds_what ob_deeds_day fob_deeds_who fob_deeds_whom fob_deeds_what fob_deeds_day p_ob_deeds_size p_fob_deeds_who p_fob_deeds_whom p_a1 p_a2 (by have h90 : Int32.toInt 4 = 4 := (by decide); omega)) rfl ⟨(callB_of 4 hw0 (gA m_701) rfl rfl rfl (hw0 _ m_967) (hw0 _ m_966) cb_X2_add ⟨Nat.le_of_ble_eq_true rfl, Nat.le_of_ble_eq_true rfl⟩), (hw0 _ m_968), (hw0 _ m_969)⟩ (ci := 2) (q := (RX2, TX2, 5)) rfl rfl rfl hl.1 (Nat.le_of_ble_eq_true rfl) dX6_chance_29 ⟨Nat.le_of_ble_eq_true rfl, Nat.le_of_ble_eq_true rfl⟩ (fun w_1008 H locs hw_1008 hP hD hS => ?_)
  obtain ⟨v_1009, f_1010, f_1011, f_1012, f_1013, bv_1009, bf_1010, bf_1011, h_1014, h_1015, h_1016, h_1017, h_1018, rfl⟩ := hw_1008
  obtain ⟨hP, hD⟩ : vPD G A H [(ce_X6 ob ob_town ob_code ob_debts ob_deeds ob_knows ob_day ob_paid ob_follows), (ce_X7 ob_town ob_town_houses ob_town_fresh ob_town_introducers ob_town_x ob_town_y ob_town_rank ob_town_weekday ob_town_from ob_town_to ob_town_came ob_town_bride ob_town_told), (ce_i16 y ob_town_x fob_town_x), (ce_i16 y ob_town_y fob_town_y), (ce_i16 y ob_town_rank fob_town_rank), (ce_i16 y ob_town_weekday fob_town_weekday), (ce_i16 y ob_town_from fob_town_from), (ce_i16 y ob_town_to fob_town_to), (ce_i16 y ob_town_came fob_town_came), (ce_i16 y ob_town_bride fob_town_bride), (ce_i16 y ob_town_told fob_town_told), (ce_X2 ob_deeds v_1009 ob_deeds_who ob_deeds_whom ob_deeds_what ob_deeds_day), (ce_i600 y ob_deeds_who f_1010), (ce_i600 y ob_deeds_whom f_1011), (ce_i600 y ob_deeds_what f_1012), (ce_i600 y ob_deeds_day f_1013), (ce_i16 y ob_knows f_1006)] := ⟨hP, hD⟩
  refine lv_iload_n hx hb dX6_chance_32 rfl (lv_at hl 0 rfl) ?_
  exact W.iret (v := v_1004) hx hb hr (fun t ht hW => ⟨⟨v_1004, _, rfl, ⟨v_1004, v_1009, f_1010, f_1011, f_1012, f_1013, f_1006, bv_1004, bv_1009, bf_1010, bf_1011, bf_1006, (fun g H => by exact sdt_do H (by omega) ⟨by omega, by omega⟩ h_1018 ⟨by omega, by omega⟩ ⟨by omega, by omega⟩ (by rw [Int32.ofInt_toInt]; exact h_1014) (by rw [Int32.ofInt_toInt]; exact h_1015) (by rw [show Int32.ofInt 4 = 4 from rfl]; exact h_1016) h_1017 (Or.inl ⟨by omega, h_1007⟩)), (by have lm1 : Int32.toInt (-1) = -1 := (by decide); have l91 : Int32.toInt 1 = 1 := (by decide); have l92 : Int32.toInt 2 = 2 := (by decide); have l93 : Int32.toInt 3 = 3 := (by decide); omega), rfl, rfl⟩, by rw [ht]; exact hP, hD⟩, hS.F ht⟩) hS.2.2 dX6_chance_33

set_option maxHeartbeats 4000000 in
set_option maxRecDepth 100000 in
theorem fX9_isDeed (l : Launch) (G : va_G) (y : Nat → ClassId) (sz : Nat) (ob : Nat) (a1 : Int32) (a2 : Int32) (a3 : Int32) (ob_tape : Nat) (ob_tapeSize : Int32) (ob_reader : Nat) (ob_state : Nat) (ob_images : Nat) (ob_slots : Nat) (ob_rounds : Nat) (ob_ways : Nat) (ob_otherDebts : Nat) (ob_otherKnows : Nat) (ob_state_town : Nat) (ob_state_code : Nat) (ob_state_debts : Nat) (ob_state_deeds : Nat) (ob_state_knows : Nat) (ob_state_day : Int32) (ob_state_paid : Int32) (ob_state_follows : Nat) (ob_state_town_houses : Int32) (ob_state_town_fresh : Int32) (ob_state_town_introducers : Int32) (ob_state_town_x : Nat) (ob_state_town_y : Nat) (ob_state_town_rank : Nat) (ob_state_town_weekday : Nat) (ob_state_town_from : Nat) (ob_state_town_to : Nat) (ob_state_town_came : Nat) (ob_state_town_bride : Nat) (ob_state_town_told : Nat) (p_ob_tapeSize : (0 : Int) ≤ ob_tapeSize.toInt ∧ ob_tapeSize.toInt ≤ 1400) (p_ob_state_town_houses : (0 : Int) ≤ ob_state_town_houses.toInt ∧ ob_state_town_houses.toInt ≤ 16) (p_ob_state_day : (0 : Int) ≤ ob_state_day.toInt ∧ ob_state_day.toInt ≤ 399) : Met l yX9_isDeed (Cond.code yX9_isDeed cX9_isDeed 4 (some .boolean) :: wAll) ({ frames := 2, cells := 0, slots := 0, locals := 43 }) (va_Pc [.ref ob, .int a1, .int a2, .int a3] (kp G y sz [(ce_X9 ob ob_tape ob_tapeSize ob_reader ob_state ob_images ob_slots ob_rounds ob_ways ob_otherDebts ob_otherKnows), (ce_X6 ob_state ob_state_town ob_state_code ob_state_debts ob_state_deeds ob_state_knows ob_state_day ob_state_paid ob_state_follows), (ce_X7 ob_state_town ob_state_town_houses ob_state_town_fresh ob_state_town_introducers ob_state_town_x ob_state_town_y ob_state_town_rank ob_state_town_weekday ob_state_town_from ob_state_town_to ob_state_town_came ob_state_town_bride ob_state_town_told)])) (va_Qi (fun (r : Int32) (w : va_W) => ((¬ ((0 ≤ a1.toInt ∧ a1.toInt < ob_state_town_houses.toInt ∧ 0 ≤ a2.toInt ∧ a2.toInt < ob_state_town_houses.toInt ∧ a1.toInt ≠ a2.toInt) ∧ 0 ≤ a3.toInt ∧ a3.toInt ≤ 3)) ∧ r = 0 ∧ w = [(ce_X9 ob ob_tape ob_tapeSize ob_reader ob_state ob_images ob_slots ob_rounds ob_ways ob_otherDebts ob_otherKnows), (ce_X6 ob_state ob_state_town ob_state_code ob_state_debts ob_state_deeds ob_state_knows ob_state_day ob_state_paid ob_state_follows), (ce_X7 ob_state_town ob_state_town_houses ob_state_town_fresh ob_state_town_introducers ob_state_town_x ob_state_town_y ob_state_town_rank ob_state_town_weekday ob_state_town_from ob_state_town_to ob_state_town_came ob_state_town_bride ob_state_town_told)]) ∨ (((0 : Int) ≤ a1.toInt ∧ a1.toInt ≤ 15) ∧ ((0 : Int) ≤ a2.toInt ∧ a2.toInt ≤ 15) ∧ ((0 : Int) ≤ a3.toInt ∧ a3.toInt ≤ 3) ∧ ((1 : Int) ≤ ob_state_town_houses.toInt ∧ ob_state_town_houses.toInt ≤ 16) ∧ ((0 ≤ a1.toInt ∧ a1.toInt < ob_state_town_houses.toInt ∧ 0 ≤ a2.toInt ∧ a2.toInt < ob_state_town_houses.toInt ∧ a1.toInt ≠ a2.toInt) ∧ 0 ≤ a3.toInt ∧ a3.toInt ≤ 3) ∧ r = 1 ∧ w = [(ce_X9 ob ob_tape ob_tapeSize ob_reader ob_state ob_images ob_slots ob_rounds ob_ways ob_otherDebts ob_otherKnows), (ce_X6 ob_state ob_state_town ob_state_code ob_state_debts ob_state_deeds ob_state_knows ob_state_day ob_state_paid ob_state_follows), (ce_X7 ob_state_town ob_state_town_houses ob_state_town_fresh ob_state_town_introducers ob_state_town_x ob_state_town_y ob_state_town_rank ob_state_town_weekday ob_state_town_from ob_state_town_to ob_state_town_came ob_state_town_bride ob_state_town_told)])) (kq G (va_A [(ce_X9 ob ob_tape ob_tapeSize ob_reader ob_state ob_images ob_slots ob_rounds ob_ways ob_otherDebts ob_otherKnows), (ce_X6 ob_state ob_state_town ob_state_code ob_state_debts ob_state_deeds ob_state_knows ob_state_day ob_state_paid ob_state_follows), (ce_X7 ob_state_town ob_state_town_houses ob_state_town_fresh ob_state_town_introducers ob_state_town_x ob_state_town_y ob_state_town_rank ob_state_town_weekday ob_state_town_from ob_state_town_to ob_state_town_came ob_state_town_bride ob_state_town_told)] sz)) (va_A [(ce_X9 ob ob_tape ob_tapeSize ob_reader ob_state ob_images ob_slots ob_rounds ob_ways ob_otherDebts ob_otherKnows), (ce_X6 ob_state ob_state_town ob_state_code ob_state_debts ob_state_deeds ob_state_knows ob_state_day ob_state_paid ob_state_follows), (ce_X7 ob_state_town ob_state_town_houses ob_state_town_fresh ob_state_town_introducers ob_state_town_x ob_state_town_y ob_state_town_rank ob_state_town_weekday ob_state_town_from ob_state_town_to ob_state_town_came ob_state_town_bride ob_state_town_told)] sz)) 0 0 (va_A [(ce_X9 ob ob_tape ob_tapeSize ob_reader ob_state ob_images ob_slots ob_rounds ob_ways ob_otherDebts ob_otherKnows), (ce_X6 ob_state ob_state_town ob_state_code ob_state_debts ob_state_deeds ob_state_knows ob_state_day ob_state_paid ob_state_follows), (ce_X7 ob_state_town ob_state_town_houses ob_state_town_fresh ob_state_town_introducers ob_state_town_x ob_state_town_y ob_state_town_rank ob_state_town_weekday ob_state_town_from ob_state_town_to ob_state_town_came ob_state_town_bride ob_state_town_told)] sz) := by
  refine Met.ofW (cc := cX9_isDeed) (maxL := 4) (ret := (some .boolean)) (by decide) rfl ?_
  intro p e s m args below meth c s₁ B hml hv
  obtain ⟨rfl, hsz, hP, hK, hD0⟩ := hv
  have hx := B.exec
  have hb := B.bytes
  have hr := B.returns
  have hw0 : ∀ w ∈ wAll, w.before _ s = true := fun w h => atoms_spec (ws := Cond.code yX9_isDeed cX9_isDeed 4 (some .boolean) :: wAll) B.pre w (List.mem_cons_of_mem _ h)
  have hown : s.vm.findClass RX9 = some m.cls := findClass_of_methodNamed B.named
  subst hsz
  have hD := hD0.self (sz := s.heap.size)
  generalize hAe : va_A [(ce_X9 ob ob_tape ob_tapeSize ob_reader ob_state ob_images ob_slots ob_rounds ob_ways ob_otherDebts ob_otherKnows), (ce_X6 ob_state ob_state_town ob_state_code ob_state_debts ob_state_deeds ob_state_knows ob_state_day ob_state_paid ob_state_follows), (ce_X7 ob_state_town ob_state_town_houses ob_state_town_fresh ob_state_town_introducers ob_state_town_x ob_state_town_y ob_state_town_rank ob_state_town_weekday ob_state_town_from ob_state_town_to ob_state_town_came ob_state_town_bride ob_state_town_told)] s.heap.size = A at hD ⊢
  have hA : ∀ q : Nat, s.heap.size ≤ q → A q := fun q h => by rw [← hAe]; exact Or.inr h
  have hS : va_S A s.heap s.heap [] := va_S.rf
  have hP : va_P G vwCl [(ce_X9 ob ob_tape ob_tapeSize ob_reader ob_state ob_images ob_slots ob_rounds ob_ways ob_otherDebts ob_otherKnows), (ce_X6 ob_state ob_state_town ob_state_code ob_state_debts ob_state_deeds ob_state_knows ob_state_day ob_state_paid ob_state_follows), (ce_X7 ob_state_town ob_state_town_houses ob_state_town_fresh ob_state_town_introducers ob_state_town_x ob_state_town_y ob_state_town_rank ob_state_town_weekday ob_state_town_from ob_state_town_to ob_state_town_came ob_state_town_bride ob_state_town_told)] s.heap := hP
  have hl := lv_entry ([.ref ob, .int a1, .int a2, .int a3]) (n := 4) (Nat.le_of_ble_eq_true rfl)
  rw [lg_entry_eq]
  generalize (lg_sl ([.ref ob, .int a1, .int a2, .int a3]) ++ List.replicate (4 - (lg_sl ([.ref ob, .int a1, .int a2, .int a3])).length) Slot.unset).toArray = ls at hl ⊢
  have hl : lv_has ls 4 [(0, .ref ob), (1, .int a1), (2, .int a2), (3, .int a3)] := hl
  refine lv_aload_n hx hb dX9_isDeed_0 rfl (lv_at hl 0 rfl) ?_
  refine va_get (D := G) (ci := 9) (v := .ref ob_state) (C := RX9) (T := TX9) (N := 10) hx hb hw0 inA_wsX90 hown hK.1 hP 0 rfl rfl 3 (by decide) (hw0 _ m_1131) (fun _ h9 => h9) rfl dX9_isDeed_1 ?_
  refine va_get (D := G) (ci := 6) (v := .ref ob_state_town) (C := RX6) (T := TX6) (N := 8) hx hb hw0 inA_wsX60 hown hK.1 hP 1 rfl rfl 0 (by decide) (hw0 _ m_1154) (fun _ h9 => h9) rfl dX9_isDeed_4 ?_
  refine lv_iload_n hx hb dX9_isDeed_7 rfl (lv_at hl 1 rfl) ?_
  refine lv_iload_n hx hb dX9_isDeed_8 rfl (lv_at hl 2 rfl) ?_
  refine cVim (As := [.int a1, .int a2]) (rest := []) ⟨hx, hb, hml, hown, hw0⟩ hA hK hP hD hS [false, false, true] (fX7_hasPair l G y _ ob_state_town a1 a2 ob_state_town_houses ob_state_town_fresh ob_state_town_introducers ob_state_town_x ob_state_town_y ob_state_town_rank ob_state_town_weekday ob_state_town_from ob_state_town_to ob_state_town_came ob_state_town_bride ob_state_town_told p_ob_state_town_houses) rfl ⟨(callB_of 2 hw0 (gA m_1076) rfl rfl rfl (hw0 _ m_746) (hw0 _ m_1255) cb_X7_hasPair ⟨Nat.le_of_ble_eq_true rfl, Nat.le_of_ble_eq_true rfl⟩), (hw0 _ m_1256), (hw0 _ m_1257)⟩ (ci := 7) (q := (RX7, TX7, 12)) rfl rfl rfl hl.1 (Nat.le_of_ble_eq_true rfl) dX9_isDeed_9 ⟨Nat.le_of_ble_eq_true rfl, Nat.le_of_ble_eq_true rfl⟩ (fun r_1001 w_1001 H locs hw_1001 hP hD hS => ?_)
  rcases hw_1001 with ⟨h_1002, rfl, rfl⟩ | ⟨h_1003, h_1004, h_1005, h_1006, rfl, rfl⟩
  · skip
    obtain ⟨hP, hD⟩ : vPD G A H [(ce_X9 ob ob_tape ob_tapeSize ob_reader ob_state ob_images ob_slots ob_rounds ob_ways ob_otherDebts ob_otherKnows), (ce_X6 ob_state ob_state_town ob_state_code ob_state_debts ob_state_deeds ob_state_knows ob_state_day ob_state_paid ob_state_follows), (ce_X7 ob_state_town ob_state_town_houses ob_state_town_fresh ob_state_town_introducers ob_state_town_x ob_state_town_y ob_state_town_rank ob_state_town_weekday ob_state_town_from ob_state_town_to ob_state_town_came ob_state_town_bride ob_state_town_told)] := ⟨hP, hD⟩
    refine lv_if_eq (tgt := 28) hx hb dX9_isDeed_12 (by decide) (fun _ => ?_) (fun c9 => absurd (by decide) c9)
    refine lv_iconst (v := 0) hx hb dX9_isDeed_28 (by decide) ?_
    exact W.zret (v := 0) hx hb hr rfl (fun t ht hW => ⟨⟨0, _, rfl, Or.inl (⟨by have h90 : Int32.toInt 0 = 0 := (by decide); omega, rfl, rfl⟩), by rw [ht]; exact hP, hD⟩, hS.F ht⟩) hS.2.2 dX9_isDeed_29
  · skip
    obtain ⟨hP, hD⟩ : vPD G A H [(ce_X9 ob ob_tape ob_tapeSize ob_reader ob_state ob_images ob_slots ob_rounds ob_ways ob_otherDebts ob_otherKnows), (ce_X6 ob_state ob_state_town ob_state_code ob_state_debts ob_state_deeds ob_state_knows ob_state_day ob_state_paid ob_state_follows), (ce_X7 ob_state_town ob_state_town_houses ob_state_town_fresh ob_state_town_introducers ob_state_town_x ob_state_town_y ob_state_town_rank ob_state_town_weekday ob_state_town_from ob_state_town_to ob_state_town_came ob_state_town_bride ob_state_town_told)] := ⟨hP, hD⟩
    refine lv_if_eq (tgt := 28) hx hb dX9_isDeed_12 (by decide) (fun c9 => absurd c9 (by decide)) (fun _ => ?_)
    refine lv_iload_n hx hb dX9_isDeed_15 rfl (lv_at hl 3 rfl) ?_
    refine lv_if_lt (tgt := 28) hx hb dX9_isDeed_16 (by decide) (fun c_1007 => ?_) (fun c_1007 => ?_)
    · skip
      have nc_1007 := nb_lt (-1) (0) c_1007 (btop a3) (bkc (x := 0) (c := 0) (by decide)) (by decide)
      refine lv_iconst (v := 0) hx hb dX9_isDeed_28 (by decide) ?_
      exact W.zret (v := 0) hx hb hr rfl (fun t ht hW => ⟨⟨0, _, rfl, Or.inl (⟨by have h90 : Int32.toInt 0 = 0 := (by decide); omega, rfl, rfl⟩), by rw [ht]; exact hP, hD⟩, hS.F ht⟩) hS.2.2 dX9_isDeed_29
    · skip
      have nc_1007 := nb_nlt (0) (0) c_1007 (bkc (x := 0) (c := 0) (by decide)) (btop a3) (by decide)
      refine lv_iload_n hx hb dX9_isDeed_19 rfl (lv_at hl 3 rfl) ?_
      refine lv_iconst (v := 4) hx hb dX9_isDeed_20 (by decide) ?_
      refine lv_icmp_ge (tgt := 28) hx hb dX9_isDeed_21 (by decide) (fun c_1008 => ?_) (fun c_1008 => ?_)
      · skip
        have nc_1008 := nb_le (4) (4) c_1008 (bkc (x := 4) (c := 4) (by decide)) nc_1007.2.1 (by decide)
        refine lv_iconst (v := 0) hx hb dX9_isDeed_28 (by decide) ?_
        exact W.zret (v := 0) hx hb hr rfl (fun t ht hW => ⟨⟨0, _, rfl, Or.inl (⟨by have h90 : Int32.toInt 0 = 0 := (by decide); omega, rfl, rfl⟩), by rw [ht]; exact hP, hD⟩, hS.F ht⟩) hS.2.2 dX9_isDeed_29
      · skip
        have nc_1008 := nb_nle (3) (4) c_1008 nc_1007.2.1 (bkc (x := 4) (c := 4) (by decide)) (by decide)
        refine lv_iconst (v := 1) hx hb dX9_isDeed_24 (by decide) ?_
        refine lv_goto (tgt := 29) hx hb dX9_isDeed_25 (by decide) ?_
        exact W.zret (v := 1) hx hb hr rfl (fun t ht hW => ⟨⟨1, _, rfl, Or.inr (⟨h_1003, h_1004, nc_1008.1, h_1005, by have h90 : Int32.toInt 1 = 1 := (by decide); omega, rfl, rfl⟩), by rw [ht]; exact hP, hD⟩, hS.F ht⟩) hS.2.2 dX9_isDeed_29

set_option maxHeartbeats 4000000 in
set_option maxRecDepth 100000 in
theorem fX9_bars (l : Launch) (G : va_G) (y : Nat → ClassId) (sz : Nat) (ob : Nat) (a1 : Int32) (a2 : Int32) (a3 : Int32) (ob_tape : Nat) (ob_tapeSize : Int32) (ob_reader : Nat) (ob_state : Nat) (ob_images : Nat) (ob_slots : Nat) (ob_rounds : Nat) (ob_ways : Nat) (ob_otherDebts : Nat) (ob_otherKnows : Nat) (ob_state_town : Nat) (ob_state_code : Nat) (ob_state_debts : Nat) (ob_state_deeds : Nat) (ob_state_knows : Nat) (ob_state_day : Int32) (ob_state_paid : Int32) (ob_state_follows : Nat) (ob_state_town_houses : Int32) (ob_state_town_fresh : Int32) (ob_state_town_introducers : Int32) (ob_state_town_x : Nat) (ob_state_town_y : Nat) (ob_state_town_rank : Nat) (ob_state_town_weekday : Nat) (ob_state_town_from : Nat) (ob_state_town_to : Nat) (ob_state_town_came : Nat) (ob_state_town_bride : Nat) (ob_state_town_told : Nat) (fob_state_town_weekday : Nat → Int32) (fob_state_town_came : Nat → Int32) (fob_state_town_bride : Nat → Int32) (fob_state_knows : Nat → Int32) (p_ob_tapeSize : (0 : Int) ≤ ob_tapeSize.toInt ∧ ob_tapeSize.toInt ≤ 1400) (p_ob_state_town_houses : (0 : Int) ≤ ob_state_town_houses.toInt ∧ ob_state_town_houses.toInt ≤ 16) (p_fob_state_town_came : ∀ i, (0 : Int) ≤ (fob_state_town_came i).toInt ∧ (fob_state_town_came i).toInt ≤ 399) (p_fob_state_knows : ∀ i, (0 : Int) ≤ (fob_state_knows i).toInt ∧ (fob_state_knows i).toInt ≤ 65535) (p_ob_state_day : (0 : Int) ≤ ob_state_day.toInt ∧ ob_state_day.toInt ≤ 399) : Met l yX9_bars (Cond.code yX9_bars cX9_bars 4 (some .int) :: wAll) ({ frames := 3, cells := 0, slots := 0, locals := 67 }) (va_Pc [.ref ob, .int a1, .int a2, .int a3] (kp G y sz [(ce_X9 ob ob_tape ob_tapeSize ob_reader ob_state ob_images ob_slots ob_rounds ob_ways ob_otherDebts ob_otherKnows), (ce_X6 ob_state ob_state_town ob_state_code ob_state_debts ob_state_deeds ob_state_knows ob_state_day ob_state_paid ob_state_follows), (ce_X7 ob_state_town ob_state_town_houses ob_state_town_fresh ob_state_town_introducers ob_state_town_x ob_state_town_y ob_state_town_rank ob_state_town_weekday ob_state_town_from ob_state_town_to ob_state_town_came ob_state_town_bride ob_state_town_told), (ce_i16 y ob_state_town_weekday fob_state_town_weekday), (ce_i16 y ob_state_town_came fob_state_town_came), (ce_i16 y ob_state_town_bride fob_state_town_bride), (ce_i16 y ob_state_knows fob_state_knows)])) (va_Qi (fun (r : Int32) (w : va_W) => (∃ (v_21 : Int32), ((-2 : Int) ≤ v_21.toInt ∧ v_21.toInt ≤ 3) ∧ (((v_21 : Int32).toInt = -2 ∧ ¬ ((0 ≤ a1.toInt ∧ a1.toInt < ob_state_town_houses.toInt ∧ 0 ≤ a2.toInt ∧ a2.toInt < ob_state_town_houses.toInt ∧ a1.toInt ≠ a2.toInt) ∧ 0 ≤ a3.toInt ∧ a3.toInt ≤ 3)) ∨ (((0 ≤ a1.toInt ∧ a1.toInt < ob_state_town_houses.toInt ∧ 0 ≤ a2.toInt ∧ a2.toInt < ob_state_town_houses.toInt ∧ a1.toInt ≠ a2.toInt) ∧ 0 ≤ a3.toInt ∧ a3.toInt ≤ 3) ∧ (v_21 : Int32).toInt = qba (fob_state_town_came a1.toInt.toNat).toInt (fob_state_town_came a2.toInt.toNat).toInt ob_state_day.toInt ob_state_town_fresh.toInt (qk fob_state_knows a1.toInt a2.toInt) (qin fob_state_knows a1.toInt a2.toInt) ob_state_town_introducers.toInt (fob_state_town_weekday a2.toInt.toNat).toInt (fob_state_town_bride a1.toInt.toNat).toInt a3.toInt)) ∧ r = v_21 ∧ w = [(ce_X9 ob ob_tape ob_tapeSize ob_reader ob_state ob_images ob_slots ob_rounds ob_ways ob_otherDebts ob_otherKnows), (ce_X6 ob_state ob_state_town ob_state_code ob_state_debts ob_state_deeds ob_state_knows ob_state_day ob_state_paid ob_state_follows), (ce_X7 ob_state_town ob_state_town_houses ob_state_town_fresh ob_state_town_introducers ob_state_town_x ob_state_town_y ob_state_town_rank ob_state_town_weekday ob_state_town_from ob_state_town_to ob_state_town_came ob_state_town_bride ob_state_town_told), (ce_i16 y ob_state_town_weekday fob_state_town_weekday), (ce_i16 y ob_state_town_came fob_state_town_came), (ce_i16 y ob_state_town_bride fob_state_town_bride), (ce_i16 y ob_state_knows fob_state_knows)])) (kq G (va_A [(ce_X9 ob ob_tape ob_tapeSize ob_reader ob_state ob_images ob_slots ob_rounds ob_ways ob_otherDebts ob_otherKnows), (ce_X6 ob_state ob_state_town ob_state_code ob_state_debts ob_state_deeds ob_state_knows ob_state_day ob_state_paid ob_state_follows), (ce_X7 ob_state_town ob_state_town_houses ob_state_town_fresh ob_state_town_introducers ob_state_town_x ob_state_town_y ob_state_town_rank ob_state_town_weekday ob_state_town_from ob_state_town_to ob_state_town_came ob_state_town_bride ob_state_town_told), (ce_i16 y ob_state_town_weekday fob_state_town_weekday), (ce_i16 y ob_state_town_came fob_state_town_came), (ce_i16 y ob_state_town_bride fob_state_town_bride), (ce_i16 y ob_state_knows fob_state_knows)] sz)) (va_A [(ce_X9 ob ob_tape ob_tapeSize ob_reader ob_state ob_images ob_slots ob_rounds ob_ways ob_otherDebts ob_otherKnows), (ce_X6 ob_state ob_state_town ob_state_code ob_state_debts ob_state_deeds ob_state_knows ob_state_day ob_state_paid ob_state_follows), (ce_X7 ob_state_town ob_state_town_houses ob_state_town_fresh ob_state_town_introducers ob_state_town_x ob_state_town_y ob_state_town_rank ob_state_town_weekday ob_state_town_from ob_state_town_to ob_state_town_came ob_state_town_bride ob_state_town_told), (ce_i16 y ob_state_town_weekday fob_state_town_weekday), (ce_i16 y ob_state_town_came fob_state_town_came), (ce_i16 y ob_state_town_bride fob_state_town_bride), (ce_i16 y ob_state_knows fob_state_knows)] sz)) 0 0 (va_A [(ce_X9 ob ob_tape ob_tapeSize ob_reader ob_state ob_images ob_slots ob_rounds ob_ways ob_otherDebts ob_otherKnows), (ce_X6 ob_state ob_state_town ob_state_code ob_state_debts ob_state_deeds ob_state_knows ob_state_day ob_state_paid ob_state_follows), (ce_X7 ob_state_town ob_state_town_houses ob_state_town_fresh ob_state_town_introducers ob_state_town_x ob_state_town_y ob_state_town_rank ob_state_town_weekday ob_state_town_from ob_state_town_to ob_state_town_came ob_state_town_bride ob_state_town_told), (ce_i16 y ob_state_town_weekday fob_state_town_weekday), (ce_i16 y ob_state_town_came fob_state_town_came), (ce_i16 y ob_state_town_bride fob_state_town_bride), (ce_i16 y ob_state_knows fob_state_knows)] sz) := by
  refine Met.ofW (cc := cX9_bars) (maxL := 4) (ret := (some .int)) (by decide) rfl ?_
  intro p e s m args below meth c s₁ B hml hv
  obtain ⟨rfl, hsz, hP, hK, hD0⟩ := hv
  have hx := B.exec
  have hb := B.bytes
  have hr := B.returns
  have hw0 : ∀ w ∈ wAll, w.before _ s = true := fun w h => atoms_spec (ws := Cond.code yX9_bars cX9_bars 4 (some .int) :: wAll) B.pre w (List.mem_cons_of_mem _ h)
  have hown : s.vm.findClass RX9 = some m.cls := findClass_of_methodNamed B.named
  subst hsz
  have hD := hD0.self (sz := s.heap.size)
  generalize hAe : va_A [(ce_X9 ob ob_tape ob_tapeSize ob_reader ob_state ob_images ob_slots ob_rounds ob_ways ob_otherDebts ob_otherKnows), (ce_X6 ob_state ob_state_town ob_state_code ob_state_debts ob_state_deeds ob_state_knows ob_state_day ob_state_paid ob_state_follows), (ce_X7 ob_state_town ob_state_town_houses ob_state_town_fresh ob_state_town_introducers ob_state_town_x ob_state_town_y ob_state_town_rank ob_state_town_weekday ob_state_town_from ob_state_town_to ob_state_town_came ob_state_town_bride ob_state_town_told), (ce_i16 y ob_state_town_weekday fob_state_town_weekday), (ce_i16 y ob_state_town_came fob_state_town_came), (ce_i16 y ob_state_town_bride fob_state_town_bride), (ce_i16 y ob_state_knows fob_state_knows)] s.heap.size = A at hD ⊢
  have hA : ∀ q : Nat, s.heap.size ≤ q → A q := fun q h => by rw [← hAe]; exact Or.inr h
  have hS : va_S A s.heap s.heap [] := va_S.rf
  have hP : va_P G vwCl [(ce_X9 ob ob_tape ob_tapeSize ob_reader ob_state ob_images ob_slots ob_rounds ob_ways ob_otherDebts ob_otherKnows), (ce_X6 ob_state ob_state_town ob_state_code ob_state_debts ob_state_deeds ob_state_knows ob_state_day ob_state_paid ob_state_follows), (ce_X7 ob_state_town ob_state_town_houses ob_state_town_fresh ob_state_town_introducers ob_state_town_x ob_state_town_y ob_state_town_rank ob_state_town_weekday ob_state_town_from ob_state_town_to ob_state_town_came ob_state_town_bride ob_state_town_told), (ce_i16 y ob_state_town_weekday fob_state_town_weekday), (ce_i16 y ob_state_town_came fob_state_town_came), (ce_i16 y ob_state_town_bride fob_state_town_bride), (ce_i16 y ob_state_knows fob_state_knows)] s.heap := hP
  have hl := lv_entry ([.ref ob, .int a1, .int a2, .int a3]) (n := 4) (Nat.le_of_ble_eq_true rfl)
  rw [lg_entry_eq]
  generalize (lg_sl ([.ref ob, .int a1, .int a2, .int a3]) ++ List.replicate (4 - (lg_sl ([.ref ob, .int a1, .int a2, .int a3])).length) Slot.unset).toArray = ls at hl ⊢
  have hl : lv_has ls 4 [(0, .ref ob), (1, .int a1), (2, .int a2), (3, .int a3)] := hl
  refine lv_aload_n hx hb dX9_bars_0 rfl (lv_at hl 0 rfl) ?_
  refine lv_iload_n hx hb dX9_bars_1 rfl (lv_at hl 1 rfl) ?_
  refine lv_iload_n hx hb dX9_bars_2 rfl (lv_at hl 2 rfl) ?_
  refine lv_iload_n hx hb dX9_bars_3 rfl (lv_at hl 3 rfl) ?_
  refine cVim (As := [.int a1, .int a2, .int a3]) (rest := []) ⟨hx, hb, hml, hown, hw0⟩ hA hK hP hD hS [true, true, true] (fX9_isDeed l G y _ ob a1 a2 a3 ob_tape ob_tapeSize ob_reader ob_state ob_images ob_slots ob_rounds ob_ways ob_otherDebts ob_otherKnows ob_state_town ob_state_code ob_state_debts ob_state_deeds ob_state_knows ob_state_day ob_state_paid ob_state_follows ob_state_town_houses ob_state_town_fresh ob_state_town_introducers ob_state_town_x ob_state_town_y ob_state_town_rank ob_state_town_weekday ob_state_town_from ob_state_town_to ob_state_town_came ob_state_town_bride ob_state_town_told p_ob_tapeSize p_ob_state_town_houses p_ob_state_day) rfl ⟨(callB_of 3 hw0 (gA m_1254) rfl rfl rfl (hw0 _ m_36) (hw0 _ m_1139) cb_X9_isDeed ⟨Nat.le_of_ble_eq_true rfl, Nat.le_of_ble_eq_true rfl⟩), (hw0 _ m_1140), (hw0 _ m_1141)⟩ (ci := 9) (q := (RX9, TX9, 10)) rfl rfl rfl hl.1 (Nat.le_of_ble_eq_true rfl) dX9_bars_4 ⟨Nat.le_of_ble_eq_true rfl, Nat.le_of_ble_eq_true rfl⟩ (fun r_1001 w_1001 H locs hw_1001 hP hD hS => ?_)
  rcases hw_1001 with ⟨h_1002, rfl, rfl⟩ | ⟨h_1003, h_1004, h_1005, h_1006, h_1007, rfl, rfl⟩
  · skip
    obtain ⟨hP, hD⟩ : vPD G A H [(ce_X9 ob ob_tape ob_tapeSize ob_reader ob_state ob_images ob_slots ob_rounds ob_ways ob_otherDebts ob_otherKnows), (ce_X6 ob_state ob_state_town ob_state_code ob_state_debts ob_state_deeds ob_state_knows ob_state_day ob_state_paid ob_state_follows), (ce_X7 ob_state_town ob_state_town_houses ob_state_town_fresh ob_state_town_introducers ob_state_town_x ob_state_town_y ob_state_town_rank ob_state_town_weekday ob_state_town_from ob_state_town_to ob_state_town_came ob_state_town_bride ob_state_town_told), (ce_i16 y ob_state_town_weekday fob_state_town_weekday), (ce_i16 y ob_state_town_came fob_state_town_came), (ce_i16 y ob_state_town_bride fob_state_town_bride), (ce_i16 y ob_state_knows fob_state_knows)] := ⟨hP, hD⟩
    refine lv_if_eq (tgt := 23) hx hb dX9_bars_7 (by decide) (fun _ => ?_) (fun c9 => absurd (by decide) c9)
    refine lv_bipush (v := (-2)) hx hb dX9_bars_23 (by decide) ?_
    exact W.iret (v := (-2)) hx hb hr (fun t ht hW => ⟨⟨(-2), _, rfl, ⟨(-2), (bw (-2) (3) (bkc (x := (-2)) (c := -2) (by decide)) (by decide)), (by have lm1 : Int32.toInt (-1) = -1 := (by decide); have l91 : Int32.toInt 1 = 1 := (by decide); have l92 : Int32.toInt 2 = 2 := (by decide); have l93 : Int32.toInt 3 = 3 := (by decide); have h90 : Int32.toInt (-2) = -2 := (by decide); exact Or.inl ⟨by omega, h_1002⟩), rfl, rfl⟩, by rw [ht]; exact hP, hD⟩, hS.F ht⟩) hS.2.2 dX9_bars_25
  · skip
    obtain ⟨hP, hD⟩ : vPD G A H [(ce_X9 ob ob_tape ob_tapeSize ob_reader ob_state ob_images ob_slots ob_rounds ob_ways ob_otherDebts ob_otherKnows), (ce_X6 ob_state ob_state_town ob_state_code ob_state_debts ob_state_deeds ob_state_knows ob_state_day ob_state_paid ob_state_follows), (ce_X7 ob_state_town ob_state_town_houses ob_state_town_fresh ob_state_town_introducers ob_state_town_x ob_state_town_y ob_state_town_rank ob_state_town_weekday ob_state_town_from ob_state_town_to ob_state_town_came ob_state_town_bride ob_state_town_told), (ce_i16 y ob_state_town_weekday fob_state_town_weekday), (ce_i16 y ob_state_town_came fob_state_town_came), (ce_i16 y ob_state_town_bride fob_state_town_bride), (ce_i16 y ob_state_knows fob_state_knows)] := ⟨hP, hD⟩
    refine lv_if_eq (tgt := 23) hx hb dX9_bars_7 (by decide) (fun c9 => absurd c9 (by decide)) (fun _ => ?_)
    refine lv_aload_n hx hb dX9_bars_10 rfl (lv_at hl 0 rfl) ?_
    refine va_get (D := G) (ci := 9) (v := .ref ob_state) (C := RX9) (T := TX9) (N := 10) hx hb hw0 inA_wsX90 hown hK.1 hP 0 rfl rfl 3 (by decide) (hw0 _ m_1131) (fun _ h9 => h9) rfl dX9_bars_11 ?_
    refine lv_iload_n hx hb dX9_bars_14 rfl (lv_at hl 1 rfl) ?_
    refine lv_iload_n hx hb dX9_bars_15 rfl (lv_at hl 2 rfl) ?_
    refine lv_iload_n hx hb dX9_bars_16 rfl (lv_at hl 3 rfl) ?_
    refine cVim (As := [.int a1, .int a2, .int a3]) (rest := []) ⟨hx, hb, hml, hown, hw0⟩ hA hK hP hD hS [false, true, true, true, true, true, true] (fX6_barrier l G y _ ob_state a1 a2 a3 ob_state_town ob_state_code ob_state_debts ob_state_deeds ob_state_knows ob_state_day ob_state_paid ob_state_follows ob_state_town_houses ob_state_town_fresh ob_state_town_introducers ob_state_town_x ob_state_town_y ob_state_town_rank ob_state_town_weekday ob_state_town_from ob_state_town_to ob_state_town_came ob_state_town_bride ob_state_town_told fob_state_town_weekday fob_state_town_came fob_state_town_bride fob_state_knows (bw (0) (16) h_1006 (by decide)) p_fob_state_town_came p_fob_state_knows p_ob_state_day h_1003 h_1004) rfl ⟨(callB_of 3 hw0 (gA m_973) rfl rfl rfl (hw0 _ m_958) (hw0 _ m_1142) cb_X6_barrier ⟨Nat.le_of_ble_eq_true rfl, Nat.le_of_ble_eq_true rfl⟩), (hw0 _ m_1143), (hw0 _ m_1144)⟩ (ci := 6) (q := (RX6, TX6, 8)) rfl rfl rfl hl.1 (Nat.le_of_ble_eq_true rfl) dX9_bars_17 ⟨Nat.le_of_ble_eq_true rfl, Nat.le_of_ble_eq_true rfl⟩ (fun r_1008 w_1008 H locs hw_1008 hP hD hS => ?_)
    obtain ⟨v_1009, bv_1009, h_1010, er_1008, rfl⟩ := hw_1008
    subst r_1008
    obtain ⟨hP, hD⟩ : vPD G A H [(ce_X9 ob ob_tape ob_tapeSize ob_reader ob_state ob_images ob_slots ob_rounds ob_ways ob_otherDebts ob_otherKnows), (ce_X6 ob_state ob_state_town ob_state_code ob_state_debts ob_state_deeds ob_state_knows ob_state_day ob_state_paid ob_state_follows), (ce_X7 ob_state_town ob_state_town_houses ob_state_town_fresh ob_state_town_introducers ob_state_town_x ob_state_town_y ob_state_town_rank ob_state_town_weekday ob_state_town_from ob_state_town_to ob_state_town_came ob_state_town_bride ob_state_town_told), (ce_i16 y ob_state_town_weekday fob_state_town_weekday), (ce_i16 y ob_state_town_came fob_state_town_came), (ce_i16 y ob_state_town_bride fob_state_town_bride), (ce_i16 y ob_state_knows fob_state_knows)] := ⟨hP, hD⟩
    refine lv_goto (tgt := 25) hx hb dX9_bars_20 (by decide) ?_
    exact W.iret (v := v_1009) hx hb hr (fun t ht hW => ⟨⟨v_1009, _, rfl, ⟨v_1009, (bw (-2) (3) bv_1009 (by decide)), (by have lm1 : Int32.toInt (-1) = -1 := (by decide); have l91 : Int32.toInt 1 = 1 := (by decide); have l92 : Int32.toInt 2 = 2 := (by decide); have l93 : Int32.toInt 3 = 3 := (by decide); exact Or.inr ⟨h_1007, h_1010⟩), rfl, rfl⟩, by rw [ht]; exact hP, hD⟩, hS.F ht⟩) hS.2.2 dX9_bars_25

set_option maxHeartbeats 4000000 in
set_option maxRecDepth 100000 in
theorem fX9_known (l : Launch) (G : va_G) (y : Nat → ClassId) (sz : Nat) (ob : Nat) (a1 : Int32) (a2 : Int32) (ob_tape : Nat) (ob_tapeSize : Int32) (ob_reader : Nat) (ob_state : Nat) (ob_images : Nat) (ob_slots : Nat) (ob_rounds : Nat) (ob_ways : Nat) (ob_otherDebts : Nat) (ob_otherKnows : Nat) (ob_state_town : Nat) (ob_state_code : Nat) (ob_state_debts : Nat) (ob_state_deeds : Nat) (ob_state_knows : Nat) (ob_state_day : Int32) (ob_state_paid : Int32) (ob_state_follows : Nat) (ob_state_town_houses : Int32) (ob_state_town_fresh : Int32) (ob_state_town_introducers : Int32) (ob_state_town_x : Nat) (ob_state_town_y : Nat) (ob_state_town_rank : Nat) (ob_state_town_weekday : Nat) (ob_state_town_from : Nat) (ob_state_town_to : Nat) (ob_state_town_came : Nat) (ob_state_town_bride : Nat) (ob_state_town_told : Nat) (fob_state_knows : Nat → Int32) (p_ob_tapeSize : (0 : Int) ≤ ob_tapeSize.toInt ∧ ob_tapeSize.toInt ≤ 1400) (p_ob_state_town_houses : (0 : Int) ≤ ob_state_town_houses.toInt ∧ ob_state_town_houses.toInt ≤ 16) (p_fob_state_knows : ∀ i, (0 : Int) ≤ (fob_state_knows i).toInt ∧ (fob_state_knows i).toInt ≤ 65535) (p_ob_state_day : (0 : Int) ≤ ob_state_day.toInt ∧ ob_state_day.toInt ≤ 399) : Met l yX9_known (Cond.code yX9_known cX9_known 3 (some .int) :: wAll) ({ frames := 2, cells := 0, slots := 0, locals := 43 }) (va_Pc [.ref ob, .int a1, .int a2] (kp G y sz [(ce_X9 ob ob_tape ob_tapeSize ob_reader ob_state ob_images ob_slots ob_rounds ob_ways ob_otherDebts ob_otherKnows), (ce_X6 ob_state ob_state_town ob_state_code ob_state_debts ob_state_deeds ob_state_knows ob_state_day ob_state_paid ob_state_follows), (ce_X7 ob_state_town ob_state_town_houses ob_state_town_fresh ob_state_town_introducers ob_state_town_x ob_state_town_y ob_state_town_rank ob_state_town_weekday ob_state_town_from ob_state_town_to ob_state_town_came ob_state_town_bride ob_state_town_told), (ce_i16 y ob_state_knows fob_state_knows)])) (va_Qi (fun (r : Int32) (w : va_W) => (∃ (v_19 : Int32), ((-2 : Int) ≤ v_19.toInt ∧ v_19.toInt ≤ 1) ∧ (((v_19 : Int32).toInt = -2 ∧ ¬ (0 ≤ a1.toInt ∧ a1.toInt < ob_state_town_houses.toInt ∧ 0 ≤ a2.toInt ∧ a2.toInt < ob_state_town_houses.toInt ∧ a1.toInt ≠ a2.toInt)) ∨ ((0 ≤ a1.toInt ∧ a1.toInt < ob_state_town_houses.toInt ∧ 0 ≤ a2.toInt ∧ a2.toInt < ob_state_town_houses.toInt ∧ a1.toInt ≠ a2.toInt) ∧ (v_19 : Int32).toInt = qk fob_state_knows a1.toInt a2.toInt)) ∧ r = v_19 ∧ w = [(ce_X9 ob ob_tape ob_tapeSize ob_reader ob_state ob_images ob_slots ob_rounds ob_ways ob_otherDebts ob_otherKnows), (ce_X6 ob_state ob_state_town ob_state_code ob_state_debts ob_state_deeds ob_state_knows ob_state_day ob_state_paid ob_state_follows), (ce_X7 ob_state_town ob_state_town_houses ob_state_town_fresh ob_state_town_introducers ob_state_town_x ob_state_town_y ob_state_town_rank ob_state_town_weekday ob_state_town_from ob_state_town_to ob_state_town_came ob_state_town_bride ob_state_town_told), (ce_i16 y ob_state_knows fob_state_knows)])) (kq G (va_A [(ce_X9 ob ob_tape ob_tapeSize ob_reader ob_state ob_images ob_slots ob_rounds ob_ways ob_otherDebts ob_otherKnows), (ce_X6 ob_state ob_state_town ob_state_code ob_state_debts ob_state_deeds ob_state_knows ob_state_day ob_state_paid ob_state_follows), (ce_X7 ob_state_town ob_state_town_houses ob_state_town_fresh ob_state_town_introducers ob_state_town_x ob_state_town_y ob_state_town_rank ob_state_town_weekday ob_state_town_from ob_state_town_to ob_state_town_came ob_state_town_bride ob_state_town_told), (ce_i16 y ob_state_knows fob_state_knows)] sz)) (va_A [(ce_X9 ob ob_tape ob_tapeSize ob_reader ob_state ob_images ob_slots ob_rounds ob_ways ob_otherDebts ob_otherKnows), (ce_X6 ob_state ob_state_town ob_state_code ob_state_debts ob_state_deeds ob_state_knows ob_state_day ob_state_paid ob_state_follows), (ce_X7 ob_state_town ob_state_town_houses ob_state_town_fresh ob_state_town_introducers ob_state_town_x ob_state_town_y ob_state_town_rank ob_state_town_weekday ob_state_town_from ob_state_town_to ob_state_town_came ob_state_town_bride ob_state_town_told), (ce_i16 y ob_state_knows fob_state_knows)] sz)) 0 0 (va_A [(ce_X9 ob ob_tape ob_tapeSize ob_reader ob_state ob_images ob_slots ob_rounds ob_ways ob_otherDebts ob_otherKnows), (ce_X6 ob_state ob_state_town ob_state_code ob_state_debts ob_state_deeds ob_state_knows ob_state_day ob_state_paid ob_state_follows), (ce_X7 ob_state_town ob_state_town_houses ob_state_town_fresh ob_state_town_introducers ob_state_town_x ob_state_town_y ob_state_town_rank ob_state_town_weekday ob_state_town_from ob_state_town_to ob_state_town_came ob_state_town_bride ob_state_town_told), (ce_i16 y ob_state_knows fob_state_knows)] sz) := by
  refine Met.ofW (cc := cX9_known) (maxL := 3) (ret := (some .int)) (by decide) rfl ?_
  intro p e s m args below meth c s₁ B hml hv
  obtain ⟨rfl, hsz, hP, hK, hD0⟩ := hv
  have hx := B.exec
  have hb := B.bytes
  have hr := B.returns
  have hw0 : ∀ w ∈ wAll, w.before _ s = true := fun w h => atoms_spec (ws := Cond.code yX9_known cX9_known 3 (some .int) :: wAll) B.pre w (List.mem_cons_of_mem _ h)
  have hown : s.vm.findClass RX9 = some m.cls := findClass_of_methodNamed B.named
  subst hsz
  have hD := hD0.self (sz := s.heap.size)
  generalize hAe : va_A [(ce_X9 ob ob_tape ob_tapeSize ob_reader ob_state ob_images ob_slots ob_rounds ob_ways ob_otherDebts ob_otherKnows), (ce_X6 ob_state ob_state_town ob_state_code ob_state_debts ob_state_deeds ob_state_knows ob_state_day ob_state_paid ob_state_follows), (ce_X7 ob_state_town ob_state_town_houses ob_state_town_fresh ob_state_town_introducers ob_state_town_x ob_state_town_y ob_state_town_rank ob_state_town_weekday ob_state_town_from ob_state_town_to ob_state_town_came ob_state_town_bride ob_state_town_told), (ce_i16 y ob_state_knows fob_state_knows)] s.heap.size = A at hD ⊢
  have hA : ∀ q : Nat, s.heap.size ≤ q → A q := fun q h => by rw [← hAe]; exact Or.inr h
  have hS : va_S A s.heap s.heap [] := va_S.rf
  have hP : va_P G vwCl [(ce_X9 ob ob_tape ob_tapeSize ob_reader ob_state ob_images ob_slots ob_rounds ob_ways ob_otherDebts ob_otherKnows), (ce_X6 ob_state ob_state_town ob_state_code ob_state_debts ob_state_deeds ob_state_knows ob_state_day ob_state_paid ob_state_follows), (ce_X7 ob_state_town ob_state_town_houses ob_state_town_fresh ob_state_town_introducers ob_state_town_x ob_state_town_y ob_state_town_rank ob_state_town_weekday ob_state_town_from ob_state_town_to ob_state_town_came ob_state_town_bride ob_state_town_told), (ce_i16 y ob_state_knows fob_state_knows)] s.heap := hP
  have hl := lv_entry ([.ref ob, .int a1, .int a2]) (n := 3) (Nat.le_of_ble_eq_true rfl)
  rw [lg_entry_eq]
  generalize (lg_sl ([.ref ob, .int a1, .int a2]) ++ List.replicate (3 - (lg_sl ([.ref ob, .int a1, .int a2])).length) Slot.unset).toArray = ls at hl ⊢
  have hl : lv_has ls 3 [(0, .ref ob), (1, .int a1), (2, .int a2)] := hl
  refine lv_aload_n hx hb dX9_known_0 rfl (lv_at hl 0 rfl) ?_
  refine va_get (D := G) (ci := 9) (v := .ref ob_state) (C := RX9) (T := TX9) (N := 10) hx hb hw0 inA_wsX90 hown hK.1 hP 0 rfl rfl 3 (by decide) (hw0 _ m_1131) (fun _ h9 => h9) rfl dX9_known_1 ?_
  refine va_get (D := G) (ci := 6) (v := .ref ob_state_town) (C := RX6) (T := TX6) (N := 8) hx hb hw0 inA_wsX60 hown hK.1 hP 1 rfl rfl 0 (by decide) (hw0 _ m_1154) (fun _ h9 => h9) rfl dX9_known_4 ?_
  refine lv_iload_n hx hb dX9_known_7 rfl (lv_at hl 1 rfl) ?_
  refine lv_iload_n hx hb dX9_known_8 rfl (lv_at hl 2 rfl) ?_
  refine cVim (As := [.int a1, .int a2]) (rest := []) ⟨hx, hb, hml, hown, hw0⟩ hA hK hP hD hS [false, false, true] (fX7_hasPair l G y _ ob_state_town a1 a2 ob_state_town_houses ob_state_town_fresh ob_state_town_introducers ob_state_town_x ob_state_town_y ob_state_town_rank ob_state_town_weekday ob_state_town_from ob_state_town_to ob_state_town_came ob_state_town_bride ob_state_town_told p_ob_state_town_houses) rfl ⟨(callB_of 2 hw0 (gA m_1076) rfl rfl rfl (hw0 _ m_746) (hw0 _ m_1255) cb_X7_hasPair ⟨Nat.le_of_ble_eq_true rfl, Nat.le_of_ble_eq_true rfl⟩), (hw0 _ m_1256), (hw0 _ m_1257)⟩ (ci := 7) (q := (RX7, TX7, 12)) rfl rfl rfl hl.1 (Nat.le_of_ble_eq_true rfl) dX9_known_9 ⟨Nat.le_of_ble_eq_true rfl, Nat.le_of_ble_eq_true rfl⟩ (fun r_1001 w_1001 H locs hw_1001 hP hD hS => ?_)
  rcases hw_1001 with ⟨h_1002, rfl, rfl⟩ | ⟨h_1003, h_1004, h_1005, h_1006, rfl, rfl⟩
  · skip
    obtain ⟨hP, hD⟩ : vPD G A H [(ce_X9 ob ob_tape ob_tapeSize ob_reader ob_state ob_images ob_slots ob_rounds ob_ways ob_otherDebts ob_otherKnows), (ce_X6 ob_state ob_state_town ob_state_code ob_state_debts ob_state_deeds ob_state_knows ob_state_day ob_state_paid ob_state_follows), (ce_X7 ob_state_town ob_state_town_houses ob_state_town_fresh ob_state_town_introducers ob_state_town_x ob_state_town_y ob_state_town_rank ob_state_town_weekday ob_state_town_from ob_state_town_to ob_state_town_came ob_state_town_bride ob_state_town_told), (ce_i16 y ob_state_knows fob_state_knows)] := ⟨hP, hD⟩
    refine lv_if_eq (tgt := 27) hx hb dX9_known_12 (by decide) (fun _ => ?_) (fun c9 => absurd (by decide) c9)
    refine lv_bipush (v := (-2)) hx hb dX9_known_27 (by decide) ?_
    exact W.iret (v := (-2)) hx hb hr (fun t ht hW => ⟨⟨(-2), _, rfl, ⟨(-2), (bw (-2) (1) (bkc (x := (-2)) (c := -2) (by decide)) (by decide)), (by have lm1 : Int32.toInt (-1) = -1 := (by decide); have l91 : Int32.toInt 1 = 1 := (by decide); have l92 : Int32.toInt 2 = 2 := (by decide); have l93 : Int32.toInt 3 = 3 := (by decide); have h90 : Int32.toInt (-2) = -2 := (by decide); exact Or.inl ⟨by omega, h_1002⟩), rfl, rfl⟩, by rw [ht]; exact hP, hD⟩, hS.F ht⟩) hS.2.2 dX9_known_29
  · skip
    obtain ⟨hP, hD⟩ : vPD G A H [(ce_X9 ob ob_tape ob_tapeSize ob_reader ob_state ob_images ob_slots ob_rounds ob_ways ob_otherDebts ob_otherKnows), (ce_X6 ob_state ob_state_town ob_state_code ob_state_debts ob_state_deeds ob_state_knows ob_state_day ob_state_paid ob_state_follows), (ce_X7 ob_state_town ob_state_town_houses ob_state_town_fresh ob_state_town_introducers ob_state_town_x ob_state_town_y ob_state_town_rank ob_state_town_weekday ob_state_town_from ob_state_town_to ob_state_town_came ob_state_town_bride ob_state_town_told), (ce_i16 y ob_state_knows fob_state_knows)] := ⟨hP, hD⟩
    refine lv_if_eq (tgt := 27) hx hb dX9_known_12 (by decide) (fun c9 => absurd c9 (by decide)) (fun _ => ?_)
    refine lv_aload_n hx hb dX9_known_15 rfl (lv_at hl 0 rfl) ?_
    refine va_get (D := G) (ci := 9) (v := .ref ob_state) (C := RX9) (T := TX9) (N := 10) hx hb hw0 inA_wsX90 hown hK.1 hP 0 rfl rfl 3 (by decide) (hw0 _ m_1131) (fun _ h9 => h9) rfl dX9_known_16 ?_
    refine lv_iload_n hx hb dX9_known_19 rfl (lv_at hl 1 rfl) ?_
    refine lv_iload_n hx hb dX9_known_20 rfl (lv_at hl 2 rfl) ?_
    refine cVim (As := [.int a1, .int a2]) (rest := []) ⟨hx, hb, hml, hown, hw0⟩ hA hK hP hD hS [false, true, false, true] (fX6_knew l G y _ ob_state a1 a2 ob_state_town ob_state_code ob_state_debts ob_state_deeds ob_state_knows ob_state_day ob_state_paid ob_state_follows fob_state_knows p_fob_state_knows p_ob_state_day h_1003 h_1004) rfl ⟨(callB_of 2 hw0 (gA m_1054) rfl rfl rfl (hw0 _ m_958) (hw0 _ m_1263) cb_X6_knew ⟨Nat.le_of_ble_eq_true rfl, Nat.le_of_ble_eq_true rfl⟩), (hw0 _ m_959), (hw0 _ m_960)⟩ (ci := 6) (q := (RX6, TX6, 8)) rfl rfl rfl hl.1 (Nat.le_of_ble_eq_true rfl) dX9_known_21 ⟨Nat.le_of_ble_eq_true rfl, Nat.le_of_ble_eq_true rfl⟩ (fun r_1007 w_1007 H locs hw_1007 hP hD hS => ?_)
    obtain ⟨v_1008, bv_1008, h_1009, er_1007, rfl⟩ := hw_1007
    subst r_1007
    obtain ⟨hP, hD⟩ : vPD G A H [(ce_X9 ob ob_tape ob_tapeSize ob_reader ob_state ob_images ob_slots ob_rounds ob_ways ob_otherDebts ob_otherKnows), (ce_X6 ob_state ob_state_town ob_state_code ob_state_debts ob_state_deeds ob_state_knows ob_state_day ob_state_paid ob_state_follows), (ce_X7 ob_state_town ob_state_town_houses ob_state_town_fresh ob_state_town_introducers ob_state_town_x ob_state_town_y ob_state_town_rank ob_state_town_weekday ob_state_town_from ob_state_town_to ob_state_town_came ob_state_town_bride ob_state_town_told), (ce_i16 y ob_state_knows fob_state_knows)] := ⟨hP, hD⟩
    refine lv_goto (tgt := 29) hx hb dX9_known_24 (by decide) ?_
    exact W.iret (v := v_1008) hx hb hr (fun t ht hW => ⟨⟨v_1008, _, rfl, ⟨v_1008, (bw (-2) (1) bv_1008 (by decide)), (by have lm1 : Int32.toInt (-1) = -1 := (by decide); have l91 : Int32.toInt 1 = 1 := (by decide); have l92 : Int32.toInt 2 = 2 := (by decide); have l93 : Int32.toInt 3 = 3 := (by decide); exact Or.inr ⟨h_1006, h_1009⟩), rfl, rfl⟩, by rw [ht]; exact hP, hD⟩, hS.F ht⟩) hS.2.2 dX9_known_29

set_option maxHeartbeats 4000000 in
set_option maxRecDepth 100000 in
theorem fX2_isFull (l : Launch) (G : va_G) (y : Nat → ClassId) (sz : Nat) (ob : Nat) (ob_size : Int32) (ob_who : Nat) (ob_whom : Nat) (ob_what : Nat) (ob_day : Nat) (p_ob_size : (0 : Int) ≤ ob_size.toInt ∧ ob_size.toInt ≤ 600) : Met l yX2_isFull (Cond.code yX2_isFull cX2_isFull 1 (some .boolean) :: wAll) ({ frames := 0, cells := 0, slots := 0, locals := 0 }) (va_Pc [.ref ob] (kp G y sz [(ce_X2 ob ob_size ob_who ob_whom ob_what ob_day)])) (va_Qi (fun (r : Int32) (w : va_W) => (((0 : Int) ≤ ob_size.toInt ∧ ob_size.toInt ≤ 599) ∧ (ob_size.toInt < 600) ∧ r = 0 ∧ w = [(ce_X2 ob ob_size ob_who ob_whom ob_what ob_day)]) ∨ (((600 : Int) ≤ ob_size.toInt ∧ ob_size.toInt ≤ 600) ∧ (600 ≤ ob_size.toInt) ∧ r = 1 ∧ w = [(ce_X2 ob ob_size ob_who ob_whom ob_what ob_day)])) (kq G (va_A [(ce_X2 ob ob_size ob_who ob_whom ob_what ob_day)] sz)) (va_A [(ce_X2 ob ob_size ob_who ob_whom ob_what ob_day)] sz)) 0 0 (va_A [(ce_X2 ob ob_size ob_who ob_whom ob_what ob_day)] sz) := by
  refine Met.ofW (cc := cX2_isFull) (maxL := 1) (ret := (some .boolean)) (by decide) rfl ?_
  intro p e s m args below meth c s₁ B hml hv
  obtain ⟨rfl, hsz, hP, hK, hD0⟩ := hv
  have hx := B.exec
  have hb := B.bytes
  have hr := B.returns
  have hw0 : ∀ w ∈ wAll, w.before _ s = true := fun w h => atoms_spec (ws := Cond.code yX2_isFull cX2_isFull 1 (some .boolean) :: wAll) B.pre w (List.mem_cons_of_mem _ h)
  have hown : s.vm.findClass RX2 = some m.cls := findClass_of_methodNamed B.named
  subst hsz
  have hD := hD0.self (sz := s.heap.size)
  generalize hAe : va_A [(ce_X2 ob ob_size ob_who ob_whom ob_what ob_day)] s.heap.size = A at hD ⊢
  have hA : ∀ q : Nat, s.heap.size ≤ q → A q := fun q h => by rw [← hAe]; exact Or.inr h
  have hS : va_S A s.heap s.heap [] := va_S.rf
  have hP : va_P G vwCl [(ce_X2 ob ob_size ob_who ob_whom ob_what ob_day)] s.heap := hP
  have hl := lv_entry ([.ref ob]) (n := 1) (Nat.le_of_ble_eq_true rfl)
  rw [lg_entry_eq]
  generalize (lg_sl ([.ref ob]) ++ List.replicate (1 - (lg_sl ([.ref ob])).length) Slot.unset).toArray = ls at hl ⊢
  have hl : lv_has ls 1 [(0, .ref ob)] := hl
  refine lv_aload_n hx hb dX2_isFull_0 rfl (lv_at hl 0 rfl) ?_
  refine va_get (D := G) (ci := 2) (v := .int ob_size) (C := RX2) (T := TX2) (N := 5) hx hb hw0 inA_wsX20 hown hK.1 hP 0 rfl rfl 0 (by decide) (hw0 _ m_702) (fun _ h9 => h9) rfl dX2_isFull_1 ?_
  refine lv_sipush (v := 600) hx hb dX2_isFull_4 (by decide) ?_
  refine lv_icmp_lt (tgt := 14) hx hb dX2_isFull_7 (by decide) (fun c_1001 => ?_) (fun c_1001 => ?_)
  · skip
    have nc_1001 := nb_lt (599) (600) c_1001 p_ob_size (bkc (x := 600) (c := 600) (by decide)) (by decide)
    refine lv_iconst (v := 0) hx hb dX2_isFull_14 (by decide) ?_
    exact W.zret (v := 0) hx hb hr rfl (fun t ht hW => ⟨⟨0, _, rfl, Or.inl (⟨nc_1001.1, by have h90 : Int32.toInt 0 = 0 := (by decide); omega, rfl, rfl⟩), by rw [ht]; exact hP, hD⟩, hS.F ht⟩) hS.2.2 dX2_isFull_15
  · skip
    have nc_1001 := nb_nlt (600) (600) c_1001 (bkc (x := 600) (c := 600) (by decide)) p_ob_size (by decide)
    refine lv_iconst (v := 1) hx hb dX2_isFull_10 (by decide) ?_
    refine lv_goto (tgt := 15) hx hb dX2_isFull_11 (by decide) ?_
    exact W.zret (v := 1) hx hb hr rfl (fun t ht hW => ⟨⟨1, _, rfl, Or.inr (⟨nc_1001.2.1, by have h90 : Int32.toInt 1 = 1 := (by decide); omega, rfl, rfl⟩), by rw [ht]; exact hP, hD⟩, hS.F ht⟩) hS.2.2 dX2_isFull_15

set_option maxHeartbeats 4000000 in
set_option maxRecDepth 100000 in
theorem fX9_meet (l : Launch) (G : va_G) (y : Nat → ClassId) (sz : Nat) (ob : Nat) (a1 : Int32) (a2 : Int32) (ob_tape : Nat) (ob_tapeSize : Int32) (ob_reader : Nat) (ob_state : Nat) (ob_images : Nat) (ob_slots : Nat) (ob_rounds : Nat) (ob_ways : Nat) (ob_otherDebts : Nat) (ob_otherKnows : Nat) (ob_state_town : Nat) (ob_state_code : Nat) (ob_state_debts : Nat) (ob_state_deeds : Nat) (ob_state_knows : Nat) (ob_state_day : Int32) (ob_state_paid : Int32) (ob_state_follows : Nat) (ob_state_town_houses : Int32) (ob_state_town_fresh : Int32) (ob_state_town_introducers : Int32) (ob_state_town_x : Nat) (ob_state_town_y : Nat) (ob_state_town_rank : Nat) (ob_state_town_weekday : Nat) (ob_state_town_from : Nat) (ob_state_town_to : Nat) (ob_state_town_came : Nat) (ob_state_town_bride : Nat) (ob_state_town_told : Nat) (fob_state_town_x : Nat → Int32) (fob_state_town_y : Nat → Int32) (fob_state_town_rank : Nat → Int32) (fob_state_town_weekday : Nat → Int32) (fob_state_town_from : Nat → Int32) (fob_state_town_to : Nat → Int32) (fob_state_town_came : Nat → Int32) (fob_state_town_bride : Nat → Int32) (fob_state_town_told : Nat → Int32) (ob_state_deeds_size : Int32) (ob_state_deeds_who : Nat) (ob_state_deeds_whom : Nat) (ob_state_deeds_what : Nat) (ob_state_deeds_day : Nat) (fob_state_deeds_who : Nat → Int32) (fob_state_deeds_whom : Nat → Int32) (fob_state_deeds_what : Nat → Int32) (fob_state_deeds_day : Nat → Int32) (fob_state_knows : Nat → Int32) (ob_rounds_planned : Int32) (ob_rounds_bestWorth : Int32) (ob_rounds_bestOver : Int32) (ob_rounds_length : Int32) (ob_rounds_order : Nat) (ob_rounds_owner : Int32) (ob_rounds_weekday : Int32) (ob_rounds_spots : Int32) (ob_rounds_spot : Nat) (ob_rounds_deadline : Nat) (ob_rounds_opens : Nat) (ob_rounds_closes : Nat) (ob_rounds_stays : Nat) (ob_rounds_apart : Nat) (ob_rounds_minute : Nat) (ob_rounds_soonest : Nat) (ob_rounds_sums : Nat) (ob_ways_sought : Int32) (ob_ways_length : Int32) (ob_ways_calls : Nat) (ob_ways_caller : Int32) (ob_ways_goal : Int32) (ob_ways_between : Int32) (ob_ways_house : Nat) (ob_ways_friends : Nat) (ob_ways_links : Nat) (ob_ways_queue : Nat) (ob_ways_latest : Nat) (p_ob_tapeSize : (0 : Int) ≤ ob_tapeSize.toInt ∧ ob_tapeSize.toInt ≤ 1400) (p_ob_state_town_houses : (0 : Int) ≤ ob_state_town_houses.toInt ∧ ob_state_town_houses.toInt ≤ 16) (p_fob_state_town_came : ∀ i, (0 : Int) ≤ (fob_state_town_came i).toInt ∧ (fob_state_town_came i).toInt ≤ 399) (p_fob_state_town_told : ∀ i, (0 : Int) ≤ (fob_state_town_told i).toInt ∧ (fob_state_town_told i).toInt ≤ 65535) (p_ob_state_deeds_size : (0 : Int) ≤ ob_state_deeds_size.toInt ∧ ob_state_deeds_size.toInt ≤ 600) (p_fob_state_deeds_who : ∀ i, (0 : Int) ≤ (fob_state_deeds_who i).toInt ∧ (fob_state_deeds_who i).toInt ≤ 15) (p_fob_state_deeds_whom : ∀ i, (0 : Int) ≤ (fob_state_deeds_whom i).toInt ∧ (fob_state_deeds_whom i).toInt ≤ 15) (p_fob_state_knows : ∀ i, (0 : Int) ≤ (fob_state_knows i).toInt ∧ (fob_state_knows i).toInt ≤ 65535) (p_ob_state_day : (0 : Int) ≤ ob_state_day.toInt ∧ ob_state_day.toInt ≤ 399) (p_ob_rounds_planned : (0 : Int) ≤ ob_rounds_planned.toInt ∧ ob_rounds_planned.toInt ≤ 1) (p_ob_rounds_length : (0 : Int) ≤ ob_rounds_length.toInt ∧ ob_rounds_length.toInt ≤ 10) (p_ob_rounds_spots : (0 : Int) ≤ ob_rounds_spots.toInt ∧ ob_rounds_spots.toInt ≤ 10) (p_ob_ways_sought : (0 : Int) ≤ ob_ways_sought.toInt ∧ ob_ways_sought.toInt ≤ 1) (p_ob_ways_length : (-1 : Int) ≤ ob_ways_length.toInt ∧ ob_ways_length.toInt ≤ 16) (p_ob_ways_between : (0 : Int) ≤ ob_ways_between.toInt ∧ ob_ways_between.toInt ≤ 13) : Met l yX9_meet (Cond.code yX9_meet cX9_meet 3 (some .int) :: wAll) ({ frames := 2, cells := 0, slots := 0, locals := 47 }) (va_Pc [.ref ob, .int a1, .int a2] (kp G y sz [(ce_X9 ob ob_tape ob_tapeSize ob_reader ob_state ob_images ob_slots ob_rounds ob_ways ob_otherDebts ob_otherKnows), (ce_X6 ob_state ob_state_town ob_state_code ob_state_debts ob_state_deeds ob_state_knows ob_state_day ob_state_paid ob_state_follows), (ce_X7 ob_state_town ob_state_town_houses ob_state_town_fresh ob_state_town_introducers ob_state_town_x ob_state_town_y ob_state_town_rank ob_state_town_weekday ob_state_town_from ob_state_town_to ob_state_town_came ob_state_town_bride ob_state_town_told), (ce_i16 y ob_state_town_x fob_state_town_x), (ce_i16 y ob_state_town_y fob_state_town_y), (ce_i16 y ob_state_town_rank fob_state_town_rank), (ce_i16 y ob_state_town_weekday fob_state_town_weekday), (ce_i16 y ob_state_town_from fob_state_town_from), (ce_i16 y ob_state_town_to fob_state_town_to), (ce_i16 y ob_state_town_came fob_state_town_came), (ce_i16 y ob_state_town_bride fob_state_town_bride), (ce_i16 y ob_state_town_told fob_state_town_told), (ce_X2 ob_state_deeds ob_state_deeds_size ob_state_deeds_who ob_state_deeds_whom ob_state_deeds_what ob_state_deeds_day), (ce_i600 y ob_state_deeds_who fob_state_deeds_who), (ce_i600 y ob_state_deeds_whom fob_state_deeds_whom), (ce_i600 y ob_state_deeds_what fob_state_deeds_what), (ce_i600 y ob_state_deeds_day fob_state_deeds_day), (ce_i16 y ob_state_knows fob_state_knows), (ce_X4 ob_rounds ob_rounds_planned ob_rounds_bestWorth ob_rounds_bestOver ob_rounds_length ob_rounds_order ob_rounds_owner ob_rounds_weekday ob_rounds_spots ob_rounds_spot ob_rounds_deadline ob_rounds_opens ob_rounds_closes ob_rounds_stays ob_rounds_apart ob_rounds_minute ob_rounds_soonest ob_rounds_sums), (ce_X8 ob_ways ob_ways_sought ob_ways_length ob_ways_calls ob_ways_caller ob_ways_goal ob_ways_between ob_ways_house ob_ways_friends ob_ways_links ob_ways_queue ob_ways_latest)])) (va_Qi (fun (r : Int32) (w : va_W) => ((∀ g : Nat → Int32, sdt g ob_state_town_houses ob_state_town_fresh ob_state_town_introducers ob_state_day ob_state_deeds_size fob_state_town_x fob_state_town_y fob_state_town_rank fob_state_town_weekday fob_state_town_from fob_state_town_to fob_state_town_came fob_state_town_bride fob_state_town_told fob_state_knows fob_state_deeds_who fob_state_deeds_whom fob_state_deeds_what fob_state_deeds_day → gme g a1.toInt a2.toInt = -2) ∧ r = (-2) ∧ w = [(ce_X9 ob ob_tape ob_tapeSize ob_reader ob_state ob_images ob_slots ob_rounds ob_ways ob_otherDebts ob_otherKnows), (ce_X6 ob_state ob_state_town ob_state_code ob_state_debts ob_state_deeds ob_state_knows ob_state_day ob_state_paid ob_state_follows), (ce_X7 ob_state_town ob_state_town_houses ob_state_town_fresh ob_state_town_introducers ob_state_town_x ob_state_town_y ob_state_town_rank ob_state_town_weekday ob_state_town_from ob_state_town_to ob_state_town_came ob_state_town_bride ob_state_town_told), (ce_i16 y ob_state_town_x fob_state_town_x), (ce_i16 y ob_state_town_y fob_state_town_y), (ce_i16 y ob_state_town_rank fob_state_town_rank), (ce_i16 y ob_state_town_weekday fob_state_town_weekday), (ce_i16 y ob_state_town_from fob_state_town_from), (ce_i16 y ob_state_town_to fob_state_town_to), (ce_i16 y ob_state_town_came fob_state_town_came), (ce_i16 y ob_state_town_bride fob_state_town_bride), (ce_i16 y ob_state_town_told fob_state_town_told), (ce_X2 ob_state_deeds ob_state_deeds_size ob_state_deeds_who ob_state_deeds_whom ob_state_deeds_what ob_state_deeds_day), (ce_i600 y ob_state_deeds_who fob_state_deeds_who), (ce_i600 y ob_state_deeds_whom fob_state_deeds_whom), (ce_i600 y ob_state_deeds_what fob_state_deeds_what), (ce_i600 y ob_state_deeds_day fob_state_deeds_day), (ce_i16 y ob_state_knows fob_state_knows), (ce_X4 ob_rounds ob_rounds_planned ob_rounds_bestWorth ob_rounds_bestOver ob_rounds_length ob_rounds_order ob_rounds_owner ob_rounds_weekday ob_rounds_spots ob_rounds_spot ob_rounds_deadline ob_rounds_opens ob_rounds_closes ob_rounds_stays ob_rounds_apart ob_rounds_minute ob_rounds_soonest ob_rounds_sums), (ce_X8 ob_ways ob_ways_sought ob_ways_length ob_ways_calls ob_ways_caller ob_ways_goal ob_ways_between ob_ways_house ob_ways_friends ob_ways_links ob_ways_queue ob_ways_latest)]) ∨ (((0 : Int) ≤ a1.toInt ∧ a1.toInt ≤ 15) ∧ ((0 : Int) ≤ a2.toInt ∧ a2.toInt ≤ 15) ∧ ((1 : Int) ≤ ob_state_town_houses.toInt ∧ ob_state_town_houses.toInt ≤ 16) ∧ ((600 : Int) ≤ ob_state_deeds_size.toInt ∧ ob_state_deeds_size.toInt ≤ 600) ∧ (∀ g : Nat → Int32, sdt g ob_state_town_houses ob_state_town_fresh ob_state_town_introducers ob_state_day ob_state_deeds_size fob_state_town_x fob_state_town_y fob_state_town_rank fob_state_town_weekday fob_state_town_from fob_state_town_to fob_state_town_came fob_state_town_bride fob_state_town_told fob_state_knows fob_state_deeds_who fob_state_deeds_whom fob_state_deeds_what fob_state_deeds_day → gme g a1.toInt a2.toInt = -3) ∧ r = (-3) ∧ w = [(ce_X9 ob ob_tape ob_tapeSize ob_reader ob_state ob_images ob_slots ob_rounds ob_ways ob_otherDebts ob_otherKnows), (ce_X6 ob_state ob_state_town ob_state_code ob_state_debts ob_state_deeds ob_state_knows ob_state_day ob_state_paid ob_state_follows), (ce_X7 ob_state_town ob_state_town_houses ob_state_town_fresh ob_state_town_introducers ob_state_town_x ob_state_town_y ob_state_town_rank ob_state_town_weekday ob_state_town_from ob_state_town_to ob_state_town_came ob_state_town_bride ob_state_town_told), (ce_i16 y ob_state_town_x fob_state_town_x), (ce_i16 y ob_state_town_y fob_state_town_y), (ce_i16 y ob_state_town_rank fob_state_town_rank), (ce_i16 y ob_state_town_weekday fob_state_town_weekday), (ce_i16 y ob_state_town_from fob_state_town_from), (ce_i16 y ob_state_town_to fob_state_town_to), (ce_i16 y ob_state_town_came fob_state_town_came), (ce_i16 y ob_state_town_bride fob_state_town_bride), (ce_i16 y ob_state_town_told fob_state_town_told), (ce_X2 ob_state_deeds ob_state_deeds_size ob_state_deeds_who ob_state_deeds_whom ob_state_deeds_what ob_state_deeds_day), (ce_i600 y ob_state_deeds_who fob_state_deeds_who), (ce_i600 y ob_state_deeds_whom fob_state_deeds_whom), (ce_i600 y ob_state_deeds_what fob_state_deeds_what), (ce_i600 y ob_state_deeds_day fob_state_deeds_day), (ce_i16 y ob_state_knows fob_state_knows), (ce_X4 ob_rounds ob_rounds_planned ob_rounds_bestWorth ob_rounds_bestOver ob_rounds_length ob_rounds_order ob_rounds_owner ob_rounds_weekday ob_rounds_spots ob_rounds_spot ob_rounds_deadline ob_rounds_opens ob_rounds_closes ob_rounds_stays ob_rounds_apart ob_rounds_minute ob_rounds_soonest ob_rounds_sums), (ce_X8 ob_ways ob_ways_sought ob_ways_length ob_ways_calls ob_ways_caller ob_ways_goal ob_ways_between ob_ways_house ob_ways_friends ob_ways_links ob_ways_queue ob_ways_latest)]) ∨ (∃ (v_45 : Int32) (v_46 : Int32) (f_47 : Nat → Int32) (f_48 : Nat → Int32) (f_49 : Nat → Int32) (f_50 : Nat → Int32) (f_51 : Nat → Int32), ((0 : Int) ≤ v_45.toInt ∧ v_45.toInt ≤ 1) ∧ ((1 : Int) ≤ v_46.toInt ∧ v_46.toInt ≤ 600) ∧ (∀ i, (0 : Int) ≤ (f_47 i).toInt ∧ (f_47 i).toInt ≤ 15) ∧ (∀ i, (0 : Int) ≤ (f_48 i).toInt ∧ (f_48 i).toInt ≤ 15) ∧ (∀ i, (0 : Int) ≤ (f_51 i).toInt ∧ (f_51 i).toInt ≤ 65535) ∧ ((0 : Int) ≤ a1.toInt ∧ a1.toInt ≤ 15) ∧ ((0 : Int) ≤ a2.toInt ∧ a2.toInt ≤ 15) ∧ ((1 : Int) ≤ ob_state_town_houses.toInt ∧ ob_state_town_houses.toInt ≤ 16) ∧ ((0 : Int) ≤ ob_state_deeds_size.toInt ∧ ob_state_deeds_size.toInt ≤ 599) ∧ (∀ g : Nat → Int32, sdt g ob_state_town_houses ob_state_town_fresh ob_state_town_introducers ob_state_day ob_state_deeds_size fob_state_town_x fob_state_town_y fob_state_town_rank fob_state_town_weekday fob_state_town_from fob_state_town_to fob_state_town_came fob_state_town_bride fob_state_town_told fob_state_knows fob_state_deeds_who fob_state_deeds_whom fob_state_deeds_what fob_state_deeds_day → ((v_45 : Int32).toInt = gme g a1.toInt a2.toInt ∧ sdt (gdo g a1.toInt a2.toInt 4) ob_state_town_houses ob_state_town_fresh ob_state_town_introducers ob_state_day v_46 fob_state_town_x fob_state_town_y fob_state_town_rank fob_state_town_weekday fob_state_town_from fob_state_town_to fob_state_town_came fob_state_town_bride fob_state_town_told f_51 f_47 f_48 f_49 f_50)) ∧ (0 ≤ (v_45 : Int32).toInt) ∧ r = v_45 ∧ w = [(ce_X9 ob ob_tape ob_tapeSize ob_reader ob_state ob_images ob_slots ob_rounds ob_ways ob_otherDebts ob_otherKnows), (ce_X6 ob_state ob_state_town ob_state_code ob_state_debts ob_state_deeds ob_state_knows ob_state_day ob_state_paid ob_state_follows), (ce_X7 ob_state_town ob_state_town_houses ob_state_town_fresh ob_state_town_introducers ob_state_town_x ob_state_town_y ob_state_town_rank ob_state_town_weekday ob_state_town_from ob_state_town_to ob_state_town_came ob_state_town_bride ob_state_town_told), (ce_i16 y ob_state_town_x fob_state_town_x), (ce_i16 y ob_state_town_y fob_state_town_y), (ce_i16 y ob_state_town_rank fob_state_town_rank), (ce_i16 y ob_state_town_weekday fob_state_town_weekday), (ce_i16 y ob_state_town_from fob_state_town_from), (ce_i16 y ob_state_town_to fob_state_town_to), (ce_i16 y ob_state_town_came fob_state_town_came), (ce_i16 y ob_state_town_bride fob_state_town_bride), (ce_i16 y ob_state_town_told fob_state_town_told), (ce_X2 ob_state_deeds v_46 ob_state_deeds_who ob_state_deeds_whom ob_state_deeds_what ob_state_deeds_day), (ce_i600 y ob_state_deeds_who f_47), (ce_i600 y ob_state_deeds_whom f_48), (ce_i600 y ob_state_deeds_what f_49), (ce_i600 y ob_state_deeds_day f_50), (ce_i16 y ob_state_knows f_51), (ce_X4 ob_rounds 0 ob_rounds_bestWorth ob_rounds_bestOver ob_rounds_length ob_rounds_order ob_rounds_owner ob_rounds_weekday ob_rounds_spots ob_rounds_spot ob_rounds_deadline ob_rounds_opens ob_rounds_closes ob_rounds_stays ob_rounds_apart ob_rounds_minute ob_rounds_soonest ob_rounds_sums), (ce_X8 ob_ways 0 ob_ways_length ob_ways_calls ob_ways_caller ob_ways_goal ob_ways_between ob_ways_house ob_ways_friends ob_ways_links ob_ways_queue ob_ways_latest)])) (kq G (va_A [(ce_X9 ob ob_tape ob_tapeSize ob_reader ob_state ob_images ob_slots ob_rounds ob_ways ob_otherDebts ob_otherKnows), (ce_X6 ob_state ob_state_town ob_state_code ob_state_debts ob_state_deeds ob_state_knows ob_state_day ob_state_paid ob_state_follows), (ce_X7 ob_state_town ob_state_town_houses ob_state_town_fresh ob_state_town_introducers ob_state_town_x ob_state_town_y ob_state_town_rank ob_state_town_weekday ob_state_town_from ob_state_town_to ob_state_town_came ob_state_town_bride ob_state_town_told), (ce_i16 y ob_state_town_x fob_state_town_x), (ce_i16 y ob_state_town_y fob_state_town_y), (ce_i16 y ob_state_town_rank fob_state_town_rank), (ce_i16 y ob_state_town_weekday fob_state_town_weekday), (ce_i16 y ob_state_town_from fob_state_town_from), (ce_i16 y ob_state_town_to fob_state_town_to), (ce_i16 y ob_state_town_came fob_state_town_came), (ce_i16 y ob_state_town_bride fob_state_town_bride), (ce_i16 y ob_state_town_told fob_state_town_told), (ce_X2 ob_state_deeds ob_state_deeds_size ob_state_deeds_who ob_state_deeds_whom ob_state_deeds_what ob_state_deeds_day), (ce_i600 y ob_state_deeds_who fob_state_deeds_who), (ce_i600 y ob_state_deeds_whom fob_state_deeds_whom), (ce_i600 y ob_state_deeds_what fob_state_deeds_what), (ce_i600 y ob_state_deeds_day fob_state_deeds_day), (ce_i16 y ob_state_knows fob_state_knows), (ce_X4 ob_rounds ob_rounds_planned ob_rounds_bestWorth ob_rounds_bestOver ob_rounds_length ob_rounds_order ob_rounds_owner ob_rounds_weekday ob_rounds_spots ob_rounds_spot ob_rounds_deadline ob_rounds_opens ob_rounds_closes ob_rounds_stays ob_rounds_apart ob_rounds_minute ob_rounds_soonest ob_rounds_sums), (ce_X8 ob_ways ob_ways_sought ob_ways_length ob_ways_calls ob_ways_caller ob_ways_goal ob_ways_between ob_ways_house ob_ways_friends ob_ways_links ob_ways_queue ob_ways_latest)] sz)) (va_A [(ce_X9 ob ob_tape ob_tapeSize ob_reader ob_state ob_images ob_slots ob_rounds ob_ways ob_otherDebts ob_otherKnows), (ce_X6 ob_state ob_state_town ob_state_code ob_state_debts ob_state_deeds ob_state_knows ob_state_day ob_state_paid ob_state_follows), (ce_X7 ob_state_town ob_state_town_houses ob_state_town_fresh ob_state_town_introducers ob_state_town_x ob_state_town_y ob_state_town_rank ob_state_town_weekday ob_state_town_from ob_state_town_to ob_state_town_came ob_state_town_bride ob_state_town_told), (ce_i16 y ob_state_town_x fob_state_town_x), (ce_i16 y ob_state_town_y fob_state_town_y), (ce_i16 y ob_state_town_rank fob_state_town_rank), (ce_i16 y ob_state_town_weekday fob_state_town_weekday), (ce_i16 y ob_state_town_from fob_state_town_from), (ce_i16 y ob_state_town_to fob_state_town_to), (ce_i16 y ob_state_town_came fob_state_town_came), (ce_i16 y ob_state_town_bride fob_state_town_bride), (ce_i16 y ob_state_town_told fob_state_town_told), (ce_X2 ob_state_deeds ob_state_deeds_size ob_state_deeds_who ob_state_deeds_whom ob_state_deeds_what ob_state_deeds_day), (ce_i600 y ob_state_deeds_who fob_state_deeds_who), (ce_i600 y ob_state_deeds_whom fob_state_deeds_whom), (ce_i600 y ob_state_deeds_what fob_state_deeds_what), (ce_i600 y ob_state_deeds_day fob_state_deeds_day), (ce_i16 y ob_state_knows fob_state_knows), (ce_X4 ob_rounds ob_rounds_planned ob_rounds_bestWorth ob_rounds_bestOver ob_rounds_length ob_rounds_order ob_rounds_owner ob_rounds_weekday ob_rounds_spots ob_rounds_spot ob_rounds_deadline ob_rounds_opens ob_rounds_closes ob_rounds_stays ob_rounds_apart ob_rounds_minute ob_rounds_soonest ob_rounds_sums), (ce_X8 ob_ways ob_ways_sought ob_ways_length ob_ways_calls ob_ways_caller ob_ways_goal ob_ways_between ob_ways_house ob_ways_friends ob_ways_links ob_ways_queue ob_ways_latest)] sz)) 0 0 (va_A [(ce_X9 ob ob_tape ob_tapeSize ob_reader ob_state ob_images ob_slots ob_rounds ob_ways ob_otherDebts ob_otherKnows), (ce_X6 ob_state ob_state_town ob_state_code ob_state_debts ob_state_deeds ob_state_knows ob_state_day ob_state_paid ob_state_follows), (ce_X7 ob_state_town ob_state_town_houses ob_state_town_fresh ob_state_town_introducers ob_state_town_x ob_state_town_y ob_state_town_rank ob_state_town_weekday ob_state_town_from ob_state_town_to ob_state_town_came ob_state_town_bride ob_state_town_told), (ce_i16 y ob_state_town_x fob_state_town_x), (ce_i16 y ob_state_town_y fob_state_town_y), (ce_i16 y ob_state_town_rank fob_state_town_rank), (ce_i16 y ob_state_town_weekday fob_state_town_weekday), (ce_i16 y ob_state_town_from fob_state_town_from), (ce_i16 y ob_state_town_to fob_state_town_to), (ce_i16 y ob_state_town_came fob_state_town_came), (ce_i16 y ob_state_town_bride fob_state_town_bride), (ce_i16 y ob_state_town_told fob_state_town_told), (ce_X2 ob_state_deeds ob_state_deeds_size ob_state_deeds_who ob_state_deeds_whom ob_state_deeds_what ob_state_deeds_day), (ce_i600 y ob_state_deeds_who fob_state_deeds_who), (ce_i600 y ob_state_deeds_whom fob_state_deeds_whom), (ce_i600 y ob_state_deeds_what fob_state_deeds_what), (ce_i600 y ob_state_deeds_day fob_state_deeds_day), (ce_i16 y ob_state_knows fob_state_knows), (ce_X4 ob_rounds ob_rounds_planned ob_rounds_bestWorth ob_rounds_bestOver ob_rounds_length ob_rounds_order ob_rounds_owner ob_rounds_weekday ob_rounds_spots ob_rounds_spot ob_rounds_deadline ob_rounds_opens ob_rounds_closes ob_rounds_stays ob_rounds_apart ob_rounds_minute ob_rounds_soonest ob_rounds_sums), (ce_X8 ob_ways ob_ways_sought ob_ways_length ob_ways_calls ob_ways_caller ob_ways_goal ob_ways_between ob_ways_house ob_ways_friends ob_ways_links ob_ways_queue ob_ways_latest)] sz) := by
  refine Met.ofW (cc := cX9_meet) (maxL := 3) (ret := (some .int)) (by decide) rfl ?_
  intro p e s m args below meth c s₁ B hml hv
  obtain ⟨rfl, hsz, hP, hK, hD0⟩ := hv
  have hx := B.exec
  have hb := B.bytes
  have hr := B.returns
  have hw0 : ∀ w ∈ wAll, w.before _ s = true := fun w h => atoms_spec (ws := Cond.code yX9_meet cX9_meet 3 (some .int) :: wAll) B.pre w (List.mem_cons_of_mem _ h)
  have hown : s.vm.findClass RX9 = some m.cls := findClass_of_methodNamed B.named
  subst hsz
  have hD := hD0.self (sz := s.heap.size)
  generalize hAe : va_A [(ce_X9 ob ob_tape ob_tapeSize ob_reader ob_state ob_images ob_slots ob_rounds ob_ways ob_otherDebts ob_otherKnows), (ce_X6 ob_state ob_state_town ob_state_code ob_state_debts ob_state_deeds ob_state_knows ob_state_day ob_state_paid ob_state_follows), (ce_X7 ob_state_town ob_state_town_houses ob_state_town_fresh ob_state_town_introducers ob_state_town_x ob_state_town_y ob_state_town_rank ob_state_town_weekday ob_state_town_from ob_state_town_to ob_state_town_came ob_state_town_bride ob_state_town_told), (ce_i16 y ob_state_town_x fob_state_town_x), (ce_i16 y ob_state_town_y fob_state_town_y), (ce_i16 y ob_state_town_rank fob_state_town_rank), (ce_i16 y ob_state_town_weekday fob_state_town_weekday), (ce_i16 y ob_state_town_from fob_state_town_from), (ce_i16 y ob_state_town_to fob_state_town_to), (ce_i16 y ob_state_town_came fob_state_town_came), (ce_i16 y ob_state_town_bride fob_state_town_bride), (ce_i16 y ob_state_town_told fob_state_town_told), (ce_X2 ob_state_deeds ob_state_deeds_size ob_state_deeds_who ob_state_deeds_whom ob_state_deeds_what ob_state_deeds_day), (ce_i600 y ob_state_deeds_who fob_state_deeds_who), (ce_i600 y ob_state_deeds_whom fob_state_deeds_whom), (ce_i600 y ob_state_deeds_what fob_state_deeds_what), (ce_i600 y ob_state_deeds_day fob_state_deeds_day), (ce_i16 y ob_state_knows fob_state_knows), (ce_X4 ob_rounds ob_rounds_planned ob_rounds_bestWorth ob_rounds_bestOver ob_rounds_length ob_rounds_order ob_rounds_owner ob_rounds_weekday ob_rounds_spots ob_rounds_spot ob_rounds_deadline ob_rounds_opens ob_rounds_closes ob_rounds_stays ob_rounds_apart ob_rounds_minute ob_rounds_soonest ob_rounds_sums), (ce_X8 ob_ways ob_ways_sought ob_ways_length ob_ways_calls ob_ways_caller ob_ways_goal ob_ways_between ob_ways_house ob_ways_friends ob_ways_links ob_ways_queue ob_ways_latest)] s.heap.size = A at hD ⊢
  have hA : ∀ q : Nat, s.heap.size ≤ q → A q := fun q h => by rw [← hAe]; exact Or.inr h
  have hS : va_S A s.heap s.heap [] := va_S.rf
  have hP : va_P G vwCl [(ce_X9 ob ob_tape ob_tapeSize ob_reader ob_state ob_images ob_slots ob_rounds ob_ways ob_otherDebts ob_otherKnows), (ce_X6 ob_state ob_state_town ob_state_code ob_state_debts ob_state_deeds ob_state_knows ob_state_day ob_state_paid ob_state_follows), (ce_X7 ob_state_town ob_state_town_houses ob_state_town_fresh ob_state_town_introducers ob_state_town_x ob_state_town_y ob_state_town_rank ob_state_town_weekday ob_state_town_from ob_state_town_to ob_state_town_came ob_state_town_bride ob_state_town_told), (ce_i16 y ob_state_town_x fob_state_town_x), (ce_i16 y ob_state_town_y fob_state_town_y), (ce_i16 y ob_state_town_rank fob_state_town_rank), (ce_i16 y ob_state_town_weekday fob_state_town_weekday), (ce_i16 y ob_state_town_from fob_state_town_from), (ce_i16 y ob_state_town_to fob_state_town_to), (ce_i16 y ob_state_town_came fob_state_town_came), (ce_i16 y ob_state_town_bride fob_state_town_bride), (ce_i16 y ob_state_town_told fob_state_town_told), (ce_X2 ob_state_deeds ob_state_deeds_size ob_state_deeds_who ob_state_deeds_whom ob_state_deeds_what ob_state_deeds_day), (ce_i600 y ob_state_deeds_who fob_state_deeds_who), (ce_i600 y ob_state_deeds_whom fob_state_deeds_whom), (ce_i600 y ob_state_deeds_what fob_state_deeds_what), (ce_i600 y ob_state_deeds_day fob_state_deeds_day), (ce_i16 y ob_state_knows fob_state_knows), (ce_X4 ob_rounds ob_rounds_planned ob_rounds_bestWorth ob_rounds_bestOver ob_rounds_length ob_rounds_order ob_rounds_owner ob_rounds_weekday ob_rounds_spots ob_rounds_spot ob_rounds_deadline ob_rounds_opens ob_rounds_closes ob_rounds_stays ob_rounds_apart ob_rounds_minute ob_rounds_soonest ob_rounds_sums), (ce_X8 ob_ways ob_ways_sought ob_ways_length ob_ways_calls ob_ways_caller ob_ways_goal ob_ways_between ob_ways_house ob_ways_friends ob_ways_links ob_ways_queue ob_ways_latest)] s.heap := hP
  have hl := lv_entry ([.ref ob, .int a1, .int a2]) (n := 3) (Nat.le_of_ble_eq_true rfl)
  rw [lg_entry_eq]
  generalize (lg_sl ([.ref ob, .int a1, .int a2]) ++ List.replicate (3 - (lg_sl ([.ref ob, .int a1, .int a2])).length) Slot.unset).toArray = ls at hl ⊢
  have hl : lv_has ls 3 [(0, .ref ob), (1, .int a1), (2, .int a2)] := hl
  refine lv_aload_n hx hb dX9_meet_0 rfl (lv_at hl 0 rfl) ?_
  refine va_get (D := G) (ci := 9) (v := .ref ob_state) (C := RX9) (T := TX9) (N := 10) hx hb hw0 inA_wsX90 hown hK.1 hP 0 rfl rfl 3 (by decide) (hw0 _ m_1131) (fun _ h9 => h9) rfl dX9_meet_1 ?_
  refine va_get (D := G) (ci := 6) (v := .ref ob_state_town) (C := RX6) (T := TX6) (N := 8) hx hb hw0 inA_wsX60 hown hK.1 hP 1 rfl rfl 0 (by decide) (hw0 _ m_1154) (fun _ h9 => h9) rfl dX9_meet_4 ?_
  refine lv_iload_n hx hb dX9_meet_7 rfl (lv_at hl 1 rfl) ?_
  refine lv_iload_n hx hb dX9_meet_8 rfl (lv_at hl 2 rfl) ?_
  refine cVim (As := [.int a1, .int a2]) (rest := []) ⟨hx, hb, hml, hown, hw0⟩ hA hK hP hD hS [false, false, true] (fX7_hasPair l G y _ ob_state_town a1 a2 ob_state_town_houses ob_state_town_fresh ob_state_town_introducers ob_state_town_x ob_state_town_y ob_state_town_rank ob_state_town_weekday ob_state_town_from ob_state_town_to ob_state_town_came ob_state_town_bride ob_state_town_told p_ob_state_town_houses) rfl ⟨(callB_of 2 hw0 (gA m_1076) rfl rfl rfl (hw0 _ m_746) (hw0 _ m_1255) cb_X7_hasPair ⟨Nat.le_of_ble_eq_true rfl, Nat.le_of_ble_eq_true rfl⟩), (hw0 _ m_1256), (hw0 _ m_1257)⟩ (ci := 7) (q := (RX7, TX7, 12)) rfl rfl rfl hl.1 (Nat.le_of_ble_eq_true rfl) dX9_meet_9 ⟨Nat.le_of_ble_eq_true rfl, Nat.le_of_ble_eq_true rfl⟩ (fun r_1001 w_1001 H locs hw_1001 hP hD hS => ?_)
  rcases hw_1001 with ⟨h_1002, rfl, rfl⟩ | ⟨h_1003, h_1004, h_1005, h_1006, rfl, rfl⟩
  · skip
    obtain ⟨hP, hD⟩ : vPD G A H [(ce_X9 ob ob_tape ob_tapeSize ob_reader ob_state ob_images ob_slots ob_rounds ob_ways ob_otherDebts ob_otherKnows), (ce_X6 ob_state ob_state_town ob_state_code ob_state_debts ob_state_deeds ob_state_knows ob_state_day ob_state_paid ob_state_follows), (ce_X7 ob_state_town ob_state_town_houses ob_state_town_fresh ob_state_town_introducers ob_state_town_x ob_state_town_y ob_state_town_rank ob_state_town_weekday ob_state_town_from ob_state_town_to ob_state_town_came ob_state_town_bride ob_state_town_told), (ce_i16 y ob_state_town_x fob_state_town_x), (ce_i16 y ob_state_town_y fob_state_town_y), (ce_i16 y ob_state_town_rank fob_state_town_rank), (ce_i16 y ob_state_town_weekday fob_state_town_weekday), (ce_i16 y ob_state_town_from fob_state_town_from), (ce_i16 y ob_state_town_to fob_state_town_to), (ce_i16 y ob_state_town_came fob_state_town_came), (ce_i16 y ob_state_town_bride fob_state_town_bride), (ce_i16 y ob_state_town_told fob_state_town_told), (ce_X2 ob_state_deeds ob_state_deeds_size ob_state_deeds_who ob_state_deeds_whom ob_state_deeds_what ob_state_deeds_day), (ce_i600 y ob_state_deeds_who fob_state_deeds_who), (ce_i600 y ob_state_deeds_whom fob_state_deeds_whom), (ce_i600 y ob_state_deeds_what fob_state_deeds_what), (ce_i600 y ob_state_deeds_day fob_state_deeds_day), (ce_i16 y ob_state_knows fob_state_knows), (ce_X4 ob_rounds ob_rounds_planned ob_rounds_bestWorth ob_rounds_bestOver ob_rounds_length ob_rounds_order ob_rounds_owner ob_rounds_weekday ob_rounds_spots ob_rounds_spot ob_rounds_deadline ob_rounds_opens ob_rounds_closes ob_rounds_stays ob_rounds_apart ob_rounds_minute ob_rounds_soonest ob_rounds_sums), (ce_X8 ob_ways ob_ways_sought ob_ways_length ob_ways_calls ob_ways_caller ob_ways_goal ob_ways_between ob_ways_house ob_ways_friends ob_ways_links ob_ways_queue ob_ways_latest)] := ⟨hP, hD⟩
    refine lv_if_ne (tgt := 18) hx hb dX9_meet_12 (by decide) (fun c9 => absurd (by decide) c9) (fun _ => ?_)
    refine lv_bipush (v := (-2)) hx hb dX9_meet_15 (by decide) ?_
    exact W.iret (v := (-2)) hx hb hr (fun t ht hW => ⟨⟨(-2), _, rfl, Or.inl (⟨(fun g H => gme_2 H h_1002), rfl, rfl⟩), by rw [ht]; exact hP, hD⟩, hS.F ht⟩) hS.2.2 dX9_meet_17
  · skip
    obtain ⟨hP, hD⟩ : vPD G A H [(ce_X9 ob ob_tape ob_tapeSize ob_reader ob_state ob_images ob_slots ob_rounds ob_ways ob_otherDebts ob_otherKnows), (ce_X6 ob_state ob_state_town ob_state_code ob_state_debts ob_state_deeds ob_state_knows ob_state_day ob_state_paid ob_state_follows), (ce_X7 ob_state_town ob_state_town_houses ob_state_town_fresh ob_state_town_introducers ob_state_town_x ob_state_town_y ob_state_town_rank ob_state_town_weekday ob_state_town_from ob_state_town_to ob_state_town_came ob_state_town_bride ob_state_town_told), (ce_i16 y ob_state_town_x fob_state_town_x), (ce_i16 y ob_state_town_y fob_state_town_y), (ce_i16 y ob_state_town_rank fob_state_town_rank), (ce_i16 y ob_state_town_weekday fob_state_town_weekday), (ce_i16 y ob_state_town_from fob_state_town_from), (ce_i16 y ob_state_town_to fob_state_town_to), (ce_i16 y ob_state_town_came fob_state_town_came), (ce_i16 y ob_state_town_bride fob_state_town_bride), (ce_i16 y ob_state_town_told fob_state_town_told), (ce_X2 ob_state_deeds ob_state_deeds_size ob_state_deeds_who ob_state_deeds_whom ob_state_deeds_what ob_state_deeds_day), (ce_i600 y ob_state_deeds_who fob_state_deeds_who), (ce_i600 y ob_state_deeds_whom fob_state_deeds_whom), (ce_i600 y ob_state_deeds_what fob_state_deeds_what), (ce_i600 y ob_state_deeds_day fob_state_deeds_day), (ce_i16 y ob_state_knows fob_state_knows), (ce_X4 ob_rounds ob_rounds_planned ob_rounds_bestWorth ob_rounds_bestOver ob_rounds_length ob_rounds_order ob_rounds_owner ob_rounds_weekday ob_rounds_spots ob_rounds_spot ob_rounds_deadline ob_rounds_opens ob_rounds_closes ob_rounds_stays ob_rounds_apart ob_rounds_minute ob_rounds_soonest ob_rounds_sums), (ce_X8 ob_ways ob_ways_sought ob_ways_length ob_ways_calls ob_ways_caller ob_ways_goal ob_ways_between ob_ways_house ob_ways_friends ob_ways_links ob_ways_queue ob_ways_latest)] := ⟨hP, hD⟩
    refine lv_if_ne (tgt := 18) hx hb dX9_meet_12 (by decide) (fun _ => ?_) (fun c9 => absurd c9 (by decide))
    refine lv_aload_n hx hb dX9_meet_18 rfl (lv_at hl 0 rfl) ?_
    refine va_get (D := G) (ci := 9) (v := .ref ob_state) (C := RX9) (T := TX9) (N := 10) hx hb hw0 inA_wsX90 hown hK.1 hP 0 rfl rfl 3 (by decide) (hw0 _ m_1131) (fun _ h9 => h9) rfl dX9_meet_19 ?_
    refine va_get (D := G) (ci := 6) (v := .ref ob_state_deeds) (C := RX6) (T := TX6) (N := 8) hx hb hw0 inA_wsX60 hown hK.1 hP 1 rfl rfl 3 (by decide) (hw0 _ m_1162) (fun _ h9 => h9) rfl dX9_meet_22 ?_
    refine cVim (As := []) (rest := []) ⟨hx, hb, hml, hown, hw0⟩ hA hK hP hD hS [false, false, false, false, false, false, false, false, false, false, false, false, true] (fX2_isFull l G y _ ob_state_deeds ob_state_deeds_size ob_state_deeds_who ob_state_deeds_whom ob_state_deeds_what ob_state_deeds_day p_ob_state_deeds_size) rfl ⟨(callB_of 0 hw0 (gA m_713) rfl rfl rfl (hw0 _ m_967) (hw0 _ m_1182) cb_X2_isFull ⟨Nat.le_of_ble_eq_true rfl, Nat.le_of_ble_eq_true rfl⟩), (hw0 _ m_1183), (hw0 _ m_1184)⟩ (ci := 2) (q := (RX2, TX2, 5)) rfl rfl rfl hl.1 (Nat.le_of_ble_eq_true rfl) dX9_meet_25 ⟨Nat.le_of_ble_eq_true rfl, Nat.le_of_ble_eq_true rfl⟩ (fun r_1007 w_1007 H locs hw_1007 hP hD hS => ?_)
    rcases hw_1007 with ⟨h_1008, h_1009, rfl, rfl⟩ | ⟨h_1010, h_1011, rfl, rfl⟩
    · skip
      obtain ⟨hP, hD⟩ : vPD G A H [(ce_X9 ob ob_tape ob_tapeSize ob_reader ob_state ob_images ob_slots ob_rounds ob_ways ob_otherDebts ob_otherKnows), (ce_X6 ob_state ob_state_town ob_state_code ob_state_debts ob_state_deeds ob_state_knows ob_state_day ob_state_paid ob_state_follows), (ce_X7 ob_state_town ob_state_town_houses ob_state_town_fresh ob_state_town_introducers ob_state_town_x ob_state_town_y ob_state_town_rank ob_state_town_weekday ob_state_town_from ob_state_town_to ob_state_town_came ob_state_town_bride ob_state_town_told), (ce_i16 y ob_state_town_x fob_state_town_x), (ce_i16 y ob_state_town_y fob_state_town_y), (ce_i16 y ob_state_town_rank fob_state_town_rank), (ce_i16 y ob_state_town_weekday fob_state_town_weekday), (ce_i16 y ob_state_town_from fob_state_town_from), (ce_i16 y ob_state_town_to fob_state_town_to), (ce_i16 y ob_state_town_came fob_state_town_came), (ce_i16 y ob_state_town_bride fob_state_town_bride), (ce_i16 y ob_state_town_told fob_state_town_told), (ce_X2 ob_state_deeds ob_state_deeds_size ob_state_deeds_who ob_state_deeds_whom ob_state_deeds_what ob_state_deeds_day), (ce_i600 y ob_state_deeds_who fob_state_deeds_who), (ce_i600 y ob_state_deeds_whom fob_state_deeds_whom), (ce_i600 y ob_state_deeds_what fob_state_deeds_what), (ce_i600 y ob_state_deeds_day fob_state_deeds_day), (ce_i16 y ob_state_knows fob_state_knows), (ce_X4 ob_rounds ob_rounds_planned ob_rounds_bestWorth ob_rounds_bestOver ob_rounds_length ob_rounds_order ob_rounds_owner ob_rounds_weekday ob_rounds_spots ob_rounds_spot ob_rounds_deadline ob_rounds_opens ob_rounds_closes ob_rounds_stays ob_rounds_apart ob_rounds_minute ob_rounds_soonest ob_rounds_sums), (ce_X8 ob_ways ob_ways_sought ob_ways_length ob_ways_calls ob_ways_caller ob_ways_goal ob_ways_between ob_ways_house ob_ways_friends ob_ways_links ob_ways_queue ob_ways_latest)] := ⟨hP, hD⟩
      refine lv_if_eq (tgt := 34) hx hb dX9_meet_28 (by decide) (fun _ => ?_) (fun c9 => absurd (by decide) c9)
      refine lv_aload_n hx hb dX9_meet_34 rfl (lv_at hl 0 rfl) ?_
      refine cVvm (As := []) (rest := []) ⟨hx, hb, hml, hown, hw0⟩ hA hK hP hD hS [true, false, false, false, false, false, false, false, false, false, false, false, false, false, false, false, false, false, true, true] (sX9_forget l G y _ ob ob_tape ob_tapeSize ob_reader ob_state ob_images ob_slots ob_rounds ob_ways ob_otherDebts ob_otherKnows ob_rounds_planned ob_rounds_bestWorth ob_rounds_bestOver ob_rounds_length ob_rounds_order ob_rounds_owner ob_rounds_weekday ob_rounds_spots ob_rounds_spot ob_rounds_deadline ob_rounds_opens ob_rounds_closes ob_rounds_stays ob_rounds_apart ob_rounds_minute ob_rounds_soonest ob_rounds_sums ob_ways_sought ob_ways_length ob_ways_calls ob_ways_caller ob_ways_goal ob_ways_between ob_ways_house ob_ways_friends ob_ways_links ob_ways_queue ob_ways_latest p_ob_tapeSize p_ob_rounds_planned p_ob_rounds_length p_ob_rounds_spots p_ob_ways_sought p_ob_ways_length p_ob_ways_between) rfl ⟨(callB_of 0 hw0 (gA m_1223) rfl rfl rfl (hw0 _ m_36) (hw0 _ m_1135) cb_X9_forget ⟨Nat.le_of_ble_eq_true rfl, Nat.le_of_ble_eq_true rfl⟩), (hw0 _ m_1136), (hw0 _ m_1137)⟩ (ci := 9) (q := (RX9, TX9, 10)) rfl rfl rfl hl.1 (Nat.le_of_ble_eq_true rfl) dX9_meet_35 ⟨Nat.le_of_ble_eq_true rfl, Nat.le_of_ble_eq_true rfl⟩ (fun w_1012 H locs hw_1012 hP hD hS => ?_)
      obtain rfl := hw_1012
      obtain ⟨hP, hD⟩ : vPD G A H [(ce_X9 ob ob_tape ob_tapeSize ob_reader ob_state ob_images ob_slots ob_rounds ob_ways ob_otherDebts ob_otherKnows), (ce_X6 ob_state ob_state_town ob_state_code ob_state_debts ob_state_deeds ob_state_knows ob_state_day ob_state_paid ob_state_follows), (ce_X7 ob_state_town ob_state_town_houses ob_state_town_fresh ob_state_town_introducers ob_state_town_x ob_state_town_y ob_state_town_rank ob_state_town_weekday ob_state_town_from ob_state_town_to ob_state_town_came ob_state_town_bride ob_state_town_told), (ce_i16 y ob_state_town_x fob_state_town_x), (ce_i16 y ob_state_town_y fob_state_town_y), (ce_i16 y ob_state_town_rank fob_state_town_rank), (ce_i16 y ob_state_town_weekday fob_state_town_weekday), (ce_i16 y ob_state_town_from fob_state_town_from), (ce_i16 y ob_state_town_to fob_state_town_to), (ce_i16 y ob_state_town_came fob_state_town_came), (ce_i16 y ob_state_town_bride fob_state_town_bride), (ce_i16 y ob_state_town_told fob_state_town_told), (ce_X2 ob_state_deeds ob_state_deeds_size ob_state_deeds_who ob_state_deeds_whom ob_state_deeds_what ob_state_deeds_day), (ce_i600 y ob_state_deeds_who fob_state_deeds_who), (ce_i600 y ob_state_deeds_whom fob_state_deeds_whom), (ce_i600 y ob_state_deeds_what fob_state_deeds_what), (ce_i600 y ob_state_deeds_day fob_state_deeds_day), (ce_i16 y ob_state_knows fob_state_knows), (ce_X4 ob_rounds 0 ob_rounds_bestWorth ob_rounds_bestOver ob_rounds_length ob_rounds_order ob_rounds_owner ob_rounds_weekday ob_rounds_spots ob_rounds_spot ob_rounds_deadline ob_rounds_opens ob_rounds_closes ob_rounds_stays ob_rounds_apart ob_rounds_minute ob_rounds_soonest ob_rounds_sums), (ce_X8 ob_ways 0 ob_ways_length ob_ways_calls ob_ways_caller ob_ways_goal ob_ways_between ob_ways_house ob_ways_friends ob_ways_links ob_ways_queue ob_ways_latest)] := ⟨hP, hD⟩
      refine lv_aload_n hx hb dX9_meet_38 rfl (lv_at hl 0 rfl) ?_
      refine va_get (D := G) (ci := 9) (v := .ref ob_state) (C := RX9) (T := TX9) (N := 10) hx hb hw0 inA_wsX90 hown hK.1 hP 0 rfl rfl 3 (by decide) (hw0 _ m_1131) (fun _ h9 => h9) rfl dX9_meet_39 ?_
      refine lv_iload_n hx hb dX9_meet_42 rfl (lv_at hl 1 rfl) ?_
      refine lv_iload_n hx hb dX9_meet_43 rfl (lv_at hl 2 rfl) ?_
      refine cVim (As := [.int a1, .int a2]) (rest := []) ⟨hx, hb, hml, hown, hw0⟩ hA hK hP hD hS [false, true, true, true, true, true, true, true, true, true, true, true, true, true, true, true, true, true] (fX6_chance l G y _ ob_state a1 a2 ob_state_town ob_state_code ob_state_debts ob_state_deeds ob_state_knows ob_state_day ob_state_paid ob_state_follows ob_state_town_houses ob_state_town_fresh ob_state_town_introducers ob_state_town_x ob_state_town_y ob_state_town_rank ob_state_town_weekday ob_state_town_from ob_state_town_to ob_state_town_came ob_state_town_bride ob_state_town_told fob_state_town_x fob_state_town_y fob_state_town_rank fob_state_town_weekday fob_state_town_from fob_state_town_to fob_state_town_came fob_state_town_bride fob_state_town_told ob_state_deeds_size ob_state_deeds_who ob_state_deeds_whom ob_state_deeds_what ob_state_deeds_day fob_state_deeds_who fob_state_deeds_whom fob_state_deeds_what fob_state_deeds_day fob_state_knows (bw (0) (16) h_1005 (by decide)) p_fob_state_town_came p_fob_state_town_told (bw (0) (600) h_1008 (by decide)) p_fob_state_deeds_who p_fob_state_deeds_whom p_fob_state_knows p_ob_state_day h_1003 h_1004 (by have h90 : Int32.toInt 0 = 0 := (by decide); omega)) rfl ⟨(callB_of 2 hw0 (gA m_1003) rfl rfl rfl (hw0 _ m_958) (hw0 _ m_1276) cb_X6_chance ⟨Nat.le_of_ble_eq_true rfl, Nat.le_of_ble_eq_true rfl⟩), (hw0 _ m_1277), (hw0 _ m_1278)⟩ (ci := 6) (q := (RX6, TX6, 8)) rfl rfl rfl hl.1 (Nat.le_of_ble_eq_true rfl) dX9_meet_44 ⟨Nat.le_of_ble_eq_true rfl, Nat.le_of_ble_eq_true rfl⟩ (fun r_1013 w_1013 H locs hw_1013 hP hD hS => ?_)
      obtain ⟨v_1014, v_1015, f_1016, f_1017, f_1018, f_1019, f_1020, bv_1014, bv_1015, bf_1016, bf_1017, bf_1020, h_1021, h_1022, er_1013, rfl⟩ := hw_1013
      subst r_1013
      obtain ⟨hP, hD⟩ : vPD G A H [(ce_X9 ob ob_tape ob_tapeSize ob_reader ob_state ob_images ob_slots ob_rounds ob_ways ob_otherDebts ob_otherKnows), (ce_X6 ob_state ob_state_town ob_state_code ob_state_debts ob_state_deeds ob_state_knows ob_state_day ob_state_paid ob_state_follows), (ce_X7 ob_state_town ob_state_town_houses ob_state_town_fresh ob_state_town_introducers ob_state_town_x ob_state_town_y ob_state_town_rank ob_state_town_weekday ob_state_town_from ob_state_town_to ob_state_town_came ob_state_town_bride ob_state_town_told), (ce_i16 y ob_state_town_x fob_state_town_x), (ce_i16 y ob_state_town_y fob_state_town_y), (ce_i16 y ob_state_town_rank fob_state_town_rank), (ce_i16 y ob_state_town_weekday fob_state_town_weekday), (ce_i16 y ob_state_town_from fob_state_town_from), (ce_i16 y ob_state_town_to fob_state_town_to), (ce_i16 y ob_state_town_came fob_state_town_came), (ce_i16 y ob_state_town_bride fob_state_town_bride), (ce_i16 y ob_state_town_told fob_state_town_told), (ce_X2 ob_state_deeds v_1015 ob_state_deeds_who ob_state_deeds_whom ob_state_deeds_what ob_state_deeds_day), (ce_i600 y ob_state_deeds_who f_1016), (ce_i600 y ob_state_deeds_whom f_1017), (ce_i600 y ob_state_deeds_what f_1018), (ce_i600 y ob_state_deeds_day f_1019), (ce_i16 y ob_state_knows f_1020), (ce_X4 ob_rounds 0 ob_rounds_bestWorth ob_rounds_bestOver ob_rounds_length ob_rounds_order ob_rounds_owner ob_rounds_weekday ob_rounds_spots ob_rounds_spot ob_rounds_deadline ob_rounds_opens ob_rounds_closes ob_rounds_stays ob_rounds_apart ob_rounds_minute ob_rounds_soonest ob_rounds_sums), (ce_X8 ob_ways 0 ob_ways_length ob_ways_calls ob_ways_caller ob_ways_goal ob_ways_between ob_ways_house ob_ways_friends ob_ways_links ob_ways_queue ob_ways_latest)] := ⟨hP, hD⟩
      exact W.iret (v := v_1014) hx hb hr (fun t ht hW => ⟨⟨v_1014, _, rfl, Or.inr (Or.inr (⟨v_1014, v_1015, f_1016, f_1017, f_1018, f_1019, f_1020, bv_1014, bv_1015, bf_1016, bf_1017, bf_1020, h_1003, h_1004, h_1005, h_1008, (fun g H => ⟨gme_0 H (by have h90 : Int32.toInt 0 = 0 := (by decide); omega) h_1006 (by have h90 : Int32.toInt 0 = 0 := (by decide); omega) (by have h90 : Int32.toInt 0 = 0 := (by decide); omega), h_1021 g H⟩), by have h90 : Int32.toInt 0 = 0 := (by decide); omega, rfl, rfl⟩)), by rw [ht]; exact hP, hD⟩, hS.F ht⟩) hS.2.2 dX9_meet_47
    · skip
      obtain ⟨hP, hD⟩ : vPD G A H [(ce_X9 ob ob_tape ob_tapeSize ob_reader ob_state ob_images ob_slots ob_rounds ob_ways ob_otherDebts ob_otherKnows), (ce_X6 ob_state ob_state_town ob_state_code ob_state_debts ob_state_deeds ob_state_knows ob_state_day ob_state_paid ob_state_follows), (ce_X7 ob_state_town ob_state_town_houses ob_state_town_fresh ob_state_town_introducers ob_state_town_x ob_state_town_y ob_state_town_rank ob_state_town_weekday ob_state_town_from ob_state_town_to ob_state_town_came ob_state_town_bride ob_state_town_told), (ce_i16 y ob_state_town_x fob_state_town_x), (ce_i16 y ob_state_town_y fob_state_town_y), (ce_i16 y ob_state_town_rank fob_state_town_rank), (ce_i16 y ob_state_town_weekday fob_state_town_weekday), (ce_i16 y ob_state_town_from fob_state_town_from), (ce_i16 y ob_state_town_to fob_state_town_to), (ce_i16 y ob_state_town_came fob_state_town_came), (ce_i16 y ob_state_town_bride fob_state_town_bride), (ce_i16 y ob_state_town_told fob_state_town_told), (ce_X2 ob_state_deeds ob_state_deeds_size ob_state_deeds_who ob_state_deeds_whom ob_state_deeds_what ob_state_deeds_day), (ce_i600 y ob_state_deeds_who fob_state_deeds_who), (ce_i600 y ob_state_deeds_whom fob_state_deeds_whom), (ce_i600 y ob_state_deeds_what fob_state_deeds_what), (ce_i600 y ob_state_deeds_day fob_state_deeds_day), (ce_i16 y ob_state_knows fob_state_knows), (ce_X4 ob_rounds ob_rounds_planned ob_rounds_bestWorth ob_rounds_bestOver ob_rounds_length ob_rounds_order ob_rounds_owner ob_rounds_weekday ob_rounds_spots ob_rounds_spot ob_rounds_deadline ob_rounds_opens ob_rounds_closes ob_rounds_stays ob_rounds_apart ob_rounds_minute ob_rounds_soonest ob_rounds_sums), (ce_X8 ob_ways ob_ways_sought ob_ways_length ob_ways_calls ob_ways_caller ob_ways_goal ob_ways_between ob_ways_house ob_ways_friends ob_ways_links ob_ways_queue ob_ways_latest)] := ⟨hP, hD⟩
      refine lv_if_eq (tgt := 34) hx hb dX9_meet_28 (by decide) (fun c9 => absurd c9 (by decide)) (fun _ => ?_)
      refine lv_bipush (v := (-3)) hx hb dX9_meet_31 (by decide) ?_
      exact W.iret (v := (-3)) hx hb hr (fun t ht hW => ⟨⟨(-3), _, rfl, Or.inr (Or.inl (⟨h_1003, h_1004, h_1005, h_1010, (fun g H => gme_3 H h_1006 (by omega)), rfl, rfl⟩)), by rw [ht]; exact hP, hD⟩, hS.F ht⟩) hS.2.2 dX9_meet_33

set_option maxHeartbeats 4000000 in
set_option maxRecDepth 100000 in
theorem fX5_small (l : Launch) (G : va_G) (y : Nat → ClassId) (sz : Nat) (ob : Nat) (a1 : Int32) (ob_filled : Int32) (ob_width : Int32) (ob_size : Int32) (ob_numbers : Nat) (fob_numbers : Nat → Int64) (p_ob_filled : (0 : Int) ≤ ob_filled.toInt ∧ ob_filled.toInt ≤ 1) (p_ob_size : (0 : Int) ≤ ob_size.toInt ∧ ob_size.toInt ≤ 60) : Met l yX5_small (Cond.code yX5_small cX5_small 2 (some .int) :: wAll) ({ frames := 0, cells := 0, slots := 0, locals := 0 }) (va_Pc [.ref ob, .int a1] (kp G y sz [(ce_X5 ob ob_filled ob_width ob_size ob_numbers), (ce_l60 y ob_numbers fob_numbers)])) (va_Qi (fun (r : Int32) (w : va_W) => (∃ (v_17 : Int32), ((-1 : Int) ≤ v_17.toInt ∧ v_17.toInt ≤ 15) ∧ ((v_17 : Int32).toInt = qsm fob_numbers ob_size.toInt a1.toInt) ∧ r = v_17 ∧ w = [(ce_X5 ob ob_filled ob_width ob_size ob_numbers), (ce_l60 y ob_numbers fob_numbers)])) (kq G (va_A [(ce_X5 ob ob_filled ob_width ob_size ob_numbers), (ce_l60 y ob_numbers fob_numbers)] sz)) (va_A [(ce_X5 ob ob_filled ob_width ob_size ob_numbers), (ce_l60 y ob_numbers fob_numbers)] sz)) 0 0 (va_A [(ce_X5 ob ob_filled ob_width ob_size ob_numbers), (ce_l60 y ob_numbers fob_numbers)] sz) := by
  refine Met.ofW (cc := cX5_small) (maxL := 2) (ret := (some .int)) (by decide) rfl ?_
  intro p e s m args below meth c s₁ B hml hv
  obtain ⟨rfl, hsz, hP, hK, hD0⟩ := hv
  have hx := B.exec
  have hb := B.bytes
  have hr := B.returns
  have hw0 : ∀ w ∈ wAll, w.before _ s = true := fun w h => atoms_spec (ws := Cond.code yX5_small cX5_small 2 (some .int) :: wAll) B.pre w (List.mem_cons_of_mem _ h)
  have hown : s.vm.findClass RX5 = some m.cls := findClass_of_methodNamed B.named
  subst hsz
  have hD := hD0.self (sz := s.heap.size)
  generalize hAe : va_A [(ce_X5 ob ob_filled ob_width ob_size ob_numbers), (ce_l60 y ob_numbers fob_numbers)] s.heap.size = A at hD ⊢
  have hA : ∀ q : Nat, s.heap.size ≤ q → A q := fun q h => by rw [← hAe]; exact Or.inr h
  have hS : va_S A s.heap s.heap [] := va_S.rf
  have hP : va_P G vwCl [(ce_X5 ob ob_filled ob_width ob_size ob_numbers), (ce_l60 y ob_numbers fob_numbers)] s.heap := hP
  have hl := lv_entry ([.ref ob, .int a1]) (n := 2) (Nat.le_of_ble_eq_true rfl)
  rw [lg_entry_eq]
  generalize (lg_sl ([.ref ob, .int a1]) ++ List.replicate (2 - (lg_sl ([.ref ob, .int a1])).length) Slot.unset).toArray = ls at hl ⊢
  have hl : lv_has ls 2 [(0, .ref ob), (1, .int a1)] := hl
  refine lv_iload_n hx hb dX5_small_0 rfl (lv_at hl 1 rfl) ?_
  refine lv_if_lt (tgt := 36) hx hb dX5_small_1 (by decide) (fun c_1001 => ?_) (fun c_1001 => ?_)
  · skip
    have nc_1001 := nb_lt (-1) (0) c_1001 (btop a1) (bkc (x := 0) (c := 0) (by decide)) (by decide)
    refine lv_iconst (v := (-1)) hx hb dX5_small_36 (by decide) ?_
    exact W.iret (v := (-1)) hx hb hr (fun t ht hW => ⟨⟨(-1), _, rfl, ⟨(-1), (bw (-1) (15) (bkc (x := (-1)) (c := -1) (by decide)) (by decide)), (by have lm1 : Int32.toInt (-1) = -1 := (by decide); have l91 : Int32.toInt 1 = 1 := (by decide); have l92 : Int32.toInt 2 = 2 := (by decide); have l93 : Int32.toInt 3 = 3 := (by decide); have h90 : Int32.toInt (-1) = -1 := (by decide); unfold qsm; (repeat' split) <;> omega), rfl, rfl⟩, by rw [ht]; exact hP, hD⟩, hS.F ht⟩) hS.2.2 dX5_small_37
  · skip
    have nc_1001 := nb_nlt (0) (0) c_1001 (bkc (x := 0) (c := 0) (by decide)) (btop a1) (by decide)
    refine lv_iload_n hx hb dX5_small_4 rfl (lv_at hl 1 rfl) ?_
    refine lv_aload_n hx hb dX5_small_5 rfl (lv_at hl 0 rfl) ?_
    refine va_get (D := G) (ci := 5) (v := .int ob_size) (C := RX5) (T := TX5) (N := 4) hx hb hw0 inA_wsX50 hown hK.1 hP 0 rfl rfl 2 (by decide) (hw0 _ m_942) (fun _ h9 => h9) rfl dX5_small_6 ?_
    refine lv_icmp_ge (tgt := 36) hx hb dX5_small_9 (by decide) (fun c_1002 => ?_) (fun c_1002 => ?_)
    · skip
      have nc_1002 := nb_le (60) (0) c_1002 p_ob_size nc_1001.2.1 (by decide)
      refine lv_iconst (v := (-1)) hx hb dX5_small_36 (by decide) ?_
      exact W.iret (v := (-1)) hx hb hr (fun t ht hW => ⟨⟨(-1), _, rfl, ⟨(-1), (bw (-1) (15) (bkc (x := (-1)) (c := -1) (by decide)) (by decide)), (by have lm1 : Int32.toInt (-1) = -1 := (by decide); have l91 : Int32.toInt 1 = 1 := (by decide); have l92 : Int32.toInt 2 = 2 := (by decide); have l93 : Int32.toInt 3 = 3 := (by decide); have h90 : Int32.toInt (-1) = -1 := (by decide); unfold qsm; (repeat' split) <;> omega), rfl, rfl⟩, by rw [ht]; exact hP, hD⟩, hS.F ht⟩) hS.2.2 dX5_small_37
    · skip
      have nc_1002 := nb_nle (59) (1) c_1002 nc_1001.2.1 p_ob_size (by decide)
      refine lv_aload_n hx hb dX5_small_12 rfl (lv_at hl 0 rfl) ?_
      refine va_get (D := G) (ci := 5) (v := .ref ob_numbers) (C := RX5) (T := TX5) (N := 4) hx hb hw0 inA_wsX50 hown hK.1 hP 0 rfl rfl 3 (by decide) (hw0 _ m_945) (fun _ h9 => h9) rfl dX5_small_13 ?_
      refine lv_iload_n hx hb dX5_small_16 rfl (lv_at hl 1 rfl) ?_
      refine va_lald hx hb hK.1 hP 1 2 rfl rfl (vi nc_1002.1 (by decide)) dX5_small_17 ?_
      refine lv_topl (fun v_1003 ev_1003 => ?_)
      refine lv_lconst (v := 0) hx hb dX5_small_18 (by decide) ?_
      refine W.lcmp hx hb dX5_small_19 ?_
      refine lv_if_lt (tgt := 36) hx hb dX5_small_20 (by decide) (fun c_1004 => ?_) (fun c_1004 => ?_)
      · skip
        have nc_1004 := jl_lt c_1004
        have bc_1004 : (-9223372036854775808 : Int) ≤ v_1003.toInt ∧ v_1003.toInt ≤ -1 := nl_lt nc_1004 (ltop v_1003) (k := 0) (by decide) (by decide)
        refine lv_iconst (v := (-1)) hx hb dX5_small_36 (by decide) ?_
        exact W.iret (v := (-1)) hx hb hr (fun t ht hW => ⟨⟨(-1), _, rfl, ⟨(-1), (bw (-1) (15) (bkc (x := (-1)) (c := -1) (by decide)) (by decide)), (by have lm1 : Int32.toInt (-1) = -1 := (by decide); have l91 : Int32.toInt 1 = 1 := (by decide); have l92 : Int32.toInt 2 = 2 := (by decide); have l93 : Int32.toInt 3 = 3 := (by decide); have h90 : Int32.toInt (-1) = -1 := (by decide); have e9 := ldl_n ev_1003 (by omega); unfold qsm; (repeat' split) <;> omega), rfl, rfl⟩, by rw [ht]; exact hP, hD⟩, hS.F ht⟩) hS.2.2 dX5_small_37
      · skip
        have nc_1004 := jl_nlt c_1004
        have bc_1004 : (0 : Int) ≤ v_1003.toInt ∧ v_1003.toInt ≤ 9223372036854775807 := nl_ge nc_1004 (ltop v_1003) (k := 0) (by decide) (by decide)
        refine lv_aload_n hx hb dX5_small_23 rfl (lv_at hl 0 rfl) ?_
        refine va_get (D := G) (ci := 5) (v := .ref ob_numbers) (C := RX5) (T := TX5) (N := 4) hx hb hw0 inA_wsX50 hown hK.1 hP 0 rfl rfl 3 (by decide) (hw0 _ m_945) (fun _ h9 => h9) rfl dX5_small_24 ?_
        refine lv_iload_n hx hb dX5_small_27 rfl (lv_at hl 1 rfl) ?_
        refine va_lald hx hb hK.1 hP 1 2 rfl rfl (vi nc_1002.1 (by decide)) dX5_small_28 ?_
        refine lv_topl (fun v_1005 ev_1005 => ?_)
        obtain rfl : v_1003 = v_1005 := (ev_1005.trans ev_1003.symm).symm
        refine lv_ldc2 (own := RX5) (v := 16) hx hb hown (hw0 _ m_951) dX5_small_29 ?_
        refine W.lcmp hx hb dX5_small_32 ?_
        refine lv_if_lt (tgt := 38) hx hb dX5_small_33 (by decide) (fun c_1006 => ?_) (fun c_1006 => ?_)
        · skip
          have nc_1006 := jl_lt c_1006
          have bc_1006 : (0 : Int) ≤ v_1003.toInt ∧ v_1003.toInt ≤ 15 := nl_lt nc_1006 bc_1004 (k := 16) (by decide) (by decide)
          refine lv_aload_n hx hb dX5_small_38 rfl (lv_at hl 0 rfl) ?_
          refine va_get (D := G) (ci := 5) (v := .ref ob_numbers) (C := RX5) (T := TX5) (N := 4) hx hb hw0 inA_wsX50 hown hK.1 hP 0 rfl rfl 3 (by decide) (hw0 _ m_945) (fun _ h9 => h9) rfl dX5_small_39 ?_
          refine lv_iload_n hx hb dX5_small_42 rfl (lv_at hl 1 rfl) ?_
          refine va_lald hx hb hK.1 hP 1 2 rfl rfl (vi nc_1002.1 (by decide)) dX5_small_43 ?_
          refine lv_topl (fun v_1007 ev_1007 => ?_)
          obtain rfl : v_1003 = v_1007 := (ev_1007.trans ev_1003.symm).symm
          refine lv_l2i hx hb dX5_small_44 rfl ?_
          refine lv_topi (fun v_1008 ev_1008 => ?_)
          have bv_1008 : (0 : Int) ≤ v_1008.toInt ∧ v_1008.toInt ≤ 15 := ba_l2i ev_1008 bc_1006 (by decide)
          exact W.iret (v := v_1008) hx hb hr (fun t ht hW => ⟨⟨v_1008, _, rfl, ⟨v_1008, (bw (-1) (15) bv_1008 (by decide)), (by have lm1 : Int32.toInt (-1) = -1 := (by decide); have l91 : Int32.toInt 1 = 1 := (by decide); have l92 : Int32.toInt 2 = 2 := (by decide); have l93 : Int32.toInt 3 = 3 := (by decide); have e9 := ldl_n ev_1003 (by omega); have e8 := l2i_q ev_1008 (by omega) (by omega); unfold qsm; (repeat' split) <;> omega), rfl, rfl⟩, by rw [ht]; exact hP, hD⟩, hS.F ht⟩) hS.2.2 dX5_small_45
        · skip
          have nc_1006 := jl_nlt c_1006
          have bc_1006 : (16 : Int) ≤ v_1003.toInt ∧ v_1003.toInt ≤ 9223372036854775807 := nl_ge nc_1006 bc_1004 (k := 16) (by decide) (by decide)
          refine lv_iconst (v := (-1)) hx hb dX5_small_36 (by decide) ?_
          exact W.iret (v := (-1)) hx hb hr (fun t ht hW => ⟨⟨(-1), _, rfl, ⟨(-1), (bw (-1) (15) (bkc (x := (-1)) (c := -1) (by decide)) (by decide)), (by have lm1 : Int32.toInt (-1) = -1 := (by decide); have l91 : Int32.toInt 1 = 1 := (by decide); have l92 : Int32.toInt 2 = 2 := (by decide); have l93 : Int32.toInt 3 = 3 := (by decide); have h90 : Int32.toInt (-1) = -1 := (by decide); have e9 := ldl_n ev_1003 (by omega); unfold qsm; (repeat' split) <;> omega), rfl, rfl⟩, by rw [ht]; exact hP, hD⟩, hS.F ht⟩) hS.2.2 dX5_small_37

set_option maxHeartbeats 4000000 in
set_option maxRecDepth 100000 in
theorem fX9_isSlot (l : Launch) (G : va_G) (y : Nat → ClassId) (sz : Nat) (a1 : Int32)  : Met l yX9_isSlot (Cond.code yX9_isSlot cX9_isSlot 1 (some .boolean) :: wAll) ({ frames := 0, cells := 0, slots := 0, locals := 0 }) (va_Pc [.int a1] (kp G y sz [])) (va_Qi (fun (r : Int32) (w : va_W) => ((a1.toInt < 0 ∨ 3 < a1.toInt) ∧ r = 0 ∧ w = []) ∨ (((0 : Int) ≤ a1.toInt ∧ a1.toInt ≤ 3) ∧ (0 ≤ a1.toInt ∧ a1.toInt ≤ 3) ∧ r = 1 ∧ w = [])) (kq G (va_A [] sz)) (va_A [] sz)) 0 0 (va_A [] sz) := by
  refine Met.ofW (cc := cX9_isSlot) (maxL := 1) (ret := (some .boolean)) (by decide) rfl ?_
  intro p e s m args below meth c s₁ B hml hv
  obtain ⟨rfl, hsz, hP, hK, hD0⟩ := hv
  have hx := B.exec
  have hb := B.bytes
  have hr := B.returns
  have hw0 : ∀ w ∈ wAll, w.before _ s = true := fun w h => atoms_spec (ws := Cond.code yX9_isSlot cX9_isSlot 1 (some .boolean) :: wAll) B.pre w (List.mem_cons_of_mem _ h)
  have hown : s.vm.findClass RX9 = some m.cls := findClass_of_methodNamed B.named
  subst hsz
  have hD := hD0.self (sz := s.heap.size)
  generalize hAe : va_A [] s.heap.size = A at hD ⊢
  have hA : ∀ q : Nat, s.heap.size ≤ q → A q := fun q h => by rw [← hAe]; exact Or.inr h
  have hS : va_S A s.heap s.heap [] := va_S.rf
  have hP : va_P G vwCl [] s.heap := hP
  have hl := lv_entry ([.int a1]) (n := 1) (Nat.le_of_ble_eq_true rfl)
  rw [lg_entry_eq]
  generalize (lg_sl ([.int a1]) ++ List.replicate (1 - (lg_sl ([.int a1])).length) Slot.unset).toArray = ls at hl ⊢
  have hl : lv_has ls 1 [(0, .int a1)] := hl
  refine lv_iload_n hx hb dX9_isSlot_0 rfl (lv_at hl 0 rfl) ?_
  refine lv_if_lt (tgt := 13) hx hb dX9_isSlot_1 (by decide) (fun c_1001 => ?_) (fun c_1001 => ?_)
  · skip
    have nc_1001 := nb_lt (-1) (0) c_1001 (btop a1) (bkc (x := 0) (c := 0) (by decide)) (by decide)
    refine lv_iconst (v := 0) hx hb dX9_isSlot_13 (by decide) ?_
    exact W.zret (v := 0) hx hb hr rfl (fun t ht hW => ⟨⟨0, _, rfl, Or.inl (⟨by have h90 : Int32.toInt 0 = 0 := (by decide); omega, rfl, rfl⟩), by rw [ht]; exact hP, hD⟩, hS.F ht⟩) hS.2.2 dX9_isSlot_14
  · skip
    have nc_1001 := nb_nlt (0) (0) c_1001 (bkc (x := 0) (c := 0) (by decide)) (btop a1) (by decide)
    refine lv_iload_n hx hb dX9_isSlot_4 rfl (lv_at hl 0 rfl) ?_
    refine lv_iconst (v := 4) hx hb dX9_isSlot_5 (by decide) ?_
    refine lv_icmp_ge (tgt := 13) hx hb dX9_isSlot_6 (by decide) (fun c_1002 => ?_) (fun c_1002 => ?_)
    · skip
      have nc_1002 := nb_le (4) (4) c_1002 (bkc (x := 4) (c := 4) (by decide)) nc_1001.2.1 (by decide)
      refine lv_iconst (v := 0) hx hb dX9_isSlot_13 (by decide) ?_
      exact W.zret (v := 0) hx hb hr rfl (fun t ht hW => ⟨⟨0, _, rfl, Or.inl (⟨by have h90 : Int32.toInt 0 = 0 := (by decide); omega, rfl, rfl⟩), by rw [ht]; exact hP, hD⟩, hS.F ht⟩) hS.2.2 dX9_isSlot_14
    · skip
      have nc_1002 := nb_nle (3) (4) c_1002 nc_1001.2.1 (bkc (x := 4) (c := 4) (by decide)) (by decide)
      refine lv_iconst (v := 1) hx hb dX9_isSlot_9 (by decide) ?_
      refine lv_goto (tgt := 14) hx hb dX9_isSlot_10 (by decide) ?_
      exact W.zret (v := 1) hx hb hr rfl (fun t ht hW => ⟨⟨1, _, rfl, Or.inr (⟨nc_1002.1, by have h90 : Int32.toInt 1 = 1 := (by decide); omega, rfl, rfl⟩), by rw [ht]; exact hP, hD⟩, hS.F ht⟩) hS.2.2 dX9_isSlot_14

set_option maxHeartbeats 4000000 in
set_option maxRecDepth 100000 in
theorem sdonelo (l : Launch) (G : va_G) (y : Nat → ClassId) (sz : Nat) (ob : Nat) (a1 : Int32) (ob_tape : Nat) (ob_tapeSize : Int32) (ob_reader : Nat) (ob_state : Nat) (ob_images : Nat) (ob_slots : Nat) (ob_rounds : Nat) (ob_ways : Nat) (ob_otherDebts : Nat) (ob_otherKnows : Nat) (p_ob_tapeSize : (0 : Int) ≤ ob_tapeSize.toInt ∧ ob_tapeSize.toInt ≤ 1400) (p_a1 : (-2147483648 : Int) ≤ a1.toInt ∧ a1.toInt ≤ -1) : Met l yX9_done (Cond.code yX9_done cX9_done 9 (some .int) :: wAll) ({ frames := 1, cells := 0, slots := 0, locals := 20 }) (va_Pc [.ref ob, .int a1] (kp G y sz [(ce_X9 ob ob_tape ob_tapeSize ob_reader ob_state ob_images ob_slots ob_rounds ob_ways ob_otherDebts ob_otherKnows)])) (va_Qi (fun (r : Int32) (w : va_W) => (r = (-2) ∧ w = [(ce_X9 ob ob_tape ob_tapeSize ob_reader ob_state ob_images ob_slots ob_rounds ob_ways ob_otherDebts ob_otherKnows)])) (kq G (va_A [(ce_X9 ob ob_tape ob_tapeSize ob_reader ob_state ob_images ob_slots ob_rounds ob_ways ob_otherDebts ob_otherKnows)] sz)) (va_A [(ce_X9 ob ob_tape ob_tapeSize ob_reader ob_state ob_images ob_slots ob_rounds ob_ways ob_otherDebts ob_otherKnows)] sz)) 0 0 (va_A [(ce_X9 ob ob_tape ob_tapeSize ob_reader ob_state ob_images ob_slots ob_rounds ob_ways ob_otherDebts ob_otherKnows)] sz) := by
  refine Met.ofW (cc := cX9_done) (maxL := 9) (ret := (some .int)) (by decide) rfl ?_
  intro p e s m args below meth c s₁ B hml hv
  obtain ⟨rfl, hsz, hP, hK, hD0⟩ := hv
  have hx := B.exec
  have hb := B.bytes
  have hr := B.returns
  have hw0 : ∀ w ∈ wAll, w.before _ s = true := fun w h => atoms_spec (ws := Cond.code yX9_done cX9_done 9 (some .int) :: wAll) B.pre w (List.mem_cons_of_mem _ h)
  have hown : s.vm.findClass RX9 = some m.cls := findClass_of_methodNamed B.named
  subst hsz
  have hD := hD0.self (sz := s.heap.size)
  generalize hAe : va_A [(ce_X9 ob ob_tape ob_tapeSize ob_reader ob_state ob_images ob_slots ob_rounds ob_ways ob_otherDebts ob_otherKnows)] s.heap.size = A at hD ⊢
  have hA : ∀ q : Nat, s.heap.size ≤ q → A q := fun q h => by rw [← hAe]; exact Or.inr h
  have hS : va_S A s.heap s.heap [] := va_S.rf
  have hP : va_P G vwCl [(ce_X9 ob ob_tape ob_tapeSize ob_reader ob_state ob_images ob_slots ob_rounds ob_ways ob_otherDebts ob_otherKnows)] s.heap := hP
  have hl := lv_entry ([.ref ob, .int a1]) (n := 9) (Nat.le_of_ble_eq_true rfl)
  rw [lg_entry_eq]
  generalize (lg_sl ([.ref ob, .int a1]) ++ List.replicate (9 - (lg_sl ([.ref ob, .int a1])).length) Slot.unset).toArray = ls at hl ⊢
  have hl : lv_has ls 9 [(0, .ref ob), (1, .int a1)] := hl
  refine lv_iload_n hx hb dX9_done_0 rfl (lv_at hl 1 rfl) ?_
  refine cSim (As := [.int a1]) (rest := []) ⟨hx, hb, hml, hown, hw0⟩ hA hK hP hD hS [] (fX9_isSlot l G y _ a1 ) rfl ⟨(callB_of 1 hw0 (gA m_1260) rfl rfl rfl (hw0 _ m_36) (hw0 _ m_1189) cb_X9_isSlot ⟨Nat.le_of_ble_eq_true rfl, Nat.le_of_ble_eq_true rfl⟩), (hw0 _ m_1190)⟩ rfl hl.1 (Nat.le_of_ble_eq_true rfl) dX9_done_1 ⟨Nat.le_of_ble_eq_true rfl, Nat.le_of_ble_eq_true rfl⟩ (fun r_1001 w_1001 H locs hw_1001 hP hD hS => ?_)
  rcases hw_1001 with ⟨h_1002, rfl, rfl⟩ | ⟨h_1003, h_1004, rfl, rfl⟩
  · skip
    obtain ⟨hP, hD⟩ : vPD G A H [(ce_X9 ob ob_tape ob_tapeSize ob_reader ob_state ob_images ob_slots ob_rounds ob_ways ob_otherDebts ob_otherKnows)] := ⟨hP, hD⟩
    refine lv_if_ne (tgt := 10) hx hb dX9_done_4 (by decide) (fun c9 => absurd (by decide) c9) (fun _ => ?_)
    refine lv_bipush (v := (-2)) hx hb dX9_done_7 (by decide) ?_
    exact W.iret (v := (-2)) hx hb hr (fun t ht hW => ⟨⟨(-2), _, rfl, ⟨rfl, rfl⟩, by rw [ht]; exact hP, hD⟩, hS.F ht⟩) hS.2.2 dX9_done_9
  · skip
    have h_1005 := b_in p_a1 h_1003
    exact absurd (Int.le_trans (h_1005).1 (h_1005).2) (by decide)

set_option maxHeartbeats 4000000 in
set_option maxRecDepth 100000 in
theorem sdonehi (l : Launch) (G : va_G) (y : Nat → ClassId) (sz : Nat) (ob : Nat) (a1 : Int32) (ob_tape : Nat) (ob_tapeSize : Int32) (ob_reader : Nat) (ob_state : Nat) (ob_images : Nat) (ob_slots : Nat) (ob_rounds : Nat) (ob_ways : Nat) (ob_otherDebts : Nat) (ob_otherKnows : Nat) (p_ob_tapeSize : (0 : Int) ≤ ob_tapeSize.toInt ∧ ob_tapeSize.toInt ≤ 1400) (p_a1 : (4 : Int) ≤ a1.toInt ∧ a1.toInt ≤ 2147483647) : Met l yX9_done (Cond.code yX9_done cX9_done 9 (some .int) :: wAll) ({ frames := 1, cells := 0, slots := 0, locals := 20 }) (va_Pc [.ref ob, .int a1] (kp G y sz [(ce_X9 ob ob_tape ob_tapeSize ob_reader ob_state ob_images ob_slots ob_rounds ob_ways ob_otherDebts ob_otherKnows)])) (va_Qi (fun (r : Int32) (w : va_W) => (r = (-2) ∧ w = [(ce_X9 ob ob_tape ob_tapeSize ob_reader ob_state ob_images ob_slots ob_rounds ob_ways ob_otherDebts ob_otherKnows)])) (kq G (va_A [(ce_X9 ob ob_tape ob_tapeSize ob_reader ob_state ob_images ob_slots ob_rounds ob_ways ob_otherDebts ob_otherKnows)] sz)) (va_A [(ce_X9 ob ob_tape ob_tapeSize ob_reader ob_state ob_images ob_slots ob_rounds ob_ways ob_otherDebts ob_otherKnows)] sz)) 0 0 (va_A [(ce_X9 ob ob_tape ob_tapeSize ob_reader ob_state ob_images ob_slots ob_rounds ob_ways ob_otherDebts ob_otherKnows)] sz) := by
  refine Met.ofW (cc := cX9_done) (maxL := 9) (ret := (some .int)) (by decide) rfl ?_
  intro p e s m args below meth c s₁ B hml hv
  obtain ⟨rfl, hsz, hP, hK, hD0⟩ := hv
  have hx := B.exec
  have hb := B.bytes
  have hr := B.returns
  have hw0 : ∀ w ∈ wAll, w.before _ s = true := fun w h => atoms_spec (ws := Cond.code yX9_done cX9_done 9 (some .int) :: wAll) B.pre w (List.mem_cons_of_mem _ h)
  have hown : s.vm.findClass RX9 = some m.cls := findClass_of_methodNamed B.named
  subst hsz
  have hD := hD0.self (sz := s.heap.size)
  generalize hAe : va_A [(ce_X9 ob ob_tape ob_tapeSize ob_reader ob_state ob_images ob_slots ob_rounds ob_ways ob_otherDebts ob_otherKnows)] s.heap.size = A at hD ⊢
  have hA : ∀ q : Nat, s.heap.size ≤ q → A q := fun q h => by rw [← hAe]; exact Or.inr h
  have hS : va_S A s.heap s.heap [] := va_S.rf
  have hP : va_P G vwCl [(ce_X9 ob ob_tape ob_tapeSize ob_reader ob_state ob_images ob_slots ob_rounds ob_ways ob_otherDebts ob_otherKnows)] s.heap := hP
  have hl := lv_entry ([.ref ob, .int a1]) (n := 9) (Nat.le_of_ble_eq_true rfl)
  rw [lg_entry_eq]
  generalize (lg_sl ([.ref ob, .int a1]) ++ List.replicate (9 - (lg_sl ([.ref ob, .int a1])).length) Slot.unset).toArray = ls at hl ⊢
  have hl : lv_has ls 9 [(0, .ref ob), (1, .int a1)] := hl
  refine lv_iload_n hx hb dX9_done_0 rfl (lv_at hl 1 rfl) ?_
  refine cSim (As := [.int a1]) (rest := []) ⟨hx, hb, hml, hown, hw0⟩ hA hK hP hD hS [] (fX9_isSlot l G y _ a1 ) rfl ⟨(callB_of 1 hw0 (gA m_1260) rfl rfl rfl (hw0 _ m_36) (hw0 _ m_1189) cb_X9_isSlot ⟨Nat.le_of_ble_eq_true rfl, Nat.le_of_ble_eq_true rfl⟩), (hw0 _ m_1190)⟩ rfl hl.1 (Nat.le_of_ble_eq_true rfl) dX9_done_1 ⟨Nat.le_of_ble_eq_true rfl, Nat.le_of_ble_eq_true rfl⟩ (fun r_1001 w_1001 H locs hw_1001 hP hD hS => ?_)
  rcases hw_1001 with ⟨h_1002, rfl, rfl⟩ | ⟨h_1003, h_1004, rfl, rfl⟩
  · skip
    obtain ⟨hP, hD⟩ : vPD G A H [(ce_X9 ob ob_tape ob_tapeSize ob_reader ob_state ob_images ob_slots ob_rounds ob_ways ob_otherDebts ob_otherKnows)] := ⟨hP, hD⟩
    refine lv_if_ne (tgt := 10) hx hb dX9_done_4 (by decide) (fun c9 => absurd (by decide) c9) (fun _ => ?_)
    refine lv_bipush (v := (-2)) hx hb dX9_done_7 (by decide) ?_
    exact W.iret (v := (-2)) hx hb hr (fun t ht hW => ⟨⟨(-2), _, rfl, ⟨rfl, rfl⟩, by rw [ht]; exact hP, hD⟩, hS.F ht⟩) hS.2.2 dX9_done_9
  · skip
    have h_1005 := b_in p_a1 h_1003
    exact absurd (Int.le_trans (h_1005).1 (h_1005).2) (by decide)

set_option maxHeartbeats 4000000 in
set_option maxRecDepth 100000 in
theorem fX2_copy (l : Launch) (G : va_G) (y : Nat → ClassId) (sz : Nat) (ob : Nat) (o1 : Nat) (ob_size : Int32) (ob_who : Nat) (ob_whom : Nat) (ob_what : Nat) (ob_day : Nat) (fob_who : Nat → Int32) (fob_whom : Nat → Int32) (fob_what : Nat → Int32) (fob_day : Nat → Int32) (o1_size : Int32) (o1_who : Nat) (o1_whom : Nat) (o1_what : Nat) (o1_day : Nat) (fo1_who : Nat → Int32) (fo1_whom : Nat → Int32) (fo1_what : Nat → Int32) (fo1_day : Nat → Int32) (p_ob_size : (0 : Int) ≤ ob_size.toInt ∧ ob_size.toInt ≤ 600) (p_fob_who : ∀ i, (0 : Int) ≤ (fob_who i).toInt ∧ (fob_who i).toInt ≤ 15) (p_fob_whom : ∀ i, (0 : Int) ≤ (fob_whom i).toInt ∧ (fob_whom i).toInt ≤ 15) (p_o1_size : (0 : Int) ≤ o1_size.toInt ∧ o1_size.toInt ≤ 600) (p_fo1_who : ∀ i, (0 : Int) ≤ (fo1_who i).toInt ∧ (fo1_who i).toInt ≤ 15) (p_fo1_whom : ∀ i, (0 : Int) ≤ (fo1_whom i).toInt ∧ (fo1_whom i).toInt ≤ 15) : Met l yX2_copy (Cond.code yX2_copy cX2_copy 2 none :: wAll) ({ frames := 1, cells := 0, slots := 0, locals := 72 }) (va_Pc [.ref ob, .ref o1] (kp G y sz [(ce_X2 ob ob_size ob_who ob_whom ob_what ob_day), (ce_i600 y ob_who fob_who), (ce_i600 y ob_whom fob_whom), (ce_i600 y ob_what fob_what), (ce_i600 y ob_day fob_day), (ce_X2 o1 o1_size o1_who o1_whom o1_what o1_day), (ce_i600 y o1_who fo1_who), (ce_i600 y o1_whom fo1_whom), (ce_i600 y o1_what fo1_what), (ce_i600 y o1_day fo1_day)])) (va_Qv (fun (w : va_W) => (∃ (f_9 : Nat → Int32) (f_10 : Nat → Int32) (f_11 : Nat → Int32) (f_12 : Nat → Int32), (∀ i, (0 : Int) ≤ (f_9 i).toInt ∧ (f_9 i).toInt ≤ 15) ∧ (∀ i, (0 : Int) ≤ (f_10 i).toInt ∧ (f_10 i).toInt ≤ 15) ∧ (∀ i : Nat, (i : Int) < o1_size.toInt → f_9 i = fo1_who i ∧ f_10 i = fo1_whom i ∧ f_11 i = fo1_what i ∧ f_12 i = fo1_day i) ∧ w = [(ce_X2 ob o1_size ob_who ob_whom ob_what ob_day), (ce_i600 y ob_who f_9), (ce_i600 y ob_whom f_10), (ce_i600 y ob_what f_11), (ce_i600 y ob_day f_12), (ce_X2 o1 o1_size o1_who o1_whom o1_what o1_day), (ce_i600 y o1_who fo1_who), (ce_i600 y o1_whom fo1_whom), (ce_i600 y o1_what fo1_what), (ce_i600 y o1_day fo1_day)])) (kq G (va_A [(ce_X2 ob ob_size ob_who ob_whom ob_what ob_day), (ce_i600 y ob_who fob_who), (ce_i600 y ob_whom fob_whom), (ce_i600 y ob_what fob_what), (ce_i600 y ob_day fob_day), (ce_X2 o1 o1_size o1_who o1_whom o1_what o1_day), (ce_i600 y o1_who fo1_who), (ce_i600 y o1_whom fo1_whom), (ce_i600 y o1_what fo1_what), (ce_i600 y o1_day fo1_day)] sz)) (va_A [(ce_X2 ob ob_size ob_who ob_whom ob_what ob_day), (ce_i600 y ob_who fob_who), (ce_i600 y ob_whom fob_whom), (ce_i600 y ob_what fob_what), (ce_i600 y ob_day fob_day), (ce_X2 o1 o1_size o1_who o1_whom o1_what o1_day), (ce_i600 y o1_who fo1_who), (ce_i600 y o1_whom fo1_whom), (ce_i600 y o1_what fo1_what), (ce_i600 y o1_day fo1_day)] sz)) 0 0 (va_A [(ce_X2 ob ob_size ob_who ob_whom ob_what ob_day), (ce_i600 y ob_who fob_who), (ce_i600 y ob_whom fob_whom), (ce_i600 y ob_what fob_what), (ce_i600 y ob_day fob_day), (ce_X2 o1 o1_size o1_who o1_whom o1_what o1_day), (ce_i600 y o1_who fo1_who), (ce_i600 y o1_whom fo1_whom), (ce_i600 y o1_what fo1_what), (ce_i600 y o1_day fo1_day)] sz) := by
  refine Met.ofW (cc := cX2_copy) (maxL := 2) (ret := none) (by decide) rfl ?_
  intro p e s m args below meth c s₁ B hml hv
  obtain ⟨rfl, hsz, hP, hK, hD0⟩ := hv
  have hx := B.exec
  have hb := B.bytes
  have hr := B.returns
  have hw0 : ∀ w ∈ wAll, w.before _ s = true := fun w h => atoms_spec (ws := Cond.code yX2_copy cX2_copy 2 none :: wAll) B.pre w (List.mem_cons_of_mem _ h)
  have hown : s.vm.findClass RX2 = some m.cls := findClass_of_methodNamed B.named
  subst hsz
  have hD := hD0.self (sz := s.heap.size)
  generalize hAe : va_A [(ce_X2 ob ob_size ob_who ob_whom ob_what ob_day), (ce_i600 y ob_who fob_who), (ce_i600 y ob_whom fob_whom), (ce_i600 y ob_what fob_what), (ce_i600 y ob_day fob_day), (ce_X2 o1 o1_size o1_who o1_whom o1_what o1_day), (ce_i600 y o1_who fo1_who), (ce_i600 y o1_whom fo1_whom), (ce_i600 y o1_what fo1_what), (ce_i600 y o1_day fo1_day)] s.heap.size = A at hD ⊢
  have hA : ∀ q : Nat, s.heap.size ≤ q → A q := fun q h => by rw [← hAe]; exact Or.inr h
  have hS : va_S A s.heap s.heap [] := va_S.rf
  have hP : va_P G vwCl [(ce_X2 ob ob_size ob_who ob_whom ob_what ob_day), (ce_i600 y ob_who fob_who), (ce_i600 y ob_whom fob_whom), (ce_i600 y ob_what fob_what), (ce_i600 y ob_day fob_day), (ce_X2 o1 o1_size o1_who o1_whom o1_what o1_day), (ce_i600 y o1_who fo1_who), (ce_i600 y o1_whom fo1_whom), (ce_i600 y o1_what fo1_what), (ce_i600 y o1_day fo1_day)] s.heap := hP
  have hl := lv_entry ([.ref ob, .ref o1]) (n := 2) (Nat.le_of_ble_eq_true rfl)
  rw [lg_entry_eq]
  generalize (lg_sl ([.ref ob, .ref o1]) ++ List.replicate (2 - (lg_sl ([.ref ob, .ref o1])).length) Slot.unset).toArray = ls at hl ⊢
  have hl : lv_has ls 2 [(0, .ref ob), (1, .ref o1)] := hl
  refine lv_aload_n hx hb dX2_copy_0 rfl (lv_at hl 0 rfl) ?_
  refine lv_aload_n hx hb dX2_copy_1 rfl (lv_at hl 1 rfl) ?_
  refine va_get (D := G) (ci := 2) (v := .int o1_size) (C := RX2) (T := TX2) (N := 5) hx hb hw0 inA_wsX20 hown hK.1 hP 5 rfl rfl 0 (by decide) (hw0 _ m_702) (fun _ h9 => h9) rfl dX2_copy_2 ?_
  refine va_put (D := G) (ci := 2) (v := .int o1_size) (ty := .int) (C := RX2) (T := TX2) (N := 5) hx hb hw0 inA_wsX20 tyX2 tyX2_ok nmX2 hown hK.1 hP hD hS 0 rfl rfl 0 (by decide) (hw0 _ m_702) (fun _ h9 => h9) rfl fd_X2_0 rfl rfl (Nat.le_of_ble_eq_true rfl) dX2_copy_5 (fun H locs hP hD hS => ?_)
  obtain ⟨hP, hD⟩ : vPD G A H [(ce_X2 ob o1_size ob_who ob_whom ob_what ob_day), (ce_i600 y ob_who fob_who), (ce_i600 y ob_whom fob_whom), (ce_i600 y ob_what fob_what), (ce_i600 y ob_day fob_day), (ce_X2 o1 o1_size o1_who o1_whom o1_what o1_day), (ce_i600 y o1_who fo1_who), (ce_i600 y o1_whom fo1_whom), (ce_i600 y o1_what fo1_what), (ce_i600 y o1_day fo1_day)] := ⟨hP, hD⟩
  refine lv_aload_n hx hb dX2_copy_8 rfl (lv_at hl 1 rfl) ?_
  refine va_get (D := G) (ci := 2) (v := .ref o1_who) (C := RX2) (T := TX2) (N := 5) hx hb hw0 inA_wsX20 hown hK.1 hP 5 rfl rfl 1 (by decide) (hw0 _ m_703) (fun _ h9 => h9) rfl dX2_copy_9 ?_
  refine lv_iconst (v := 0) hx hb dX2_copy_12 (by decide) ?_
  refine lv_aload_n hx hb dX2_copy_13 rfl (lv_at hl 0 rfl) ?_
  refine va_get (D := G) (ci := 2) (v := .ref ob_who) (C := RX2) (T := TX2) (N := 5) hx hb hw0 inA_wsX20 hown hK.1 hP 0 rfl rfl 1 (by decide) (hw0 _ m_703) (fun _ h9 => h9) rfl dX2_copy_14 ?_
  refine lv_iconst (v := 0) hx hb dX2_copy_17 (by decide) ?_
  refine lv_aload_n hx hb dX2_copy_18 rfl (lv_at hl 0 rfl) ?_
  refine va_get (D := G) (ci := 2) (v := .int o1_size) (C := RX2) (T := TX2) (N := 5) hx hb hw0 inA_wsX20 hown hK.1 hP 0 rfl rfl 0 (by decide) (hw0 _ m_702) (fun _ h9 => h9) rfl dX2_copy_19 ?_
  refine va_copyi (own := RX2) hx hb (by rw [hml]; exact hl.1.symm) hown (hw0 _ m_710) (hw0 _ m_272) (hw0 _ m_273) (hw0 _ m_274) hK.1 hP hD hS 6 1 1 1 rfl rfl rfl rfl rfl (by decide) (by decide) (cy_n p_o1_size (by decide)) (cy_l p_o1_size (by decide)) (cy_l p_o1_size (by decide)) (fun i hi => rfl) (Nat.le_of_ble_eq_true rfl) (by decide) dX2_copy_22 (fun H locs hP hD hS => ?_)
  generalize hf_1001 : (va_cpy fo1_who fob_who (0 : Int32).toNatClampNeg (0 : Int32).toNatClampNeg (o1_size : Int32).toNatClampNeg) = f_1001 at hP hD
  have bf_1001 : ∀ i, (0 : Int) ≤ (f_1001 i).toInt ∧ (f_1001 i).toInt ≤ 15 := hf_1001 ▸ cp_b p_fo1_who p_fob_who
  obtain ⟨hP, hD⟩ : vPD G A H [(ce_X2 ob o1_size ob_who ob_whom ob_what ob_day), (ce_i600 y ob_who f_1001), (ce_i600 y ob_whom fob_whom), (ce_i600 y ob_what fob_what), (ce_i600 y ob_day fob_day), (ce_X2 o1 o1_size o1_who o1_whom o1_what o1_day), (ce_i600 y o1_who fo1_who), (ce_i600 y o1_whom fo1_whom), (ce_i600 y o1_what fo1_what), (ce_i600 y o1_day fo1_day)] := ⟨hP, hD⟩
  refine lv_aload_n hx hb dX2_copy_25 rfl (lv_at hl 1 rfl) ?_
  refine va_get (D := G) (ci := 2) (v := .ref o1_whom) (C := RX2) (T := TX2) (N := 5) hx hb hw0 inA_wsX20 hown hK.1 hP 5 rfl rfl 2 (by decide) (hw0 _ m_704) (fun _ h9 => h9) rfl dX2_copy_26 ?_
  refine lv_iconst (v := 0) hx hb dX2_copy_29 (by decide) ?_
  refine lv_aload_n hx hb dX2_copy_30 rfl (lv_at hl 0 rfl) ?_
  refine va_get (D := G) (ci := 2) (v := .ref ob_whom) (C := RX2) (T := TX2) (N := 5) hx hb hw0 inA_wsX20 hown hK.1 hP 0 rfl rfl 2 (by decide) (hw0 _ m_704) (fun _ h9 => h9) rfl dX2_copy_31 ?_
  refine lv_iconst (v := 0) hx hb dX2_copy_34 (by decide) ?_
  refine lv_aload_n hx hb dX2_copy_35 rfl (lv_at hl 0 rfl) ?_
  refine va_get (D := G) (ci := 2) (v := .int o1_size) (C := RX2) (T := TX2) (N := 5) hx hb hw0 inA_wsX20 hown hK.1 hP 0 rfl rfl 0 (by decide) (hw0 _ m_702) (fun _ h9 => h9) rfl dX2_copy_36 ?_
  refine va_copyi (own := RX2) hx hb (by rw [hml]; exact hl.1.symm) hown (hw0 _ m_710) (hw0 _ m_272) (hw0 _ m_273) (hw0 _ m_274) hK.1 hP hD hS 7 2 1 1 rfl rfl rfl rfl rfl (by decide) (by decide) (cy_n p_o1_size (by decide)) (cy_l p_o1_size (by decide)) (cy_l p_o1_size (by decide)) (fun i hi => rfl) (Nat.le_of_ble_eq_true rfl) (by decide) dX2_copy_39 (fun H locs hP hD hS => ?_)
  generalize hf_1002 : (va_cpy fo1_whom fob_whom (0 : Int32).toNatClampNeg (0 : Int32).toNatClampNeg (o1_size : Int32).toNatClampNeg) = f_1002 at hP hD
  have bf_1002 : ∀ i, (0 : Int) ≤ (f_1002 i).toInt ∧ (f_1002 i).toInt ≤ 15 := hf_1002 ▸ cp_b p_fo1_whom p_fob_whom
  obtain ⟨hP, hD⟩ : vPD G A H [(ce_X2 ob o1_size ob_who ob_whom ob_what ob_day), (ce_i600 y ob_who f_1001), (ce_i600 y ob_whom f_1002), (ce_i600 y ob_what fob_what), (ce_i600 y ob_day fob_day), (ce_X2 o1 o1_size o1_who o1_whom o1_what o1_day), (ce_i600 y o1_who fo1_who), (ce_i600 y o1_whom fo1_whom), (ce_i600 y o1_what fo1_what), (ce_i600 y o1_day fo1_day)] := ⟨hP, hD⟩
  refine lv_aload_n hx hb dX2_copy_42 rfl (lv_at hl 1 rfl) ?_
  refine va_get (D := G) (ci := 2) (v := .ref o1_what) (C := RX2) (T := TX2) (N := 5) hx hb hw0 inA_wsX20 hown hK.1 hP 5 rfl rfl 3 (by decide) (hw0 _ m_705) (fun _ h9 => h9) rfl dX2_copy_43 ?_
  refine lv_iconst (v := 0) hx hb dX2_copy_46 (by decide) ?_
  refine lv_aload_n hx hb dX2_copy_47 rfl (lv_at hl 0 rfl) ?_
  refine va_get (D := G) (ci := 2) (v := .ref ob_what) (C := RX2) (T := TX2) (N := 5) hx hb hw0 inA_wsX20 hown hK.1 hP 0 rfl rfl 3 (by decide) (hw0 _ m_705) (fun _ h9 => h9) rfl dX2_copy_48 ?_
  refine lv_iconst (v := 0) hx hb dX2_copy_51 (by decide) ?_
  refine lv_aload_n hx hb dX2_copy_52 rfl (lv_at hl 0 rfl) ?_
  refine va_get (D := G) (ci := 2) (v := .int o1_size) (C := RX2) (T := TX2) (N := 5) hx hb hw0 inA_wsX20 hown hK.1 hP 0 rfl rfl 0 (by decide) (hw0 _ m_702) (fun _ h9 => h9) rfl dX2_copy_53 ?_
  refine va_copyi (own := RX2) hx hb (by rw [hml]; exact hl.1.symm) hown (hw0 _ m_710) (hw0 _ m_272) (hw0 _ m_273) (hw0 _ m_274) hK.1 hP hD hS 8 3 1 1 rfl rfl rfl rfl rfl (by decide) (by decide) (cy_n p_o1_size (by decide)) (cy_l p_o1_size (by decide)) (cy_l p_o1_size (by decide)) (fun i hi => rfl) (Nat.le_of_ble_eq_true rfl) (by decide) dX2_copy_56 (fun H locs hP hD hS => ?_)
  generalize hf_1003 : (va_cpy fo1_what fob_what (0 : Int32).toNatClampNeg (0 : Int32).toNatClampNeg (o1_size : Int32).toNatClampNeg) = f_1003 at hP hD
  obtain ⟨hP, hD⟩ : vPD G A H [(ce_X2 ob o1_size ob_who ob_whom ob_what ob_day), (ce_i600 y ob_who f_1001), (ce_i600 y ob_whom f_1002), (ce_i600 y ob_what f_1003), (ce_i600 y ob_day fob_day), (ce_X2 o1 o1_size o1_who o1_whom o1_what o1_day), (ce_i600 y o1_who fo1_who), (ce_i600 y o1_whom fo1_whom), (ce_i600 y o1_what fo1_what), (ce_i600 y o1_day fo1_day)] := ⟨hP, hD⟩
  refine lv_aload_n hx hb dX2_copy_59 rfl (lv_at hl 1 rfl) ?_
  refine va_get (D := G) (ci := 2) (v := .ref o1_day) (C := RX2) (T := TX2) (N := 5) hx hb hw0 inA_wsX20 hown hK.1 hP 5 rfl rfl 4 (by decide) (hw0 _ m_706) (fun _ h9 => h9) rfl dX2_copy_60 ?_
  refine lv_iconst (v := 0) hx hb dX2_copy_63 (by decide) ?_
  refine lv_aload_n hx hb dX2_copy_64 rfl (lv_at hl 0 rfl) ?_
  refine va_get (D := G) (ci := 2) (v := .ref ob_day) (C := RX2) (T := TX2) (N := 5) hx hb hw0 inA_wsX20 hown hK.1 hP 0 rfl rfl 4 (by decide) (hw0 _ m_706) (fun _ h9 => h9) rfl dX2_copy_65 ?_
  refine lv_iconst (v := 0) hx hb dX2_copy_68 (by decide) ?_
  refine lv_aload_n hx hb dX2_copy_69 rfl (lv_at hl 0 rfl) ?_
  refine va_get (D := G) (ci := 2) (v := .int o1_size) (C := RX2) (T := TX2) (N := 5) hx hb hw0 inA_wsX20 hown hK.1 hP 0 rfl rfl 0 (by decide) (hw0 _ m_702) (fun _ h9 => h9) rfl dX2_copy_70 ?_
  refine va_copyi (own := RX2) hx hb (by rw [hml]; exact hl.1.symm) hown (hw0 _ m_710) (hw0 _ m_272) (hw0 _ m_273) (hw0 _ m_274) hK.1 hP hD hS 9 4 1 1 rfl rfl rfl rfl rfl (by decide) (by decide) (cy_n p_o1_size (by decide)) (cy_l p_o1_size (by decide)) (cy_l p_o1_size (by decide)) (fun i hi => rfl) (Nat.le_of_ble_eq_true rfl) (by decide) dX2_copy_73 (fun H locs hP hD hS => ?_)
  generalize hf_1004 : (va_cpy fo1_day fob_day (0 : Int32).toNatClampNeg (0 : Int32).toNatClampNeg (o1_size : Int32).toNatClampNeg) = f_1004 at hP hD
  obtain ⟨hP, hD⟩ : vPD G A H [(ce_X2 ob o1_size ob_who ob_whom ob_what ob_day), (ce_i600 y ob_who f_1001), (ce_i600 y ob_whom f_1002), (ce_i600 y ob_what f_1003), (ce_i600 y ob_day f_1004), (ce_X2 o1 o1_size o1_who o1_whom o1_what o1_day), (ce_i600 y o1_who fo1_who), (ce_i600 y o1_whom fo1_whom), (ce_i600 y o1_what fo1_what), (ce_i600 y o1_day fo1_day)] := ⟨hP, hD⟩
  exact W.vret hx hb hr (fun t ht hW => ⟨⟨_, rfl, ⟨f_1001, f_1002, f_1003, f_1004, bf_1001, bf_1002, (fun i hi => ⟨cpy_n hf_1001 i (by have h9 := cl_to (x := o1_size) (by omega); omega), cpy_n hf_1002 i (by have h9 := cl_to (x := o1_size) (by omega); omega), cpy_n hf_1003 i (by have h9 := cl_to (x := o1_size) (by omega); omega), cpy_n hf_1004 i (by have h9 := cl_to (x := o1_size) (by omega); omega)⟩), rfl⟩, by rw [ht]; exact hP, hD⟩, hS.F ht⟩) hS.2.2 dX2_copy_76
