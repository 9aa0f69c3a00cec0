set_option maxHeartbeats 4000000 in
set_option maxRecDepth 100000 in
theorem kX9_isSlot (l : Launch) (G : va_G) (y : Nat → ClassId) (sz : Nat) (a1 : Int32)  : Met l yX9_isSlot (Cond.code yX9_isSlot cX9_isSlot 1 (some .boolean) :: wAll) ({ frames := 0, cells := 0, slots := 0, locals := 0 }) (va_Pc [.int a1] (kp G y sz [])) (va_Qi (fun (r : Int32) (w : va_W) => ((0 ≤ a1.toInt ∧ a1.toInt ≤ 3) ∧ r = 1 ∧ w = []) ∨ ((a1.toInt < 0 ∨ 3 < a1.toInt) ∧ r = 0 ∧ w = [])) (kq G (va_A [] sz)) (va_A [] sz)) 0 0 (va_A [] sz) := by
  refine Met.ofW (cc := cX9_isSlot) (maxL := 1) (ret := (some .boolean)) (by decide) rfl ?_
  intro p e s m args below meth c s₁ B hml hv
  obtain ⟨rfl, hsz, hP, hK, hD0⟩ := hv
  have hx := B.exec
  have hb := B.bytes
  have hr := B.returns
  have hw0 : ∀ w ∈ wAll, w.before _ s = true := fun w h => atoms_spec (ws := Cond.code yX9_isSlot cX9_isSlot 1 (some .boolean) :: wAll) B.pre w (List.mem_cons_of_mem _ h)
  have hown : s.vm.findClass RX9 = some m.cls := findClass_of_methodNamed B.named
  have hlocks := B.notSynchronized
  subst hsz
  have hD := hD0.self (sz := s.heap.size)
  generalize hAe : va_A [] s.heap.size = A at hD ⊢
  have hA : ∀ q : Nat, s.heap.size ≤ q → A q := fun q h => by rw [← hAe]; exact Or.inr h
  have hS : va_S A s.heap s.heap [] := va_S.rf
  have hP : va_P G vwCl [] s.heap := hP
  have hl := lv_entry ([.int a1]) (n := 1) (Nat.le_of_ble_eq_true rfl)
  rw [lg_entry_eq]
  generalize (lg_sl ([.int a1]) ++ List.replicate (1 - (lg_sl ([.int a1])).length) Slot.unset).toArray = ls at hl ⊢
  have hl : lv_has ls 1 [(0, .int a1)] := hl
  refine lv_iload_n hx hb dX9_isSlot_0 rfl (lv_at hl 0 rfl) ?_
  refine lv_if_lt (tgt := 13) hx hb dX9_isSlot_1 (by decide) (fun c_1 => ?_) (fun c_1 => ?_)
  · skip
    have tc_1 : (a1.toInt : Int) < 0 := il_lt c_1 rfl (by decide)
    refine lv_iconst (v := 0) hx hb dX9_isSlot_13 (by decide) ?_
    refine W.widen (k := 0) (n := 0) (Nat.le_of_ble_eq_true rfl) (Nat.le_of_ble_eq_true rfl) ?_
    exact W.zret (v := 0) hx hb hr rfl (fun t ht hW => ⟨⟨0, ([] : va_W), rfl, Or.inr (⟨by omega, rfl, rfl⟩), by rw [ht]; exact hP, hD⟩, hS.F ht⟩) hS.2.2 dX9_isSlot_14
  · skip
    have tc_1 : (a1.toInt : Int) ≥ 0 := il_nlt c_1 rfl (by decide)
    refine lv_iload_n hx hb dX9_isSlot_4 rfl (lv_at hl 0 rfl) ?_
    refine lv_iconst (v := 4) hx hb dX9_isSlot_5 (by decide) ?_
    refine lv_icmp_ge (tgt := 13) hx hb dX9_isSlot_6 (by decide) (fun c_2 => ?_) (fun c_2 => ?_)
    · skip
      have tc_2 : (4 : Int) ≤ a1.toInt := il_le c_2 (by decide) rfl
      refine lv_iconst (v := 0) hx hb dX9_isSlot_13 (by decide) ?_
      refine W.widen (k := 0) (n := 0) (Nat.le_of_ble_eq_true rfl) (Nat.le_of_ble_eq_true rfl) ?_
      exact W.zret (v := 0) hx hb hr rfl (fun t ht hW => ⟨⟨0, ([] : va_W), rfl, Or.inr (⟨by omega, rfl, rfl⟩), by rw [ht]; exact hP, hD⟩, hS.F ht⟩) hS.2.2 dX9_isSlot_14
    · skip
      have tc_2 : (4 : Int) > a1.toInt := il_nle c_2 (by decide) rfl
      refine lv_iconst (v := 1) hx hb dX9_isSlot_9 (by decide) ?_
      refine lv_goto (tgt := 14) hx hb dX9_isSlot_10 (by decide) ?_
      refine W.widen (k := 0) (n := 0) (Nat.le_of_ble_eq_true rfl) (Nat.le_of_ble_eq_true rfl) ?_
      exact W.zret (v := 1) hx hb hr rfl (fun t ht hW => ⟨⟨1, ([] : va_W), rfl, Or.inl (⟨by omega, rfl, rfl⟩), by rw [ht]; exact hP, hD⟩, hS.F ht⟩) hS.2.2 dX9_isSlot_14

set_option maxHeartbeats 4000000 in
set_option maxRecDepth 100000 in
theorem kX9_isImage (l : Launch) (G : va_G) (y : Nat → ClassId) (sz : Nat) (a1 : Int32)  : Met l yX9_isImage (Cond.code yX9_isImage cX9_isImage 1 (some .boolean) :: wAll) ({ frames := 0, cells := 0, slots := 0, locals := 0 }) (va_Pc [.int a1] (kp G y sz [])) (va_Qi (fun (r : Int32) (w : va_W) => ((0 ≤ a1.toInt ∧ a1.toInt ≤ 2) ∧ r = 1 ∧ w = []) ∨ ((a1.toInt < 0 ∨ 2 < a1.toInt) ∧ r = 0 ∧ w = [])) (kq G (va_A [] sz)) (va_A [] sz)) 0 0 (va_A [] sz) := by
  refine Met.ofW (cc := cX9_isImage) (maxL := 1) (ret := (some .boolean)) (by decide) rfl ?_
  intro p e s m args below meth c s₁ B hml hv
  obtain ⟨rfl, hsz, hP, hK, hD0⟩ := hv
  have hx := B.exec
  have hb := B.bytes
  have hr := B.returns
  have hw0 : ∀ w ∈ wAll, w.before _ s = true := fun w h => atoms_spec (ws := Cond.code yX9_isImage cX9_isImage 1 (some .boolean) :: wAll) B.pre w (List.mem_cons_of_mem _ h)
  have hown : s.vm.findClass RX9 = some m.cls := findClass_of_methodNamed B.named
  have hlocks := B.notSynchronized
  subst hsz
  have hD := hD0.self (sz := s.heap.size)
  generalize hAe : va_A [] s.heap.size = A at hD ⊢
  have hA : ∀ q : Nat, s.heap.size ≤ q → A q := fun q h => by rw [← hAe]; exact Or.inr h
  have hS : va_S A s.heap s.heap [] := va_S.rf
  have hP : va_P G vwCl [] s.heap := hP
  have hl := lv_entry ([.int a1]) (n := 1) (Nat.le_of_ble_eq_true rfl)
  rw [lg_entry_eq]
  generalize (lg_sl ([.int a1]) ++ List.replicate (1 - (lg_sl ([.int a1])).length) Slot.unset).toArray = ls at hl ⊢
  have hl : lv_has ls 1 [(0, .int a1)] := hl
  refine lv_iload_n hx hb dX9_isImage_0 rfl (lv_at hl 0 rfl) ?_
  refine lv_if_lt (tgt := 13) hx hb dX9_isImage_1 (by decide) (fun c_1 => ?_) (fun c_1 => ?_)
  · skip
    have tc_1 : (a1.toInt : Int) < 0 := il_lt c_1 rfl (by decide)
    refine lv_iconst (v := 0) hx hb dX9_isImage_13 (by decide) ?_
    refine W.widen (k := 0) (n := 0) (Nat.le_of_ble_eq_true rfl) (Nat.le_of_ble_eq_true rfl) ?_
    exact W.zret (v := 0) hx hb hr rfl (fun t ht hW => ⟨⟨0, ([] : va_W), rfl, Or.inr (⟨by omega, rfl, rfl⟩), by rw [ht]; exact hP, hD⟩, hS.F ht⟩) hS.2.2 dX9_isImage_14
  · skip
    have tc_1 : (a1.toInt : Int) ≥ 0 := il_nlt c_1 rfl (by decide)
    refine lv_iload_n hx hb dX9_isImage_4 rfl (lv_at hl 0 rfl) ?_
    refine lv_iconst (v := 3) hx hb dX9_isImage_5 (by decide) ?_
    refine lv_icmp_ge (tgt := 13) hx hb dX9_isImage_6 (by decide) (fun c_2 => ?_) (fun c_2 => ?_)
    · skip
      have tc_2 : (3 : Int) ≤ a1.toInt := il_le c_2 (by decide) rfl
      refine lv_iconst (v := 0) hx hb dX9_isImage_13 (by decide) ?_
      refine W.widen (k := 0) (n := 0) (Nat.le_of_ble_eq_true rfl) (Nat.le_of_ble_eq_true rfl) ?_
      exact W.zret (v := 0) hx hb hr rfl (fun t ht hW => ⟨⟨0, ([] : va_W), rfl, Or.inr (⟨by omega, rfl, rfl⟩), by rw [ht]; exact hP, hD⟩, hS.F ht⟩) hS.2.2 dX9_isImage_14
    · skip
      have tc_2 : (3 : Int) > a1.toInt := il_nle c_2 (by decide) rfl
      refine lv_iconst (v := 1) hx hb dX9_isImage_9 (by decide) ?_
      refine lv_goto (tgt := 14) hx hb dX9_isImage_10 (by decide) ?_
      refine W.widen (k := 0) (n := 0) (Nat.le_of_ble_eq_true rfl) (Nat.le_of_ble_eq_true rfl) ?_
      exact W.zret (v := 1) hx hb hr rfl (fun t ht hW => ⟨⟨1, ([] : va_W), rfl, Or.inl (⟨by omega, rfl, rfl⟩), by rw [ht]; exact hP, hD⟩, hS.F ht⟩) hS.2.2 dX9_isImage_14

set_option maxHeartbeats 4000000 in
set_option maxRecDepth 100000 in
theorem kX10_in (l : Launch) (G : va_G) (y : Nat → ClassId) (sz : Nat) (u : Int64) (lo : Int64) (hi : Int64)  : Met l yX10_in (Cond.code yX10_in cX10_in 6 (some .boolean) :: wAll) ({ frames := 0, cells := 0, slots := 0, locals := 0 }) (va_Pc [.long u, .long lo, .long hi] (kp G y sz [])) (va_Qi (fun (r : Int32) (w : va_W) => ((lo.toInt ≤ u.toInt ∧ u.toInt ≤ hi.toInt) ∧ r = 1 ∧ w = []) ∨ ((u.toInt < lo.toInt ∨ hi.toInt < u.toInt) ∧ r = 0 ∧ w = [])) (kq G (va_A [] sz)) (va_A [] sz)) 0 0 (va_A [] sz) := by
  refine Met.ofW (cc := cX10_in) (maxL := 6) (ret := (some .boolean)) (by decide) rfl ?_
  intro p e s m args below meth c s₁ B hml hv
  obtain ⟨rfl, hsz, hP, hK, hD0⟩ := hv
  have hx := B.exec
  have hb := B.bytes
  have hr := B.returns
  have hw0 : ∀ w ∈ wAll, w.before _ s = true := fun w h => atoms_spec (ws := Cond.code yX10_in cX10_in 6 (some .boolean) :: wAll) B.pre w (List.mem_cons_of_mem _ h)
  have hown : s.vm.findClass RX10 = some m.cls := findClass_of_methodNamed B.named
  have hlocks := B.notSynchronized
  subst hsz
  have hD := hD0.self (sz := s.heap.size)
  generalize hAe : va_A [] s.heap.size = A at hD ⊢
  have hA : ∀ q : Nat, s.heap.size ≤ q → A q := fun q h => by rw [← hAe]; exact Or.inr h
  have hS : va_S A s.heap s.heap [] := va_S.rf
  have hP : va_P G vwCl [] s.heap := hP
  have hl := lv_entry ([.long u, .long lo, .long hi]) (n := 6) (Nat.le_of_ble_eq_true rfl)
  rw [lg_entry_eq]
  generalize (lg_sl ([.long u, .long lo, .long hi]) ++ List.replicate (6 - (lg_sl ([.long u, .long lo, .long hi])).length) Slot.unset).toArray = ls at hl ⊢
  have hl : lv_has ls 6 [(0, .long u), (2, .long lo), (4, .long hi)] := hl
  refine lv_lload_n hx hb dX10_in_0 rfl (lv_at hl 0 rfl) ?_
  refine lv_lload_n hx hb dX10_in_1 rfl (lv_at hl 1 rfl) ?_
  refine W.lcmp hx hb dX10_in_2 ?_
  refine lv_if_lt (tgt := 17) hx hb dX10_in_3 (by decide) (fun c_1 => ?_) (fun c_1 => ?_)
  · skip
    have tc_1 := jl_lt c_1
    refine lv_iconst (v := 0) hx hb dX10_in_17 (by decide) ?_
    refine W.widen (k := 0) (n := 0) (Nat.le_of_ble_eq_true rfl) (Nat.le_of_ble_eq_true rfl) ?_
    exact W.zret (v := 0) hx hb hr rfl (fun t ht hW => ⟨⟨0, ([] : va_W), rfl, Or.inr (⟨by omega, rfl, rfl⟩), by rw [ht]; exact hP, hD⟩, hS.F ht⟩) hS.2.2 dX10_in_18
  · skip
    have tc_1 := jl_nlt c_1
    refine lv_lload_n hx hb dX10_in_6 rfl (lv_at hl 0 rfl) ?_
    refine lv_lload hx hb dX10_in_7 (lv_at hl 2 rfl) ?_
    refine W.lcmp hx hb dX10_in_9 ?_
    refine lv_if_gt (tgt := 17) hx hb dX10_in_10 (by decide) (fun c_2 => ?_) (fun c_2 => ?_)
    · skip
      have tc_2 := jl_gt c_2
      refine lv_iconst (v := 0) hx hb dX10_in_17 (by decide) ?_
      refine W.widen (k := 0) (n := 0) (Nat.le_of_ble_eq_true rfl) (Nat.le_of_ble_eq_true rfl) ?_
      exact W.zret (v := 0) hx hb hr rfl (fun t ht hW => ⟨⟨0, ([] : va_W), rfl, Or.inr (⟨by omega, rfl, rfl⟩), by rw [ht]; exact hP, hD⟩, hS.F ht⟩) hS.2.2 dX10_in_18
    · skip
      have tc_2 := jl_ngt c_2
      refine lv_iconst (v := 1) hx hb dX10_in_13 (by decide) ?_
      refine lv_goto (tgt := 18) hx hb dX10_in_14 (by decide) ?_
      refine W.widen (k := 0) (n := 0) (Nat.le_of_ble_eq_true rfl) (Nat.le_of_ble_eq_true rfl) ?_
      exact W.zret (v := 1) hx hb hr rfl (fun t ht hW => ⟨⟨1, ([] : va_W), rfl, Or.inl (⟨by omega, rfl, rfl⟩), by rw [ht]; exact hP, hD⟩, hS.F ht⟩) hS.2.2 dX10_in_18

set_option maxHeartbeats 4000000 in
set_option maxRecDepth 100000 in
theorem kX10_isSlot (l : Launch) (G : va_G) (y : Nat → ClassId) (sz : Nat) (a1 : Int32)  : Met l yX10_isSlot (Cond.code yX10_isSlot cX10_isSlot 1 (some .boolean) :: wAll) ({ frames := 1, cells := 0, slots := 0, locals := 25 }) (va_Pc [.int a1] (kp G y sz [])) (va_Qi (fun (r : Int32) (w : va_W) => ((0 ≤ a1.toInt ∧ a1.toInt ≤ 3) ∧ r = 1 ∧ w = []) ∨ ((a1.toInt < 0 ∨ 3 < a1.toInt) ∧ r = 0 ∧ w = [])) (kq G (va_A [] sz)) (va_A [] sz)) 0 0 (va_A [] sz) := by
  refine Met.ofW (cc := cX10_isSlot) (maxL := 1) (ret := (some .boolean)) (by decide) rfl ?_
  intro p e s m args below meth c s₁ B hml hv
  obtain ⟨rfl, hsz, hP, hK, hD0⟩ := hv
  have hx := B.exec
  have hb := B.bytes
  have hr := B.returns
  have hw0 : ∀ w ∈ wAll, w.before _ s = true := fun w h => atoms_spec (ws := Cond.code yX10_isSlot cX10_isSlot 1 (some .boolean) :: wAll) B.pre w (List.mem_cons_of_mem _ h)
  have hown : s.vm.findClass RX10 = some m.cls := findClass_of_methodNamed B.named
  have hlocks := B.notSynchronized
  subst hsz
  have hD := hD0.self (sz := s.heap.size)
  generalize hAe : va_A [] s.heap.size = A at hD ⊢
  have hA : ∀ q : Nat, s.heap.size ≤ q → A q := fun q h => by rw [← hAe]; exact Or.inr h
  have hS : va_S A s.heap s.heap [] := va_S.rf
  have hP : va_P G vwCl [] s.heap := hP
  have hl := lv_entry ([.int a1]) (n := 1) (Nat.le_of_ble_eq_true rfl)
  rw [lg_entry_eq]
  generalize (lg_sl ([.int a1]) ++ List.replicate (1 - (lg_sl ([.int a1])).length) Slot.unset).toArray = ls at hl ⊢
  have hl : lv_has ls 1 [(0, .int a1)] := hl
  refine lv_iload_n hx hb dX10_isSlot_0 rfl (lv_at hl 0 rfl) ?_
  refine lv_i2l hx hb dX10_isSlot_1 rfl ?_
  refine lv_lconst (v := 0) hx hb dX10_isSlot_2 (by decide) ?_
  refine lv_ldc2 (own := RX10) (v := 3) hx hb hown (hw0 _ m_165) dX10_isSlot_3 ?_
  refine cSi (As := [.long (a1).toInt64, .long 0, .long 3]) (rest := []) ⟨hx, hb, hml, hown, hw0⟩ hA hK hP hD hS [] [] [] [] rfl rfl (by decide) (by decide) (by decide) (kX10_in l G y _ ((a1).toInt64) 0 3 ) ⟨(callB_of 3 hw0 (gA m_164) rfl rfl rfl (hw0 _ m_166) (hw0 _ m_167) (by decide +kernel) ⟨Nat.le_of_ble_eq_true rfl, Nat.le_of_ble_eq_true rfl⟩), (hw0 _ m_168)⟩ rfl hl.1 (Nat.le_of_ble_eq_true rfl) dX10_isSlot_6 ⟨Nat.le_of_ble_eq_true rfl, Nat.le_of_ble_eq_true rfl⟩ (fun r_1 w_1 H locs hw_1 hP hD hS => ?_)
  rcases hw_1 with ⟨c_2, rfl, rfl⟩ | ⟨c_3, rfl, rfl⟩
  · skip
    have tc_2 := in_1 (x := a1) (a := 0) (b := 3) c_2 (by decide) (by decide)
    have hP : va_P G vwCl [] H := hP
    have hD : va_D A [] := hD
    refine W.widen (k := 0) (n := 0) (Nat.le_of_ble_eq_true rfl) (Nat.le_of_ble_eq_true rfl) ?_
    exact W.zret (v := 1) hx hb hr rfl (fun t ht hW => ⟨⟨1, ([] : va_W), rfl, Or.inl (⟨by omega, rfl, rfl⟩), by rw [ht]; exact hP, hD⟩, hS.F ht⟩) hS.2.2 dX10_isSlot_9
  · skip
    have tc_3 := in_0 (x := a1) (a := 0) (b := 3) c_3 (by decide) (by decide)
    have hP : va_P G vwCl [] H := hP
    have hD : va_D A [] := hD
    refine W.widen (k := 0) (n := 0) (Nat.le_of_ble_eq_true rfl) (Nat.le_of_ble_eq_true rfl) ?_
    exact W.zret (v := 0) hx hb hr rfl (fun t ht hW => ⟨⟨0, ([] : va_W), rfl, Or.inr (⟨by omega, rfl, rfl⟩), by rw [ht]; exact hP, hD⟩, hS.F ht⟩) hS.2.2 dX10_isSlot_9
